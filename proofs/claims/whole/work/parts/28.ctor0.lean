/-! rows for constructors, and for the law's own body -/
section CT
variable {p : Program} {l : Launch} {e : Env} {R : Room} {s : State} {m : MethodId} {args : Array Value} {below : List Frame} {meth : Method} {c : Code} {cells slots : Nat} {Q : State → Prop}
variable {D : va_G} {cl : List vw_C} {tys : List (ClassId × FieldType)} {A : Nat → Prop} {Sx : Heap → List Loc → Prop} {E : State → Prop} {nL : Nat} {cc : ByteArray} {own : String} {Ts : List Cond} {w : va_W} {pc : Nat} {lv : List (Nat × Value)} {rest : List Value}
theorem j_perm {w2 : va_W} (is : List Nat) (hn : va_nd is = true) (h1 : is.filterMap (fun i => w[i]?) = w2) (h2 : is.map (fun i => w[i]?) = w2.map some) (k : jJ p l e R s m args below meth c cells slots Q D cl A Sx nL w2 pc lv rest) : jJ p l e R s m args below meth c cells slots Q D cl A Sx nL w pc lv rest :=
  fun H locs ls g1 g2 g3 g4 => k H locs ls (g1.sub is h1) (g2.sub is hn h2) g3 g4
theorem j_new (C : jC p s m args c cc nL own Ts D cl tys A (va_S A s.heap) E) {Cn : String} {T : u_T} {N ci index : Nat} (hin : ∀ w ∈ u_ws Cn T N, w ∈ Ts) (ty : Nat → FieldType) (hty : ∀ k, k < N → parseFieldDescriptor (T k).2.2.1 = some (ty k)) (hcl : Cond.classLink own index Cn ∈ Ts) (hinst : Cond.instantiable Cn N ∈ Ts) (hini : Cond.initialized Cn ∈ Ts) (hc : cl[ci]? = some (Cn, T, N)) {fs : List Value} (hfs : ∀ j, j < N → defaultValue (ty j) = vp_V fs j) (hcells : cells + 1 ≤ R.cells) (hslots : slots + N ≤ R.slots) (pn : Nat) (hpn : pc + 3 = pn) (hdg : decode cc pc = .ok (.new index, 3))
    (k : ∀ q : Nat, jJ p l e R s m args below meth c (cells + 1) (slots + N) Q D cl A (va_S A s.heap) nL (w ++ [(q, .inr (ci, fs))]) pn lv (.ref q :: rest)) : jJ p l e R s m args below meth c cells slots Q D cl A (va_S A s.heap) nL w pc lv rest := by
  subst hpn
  exact fun H locs ls h1 h2 h3 h4 => va_new C.x C.b C.t hin ty hty C.o (C.t _ hcl) (C.t _ hinst) (C.t _ hini) C.k h1 h2 h3 C.a hc hfs hcells hslots hdg (fun q H1 g1 g2 g3 => k q H1 locs ls g1 g2 g3 h4)
theorem j_newa (C : jC p s m args c cc nL own Ts D cl tys A (va_S A s.heap) E) {atype : ArrayType} {ty : FieldType} (hty : newarray.typeOf atype = ty) (harr : Cond.arrayClass ty ∈ Ts) (t0 : Nat) {cX : ClassId} (ht : tys[t0]? = some (cX, ty)) (hp : ∀ (U : State) (c1 c2 : ClassId), va_RA U c1 ty → va_RA U c2 ty → c1 = c2) {n : Int32} {N' : Nat} {a0 : vp_A} (ha : ∀ cA : ClassId, vp_cell cA a0 = arrV cA N' (fun _ => defaultValue ty)) (hn : ¬ n < 0) (hN : n.toNatClampNeg = N') (hbytes : N' * componentBytes ty ≤ 536870912) (hcells : cells + 1 ≤ R.cells) (hslots : slots + N' ≤ R.slots) (pn : Nat) (hpn : pc + 2 = pn) (hdg : decode cc pc = .ok (.newarray atype, 2))
    (k : ∀ q : Nat, jJ p l e R s m args below meth c (cells + 1) (slots + N') Q D cl A (va_S A s.heap) nL (w ++ [(q, .inl (cX, a0))]) pn lv (.ref q :: rest)) : jJ p l e R s m args below meth c cells slots Q D cl A (va_S A s.heap) nL w pc lv (.int n :: rest) := by
  subst hpn
  intro H locs ls h1 h2 h3 h4
  refine va_newa C.x C.b (by rw [hty]; exact C.t _ harr) hty C.k h1 h2 h3 C.a ha hn hN hbytes hcells hslots hdg (fun q cA H1 g0 g1 g2 g3 => ?_)
  have e1 := (C.k.2 t0 _ ht).2
  have e2 := (g0.2 tys.length (cA, ty) (by simp)).2
  have e3 : cA = cX := hp s _ _ e2 e1
  subst e3
  exact k q H1 locs ls g1 g2 g3 h4
theorem j_putF {Cn : String} {T : u_T} {N ci index : Nat} (C : jC p s m args c cc nL Cn Ts D cl tys A (va_S A s.heap) E) (hin : ∀ w ∈ u_ws Cn T N, w ∈ Ts) (ty0 : Nat → FieldType) (hty : ∀ k, k < N → parseFieldDescriptor (T k).2.2.1 = some (ty0 k)) (hnm : ∀ a, a < N → ∀ b, b < N → a ≠ b → (T a).2.1 ≠ (T b).2.1) (q0 : Nat) {a : Nat} {fs : List Value} (he : w[q0]? = some (a, .inr (ci, fs))) (hc : cl[ci]? = some (Cn, T, N)) (k : Nat) (hk : k < N) (hlink : Cond.fieldLink Cn index Cn (T k).2.1 (T k).2.2.1 ∈ Ts) (hfin : (T k).2.2.2 = true) (hin2 : meth.name = "<init>") (hdecl : (T k).1 = Cn) {ty : FieldType} {v : Value} (hd : parseFieldDescriptor (T k).2.2.1 = some ty) (hn : narrow ty v = v) (hfit : fits ty v = true) (hl : k < fs.length) (pn : Nat) (hpn : pc + 3 = pn) (hdg : decode cc pc = .ok (.putfield index, 3))
    (kk : jJ p l e R s m args below meth c cells slots Q D cl A (va_S A s.heap) nL (w.set q0 (a, .inr (ci, fs.set k v))) pn lv rest) : jJ p l e R s m args below meth c cells slots Q D cl A (va_S A s.heap) nL w pc lv (v :: .ref a :: rest) := by
  subst hpn
  exact fun H locs ls h1 h2 h3 h4 => va_putF C.x C.b C.t hin ty0 hty hnm C.o C.k h1 h2 h3 q0 he hc k hk (C.t _ hlink) (fun _ h9 => by rw [← hdecl]; exact h9) hfin hin2 hdecl hd hn hfit hl hdg (fun H1 locs1 g1 g2 g3 => kk H1 locs1 ls g1 g2 g3 h4)
theorem j_putI {Cn : String} {T : u_T} {N ci index : Nat} (C : jC p s m args c cc nL Cn Ts D cl tys A (va_S A s.heap) E) (hin : ∀ w ∈ u_ws Cn T N, w ∈ Ts) (ty0 : Nat → FieldType) (hty : ∀ k, k < N → parseFieldDescriptor (T k).2.2.1 = some (ty0 k)) (hnm : ∀ a, a < N → ∀ b, b < N → a ≠ b → (T a).2.1 ≠ (T b).2.1) (q0 : Nat) {a : Nat} {fs : List Value} (he : w[q0]? = some (a, .inr (ci, fs))) (hc : cl[ci]? = some (Cn, T, N)) (k : Nat) (hk : k < N) (hlink : Cond.fieldLink Cn index Cn (T k).2.1 (T k).2.2.1 ∈ Ts) (hfin : (T k).2.2.2 = false) (hdecl : (T k).1 = Cn) {ty : FieldType} {v : Value} (hd : parseFieldDescriptor (T k).2.2.1 = some ty) (hn : narrow ty v = v) (hfit : fits ty v = true) (hl : k < fs.length) (pn : Nat) (hpn : pc + 3 = pn) (hdg : decode cc pc = .ok (.putfield index, 3))
    (kk : jJ p l e R s m args below meth c cells slots Q D cl A (va_S A s.heap) nL (w.set q0 (a, .inr (ci, fs.set k v))) pn lv rest) : jJ p l e R s m args below meth c cells slots Q D cl A (va_S A s.heap) nL w pc lv (v :: .ref a :: rest) := by
  subst hpn
  exact fun H locs ls h1 h2 h3 h4 => va_put C.x C.b C.t hin ty0 hty hnm C.o C.k h1 h2 h3 q0 he hc k hk (C.t _ hlink) (fun _ h9 => by rw [← hdecl]; exact h9) hfin hd hn hfit hl hdg (fun H1 locs1 g1 g2 g3 => kk H1 locs1 ls g1 g2 g3 h4)
theorem j_obj (C : jC p s m args c cc nL own Ts D cl tys A Sx E) {idx : Nat} (hlink : Cond.methodLink own idx Lib.objectInit ∈ Ts) (hinst : Cond.instanceMethod Lib.objectInit ∈ Ts) (hcode : Cond.code Lib.objectInit ⟨#[0xb1]⟩ 1 none ∈ Ts) {a : Nat} (hf : 1 ≤ R.frames) (hl : 12 ≤ R.locals) (pn : Nat) (hpn : pc + 3 = pn) (hdg : decode cc pc = .ok (.invokespecial idx, 3))
    (k : jJ p l e R s m args below meth c cells slots Q D cl A Sx nL w pn lv []) : jJ p l e R s m args below meth c cells slots Q D cl A Sx nL w pc lv [.ref a] := by
  subst hpn
  exact fun H locs ls h1 h2 h3 h4 => W.objInit C.x C.b C.o (C.t _ hlink) (C.t _ hinst) (C.t _ hcode) (g := F0 m pc ls [.ref a]) rfl (by rw [C.ml]; exact h4.1) rfl hdg hf (by simp [JFrame.monitorRoom]; omega) (k H locs ls h1 h2 h3 h4)
/-- a constructor: it leaves one of the worlds P -/
def iQ (D : va_G) (cl : List vw_C) (P : va_W → Prop) (A : Nat → Prop) : Array Value → State → Outcome → State → Prop := fun _ st oc t => oc = .returned none ∧ ∃ w' : va_W, P w' ∧ va_P D cl w' t.heap ∧ va_D A w' ∧ va_F A st t
def iM (l : Launch) (D : va_G) (cl : List vw_C) (tys : List (ClassId × FieldType)) (E : State → Prop) (y : MethodName) (ws : List Cond) (rm : Room) (av : List Value) (w : va_W) (P : va_W → Prop) (mc ms : Nat) : Prop :=
  ∀ sz : Nat, Met l y ws rm (va_Pc av (jPre D cl tys E w sz)) (iQ D cl P (va_A w sz)) mc ms (va_A w sz)
theorem iM.of {y : MethodName} {ws ws' : List Cond} {rm : Room} {maxL mc ms : Nat} {ret : Option FieldType} {av : List Value} {P : va_W → Prop} (hE : jLoc D cl E) (hy : plainName y.cls = true) (ho : y.cls = own) (hw : ws = Cond.code y cc maxL ret :: ws') (hlen : (lg_sl av).length ≤ maxL) (hlv : lv_args 0 av = lv)
    (body : ∀ (p : Program) (e : Env) (s : State) (m : MethodId) (args : Array Value) (below : List Frame) (meth : Method) (c : Code) (A : Nat → Prop), jC p s m args c cc maxL own ws D cl tys A (va_S A s.heap) E → meth.sig.returnType = ret → meth.locks = false → meth.name = y.name →
      jJ p l e rm s m args below meth c 0 0 (MQ below (iQ D cl P A) args s mc ms A) D cl A (va_S A s.heap) maxL w 0 lv []) : iM l D cl tys E y ws rm av w P mc ms := by
  intro sz
  refine Met.ofW (cc := cc) (maxL := maxL) (ret := ret) hy hw ?_
  intro p e s m args below meth c s₁ B hml hv
  obtain ⟨rfl, hsz, hP, hK, hD0, hE0⟩ := hv
  subst hsz
  have hD := hD0.self (sz := s.heap.size)
  have K := body p e s m av.toArray below meth c (va_A w s.heap.size) ⟨B.exec, B.bytes, hml, by rw [← ho]; exact findClass_of_methodNamed B.named, atoms_spec (ws := ws) B.pre, hK, fun q h => Or.inr h, fun U hq hW => hE.2 s U w hE0 hP hq hW, fun _ _ h => h⟩ B.returns B.notSynchronized (name_of_methodNamed B.named B.method).1
  have hl := lv_entry av (n := maxL) hlen
  rw [hlv] at hl
  rw [lg_entry_eq]
  exact K s.heap [] _ hP hD va_S.rf hl
theorem j_vretI (C : jC p s m args c cc nL own Ts D cl tys A Sx E) (hr : meth.sig.returnType = none) (hlk : meth.locks = false) {P : va_W → Prop} (hdg : decode cc pc = .ok (.return_, 1)) (hw : P w) : jJ p l e R s m args below meth c cells slots (MQ below (iQ D cl P A) args s cells slots A) D cl A Sx nL w pc lv ([]) := by
  intro H locs ls h1 h2 h3 h4
  exact W.vret C.x C.b hr (fun t ht _ => ⟨rfl, w, hw, by rw [ht]; exact h1, h2, (C.sx H locs h3).F ht⟩) (C.sx H locs h3).2.2 hdg hlk
def jYi (T : List Cond) (y : MethodName) (bytes : ByteArray) (maxL : Nat) : Prop := Cond.code y bytes maxL none ∈ T ∧ Cond.instanceMethod y ∈ T ∧ Cond.initialized y.cls ∈ T ∧ y.name = "<init>" ∧ (y.cls ≠ "java/lang/invoke/MethodHandle" ∧ y.cls ≠ "java/lang/invoke/VarHandle") ∧ (parseMethodDescriptor y.desc).map (fun d => d.parameters.length) = some 0
theorem j_callI {T : List Cond} {c0 : Cond} (C : jC p s m args c cc nL own (c0 :: T) D cl tys A (va_S A s.heap) E) (hE : jLoc D cl E) (hG : jG T) {y : MethodName} {bytes : ByteArray} {maxL mc ms index : Nat} {rm : Room} {b : Nat} {P : va_W → Prop} (hM : iM l D cl tys E y (Cond.code y bytes maxL none :: T) rm [.ref b] w P mc ms) (hY : jYi T y bytes maxL) (hl : Cond.methodLink own index y ∈ T) (hr : rm.cells = mc ∧ rm.slots = ms) (hR : rm.frames + 1 ≤ R.frames ∧ 8 + (maxL + 11) + rm.locals ≤ R.locals)
    (hst : (rest.map fun v => v.category).sum ≤ 8) (hf : cells + mc ≤ R.cells ∧ slots + ms ≤ R.slots) (hdg : decode cc pc = .ok (.invokespecial index, 3)) (pn : Nat) (hpn : pc + 3 = pn)
    (k : ∀ w2 : va_W, P w2 → jJ p l e R s m args below meth c (cells + mc) (slots + ms) Q D cl A (va_S A s.heap) nL w2 pn lv rest) : jJ p l e R s m args below meth c cells slots Q D cl A (va_S A s.heap) nL w pc lv (.ref b :: rest) := by
  subst hpn
  intro H locs ls hP hD hS hl4 T0 hT X
  have hA := jA_sub C.a hD hS
  obtain ⟨v1, st₀, t, T', L, h0, X', hL, e1, e2, ⟨hv, w2, hw2, hP2, hD2, hz, hk⟩, st⟩ := va_runI (b := b) (As := []) (rest := rest) ⟨C.x, C.b, C.ml, C.o, C.t⟩ (hM H.size) ⟨callB_of 0 C.t (hG.in hY.1) rfl hr.1 hr.2 (C.t _ (List.mem_cons_of_mem _ hY.2.2.1)) (C.t _ (List.mem_cons_of_mem _ hl)) ⟨hY.2.2.2.2.1.1, hY.2.2.2.2.1.2, hY.2.2.2.2.2⟩ hR, hY.2.2.2.1, C.t _ (List.mem_cons_of_mem _ hY.2.1)⟩
    ⟨jBlind hE, jPre_at C hP hD hS⟩ rfl rfl hl4.1 rfl (lv_room hst) hdg ⟨hf.1, hf.2⟩ T0 hT X
  cases hv
  rw [h0] at hz hk
  obtain ⟨t2, a1, b1⟩ := k w2 hw2 T'.heap (locs ++ L) ls (by rw [e1]; exact hP2) (hD2.weaken (fun _ q _ h => hA q.1 h)) (jS_keep hS hA hL (by rw [e1]; exact hz) (fun q g1 g2 => by rw [e1]; exact hk q g1 g2)) hl4 T' rfl X'
  exact ⟨t2, st t2 a1, b1⟩
theorem j_callIN {T : List Cond} {c0 : Cond} (C : jC p s m args c cc nL own (c0 :: T) D cl tys A (va_S A s.heap) E) (hE : jLoc D cl E) (hG : jG T) {y : MethodName} {bytes : ByteArray} {maxL mc ms index : Nat} {rm : Room} {b : Nat} {host : String} {P : va_W → Prop} (hM : iM l D cl tys E y (Cond.code y bytes maxL none :: T) rm [.ref b] w P mc ms) (hY : jYi T y bytes maxL) (hl : (Cond.methodLinkNest own index y host).before args s = true) (hr : rm.cells = mc ∧ rm.slots = ms) (hR : rm.frames + 1 ≤ R.frames ∧ 8 + (maxL + 11) + rm.locals ≤ R.locals)
    (hst : (rest.map fun v => v.category).sum ≤ 8) (hf : cells + mc ≤ R.cells ∧ slots + ms ≤ R.slots) (hdg : decode cc pc = .ok (.invokespecial index, 3)) (pn : Nat) (hpn : pc + 3 = pn)
    (k : ∀ w2 : va_W, P w2 → jJ p l e R s m args below meth c (cells + mc) (slots + ms) Q D cl A (va_S A s.heap) nL w2 pn lv rest) : jJ p l e R s m args below meth c cells slots Q D cl A (va_S A s.heap) nL w pc lv (.ref b :: rest) := by
  subst hpn
  intro H locs ls hP hD hS hl4 T0 hT X
  have hA := jA_sub C.a hD hS
  obtain ⟨v1, st₀, t, T', L, h0, X', hL, e1, e2, ⟨hv, w2, hw2, hP2, hD2, hz, hk⟩, st⟩ := va_runIN (host := host) (b := b) (As := []) (rest := rest) (n := 0) ⟨C.x, C.b, C.ml, C.o, C.t⟩ (hM H.size) ⟨⟨⟨hr.1, hr.2, hR.1, hR.2, pay_in C.t (hG.in hY.1), List.mem_cons_self⟩, C.t _ (List.mem_cons_of_mem _ hY.1), C.t _ (List.mem_cons_of_mem _ hY.2.2.1), hY.2.2.2.2.1, fun sig h => by have h2 := hY.2.2.2.2.2; rw [h] at h2; exact (Option.some.inj h2).symm, hl⟩, hY.2.2.2.1, C.t _ (List.mem_cons_of_mem _ hY.2.1)⟩
    ⟨jBlind hE, jPre_at C hP hD hS⟩ rfl rfl hl4.1 rfl (lv_room hst) hdg ⟨hf.1, hf.2⟩ T0 hT X
  cases hv
  rw [h0] at hz hk
  obtain ⟨t2, a1, b1⟩ := k w2 hw2 T'.heap (locs ++ L) ls (by rw [e1]; exact hP2) (hD2.weaken (fun _ q _ h => hA q.1 h)) (jS_keep hS hA hL (by rw [e1]; exact hz) (fun q g1 g2 => by rw [e1]; exact hk q g1 g2)) hl4 T' rfl X'
  exact ⟨t2, st t2 a1, b1⟩
/-! the law's own rows -/
theorem j_sld (C : jC p s m args c cc nL own Ts D cl tys A (va_S A s.heap) E) {b L : Nat} {xs : Nat → Int32} (hX : va_X b L xs s s.heap) (hbl : b < s.heap.size) (hbA : ¬ A b) {i : Int32} (hin : vp_in i L) (pn : Nat) (hpn : pc + 1 = pn) (hdg : decode cc pc = .ok (.iaload, 1)) (k : jJ p l e R s m args below meth c cells slots Q D cl A (va_S A s.heap) nL w pn lv (.int (xs i.toNatClampNeg) :: rest)) : jJ p l e R s m args below meth c cells slots Q D cl A (va_S A s.heap) nL w pc lv (.int i :: .ref b :: rest) := by
  subst hpn
  exact fun H locs ls h1 h2 h3 h4 => va_sld C.x C.b hX hbl hbA h3 hin hdg (k H locs ls h1 h2 h3 h4)
theorem j_slen (C : jC p s m args c cc nL own Ts D cl tys A (va_S A s.heap) E) {b L : Nat} {xs : Nat → Int32} (hX : va_X b L xs s s.heap) (hbl : b < s.heap.size) (hbA : ¬ A b) (pn : Nat) (hpn : pc + 1 = pn) (hdg : decode cc pc = .ok (.arraylength, 1)) (k : jJ p l e R s m args below meth c cells slots Q D cl A (va_S A s.heap) nL w pn lv (.int (Int32.ofNat L) :: rest)) : jJ p l e R s m args below meth c cells slots Q D cl A (va_S A s.heap) nL w pc lv (.ref b :: rest) := by
  subst hpn
  exact fun H locs ls h1 h2 h3 h4 => va_slen C.x C.b hX hbl hbA h3 hdg (k H locs ls h1 h2 h3 h4)
theorem j_callH {T : List Cond} {c0 : Cond} (C : jC p s m args c cc nL own (c0 :: T) D cl tys A (va_S A s.heap) E) (hE : jLoc D cl E) (hG : jG T) {y : MethodName} {bytes : ByteArray} {maxL : Nat} {ret : Option FieldType} {hh : List (Nat × Nat × Nat × Nat)} {n index : Nat} {rm : Room} {As : List Value} {x : Value} {w2 : va_W} (hK : hM l D cl tys E y (Cond.codeWith y bytes maxL ret hh :: T) rm As w (some x) w2) (hY : jYw T y bytes maxL ret hh n) (hl : Cond.methodLink own index y ∈ T) (hr : rm.cells = 1 ∧ rm.slots = 6) (hR : rm.frames + 1 ≤ R.frames ∧ 8 + (maxL + 11) + rm.locals ≤ R.locals)
    (hn : As.length = n) (hst : (rest.map fun v => v.category).sum ≤ 8) (hf : cells + 1 ≤ R.cells ∧ slots + 6 ≤ R.slots) (hdg : decode cc pc = .ok (.invokestatic index, 3)) {st0 : List Value} (pn : Nat) (hpn : pc + 3 = pn) (hs0 : st0 = As.reverse ++ rest)
    (k : jJ p l e R s m args below meth c (cells + 1) (slots + 6) Q D cl A (va_S A s.heap) nL w2 pn lv (x :: rest)) : jJ p l e R s m args below meth c cells slots Q D cl A (va_S A s.heap) nL w pc lv st0 := by
  subst hpn
  subst hs0
  intro H locs ls hP hD hS hl4 T0 hT X
  subst hT
  have hA := jA_sub C.a hD hS
  have hcode := C.t _ (List.mem_cons_of_mem _ hY.1)
  have hini := C.t _ (List.mem_cons_of_mem _ hY.2.2.1)
  have hB : Back l R p e below s args y 3 8 (PreOf R 1 6 (va_Pc As (jPre D cl tys E w T0.heap.size))) (PostOf (jQ D cl (some x) w2 (va_A w T0.heap.size)) 1 6 (va_A w T0.heap.size)) :=
    va_backW (hh := hh) (bytes := bytes) (maxL := maxL) (ret := ret) (hK T0.heap.size) (jBlind hE) hr.1 hr.2 hR.1 hR.2 (pay_in C.t (hG.in hY.1)) List.mem_cons_self (fun a' U hW => word_at hW (Or.inl (by first | rfl | simp [Cond.onTables, Cond.keeps, Cond.steady])) hini)
  obtain ⟨mk, methM, cM, hnamed, hmethM, -, -, -, -, -, -, hsigM⟩ := Cond.codeWith_spec hcode
  have hstatic : methM.isStatic = true := Cond.static_spec hnamed hmethM (C.t _ (List.mem_cons_of_mem _ hY.2.1))
  obtain ⟨kP, hkP, -⟩ := className_of_methodNamed hnamed
  have hinitP : kP.init = .initialized := Cond.initialized_spec (findClass_of_methodNamed hnamed) hkP hini
  have hlen : As.length = methM.sig.parameters.length := by
    have := hY.2.2.2.2
    rw [hsigM] at this
    rw [hn]
    exact (Option.some.inj this).symm
  obtain ⟨vm₁, X₁, hstep₁⟩ := X.invokestatic C.x C.o (C.t _ (List.mem_cons_of_mem _ hl)) hnamed hmethM hstatic hkP hinitP hY.2.2.2.1 (g := F0 m pc ls (As.reverse ++ rest)) rfl (argsL := As) (rest := rest) hlen rfl (by rw [C.b]; exact hdg)
  obtain ⟨v, ⟨U', l2, c2, s2⟩, X', ⟨g', mk', t, L, e1, e2, ⟨hv, hP2, hD2, hz, hk⟩, h1, hL, h2, h3⟩, hsteps⟩ := hB m meth c ⟨T0.setVm vm₁, locs, cells, slots⟩ (F0 m pc ls rest) (.invokestatic index) mk As.toArray X₁ rfl (by rw [C.ml]; exact hl4.1) (by rw [C.b]; exact hdg) (lv_room hst) (X₁.named hnamed) ⟨hf.1, hf.2, jPre_at C hP hD hS (T0.setVm vm₁) rfl X₁.warmed⟩
  dsimp only [Pt.U, Pt.locs, Pt.cells, Pt.slots] at X' e1 e2 h1 h2 h3 hsteps
  subst h1; subst h2; subst h3
  cases hv
  have hz' : T0.heap.size ≤ t.heap.size := hz
  have hk' : ∀ q : Nat, q < T0.heap.size → ¬ va_A w T0.heap.size q → t.heap[q]? = T0.heap[q]? := hk
  obtain ⟨t2, a1, b1⟩ := k U'.heap (locs ++ L) ls (by rw [e1]; exact hP2) (hD2.weaken (fun _ q _ h => hA q.1 h)) (jS_keep hS hA hL (by rw [e1]; exact hz') (fun q g1 g2 => by rw [e1]; exact hk' q g1 g2)) hl4 U' rfl X'
  exact ⟨t2, hstep₁ _ fun acts => by rw [doInvoke_state]; exact hsteps.trans a1, b1⟩
end CT
