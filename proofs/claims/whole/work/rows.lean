section
/-! the judgement of a walk over a world w: locals lv, stack st -/
section JB
variable {p : Program} {l : Launch} {e : Env} {R : Room} {s : State} {m : MethodId} {args : Array Value} {below : List Frame} {meth : Method} {c : Code} {cells slots : Nat} {Q : State → Prop}
variable {D : va_G} {cl : List vw_C} {tys : List (ClassId × FieldType)} {A : Nat → Prop} {Sx : Heap → List Loc → Prop} {E : State → Prop} {nL : Nat} {cc : ByteArray} {own : String} {Ts : List Cond} {w : va_W} {pc : Nat} {lv : List (Nat × Value)} {rest : List Value}
def jJ (p : Program) (l : Launch) (e : Env) (R : Room) (s : State) (m : MethodId) (args : Array Value) (below : List Frame) (meth : Method) (c : Code) (cells slots : Nat) (Q : State → Prop) (D : va_G) (cl : List vw_C) (A : Nat → Prop) (Sx : Heap → List Loc → Prop) (nL : Nat) (w : va_W) (pc : Nat) (lv : List (Nat × Value)) (st : List Value) : Prop :=
  ∀ (H : Heap) (locs : List Loc) (ls : Array Slot), va_P D cl w H → va_D A w → Sx H locs → lv_has ls nL lv → W p l e R s m args below meth c H locs cells slots Q (F0 m pc ls st)
def jC (p : Program) (s : State) (m : MethodId) (args : Array Value) (c : Code) (cc : ByteArray) (nL : Nat) (own : String) (Ts : List Cond) (D : va_G) (cl : List vw_C) (tys : List (ClassId × FieldType)) (A : Nat → Prop) (Sx : Heap → List Loc → Prop) (E : State → Prop) : Prop :=
  p.tables.exec = Jvm.exec ∧ c.code = cc ∧ c.maxLocals = nL ∧ s.vm.findClass own = some m.cls ∧ (∀ w ∈ Ts, w.before args s = true) ∧ va_K D cl tys s ∧ (∀ q : Nat, s.heap.size ≤ q → A q) ∧ (∀ U : State, (∀ q : Nat, q < s.heap.size → ¬ A q → U.heap[q]? = s.heap[q]?) → s.WarmedH U.vm → E U) ∧ (∀ (H : Heap) (locs : List Loc), Sx H locs → va_S A s.heap H locs)
theorem jC.x (C : jC p s m args c cc nL own Ts D cl tys A Sx E) : p.tables.exec = Jvm.exec := C.1
theorem jC.b (C : jC p s m args c cc nL own Ts D cl tys A Sx E) : c.code = cc := C.2.1
theorem jC.ml (C : jC p s m args c cc nL own Ts D cl tys A Sx E) : c.maxLocals = nL := C.2.2.1
theorem jC.o (C : jC p s m args c cc nL own Ts D cl tys A Sx E) : s.vm.findClass own = some m.cls := C.2.2.2.1
theorem jC.t (C : jC p s m args c cc nL own Ts D cl tys A Sx E) : ∀ w ∈ Ts, w.before args s = true := C.2.2.2.2.1
theorem jC.k (C : jC p s m args c cc nL own Ts D cl tys A Sx E) : va_K D cl tys s := C.2.2.2.2.2.1
theorem jC.a (C : jC p s m args c cc nL own Ts D cl tys A Sx E) : ∀ q : Nat, s.heap.size ≤ q → A q := C.2.2.2.2.2.2.1
theorem jC.ev (C : jC p s m args c cc nL own Ts D cl tys A Sx E) : ∀ U : State, (∀ q : Nat, q < s.heap.size → ¬ A q → U.heap[q]? = s.heap[q]?) → s.WarmedH U.vm → E U := C.2.2.2.2.2.2.2.1
theorem jC.sx (C : jC p s m args c cc nL own Ts D cl tys A Sx E) : ∀ (H : Heap) (locs : List Loc), Sx H locs → va_S A s.heap H locs := C.2.2.2.2.2.2.2.2
def rd (s : State) : Heap → List Loc → Prop := fun H locs => H = s.heap ∧ locs = []
theorem rd_S {A : Nat → Prop} : ∀ (H : Heap) (locs : List Loc), rd s H locs → va_S A s.heap H locs := fun H locs h => by
  obtain ⟨rfl, rfl⟩ := h
  exact va_S.rf
def jLoc (D : va_G) (cl : List vw_C) (E : State → Prop) : Prop := (∀ (a : Array Value) (U : State) (g : JFrame) (mk : MethodId), E U → E (U.calling g mk a)) ∧
  ∀ (s U : State) (w : va_W), E s → va_P D cl w s.heap → (∀ q : Nat, q < s.heap.size → ¬ va_A w s.heap.size q → U.heap[q]? = s.heap[q]?) → s.WarmedH U.vm → E U
theorem j_iadd (C : jC p s m args c cc nL own Ts D cl tys A Sx E) {x y : Int32} (pn : Nat) (hpn : pc + 1 = pn) (hdg : decode cc pc = .ok (.iadd, 1)) (k : jJ p l e R s m args below meth c cells slots Q D cl A Sx nL w (pn) lv (.int (x + y) :: rest)) : jJ p l e R s m args below meth c cells slots Q D cl A Sx nL w (pc) lv (.int y :: .int x :: rest) := by
  subst hpn
  exact fun H locs ls h1 h2 h3 h4 => lv_iadd C.x C.b hdg (k H locs ls h1 h2 h3 h4)
theorem j_isub (C : jC p s m args c cc nL own Ts D cl tys A Sx E) {x y : Int32} (pn : Nat) (hpn : pc + 1 = pn) (hdg : decode cc pc = .ok (.isub, 1)) (k : jJ p l e R s m args below meth c cells slots Q D cl A Sx nL w (pn) lv (.int (x - y) :: rest)) : jJ p l e R s m args below meth c cells slots Q D cl A Sx nL w (pc) lv (.int y :: .int x :: rest) := by
  subst hpn
  exact fun H locs ls h1 h2 h3 h4 => lv_isub C.x C.b hdg (k H locs ls h1 h2 h3 h4)
theorem j_imul (C : jC p s m args c cc nL own Ts D cl tys A Sx E) {x y : Int32} (pn : Nat) (hpn : pc + 1 = pn) (hdg : decode cc pc = .ok (.imul, 1)) (k : jJ p l e R s m args below meth c cells slots Q D cl A Sx nL w (pn) lv (.int (x * y) :: rest)) : jJ p l e R s m args below meth c cells slots Q D cl A Sx nL w (pc) lv (.int y :: .int x :: rest) := by
  subst hpn
  exact fun H locs ls h1 h2 h3 h4 => lv_imul C.x C.b hdg (k H locs ls h1 h2 h3 h4)
theorem j_iand (C : jC p s m args c cc nL own Ts D cl tys A Sx E) {x y : Int32} (pn : Nat) (hpn : pc + 1 = pn) (hdg : decode cc pc = .ok (.iand, 1)) (k : jJ p l e R s m args below meth c cells slots Q D cl A Sx nL w (pn) lv (.int (x &&& y) :: rest)) : jJ p l e R s m args below meth c cells slots Q D cl A Sx nL w (pc) lv (.int y :: .int x :: rest) := by
  subst hpn
  exact fun H locs ls h1 h2 h3 h4 => lv_iand C.x C.b hdg (k H locs ls h1 h2 h3 h4)
theorem j_ior (C : jC p s m args c cc nL own Ts D cl tys A Sx E) {x y : Int32} (pn : Nat) (hpn : pc + 1 = pn) (hdg : decode cc pc = .ok (.ior, 1)) (k : jJ p l e R s m args below meth c cells slots Q D cl A Sx nL w (pn) lv (.int (x ||| y) :: rest)) : jJ p l e R s m args below meth c cells slots Q D cl A Sx nL w (pc) lv (.int y :: .int x :: rest) := by
  subst hpn
  exact fun H locs ls h1 h2 h3 h4 => lv_ior C.x C.b hdg (k H locs ls h1 h2 h3 h4)
theorem j_ixor (C : jC p s m args c cc nL own Ts D cl tys A Sx E) {x y : Int32} (pn : Nat) (hpn : pc + 1 = pn) (hdg : decode cc pc = .ok (.ixor, 1)) (k : jJ p l e R s m args below meth c cells slots Q D cl A Sx nL w (pn) lv (.int (x ^^^ y) :: rest)) : jJ p l e R s m args below meth c cells slots Q D cl A Sx nL w (pc) lv (.int y :: .int x :: rest) := by
  subst hpn
  exact fun H locs ls h1 h2 h3 h4 => lv_ixor C.x C.b hdg (k H locs ls h1 h2 h3 h4)
theorem j_ladd (C : jC p s m args c cc nL own Ts D cl tys A Sx E) {x y : Int64} (pn : Nat) (hpn : pc + 1 = pn) (hdg : decode cc pc = .ok (.ladd, 1)) (k : jJ p l e R s m args below meth c cells slots Q D cl A Sx nL w (pn) lv (.long (x + y) :: rest)) : jJ p l e R s m args below meth c cells slots Q D cl A Sx nL w (pc) lv (.long y :: .long x :: rest) := by
  subst hpn
  exact fun H locs ls h1 h2 h3 h4 => lv_ladd C.x C.b hdg (k H locs ls h1 h2 h3 h4)
theorem j_lsub (C : jC p s m args c cc nL own Ts D cl tys A Sx E) {x y : Int64} (pn : Nat) (hpn : pc + 1 = pn) (hdg : decode cc pc = .ok (.lsub, 1)) (k : jJ p l e R s m args below meth c cells slots Q D cl A Sx nL w (pn) lv (.long (x - y) :: rest)) : jJ p l e R s m args below meth c cells slots Q D cl A Sx nL w (pc) lv (.long y :: .long x :: rest) := by
  subst hpn
  exact fun H locs ls h1 h2 h3 h4 => lv_lsub C.x C.b hdg (k H locs ls h1 h2 h3 h4)
theorem j_land (C : jC p s m args c cc nL own Ts D cl tys A Sx E) {x y : Int64} (pn : Nat) (hpn : pc + 1 = pn) (hdg : decode cc pc = .ok (.land, 1)) (k : jJ p l e R s m args below meth c cells slots Q D cl A Sx nL w (pn) lv (.long (x &&& y) :: rest)) : jJ p l e R s m args below meth c cells slots Q D cl A Sx nL w (pc) lv (.long y :: .long x :: rest) := by
  subst hpn
  exact fun H locs ls h1 h2 h3 h4 => lv_land C.x C.b hdg (k H locs ls h1 h2 h3 h4)
theorem j_lor (C : jC p s m args c cc nL own Ts D cl tys A Sx E) {x y : Int64} (pn : Nat) (hpn : pc + 1 = pn) (hdg : decode cc pc = .ok (.lor, 1)) (k : jJ p l e R s m args below meth c cells slots Q D cl A Sx nL w (pn) lv (.long (x ||| y) :: rest)) : jJ p l e R s m args below meth c cells slots Q D cl A Sx nL w (pc) lv (.long y :: .long x :: rest) := by
  subst hpn
  exact fun H locs ls h1 h2 h3 h4 => lv_lor C.x C.b hdg (k H locs ls h1 h2 h3 h4)
theorem j_ishl (C : jC p s m args c cc nL own Ts D cl tys A Sx E) {x y : Int32} (pn : Nat) (hpn : pc + 1 = pn) (hdg : decode cc pc = .ok (.ishl, 1)) (k : jJ p l e R s m args below meth c cells slots Q D cl A Sx nL w (pn) lv (.int (x <<< (y &&& 31)) :: rest)) : jJ p l e R s m args below meth c cells slots Q D cl A Sx nL w (pc) lv (.int y :: .int x :: rest) := by
  subst hpn
  exact fun H locs ls h1 h2 h3 h4 => lv_ishl C.x C.b hdg (k H locs ls h1 h2 h3 h4)
theorem j_ishr (C : jC p s m args c cc nL own Ts D cl tys A Sx E) {x y : Int32} (pn : Nat) (hpn : pc + 1 = pn) (hdg : decode cc pc = .ok (.ishr, 1)) (k : jJ p l e R s m args below meth c cells slots Q D cl A Sx nL w (pn) lv (.int (x >>> (y &&& 31)) :: rest)) : jJ p l e R s m args below meth c cells slots Q D cl A Sx nL w (pc) lv (.int y :: .int x :: rest) := by
  subst hpn
  exact fun H locs ls h1 h2 h3 h4 => lv_ishr C.x C.b hdg (k H locs ls h1 h2 h3 h4)
theorem j_iushr (C : jC p s m args c cc nL own Ts D cl tys A Sx E) {x y v : Int32} (pn : Nat) (hpn : pc + 1 = pn) (hdg : decode cc pc = .ok (.iushr, 1)) (hv : (x.toUInt32 >>> (y.toUInt32 &&& Int32.toUInt32 31)).toInt32 = v) (k : jJ p l e R s m args below meth c cells slots Q D cl A Sx nL w (pn) lv (.int v :: rest)) : jJ p l e R s m args below meth c cells slots Q D cl A Sx nL w (pc) lv (.int y :: .int x :: rest) := by
  subst hpn
  exact fun H locs ls h1 h2 h3 h4 => lv_iushr C.x C.b hdg hv (k H locs ls h1 h2 h3 h4)
theorem j_lushr (C : jC p s m args c cc nL own Ts D cl tys A Sx E) {x v : Int64} {y : Int32} (pn : Nat) (hpn : pc + 1 = pn) (hdg : decode cc pc = .ok (.lushr, 1)) (hv : (x.toUInt64 >>> (y.toInt64.toUInt64 &&& Int64.toUInt64 63)).toInt64 = v) (k : jJ p l e R s m args below meth c cells slots Q D cl A Sx nL w (pn) lv (.long v :: rest)) : jJ p l e R s m args below meth c cells slots Q D cl A Sx nL w (pc) lv (.int y :: .long x :: rest) := by
  subst hpn
  exact fun H locs ls h1 h2 h3 h4 => lv_lushr C.x C.b hdg hv (k H locs ls h1 h2 h3 h4)
theorem j_lshl (C : jC p s m args c cc nL own Ts D cl tys A Sx E) {x v : Int64} {y : Int32} (pn : Nat) (hpn : pc + 1 = pn) (hdg : decode cc pc = .ok (.lshl, 1)) (hv : x <<< (y.toInt64 &&& 63) = v) (k : jJ p l e R s m args below meth c cells slots Q D cl A Sx nL w (pn) lv (.long v :: rest)) : jJ p l e R s m args below meth c cells slots Q D cl A Sx nL w (pc) lv (.int y :: .long x :: rest) := by
  subst hpn
  exact fun H locs ls h1 h2 h3 h4 => lv_lshl C.x C.b hdg hv (k H locs ls h1 h2 h3 h4)
theorem j_i2l (C : jC p s m args c cc nL own Ts D cl tys A Sx E) {x : Int32} {v : Int64} (pn : Nat) (hpn : pc + 1 = pn) (hdg : decode cc pc = .ok (.i2l, 1)) (hv : x.toInt64 = v) (k : jJ p l e R s m args below meth c cells slots Q D cl A Sx nL w (pn) lv (.long v :: rest)) : jJ p l e R s m args below meth c cells slots Q D cl A Sx nL w (pc) lv (.int x :: rest) := by
  subst hpn
  exact fun H locs ls h1 h2 h3 h4 => lv_i2l C.x C.b hdg hv (k H locs ls h1 h2 h3 h4)
theorem j_l2i (C : jC p s m args c cc nL own Ts D cl tys A Sx E) {x : Int64} {v : Int32} (pn : Nat) (hpn : pc + 1 = pn) (hdg : decode cc pc = .ok (.l2i, 1)) (hv : x.toInt32 = v) (k : jJ p l e R s m args below meth c cells slots Q D cl A Sx nL w (pn) lv (.int v :: rest)) : jJ p l e R s m args below meth c cells slots Q D cl A Sx nL w (pc) lv (.long x :: rest) := by
  subst hpn
  exact fun H locs ls h1 h2 h3 h4 => lv_l2i C.x C.b hdg hv (k H locs ls h1 h2 h3 h4)
theorem j_i2b (C : jC p s m args c cc nL own Ts D cl tys A Sx E) {x v : Int32} (pn : Nat) (hpn : pc + 1 = pn) (hdg : decode cc pc = .ok (.i2b, 1)) (hv : x.toInt8.toInt32 = v) (k : jJ p l e R s m args below meth c cells slots Q D cl A Sx nL w (pn) lv (.int v :: rest)) : jJ p l e R s m args below meth c cells slots Q D cl A Sx nL w (pc) lv (.int x :: rest) := by
  subst hpn
  exact fun H locs ls h1 h2 h3 h4 => lv_i2b C.x C.b hdg hv (k H locs ls h1 h2 h3 h4)
theorem j_iconst (C : jC p s m args c cc nL own Ts D cl tys A Sx E) {n : Int} {v : Int32} (pn : Nat) (hpn : pc + 1 = pn) (hdg : decode cc pc = .ok (.iconst n, 1)) (hv : Int32.ofInt n = v) (k : jJ p l e R s m args below meth c cells slots Q D cl A Sx nL w (pn) lv (.int v :: rest)) : jJ p l e R s m args below meth c cells slots Q D cl A Sx nL w (pc) lv (rest) := by
  subst hpn
  exact fun H locs ls h1 h2 h3 h4 => lv_iconst C.x C.b hdg hv (k H locs ls h1 h2 h3 h4)
theorem j_bipush (C : jC p s m args c cc nL own Ts D cl tys A Sx E) {n : Int} {v : Int32} (pn : Nat) (hpn : pc + 2 = pn) (hdg : decode cc pc = .ok (.bipush n, 2)) (hv : (Int8.ofInt n).toInt32 = v) (k : jJ p l e R s m args below meth c cells slots Q D cl A Sx nL w (pn) lv (.int v :: rest)) : jJ p l e R s m args below meth c cells slots Q D cl A Sx nL w (pc) lv (rest) := by
  subst hpn
  exact fun H locs ls h1 h2 h3 h4 => lv_bipush C.x C.b hdg hv (k H locs ls h1 h2 h3 h4)
theorem j_sipush (C : jC p s m args c cc nL own Ts D cl tys A Sx E) {n : Int} {v : Int32} (pn : Nat) (hpn : pc + 3 = pn) (hdg : decode cc pc = .ok (.sipush n, 3)) (hv : (Int16.ofInt n).toInt32 = v) (k : jJ p l e R s m args below meth c cells slots Q D cl A Sx nL w (pn) lv (.int v :: rest)) : jJ p l e R s m args below meth c cells slots Q D cl A Sx nL w (pc) lv (rest) := by
  subst hpn
  exact fun H locs ls h1 h2 h3 h4 => lv_sipush C.x C.b hdg hv (k H locs ls h1 h2 h3 h4)
theorem j_lconst (C : jC p s m args c cc nL own Ts D cl tys A Sx E) {n : Fin 2} {v : Int64} (pn : Nat) (hpn : pc + 1 = pn) (hdg : decode cc pc = .ok (.lconst n, 1)) (hv : Int64.ofNat (n : Nat) = v) (k : jJ p l e R s m args below meth c cells slots Q D cl A Sx nL w (pn) lv (.long v :: rest)) : jJ p l e R s m args below meth c cells slots Q D cl A Sx nL w (pc) lv (rest) := by
  subst hpn
  exact fun H locs ls h1 h2 h3 h4 => lv_lconst C.x C.b hdg hv (k H locs ls h1 h2 h3 h4)
theorem j_dup (C : jC p s m args c cc nL own Ts D cl tys A Sx E) {va : Value} (pn : Nat) (hpn : pc + 1 = pn) (hdg : decode cc pc = .ok (.dup, 1)) (hva : va.category = 1) (k : jJ p l e R s m args below meth c cells slots Q D cl A Sx nL w (pn) lv (va :: va :: rest)) : jJ p l e R s m args below meth c cells slots Q D cl A Sx nL w (pc) lv (va :: rest) := by
  subst hpn
  exact fun H locs ls h1 h2 h3 h4 => lv_dup C.x C.b hdg hva (k H locs ls h1 h2 h3 h4)
theorem j_pop (C : jC p s m args c cc nL own Ts D cl tys A Sx E) {va : Value} (pn : Nat) (hpn : pc + 1 = pn) (hdg : decode cc pc = .ok (.pop, 1)) (hva : va.category = 1) (k : jJ p l e R s m args below meth c cells slots Q D cl A Sx nL w (pn) lv (rest)) : jJ p l e R s m args below meth c cells slots Q D cl A Sx nL w (pc) lv (va :: rest) := by
  subst hpn
  exact fun H locs ls h1 h2 h3 h4 => lv_pop C.x C.b hdg hva (k H locs ls h1 h2 h3 h4)
theorem j_dup_x1 (C : jC p s m args c cc nL own Ts D cl tys A Sx E) {va vb : Value} (pn : Nat) (hpn : pc + 1 = pn) (hdg : decode cc pc = .ok (.dup_x1, 1)) (hva : va.category = 1) (hvb : vb.category = 1) (k : jJ p l e R s m args below meth c cells slots Q D cl A Sx nL w (pn) lv (va :: vb :: va :: rest)) : jJ p l e R s m args below meth c cells slots Q D cl A Sx nL w (pc) lv (va :: vb :: rest) := by
  subst hpn
  exact fun H locs ls h1 h2 h3 h4 => lv_dup_x1 C.x C.b hdg hva hvb (k H locs ls h1 h2 h3 h4)
theorem j_dup_x2 (C : jC p s m args c cc nL own Ts D cl tys A Sx E) {va vb vd : Value} (pn : Nat) (hpn : pc + 1 = pn) (hdg : decode cc pc = .ok (.dup_x2, 1)) (hva : va.category = 1) (hvb : vb.category = 1) (hvd : vd.category = 1) (k : jJ p l e R s m args below meth c cells slots Q D cl A Sx nL w (pn) lv (va :: vb :: vd :: va :: rest)) : jJ p l e R s m args below meth c cells slots Q D cl A Sx nL w (pc) lv (va :: vb :: vd :: rest) := by
  subst hpn
  exact fun H locs ls h1 h2 h3 h4 => lv_dup_x2 C.x C.b hdg hva hvb hvd (k H locs ls h1 h2 h3 h4)
theorem j_dup2 (C : jC p s m args c cc nL own Ts D cl tys A Sx E) {va vb : Value} (pn : Nat) (hpn : pc + 1 = pn) (hdg : decode cc pc = .ok (.dup2, 1)) (hva : va.category = 1) (hvb : vb.category = 1) (k : jJ p l e R s m args below meth c cells slots Q D cl A Sx nL w (pn) lv (va :: vb :: va :: vb :: rest)) : jJ p l e R s m args below meth c cells slots Q D cl A Sx nL w (pc) lv (va :: vb :: rest) := by
  subst hpn
  exact fun H locs ls h1 h2 h3 h4 => lv_dup2_11 C.x C.b hdg hva hvb (k H locs ls h1 h2 h3 h4)
theorem j_iload_n (C : jC p s m args c cc nL own Ts D cl tys A Sx E) {k : Fin 4} {i : Nat} {x : Int32} (n pn : Nat) (hpn : pc + 1 = pn) (hdg : decode cc pc = .ok (.iload_n k, 1)) (hi : (k : Nat) = i) (hl : lv[n]? = some (i, .int x)) (k : jJ p l e R s m args below meth c cells slots Q D cl A Sx nL w (pn) lv (.int x :: rest)) : jJ p l e R s m args below meth c cells slots Q D cl A Sx nL w (pc) lv (rest) := by
  subst hpn
  exact fun H locs ls h1 h2 h3 h4 => lv_iload_n C.x C.b hdg hi (lv_at h4 n hl) (k H locs ls h1 h2 h3 h4)
theorem j_iload (C : jC p s m args c cc nL own Ts D cl tys A Sx E) {i : Nat} {x : Int32} (n pn : Nat) (hpn : pc + 2 = pn) (hdg : decode cc pc = .ok (.iload i, 2)) (hl : lv[n]? = some (i, .int x)) (k : jJ p l e R s m args below meth c cells slots Q D cl A Sx nL w (pn) lv (.int x :: rest)) : jJ p l e R s m args below meth c cells slots Q D cl A Sx nL w (pc) lv (rest) := by
  subst hpn
  exact fun H locs ls h1 h2 h3 h4 => lv_iload C.x C.b hdg (lv_at h4 n hl) (k H locs ls h1 h2 h3 h4)
theorem j_lload_n (C : jC p s m args c cc nL own Ts D cl tys A Sx E) {k : Fin 4} {i : Nat} {x : Int64} (n pn : Nat) (hpn : pc + 1 = pn) (hdg : decode cc pc = .ok (.lload_n k, 1)) (hi : (k : Nat) = i) (hl : lv[n]? = some (i, .long x)) (k : jJ p l e R s m args below meth c cells slots Q D cl A Sx nL w (pn) lv (.long x :: rest)) : jJ p l e R s m args below meth c cells slots Q D cl A Sx nL w (pc) lv (rest) := by
  subst hpn
  exact fun H locs ls h1 h2 h3 h4 => lv_lload_n C.x C.b hdg hi (lv_at h4 n hl) (k H locs ls h1 h2 h3 h4)
theorem j_lload (C : jC p s m args c cc nL own Ts D cl tys A Sx E) {i : Nat} {x : Int64} (n pn : Nat) (hpn : pc + 2 = pn) (hdg : decode cc pc = .ok (.lload i, 2)) (hl : lv[n]? = some (i, .long x)) (k : jJ p l e R s m args below meth c cells slots Q D cl A Sx nL w (pn) lv (.long x :: rest)) : jJ p l e R s m args below meth c cells slots Q D cl A Sx nL w (pc) lv (rest) := by
  subst hpn
  exact fun H locs ls h1 h2 h3 h4 => lv_lload C.x C.b hdg (lv_at h4 n hl) (k H locs ls h1 h2 h3 h4)
theorem j_aload_n (C : jC p s m args c cc nL own Ts D cl tys A Sx E) {k : Fin 4} {i : Nat} {x : Nat} (n pn : Nat) (hpn : pc + 1 = pn) (hdg : decode cc pc = .ok (.aload_n k, 1)) (hi : (k : Nat) = i) (hl : lv[n]? = some (i, .ref x)) (k : jJ p l e R s m args below meth c cells slots Q D cl A Sx nL w (pn) lv (.ref x :: rest)) : jJ p l e R s m args below meth c cells slots Q D cl A Sx nL w (pc) lv (rest) := by
  subst hpn
  exact fun H locs ls h1 h2 h3 h4 => lv_aload_n C.x C.b hdg hi (lv_at h4 n hl) (k H locs ls h1 h2 h3 h4)
theorem j_aload (C : jC p s m args c cc nL own Ts D cl tys A Sx E) {i : Nat} {x : Nat} (n pn : Nat) (hpn : pc + 2 = pn) (hdg : decode cc pc = .ok (.aload i, 2)) (hl : lv[n]? = some (i, .ref x)) (k : jJ p l e R s m args below meth c cells slots Q D cl A Sx nL w (pn) lv (.ref x :: rest)) : jJ p l e R s m args below meth c cells slots Q D cl A Sx nL w (pc) lv (rest) := by
  subst hpn
  exact fun H locs ls h1 h2 h3 h4 => lv_aload C.x C.b hdg (lv_at h4 n hl) (k H locs ls h1 h2 h3 h4)
theorem j_istore_n (C : jC p s m args c cc nL own Ts D cl tys A Sx E) {k : Fin 4} {i : Nat} {x : Int32} {lv' : List (Nat × Value)} (pn : Nat) (hpn : pc + 1 = pn) (hdg : decode cc pc = .ok (.istore_n k, 1)) (hi : (k : Nat) = i) (hn : i < nL) (hl : (i, Value.int x) :: lv.filter (fun q => !(q.1 == i) && !(q.1 + 1 == i && q.2.category == 2)) = lv') (k : jJ p l e R s m args below meth c cells slots Q D cl A Sx nL w (pn) lv' (rest)) : jJ p l e R s m args below meth c cells slots Q D cl A Sx nL w (pc) lv (.int x :: rest) := by
  subst hpn
  exact fun H locs ls h1 h2 h3 h4 => lv_istore_n C.x C.b hdg hi h4 hn hl (fun ls h4 => k H locs ls h1 h2 h3 h4)
theorem j_istore (C : jC p s m args c cc nL own Ts D cl tys A Sx E) {i : Nat} {x : Int32} {lv' : List (Nat × Value)} (pn : Nat) (hpn : pc + 2 = pn) (hdg : decode cc pc = .ok (.istore i, 2)) (hn : i < nL) (hl : (i, Value.int x) :: lv.filter (fun q => !(q.1 == i) && !(q.1 + 1 == i && q.2.category == 2)) = lv') (k : jJ p l e R s m args below meth c cells slots Q D cl A Sx nL w (pn) lv' (rest)) : jJ p l e R s m args below meth c cells slots Q D cl A Sx nL w (pc) lv (.int x :: rest) := by
  subst hpn
  exact fun H locs ls h1 h2 h3 h4 => lv_istore C.x C.b hdg h4 hn hl (fun ls h4 => k H locs ls h1 h2 h3 h4)
theorem j_lstore_n (C : jC p s m args c cc nL own Ts D cl tys A Sx E) {k : Fin 4} {i : Nat} {x : Int64} {lv' : List (Nat × Value)} (pn : Nat) (hpn : pc + 1 = pn) (hdg : decode cc pc = .ok (.lstore_n k, 1)) (hi : (k : Nat) = i) (hn : i + 1 < nL) (hl : (i, Value.long x) :: lv.filter (fun q => !(q.1 == i) && (!(q.1 == i + 1) && !(q.1 + 1 == i && q.2.category == 2))) = lv') (k : jJ p l e R s m args below meth c cells slots Q D cl A Sx nL w (pn) lv' (rest)) : jJ p l e R s m args below meth c cells slots Q D cl A Sx nL w (pc) lv (.long x :: rest) := by
  subst hpn
  exact fun H locs ls h1 h2 h3 h4 => lv_lstore_n C.x C.b hdg hi h4 hn hl (fun ls h4 => k H locs ls h1 h2 h3 h4)
theorem j_lstore (C : jC p s m args c cc nL own Ts D cl tys A Sx E) {i : Nat} {x : Int64} {lv' : List (Nat × Value)} (pn : Nat) (hpn : pc + 2 = pn) (hdg : decode cc pc = .ok (.lstore i, 2)) (hn : i + 1 < nL) (hl : (i, Value.long x) :: lv.filter (fun q => !(q.1 == i) && (!(q.1 == i + 1) && !(q.1 + 1 == i && q.2.category == 2))) = lv') (k : jJ p l e R s m args below meth c cells slots Q D cl A Sx nL w (pn) lv' (rest)) : jJ p l e R s m args below meth c cells slots Q D cl A Sx nL w (pc) lv (.long x :: rest) := by
  subst hpn
  exact fun H locs ls h1 h2 h3 h4 => lv_lstore C.x C.b hdg h4 hn hl (fun ls h4 => k H locs ls h1 h2 h3 h4)
theorem j_astore_n (C : jC p s m args c cc nL own Ts D cl tys A Sx E) {k : Fin 4} {i : Nat} {x : Nat} {lv' : List (Nat × Value)} (pn : Nat) (hpn : pc + 1 = pn) (hdg : decode cc pc = .ok (.astore_n k, 1)) (hi : (k : Nat) = i) (hn : i < nL) (hl : (i, Value.ref x) :: lv.filter (fun q => !(q.1 == i) && !(q.1 + 1 == i && q.2.category == 2)) = lv') (k : jJ p l e R s m args below meth c cells slots Q D cl A Sx nL w (pn) lv' (rest)) : jJ p l e R s m args below meth c cells slots Q D cl A Sx nL w (pc) lv (.ref x :: rest) := by
  subst hpn
  exact fun H locs ls h1 h2 h3 h4 => lv_astore_n C.x C.b hdg hi h4 hn hl (fun ls h4 => k H locs ls h1 h2 h3 h4)
theorem j_astore (C : jC p s m args c cc nL own Ts D cl tys A Sx E) {i : Nat} {x : Nat} {lv' : List (Nat × Value)} (pn : Nat) (hpn : pc + 2 = pn) (hdg : decode cc pc = .ok (.astore i, 2)) (hn : i < nL) (hl : (i, Value.ref x) :: lv.filter (fun q => !(q.1 == i) && !(q.1 + 1 == i && q.2.category == 2)) = lv') (k : jJ p l e R s m args below meth c cells slots Q D cl A Sx nL w (pn) lv' (rest)) : jJ p l e R s m args below meth c cells slots Q D cl A Sx nL w (pc) lv (.ref x :: rest) := by
  subst hpn
  exact fun H locs ls h1 h2 h3 h4 => lv_astore C.x C.b hdg h4 hn hl (fun ls h4 => k H locs ls h1 h2 h3 h4)
theorem j_iinc (C : jC p s m args c cc nL own Ts D cl tys A Sx E) {i : Nat} {n : Int} {x v : Int32} {lv' : List (Nat × Value)} (k0 pn : Nat) (hpn : pc + 3 = pn) (hdg : decode cc pc = .ok (.iinc i n, 3)) (hk : lv[k0]? = some (i, .int x)) (hv : x + Int32.ofInt n = v) (hn : i < nL) (hl : (i, Value.int v) :: lv.filter (fun q => !(q.1 == i) && !(q.1 + 1 == i && q.2.category == 2)) = lv') (k : jJ p l e R s m args below meth c cells slots Q D cl A Sx nL w (pn) lv' (rest)) : jJ p l e R s m args below meth c cells slots Q D cl A Sx nL w (pc) lv (rest) := by
  subst hpn
  exact fun H locs ls h1 h2 h3 h4 => lv_iinc C.x C.b hdg h4 hk hv hn hl (fun ls h4 => k H locs ls h1 h2 h3 h4)
theorem j_if_eq (C : jC p s m args c cc nL own Ts D cl tys A Sx E) {x : Int32} {off : Int} (tgt pn : Nat) (hpn : pc + 3 = pn) (hdg : decode cc pc = .ok (.ifCond .eq off, 3)) (ht : (pc : Int) + off = (tgt : Int)) (kt : x = 0 → jJ p l e R s m args below meth c cells slots Q D cl A Sx nL w (tgt) lv (rest)) (kf : ¬ x = 0 → jJ p l e R s m args below meth c cells slots Q D cl A Sx nL w (pn) lv (rest)) : jJ p l e R s m args below meth c cells slots Q D cl A Sx nL w (pc) lv (.int x :: rest) := by
  subst hpn
  exact fun H locs ls h1 h2 h3 h4 => lv_if_eq C.x C.b hdg ht (fun q => kt q H locs ls h1 h2 h3 h4) (fun q => kf q H locs ls h1 h2 h3 h4)
theorem j_if_ne (C : jC p s m args c cc nL own Ts D cl tys A Sx E) {x : Int32} {off : Int} (tgt pn : Nat) (hpn : pc + 3 = pn) (hdg : decode cc pc = .ok (.ifCond .ne off, 3)) (ht : (pc : Int) + off = (tgt : Int)) (kt : ¬ x = 0 → jJ p l e R s m args below meth c cells slots Q D cl A Sx nL w (tgt) lv (rest)) (kf : x = 0 → jJ p l e R s m args below meth c cells slots Q D cl A Sx nL w (pn) lv (rest)) : jJ p l e R s m args below meth c cells slots Q D cl A Sx nL w (pc) lv (.int x :: rest) := by
  subst hpn
  exact fun H locs ls h1 h2 h3 h4 => lv_if_ne C.x C.b hdg ht (fun q => kt q H locs ls h1 h2 h3 h4) (fun q => kf q H locs ls h1 h2 h3 h4)
theorem j_if_lt (C : jC p s m args c cc nL own Ts D cl tys A Sx E) {x : Int32} {off : Int} (tgt pn : Nat) (hpn : pc + 3 = pn) (hdg : decode cc pc = .ok (.ifCond .lt off, 3)) (ht : (pc : Int) + off = (tgt : Int)) (kt : x < 0 → jJ p l e R s m args below meth c cells slots Q D cl A Sx nL w (tgt) lv (rest)) (kf : ¬ x < 0 → jJ p l e R s m args below meth c cells slots Q D cl A Sx nL w (pn) lv (rest)) : jJ p l e R s m args below meth c cells slots Q D cl A Sx nL w (pc) lv (.int x :: rest) := by
  subst hpn
  exact fun H locs ls h1 h2 h3 h4 => lv_if_lt C.x C.b hdg ht (fun q => kt q H locs ls h1 h2 h3 h4) (fun q => kf q H locs ls h1 h2 h3 h4)
theorem j_if_ge (C : jC p s m args c cc nL own Ts D cl tys A Sx E) {x : Int32} {off : Int} (tgt pn : Nat) (hpn : pc + 3 = pn) (hdg : decode cc pc = .ok (.ifCond .ge off, 3)) (ht : (pc : Int) + off = (tgt : Int)) (kt : 0 ≤ x → jJ p l e R s m args below meth c cells slots Q D cl A Sx nL w (tgt) lv (rest)) (kf : ¬ 0 ≤ x → jJ p l e R s m args below meth c cells slots Q D cl A Sx nL w (pn) lv (rest)) : jJ p l e R s m args below meth c cells slots Q D cl A Sx nL w (pc) lv (.int x :: rest) := by
  subst hpn
  exact fun H locs ls h1 h2 h3 h4 => lv_if_ge C.x C.b hdg ht (fun q => kt q H locs ls h1 h2 h3 h4) (fun q => kf q H locs ls h1 h2 h3 h4)
theorem j_if_gt (C : jC p s m args c cc nL own Ts D cl tys A Sx E) {x : Int32} {off : Int} (tgt pn : Nat) (hpn : pc + 3 = pn) (hdg : decode cc pc = .ok (.ifCond .gt off, 3)) (ht : (pc : Int) + off = (tgt : Int)) (kt : 0 < x → jJ p l e R s m args below meth c cells slots Q D cl A Sx nL w (tgt) lv (rest)) (kf : ¬ 0 < x → jJ p l e R s m args below meth c cells slots Q D cl A Sx nL w (pn) lv (rest)) : jJ p l e R s m args below meth c cells slots Q D cl A Sx nL w (pc) lv (.int x :: rest) := by
  subst hpn
  exact fun H locs ls h1 h2 h3 h4 => lv_if_gt C.x C.b hdg ht (fun q => kt q H locs ls h1 h2 h3 h4) (fun q => kf q H locs ls h1 h2 h3 h4)
theorem j_if_le (C : jC p s m args c cc nL own Ts D cl tys A Sx E) {x : Int32} {off : Int} (tgt pn : Nat) (hpn : pc + 3 = pn) (hdg : decode cc pc = .ok (.ifCond .le off, 3)) (ht : (pc : Int) + off = (tgt : Int)) (kt : x ≤ 0 → jJ p l e R s m args below meth c cells slots Q D cl A Sx nL w (tgt) lv (rest)) (kf : ¬ x ≤ 0 → jJ p l e R s m args below meth c cells slots Q D cl A Sx nL w (pn) lv (rest)) : jJ p l e R s m args below meth c cells slots Q D cl A Sx nL w (pc) lv (.int x :: rest) := by
  subst hpn
  exact fun H locs ls h1 h2 h3 h4 => lv_if_le C.x C.b hdg ht (fun q => kt q H locs ls h1 h2 h3 h4) (fun q => kf q H locs ls h1 h2 h3 h4)
theorem j_icmp_eq (C : jC p s m args c cc nL own Ts D cl tys A Sx E) {x y : Int32} {off : Int} (tgt pn : Nat) (hpn : pc + 3 = pn) (hdg : decode cc pc = .ok (.if_icmp .eq off, 3)) (ht : (pc : Int) + off = (tgt : Int)) (kt : x = y → jJ p l e R s m args below meth c cells slots Q D cl A Sx nL w (tgt) lv (rest)) (kf : ¬ x = y → jJ p l e R s m args below meth c cells slots Q D cl A Sx nL w (pn) lv (rest)) : jJ p l e R s m args below meth c cells slots Q D cl A Sx nL w (pc) lv (.int y :: .int x :: rest) := by
  subst hpn
  exact fun H locs ls h1 h2 h3 h4 => lv_icmp_eq C.x C.b hdg ht (fun q => kt q H locs ls h1 h2 h3 h4) (fun q => kf q H locs ls h1 h2 h3 h4)
theorem j_icmp_ne (C : jC p s m args c cc nL own Ts D cl tys A Sx E) {x y : Int32} {off : Int} (tgt pn : Nat) (hpn : pc + 3 = pn) (hdg : decode cc pc = .ok (.if_icmp .ne off, 3)) (ht : (pc : Int) + off = (tgt : Int)) (kt : ¬ x = y → jJ p l e R s m args below meth c cells slots Q D cl A Sx nL w (tgt) lv (rest)) (kf : x = y → jJ p l e R s m args below meth c cells slots Q D cl A Sx nL w (pn) lv (rest)) : jJ p l e R s m args below meth c cells slots Q D cl A Sx nL w (pc) lv (.int y :: .int x :: rest) := by
  subst hpn
  exact fun H locs ls h1 h2 h3 h4 => lv_icmp_ne C.x C.b hdg ht (fun q => kt q H locs ls h1 h2 h3 h4) (fun q => kf q H locs ls h1 h2 h3 h4)
theorem j_icmp_lt (C : jC p s m args c cc nL own Ts D cl tys A Sx E) {x y : Int32} {off : Int} (tgt pn : Nat) (hpn : pc + 3 = pn) (hdg : decode cc pc = .ok (.if_icmp .lt off, 3)) (ht : (pc : Int) + off = (tgt : Int)) (kt : x < y → jJ p l e R s m args below meth c cells slots Q D cl A Sx nL w (tgt) lv (rest)) (kf : ¬ x < y → jJ p l e R s m args below meth c cells slots Q D cl A Sx nL w (pn) lv (rest)) : jJ p l e R s m args below meth c cells slots Q D cl A Sx nL w (pc) lv (.int y :: .int x :: rest) := by
  subst hpn
  exact fun H locs ls h1 h2 h3 h4 => lv_icmp_lt C.x C.b hdg ht (fun q => kt q H locs ls h1 h2 h3 h4) (fun q => kf q H locs ls h1 h2 h3 h4)
theorem j_icmp_ge (C : jC p s m args c cc nL own Ts D cl tys A Sx E) {x y : Int32} {off : Int} (tgt pn : Nat) (hpn : pc + 3 = pn) (hdg : decode cc pc = .ok (.if_icmp .ge off, 3)) (ht : (pc : Int) + off = (tgt : Int)) (kt : y ≤ x → jJ p l e R s m args below meth c cells slots Q D cl A Sx nL w (tgt) lv (rest)) (kf : ¬ y ≤ x → jJ p l e R s m args below meth c cells slots Q D cl A Sx nL w (pn) lv (rest)) : jJ p l e R s m args below meth c cells slots Q D cl A Sx nL w (pc) lv (.int y :: .int x :: rest) := by
  subst hpn
  exact fun H locs ls h1 h2 h3 h4 => lv_icmp_ge C.x C.b hdg ht (fun q => kt q H locs ls h1 h2 h3 h4) (fun q => kf q H locs ls h1 h2 h3 h4)
theorem j_icmp_gt (C : jC p s m args c cc nL own Ts D cl tys A Sx E) {x y : Int32} {off : Int} (tgt pn : Nat) (hpn : pc + 3 = pn) (hdg : decode cc pc = .ok (.if_icmp .gt off, 3)) (ht : (pc : Int) + off = (tgt : Int)) (kt : y < x → jJ p l e R s m args below meth c cells slots Q D cl A Sx nL w (tgt) lv (rest)) (kf : ¬ y < x → jJ p l e R s m args below meth c cells slots Q D cl A Sx nL w (pn) lv (rest)) : jJ p l e R s m args below meth c cells slots Q D cl A Sx nL w (pc) lv (.int y :: .int x :: rest) := by
  subst hpn
  exact fun H locs ls h1 h2 h3 h4 => lv_icmp_gt C.x C.b hdg ht (fun q => kt q H locs ls h1 h2 h3 h4) (fun q => kf q H locs ls h1 h2 h3 h4)
theorem j_icmp_le (C : jC p s m args c cc nL own Ts D cl tys A Sx E) {x y : Int32} {off : Int} (tgt pn : Nat) (hpn : pc + 3 = pn) (hdg : decode cc pc = .ok (.if_icmp .le off, 3)) (ht : (pc : Int) + off = (tgt : Int)) (kt : x ≤ y → jJ p l e R s m args below meth c cells slots Q D cl A Sx nL w (tgt) lv (rest)) (kf : ¬ x ≤ y → jJ p l e R s m args below meth c cells slots Q D cl A Sx nL w (pn) lv (rest)) : jJ p l e R s m args below meth c cells slots Q D cl A Sx nL w (pc) lv (.int y :: .int x :: rest) := by
  subst hpn
  exact fun H locs ls h1 h2 h3 h4 => lv_icmp_le C.x C.b hdg ht (fun q => kt q H locs ls h1 h2 h3 h4) (fun q => kf q H locs ls h1 h2 h3 h4)
theorem j_goto (C : jC p s m args c cc nL own Ts D cl tys A Sx E) {off : Int} (tgt : Nat) (hdg : decode cc pc = .ok (.goto off, 3)) (ht : (pc : Int) + off = (tgt : Int)) (k : jJ p l e R s m args below meth c cells slots Q D cl A Sx nL w (tgt) lv (rest)) : jJ p l e R s m args below meth c cells slots Q D cl A Sx nL w (pc) lv (rest) := fun H locs ls h1 h2 h3 h4 => lv_goto C.x C.b hdg ht (k H locs ls h1 h2 h3 h4)
theorem j_lcmp (C : jC p s m args c cc nL own Ts D cl tys A Sx E) {x y : Int64} (pn : Nat) (hpn : pc + 1 = pn) (hdg : decode cc pc = .ok (.lcmp, 1)) (k : jJ p l e R s m args below meth c cells slots Q D cl A Sx nL w (pn) lv (.int (lg_cmp x y) :: rest)) : jJ p l e R s m args below meth c cells slots Q D cl A Sx nL w (pc) lv (.long y :: .long x :: rest) := by
  subst hpn
  exact fun H locs ls h1 h2 h3 h4 => W.lcmp C.x C.b hdg (k H locs ls h1 h2 h3 h4)
theorem j_tswOut (C : jC p s m args c cc nL own Ts D cl tys A Sx E) {dflt lo hi : Int} {offs : Array Int} {len : Nat} {x : Int32} (tgt : Nat) (hdg : decode cc pc = .ok (.tableswitch dflt lo hi offs, len)) (h : x.toInt < lo ∨ hi < x.toInt) (ht : (pc : Int) + dflt = (tgt : Int)) (k : jJ p l e R s m args below meth c cells slots Q D cl A Sx nL w (tgt) lv (rest)) : jJ p l e R s m args below meth c cells slots Q D cl A Sx nL w (pc) lv (.int x :: rest) := fun H locs ls h1 h2 h3 h4 => lv_tableOut C.x C.b hdg h ht (k H locs ls h1 h2 h3 h4)
theorem j_tswIn (C : jC p s m args c cc nL own Ts D cl tys A Sx E) {dflt lo hi : Int} {offs : Array Int} {len : Nat} {x : Int32} {off : Int} (tgt : Nat) (hdg : decode cc pc = .ok (.tableswitch dflt lo hi offs, len)) (g1 : ¬ x.toInt < lo) (g2 : ¬ hi < x.toInt) (ho : offs[(x.toInt - lo).toNat]? = some off) (ht : (pc : Int) + off = (tgt : Int)) (k : jJ p l e R s m args below meth c cells slots Q D cl A Sx nL w (tgt) lv (rest)) : jJ p l e R s m args below meth c cells slots Q D cl A Sx nL w (pc) lv (.int x :: rest) := fun H locs ls h1 h2 h3 h4 => lv_tableIn C.x C.b hdg g1 g2 ho ht (k H locs ls h1 h2 h3 h4)
theorem j_ldc2 (C : jC p s m args c cc nL own Ts D cl tys A Sx E) {index : Nat} {v : Int64} (pn : Nat) (hpn : pc + 3 = pn) (hc : (Jvm.Cond.constantLong own index v) ∈ Ts) (hdg : decode cc pc = .ok (.ldc2_w index, 3)) (k : jJ p l e R s m args below meth c cells slots Q D cl A Sx nL w (pn) lv (.long v :: rest)) : jJ p l e R s m args below meth c cells slots Q D cl A Sx nL w (pc) lv (rest) := by
  subst hpn
  exact fun H locs ls h1 h2 h3 h4 => lv_ldc2 C.x C.b C.o (C.t _ hc) hdg (k H locs ls h1 h2 h3 h4)
theorem j_topi {x : Int32} (k : ∀ y : Int32, y = x → jJ p l e R s m args below meth c cells slots Q D cl A Sx nL w (pc) lv (.int y :: rest)) : jJ p l e R s m args below meth c cells slots Q D cl A Sx nL w (pc) lv (.int x :: rest) := k x rfl
theorem j_eqi {x y : Int32} (h : x = y) (k : jJ p l e R s m args below meth c cells slots Q D cl A Sx nL w (pc) lv (.int y :: rest)) : jJ p l e R s m args below meth c cells slots Q D cl A Sx nL w (pc) lv (.int x :: rest) := h ▸ k
theorem j_eqw {w2 : va_W} (h : w = w2) (k : jJ p l e R s m args below meth c cells slots Q D cl A Sx nL w2 (pc) lv (rest)) : jJ p l e R s m args below meth c cells slots Q D cl A Sx nL w (pc) lv (rest) := h ▸ k
theorem j_widen {k n : Nat} (g1 : cells ≤ k) (g2 : slots ≤ n) (kk : jJ p l e R s m args below meth c k n Q D cl A Sx nL w pc lv rest) : jJ p l e R s m args below meth c cells slots Q D cl A Sx nL w (pc) lv (rest) := fun H locs ls h1 h2 h3 h4 => W.widen g1 g2 (kk H locs ls h1 h2 h3 h4)
theorem j_sub {lv' : List (Nat × Value)} (ks : List Nat) (hl : lv_pick lv ks = lv') (k : jJ p l e R s m args below meth c cells slots Q D cl A Sx nL w (pc) lv' (rest)) : jJ p l e R s m args below meth c cells slots Q D cl A Sx nL w (pc) lv (rest) := fun H locs ls h1 h2 h3 h4 => k H locs ls h1 h2 h3 (lv_sub h4 ks hl)
def jQ (D : va_G) (cl : List vw_C) (v : Option Value) (w' : va_W) (A : Nat → Prop) : Array Value → State → Outcome → State → Prop := fun _ st oc t => oc = .returned v ∧ va_P D cl w' t.heap ∧ va_D A w' ∧ va_F A st t
def jPre (D : va_G) (cl : List vw_C) (tys : List (ClassId × FieldType)) (E : State → Prop) (w : va_W) (sz : Nat) (U : State) : Prop := U.heap.size = sz ∧ va_P D cl w U.heap ∧ va_K D cl tys U ∧ va_D (fun _ => True) w ∧ E U
/-- y, called with av in the world w, answers v and leaves w' -/
def jM (l : Launch) (D : va_G) (cl : List vw_C) (tys : List (ClassId × FieldType)) (E : State → Prop) (y : MethodName) (ws : List Cond) (rm : Room) (av : List Value) (w : va_W) (v : Option Value) (w' : va_W) : Prop :=
  ∀ sz : Nat, Met l y ws rm (va_Pc av (jPre D cl tys E w sz)) (jQ D cl v w' (va_A w sz)) 0 0 (va_A w sz)
theorem jM.of {y : MethodName} {ws ws' : List Cond} {rm : Room} {maxL : Nat} {ret : Option FieldType} {av : List Value} {w' : va_W} {v : Option Value} (hE : jLoc D cl E) (hy : plainName y.cls = true) (ho : y.cls = own) (hw : ws = Cond.code y cc maxL ret :: ws') (hlen : (lg_sl av).length ≤ maxL) (hlv : lv_args 0 av = lv)
    (body : ∀ (p : Program) (e : Env) (s : State) (m : MethodId) (args : Array Value) (below : List Frame) (meth : Method) (c : Code) (A : Nat → Prop), jC p s m args c cc maxL own ws D cl tys A (va_S A s.heap) E → meth.sig.returnType = ret → meth.locks = false →
      jJ p l e rm s m args below meth c 0 0 (MQ below (jQ D cl v w' A) args s 0 0 A) D cl A (va_S A s.heap) maxL w 0 lv []) : jM l D cl tys E y ws rm av w v w' := by
  intro sz
  refine Met.ofW (cc := cc) (maxL := maxL) (ret := ret) hy hw ?_
  intro p e s m args below meth c s₁ B hml hv
  obtain ⟨rfl, hsz, hP, hK, hD0, hE0⟩ := hv
  subst hsz
  have hD := hD0.self (sz := s.heap.size)
  have K := body p e s m av.toArray below meth c (va_A w s.heap.size) ⟨B.exec, B.bytes, hml, by rw [← ho]; exact findClass_of_methodNamed B.named, atoms_spec (ws := ws) B.pre, hK, fun q h => Or.inr h, fun U hq hW => hE.2 s U w hE0 hP hq hW, fun _ _ h => h⟩ B.returns B.notSynchronized
  have hl := lv_entry av (n := maxL) hlen
  rw [hlv] at hl
  rw [lg_entry_eq]
  exact K s.heap [] _ hP hD va_S.rf hl
theorem j_iret (C : jC p s m args c cc nL own Ts D cl tys A Sx E) (hr : meth.sig.returnType = some .int) (hlk : meth.locks = false) {x r : Int32} {w' : va_W} (hdg : decode cc pc = .ok (.ireturn, 1)) (hv : x = r) (hw : w = w') : jJ p l e R s m args below meth c 0 0 (MQ below (jQ D cl (some (.int r)) w' A) args s 0 0 A) D cl A Sx nL w pc lv ([.int x]) := by
  subst hv
  subst hw
  intro H locs ls h1 h2 h3 h4
  exact W.iret C.x C.b hr (fun t ht _ => ⟨rfl, by rw [ht]; exact h1, h2, (C.sx H locs h3).F ht⟩) (C.sx H locs h3).2.2 hdg hlk
def bI (b : Bool) : Int32 := if b then 1 else 0
theorem bI0 {b : Bool} (h : bI b = 0) : b = false := by
  cases b
  · rfl
  · exact absurd h (by decide)
theorem bI1 {b : Bool} (h : ¬ bI b = 0) : b = true := by
  cases b
  · exact absurd rfl h
  · rfl
theorem bI_nar (b : Bool) : narrow .boolean (.int (bI b)) = .int (bI b) := by cases b <;> rfl
theorem j_zret (C : jC p s m args c cc nL own Ts D cl tys A Sx E) (hr : meth.sig.returnType = some .boolean) (hlk : meth.locks = false) {x : Int32} {b : Bool} {w' : va_W} (hdg : decode cc pc = .ok (.ireturn, 1)) (hv : x = bI b) (hw : w = w') : jJ p l e R s m args below meth c 0 0 (MQ below (jQ D cl (some (.int (bI b))) w' A) args s 0 0 A) D cl A Sx nL w pc lv ([.int x]) := by
  subst hv
  subst hw
  intro H locs ls h1 h2 h3 h4
  exact W.zret C.x C.b hr (bI_nar b) (fun t ht _ => ⟨rfl, by rw [ht]; exact h1, h2, (C.sx H locs h3).F ht⟩) (C.sx H locs h3).2.2 hdg hlk
theorem j_vret (C : jC p s m args c cc nL own Ts D cl tys A Sx E) (hr : meth.sig.returnType = none) (hlk : meth.locks = false) {w' : va_W} (hdg : decode cc pc = .ok (.return_, 1)) (hw : w = w') : jJ p l e R s m args below meth c 0 0 (MQ below (jQ D cl none w' A) args s 0 0 A) D cl A Sx nL w pc lv ([]) := by
  subst hw
  intro H locs ls h1 h2 h3 h4
  exact W.vret C.x C.b hr (fun t ht _ => ⟨rfl, by rw [ht]; exact h1, h2, (C.sx H locs h3).F ht⟩) (C.sx H locs h3).2.2 hdg hlk
theorem jS_keep {H H1 : Heap} {locs L : List Loc} {A1 : Nat → Prop} (hS : va_S A s.heap H locs) (hA : ∀ q, A1 q → A q) (hL : ∀ q ∈ L, A1 q.base) (hz : H.size ≤ H1.size) (hk : ∀ q : Nat, q < H.size → ¬ A1 q → H1[q]? = H[q]?) : va_S A s.heap H1 (locs ++ L) :=
  ⟨Nat.le_trans hS.1 hz, fun q h1 h2 => by rw [hk q (Nat.lt_of_lt_of_le h1 hS.1) (fun z => h2 (hA q z))]; exact hS.2.1 q h1 h2, fun q hq => (List.mem_append.mp hq).elim (hS.2.2 q) (fun h => hA _ (hL q h))⟩
theorem jA_sub {H : Heap} {locs : List Loc} (hA : ∀ q : Nat, s.heap.size ≤ q → A q) (hD : va_D A w) (hS : va_S A s.heap H locs) : ∀ q, va_A w H.size q → A q := by
  intro q h
  rcases h with ⟨k, e, h⟩ | h
  · exact hD.2 k (q, e) h
  · exact hA q (Nat.le_trans hS.1 h)
theorem jBlind {av : List Value} {sz : Nat} (hE : jLoc D cl E) : FrameBlind (va_Pc av (jPre D cl tys E w sz)) := fun a U g mk q => by
  obtain ⟨q0, q1, qP, qK, qD, qE⟩ := q
  exact ⟨q0, q1, qP, va_K.moved (u := U) (U := U.calling g mk a) (Vm.Alike.refl U.vm) qK, qD, hE.1 a U g mk qE⟩
theorem jPre_at (C : jC p s m args c cc nL own Ts D cl tys A Sx E) {av : List Value} {H : Heap} {locs : List Loc} (hP : va_P D cl w H) (hD : va_D A w) (hS : va_S A s.heap H locs) : ∀ U : State, U.heap = H → s.WarmedH U.vm → va_Pc av (jPre D cl tys E w H.size) av.toArray U :=
  fun U hU hW => ⟨rfl, by rw [hU], by rw [hU]; exact hP, va_K.moved hW.alike C.k, hD.weaken (fun _ _ _ _ => trivial), C.ev U (fun q h1 h2 => by rw [hU]; exact hS.2.1 q h1 h2) hW⟩
def jY (T : List Cond) (y : MethodName) (bytes : ByteArray) (maxL : Nat) (ret : Option FieldType) (n : Nat) : Prop := Cond.code y bytes maxL ret ∈ T ∧ Cond.instanceMethod y ∈ T ∧ Cond.selects y.cls y y ∈ T ∧ Cond.initialized y.cls ∈ T ∧ (y.cls ≠ "java/lang/invoke/MethodHandle" ∧ y.cls ≠ "java/lang/invoke/VarHandle") ∧ (parseMethodDescriptor y.desc).map (fun d => d.parameters.length) = some n
def jYs (T : List Cond) (y : MethodName) (bytes : ByteArray) (maxL : Nat) (ret : Option FieldType) (n : Nat) : Prop := Cond.code y bytes maxL ret ∈ T ∧ Cond.static y ∈ T ∧ Cond.initialized y.cls ∈ T ∧ (y.cls ≠ "java/lang/invoke/MethodHandle" ∧ y.cls ≠ "java/lang/invoke/VarHandle") ∧ (parseMethodDescriptor y.desc).map (fun d => d.parameters.length) = some n
def jG (T : List Cond) : Prop := ∀ w ∈ T, goodWord w = true
theorem jG.in {T : List Cond} (hG : jG T) {w0 c0 : Cond} (h : w0 ∈ T) : GoodIn (c0 :: T) (w0 :: T) := fun w hw => by
  have hm : w ∈ T := (List.mem_cons.mp hw).elim (fun e => by rw [e]; exact h) id
  exact ⟨List.mem_cons_of_mem _ hm, good_of_word (hG w hm)⟩
theorem jCB {T : List Cond} {c0 : Cond} (hG : jG T) (ht : ∀ w ∈ (c0 :: T), w.before args s = true) {y : MethodName} {bytes : ByteArray} {maxL : Nat} {ret : Option FieldType} {n index : Nat} {rm : Room} (h1 : Cond.code y bytes maxL ret ∈ T) (h2 : Cond.initialized y.cls ∈ T) (h3 : (y.cls ≠ "java/lang/invoke/MethodHandle" ∧ y.cls ≠ "java/lang/invoke/VarHandle") ∧ (parseMethodDescriptor y.desc).map (fun d => d.parameters.length) = some n) (hl : Cond.methodLink own index y ∈ T)
    (hc : rm.cells = 0) (hs : rm.slots = 0) (hR : rm.frames + 1 ≤ R.frames ∧ 8 + (maxL + 11) + rm.locals ≤ R.locals) : CallB R s args own index y bytes maxL ret (Cond.code y bytes maxL ret :: T) rm 0 0 n :=
  callB_of n ht (hG.in h1) rfl hc hs (ht _ (List.mem_cons_of_mem _ h2)) (ht _ (List.mem_cons_of_mem _ hl)) ⟨h3.1.1, h3.1.2, h3.2⟩ hR
theorem j_callV {T : List Cond} {c0 : Cond} (C : jC p s m args c cc nL own (c0 :: T) D cl tys A (va_S A s.heap) E) (hE : jLoc D cl E) (hG : jG T) {y : MethodName} {bytes : ByteArray} {maxL : Nat} {ret : Option FieldType} {n index : Nat} {rm : Room} {b : Nat} {As st' : List Value} {v : Option Value} {w2 : va_W}
    (hM : jM l D cl tys E y (Cond.code y bytes maxL ret :: T) rm (.ref b :: As) w v w2) (hY : jY T y bytes maxL ret n) (hl : Cond.methodLink own index y ∈ T) (hr : rm.cells = 0 ∧ rm.slots = 0) (hR : rm.frames + 1 ≤ R.frames ∧ 8 + (maxL + 11) + rm.locals ≤ R.locals)
    (q0 : Nat) {ci : Nat} {fs : List Value} {qC : vw_C} (he : w[q0]? = some (b, .inr (ci, fs))) (hc : cl[ci]? = some qC) (hq : qC.1 = y.cls) (hn : As.length = n) (hst : (rest.map fun v => v.category).sum ≤ 8) (hf : cells ≤ R.cells ∧ slots ≤ R.slots) (hdg : decode cc pc = .ok (.invokevirtual index, 3)) {st0 : List Value} (pn : Nat) (hpn : pc + 3 = pn) (hs0 : st0 = As.reverse ++ .ref b :: rest) (hs' : v.toList ++ rest = st')
    (k : jJ p l e R s m args below meth c cells slots Q D cl A (va_S A s.heap) nL w2 (pn) lv (st')) : jJ p l e R s m args below meth c cells slots Q D cl A (va_S A s.heap) nL w (pc) lv (st0) := by
  subst hpn
  subst hs0
  intro H locs ls hP hD hS hl4 T0 hT X
  subst hs'
  have hb := va_recv C.k hP hc he
  rw [hq] at hb
  have hA := jA_sub C.a hD hS
  obtain ⟨v1, st₀, t, T', L, h0, X', hL, e1, e2, ⟨hv, hP2, hD2, hz, hk⟩, st⟩ := va_runV (As := As) (rest := rest) ⟨C.x, C.b, C.ml, C.o, C.t⟩ (hM H.size) ⟨jCB hG C.t hY.1 hY.2.2.2.1 hY.2.2.2.2 hl hr.1 hr.2 hR, C.t _ (List.mem_cons_of_mem _ hY.2.1), C.t _ (List.mem_cons_of_mem _ hY.2.2.1)⟩
    ⟨jBlind hE, hb, jPre_at C hP hD hS⟩ rfl hn hl4.1 rfl (lv_room hst) hdg ⟨hf.1, hf.2⟩ T0 hT X
  cases hv
  rw [h0] at hz hk
  obtain ⟨t2, a1, b1⟩ := k T'.heap (locs ++ L) ls (by rw [e1]; exact hP2) (hD2.weaken (fun _ q _ h => hA q.1 h)) (jS_keep hS hA hL (by rw [e1]; exact hz) (fun q g1 g2 => by rw [e1]; exact hk q g1 g2)) hl4 T' rfl X'
  exact ⟨t2, st t2 a1, b1⟩
theorem j_callS {T : List Cond} {c0 : Cond} (C : jC p s m args c cc nL own (c0 :: T) D cl tys A (va_S A s.heap) E) (hE : jLoc D cl E) (hG : jG T) {y : MethodName} {bytes : ByteArray} {maxL : Nat} {ret : Option FieldType} {n index : Nat} {rm : Room} {As st' : List Value} {v : Option Value} {w2 : va_W}
    (hM : jM l D cl tys E y (Cond.code y bytes maxL ret :: T) rm As w v w2) (hY : jYs T y bytes maxL ret n) (hl : Cond.methodLink own index y ∈ T) (hr : rm.cells = 0 ∧ rm.slots = 0) (hR : rm.frames + 1 ≤ R.frames ∧ 8 + (maxL + 11) + rm.locals ≤ R.locals)
    (hn : As.length = n) (hst : (rest.map fun v => v.category).sum ≤ 8) (hf : cells ≤ R.cells ∧ slots ≤ R.slots) (hdg : decode cc pc = .ok (.invokestatic index, 3)) {st0 : List Value} (pn : Nat) (hpn : pc + 3 = pn) (hs0 : st0 = As.reverse ++ rest) (hs' : v.toList ++ rest = st')
    (k : jJ p l e R s m args below meth c cells slots Q D cl A (va_S A s.heap) nL w2 (pn) lv (st')) : jJ p l e R s m args below meth c cells slots Q D cl A (va_S A s.heap) nL w (pc) lv (st0) := by
  subst hpn
  subst hs0
  intro H locs ls hP hD hS hl4 T0 hT X
  subst hs'
  have hA := jA_sub C.a hD hS
  obtain ⟨v1, st₀, t, T', L, h0, X', hL, e1, e2, ⟨hv, hP2, hD2, hz, hk⟩, st⟩ := va_runS (As := As) (rest := rest) ⟨C.x, C.b, C.ml, C.o, C.t⟩ (hM H.size) ⟨jCB hG C.t hY.1 hY.2.2.1 hY.2.2.2 hl hr.1 hr.2 hR, C.t _ (List.mem_cons_of_mem _ hY.2.1)⟩
    ⟨jBlind hE, jPre_at C hP hD hS⟩ rfl hn hl4.1 rfl (lv_room hst) hdg ⟨hf.1, hf.2⟩ T0 hT X
  cases hv
  rw [h0] at hz hk
  obtain ⟨t2, a1, b1⟩ := k T'.heap (locs ++ L) ls (by rw [e1]; exact hP2) (hD2.weaken (fun _ q _ h => hA q.1 h)) (jS_keep hS hA hL (by rw [e1]; exact hz) (fun q g1 g2 => by rw [e1]; exact hk q g1 g2)) hl4 T' rfl X'
  exact ⟨t2, st t2 a1, b1⟩
theorem j_callSN {T : List Cond} {c0 : Cond} (C : jC p s m args c cc nL own (c0 :: T) D cl tys A (va_S A s.heap) E) (hE : jLoc D cl E) (hG : jG T) {y : MethodName} {bytes : ByteArray} {maxL : Nat} {ret : Option FieldType} {n index : Nat} {rm : Room} {host : String} {As st' : List Value} {v : Option Value} {w2 : va_W}
    (hM : jM l D cl tys E y (Cond.code y bytes maxL ret :: T) rm As w v w2) (hY : jYs T y bytes maxL ret n) (hl : (Cond.methodLinkNest own index y host).before args s = true) (hr : rm.cells = 0 ∧ rm.slots = 0) (hR : rm.frames + 1 ≤ R.frames ∧ 8 + (maxL + 11) + rm.locals ≤ R.locals)
    (hn : As.length = n) (hst : (rest.map fun v => v.category).sum ≤ 8) (hf : cells ≤ R.cells ∧ slots ≤ R.slots) (hdg : decode cc pc = .ok (.invokestatic index, 3)) {st0 : List Value} (pn : Nat) (hpn : pc + 3 = pn) (hs0 : st0 = As.reverse ++ rest) (hs' : v.toList ++ rest = st')
    (k : jJ p l e R s m args below meth c cells slots Q D cl A (va_S A s.heap) nL w2 (pn) lv (st')) : jJ p l e R s m args below meth c cells slots Q D cl A (va_S A s.heap) nL w (pc) lv (st0) := by
  subst hpn
  subst hs0
  intro H locs ls hP hD hS hl4 T0 hT X
  subst hs'
  have hA := jA_sub C.a hD hS
  obtain ⟨v1, st₀, t, T', L, h0, X', hL, e1, e2, ⟨hv, hP2, hD2, hz, hk⟩, st⟩ := va_runSN (host := host) (As := As) (rest := rest) ⟨C.x, C.b, C.ml, C.o, C.t⟩ (hM H.size) ⟨⟨⟨hr.1, hr.2, hR.1, hR.2, pay_in C.t (hG.in hY.1), List.mem_cons_self⟩, C.t _ (List.mem_cons_of_mem _ hY.1), C.t _ (List.mem_cons_of_mem _ hY.2.2.1), hY.2.2.2.1, fun sig h => by have h2 := hY.2.2.2.2; rw [h] at h2; exact (Option.some.inj h2).symm, hl⟩, C.t _ (List.mem_cons_of_mem _ hY.2.1), trivial⟩
    ⟨jBlind hE, jPre_at C hP hD hS⟩ rfl hn hl4.1 rfl (lv_room hst) hdg ⟨hf.1, hf.2⟩ T0 hT X
  cases hv
  rw [h0] at hz hk
  obtain ⟨t2, a1, b1⟩ := k T'.heap (locs ++ L) ls (by rw [e1]; exact hP2) (hD2.weaken (fun _ q _ h => hA q.1 h)) (jS_keep hS hA hL (by rw [e1]; exact hz) (fun q g1 g2 => by rw [e1]; exact hk q g1 g2)) hl4 T' rfl X'
  exact ⟨t2, st t2 a1, b1⟩
theorem j_callVi {T : List Cond} {c0 : Cond} (C : jC p s m args c cc nL own (c0 :: T) D cl tys A (va_S A s.heap) E) (hE : jLoc D cl E) (hG : jG T) {y : MethodName} {bytes : ByteArray} {maxL : Nat} {ret : Option FieldType} {n index : Nat} {rm : Room} {b : Nat} {As : List Value} {x : Value} {w2 : va_W} (hM : jM l D cl tys E y (Cond.code y bytes maxL ret :: T) rm (.ref b :: As) w (some x) w2) (hY : jY T y bytes maxL ret n) (hl : Cond.methodLink own index y ∈ T) (hr : rm.cells = 0 ∧ rm.slots = 0) (hR : rm.frames + 1 ≤ R.frames ∧ 8 + (maxL + 11) + rm.locals ≤ R.locals) (q0 : Nat) {ci : Nat} {fs : List Value} {qC : vw_C} (he : w[q0]? = some (b, .inr (ci, fs))) (hc : cl[ci]? = some qC) (hq : qC.1 = y.cls) (hn : As.length = n) (hst : (rest.map fun v => v.category).sum ≤ 8) (hf : cells ≤ R.cells ∧ slots ≤ R.slots) (hdg : decode cc pc = .ok (.invokevirtual index, 3)) {st0 : List Value} (pn : Nat) (hpn : pc + 3 = pn) (hs0 : st0 = As.reverse ++ .ref b :: rest) (k : jJ p l e R s m args below meth c cells slots Q D cl A (va_S A s.heap) nL w2 (pn) lv (x :: rest)) : jJ p l e R s m args below meth c cells slots Q D cl A (va_S A s.heap) nL w (pc) lv (st0) := j_callV C hE hG hM hY hl hr hR q0 he hc hq hn hst hf hdg pn hpn hs0 rfl k
theorem j_callSi {T : List Cond} {c0 : Cond} (C : jC p s m args c cc nL own (c0 :: T) D cl tys A (va_S A s.heap) E) (hE : jLoc D cl E) (hG : jG T) {y : MethodName} {bytes : ByteArray} {maxL : Nat} {ret : Option FieldType} {n index : Nat} {rm : Room} {As : List Value} {x : Value} {w2 : va_W} (hM : jM l D cl tys E y (Cond.code y bytes maxL ret :: T) rm As w (some x) w2) (hY : jYs T y bytes maxL ret n) (hl : Cond.methodLink own index y ∈ T) (hr : rm.cells = 0 ∧ rm.slots = 0) (hR : rm.frames + 1 ≤ R.frames ∧ 8 + (maxL + 11) + rm.locals ≤ R.locals) (hn : As.length = n) (hst : (rest.map fun v => v.category).sum ≤ 8) (hf : cells ≤ R.cells ∧ slots ≤ R.slots) (hdg : decode cc pc = .ok (.invokestatic index, 3)) {st0 : List Value} (pn : Nat) (hpn : pc + 3 = pn) (hs0 : st0 = As.reverse ++ rest) (k : jJ p l e R s m args below meth c cells slots Q D cl A (va_S A s.heap) nL w2 (pn) lv (x :: rest)) : jJ p l e R s m args below meth c cells slots Q D cl A (va_S A s.heap) nL w (pc) lv (st0) := j_callS C hE hG hM hY hl hr hR hn hst hf hdg pn hpn hs0 rfl k
theorem j_callSNi {T : List Cond} {c0 : Cond} (C : jC p s m args c cc nL own (c0 :: T) D cl tys A (va_S A s.heap) E) (hE : jLoc D cl E) (hG : jG T) {y : MethodName} {bytes : ByteArray} {maxL : Nat} {ret : Option FieldType} {n index : Nat} {rm : Room} {host : String} {As : List Value} {x : Value} {w2 : va_W} (hM : jM l D cl tys E y (Cond.code y bytes maxL ret :: T) rm As w (some x) w2) (hY : jYs T y bytes maxL ret n) (hl : (Cond.methodLinkNest own index y host).before args s = true) (hr : rm.cells = 0 ∧ rm.slots = 0) (hR : rm.frames + 1 ≤ R.frames ∧ 8 + (maxL + 11) + rm.locals ≤ R.locals) (hn : As.length = n) (hst : (rest.map fun v => v.category).sum ≤ 8) (hf : cells ≤ R.cells ∧ slots ≤ R.slots) (hdg : decode cc pc = .ok (.invokestatic index, 3)) {st0 : List Value} (pn : Nat) (hpn : pc + 3 = pn) (hs0 : st0 = As.reverse ++ rest) (k : jJ p l e R s m args below meth c cells slots Q D cl A (va_S A s.heap) nL w2 (pn) lv (x :: rest)) : jJ p l e R s m args below meth c cells slots Q D cl A (va_S A s.heap) nL w (pc) lv (st0) := j_callSN C hE hG hM hY hl hr hR hn hst hf hdg pn hpn hs0 rfl k
theorem j_callVv {T : List Cond} {c0 : Cond} (C : jC p s m args c cc nL own (c0 :: T) D cl tys A (va_S A s.heap) E) (hE : jLoc D cl E) (hG : jG T) {y : MethodName} {bytes : ByteArray} {maxL : Nat} {ret : Option FieldType} {n index : Nat} {rm : Room} {b : Nat} {As : List Value} {w2 : va_W} (hM : jM l D cl tys E y (Cond.code y bytes maxL ret :: T) rm (.ref b :: As) w none w2) (hY : jY T y bytes maxL ret n) (hl : Cond.methodLink own index y ∈ T) (hr : rm.cells = 0 ∧ rm.slots = 0) (hR : rm.frames + 1 ≤ R.frames ∧ 8 + (maxL + 11) + rm.locals ≤ R.locals) (q0 : Nat) {ci : Nat} {fs : List Value} {qC : vw_C} (he : w[q0]? = some (b, .inr (ci, fs))) (hc : cl[ci]? = some qC) (hq : qC.1 = y.cls) (hn : As.length = n) (hst : (rest.map fun v => v.category).sum ≤ 8) (hf : cells ≤ R.cells ∧ slots ≤ R.slots) (hdg : decode cc pc = .ok (.invokevirtual index, 3)) {st0 : List Value} (pn : Nat) (hpn : pc + 3 = pn) (hs0 : st0 = As.reverse ++ .ref b :: rest) (k : jJ p l e R s m args below meth c cells slots Q D cl A (va_S A s.heap) nL w2 (pn) lv (rest)) : jJ p l e R s m args below meth c cells slots Q D cl A (va_S A s.heap) nL w (pc) lv (st0) := j_callV C hE hG hM hY hl hr hR q0 he hc hq hn hst hf hdg pn hpn hs0 rfl k
theorem j_callSv {T : List Cond} {c0 : Cond} (C : jC p s m args c cc nL own (c0 :: T) D cl tys A (va_S A s.heap) E) (hE : jLoc D cl E) (hG : jG T) {y : MethodName} {bytes : ByteArray} {maxL : Nat} {ret : Option FieldType} {n index : Nat} {rm : Room} {As : List Value} {w2 : va_W} (hM : jM l D cl tys E y (Cond.code y bytes maxL ret :: T) rm As w none w2) (hY : jYs T y bytes maxL ret n) (hl : Cond.methodLink own index y ∈ T) (hr : rm.cells = 0 ∧ rm.slots = 0) (hR : rm.frames + 1 ≤ R.frames ∧ 8 + (maxL + 11) + rm.locals ≤ R.locals) (hn : As.length = n) (hst : (rest.map fun v => v.category).sum ≤ 8) (hf : cells ≤ R.cells ∧ slots ≤ R.slots) (hdg : decode cc pc = .ok (.invokestatic index, 3)) {st0 : List Value} (pn : Nat) (hpn : pc + 3 = pn) (hs0 : st0 = As.reverse ++ rest) (k : jJ p l e R s m args below meth c cells slots Q D cl A (va_S A s.heap) nL w2 (pn) lv (rest)) : jJ p l e R s m args below meth c cells slots Q D cl A (va_S A s.heap) nL w (pc) lv (st0) := j_callS C hE hG hM hY hl hr hR hn hst hf hdg pn hpn hs0 rfl k
theorem j_callSNv {T : List Cond} {c0 : Cond} (C : jC p s m args c cc nL own (c0 :: T) D cl tys A (va_S A s.heap) E) (hE : jLoc D cl E) (hG : jG T) {y : MethodName} {bytes : ByteArray} {maxL : Nat} {ret : Option FieldType} {n index : Nat} {rm : Room} {host : String} {As : List Value} {w2 : va_W} (hM : jM l D cl tys E y (Cond.code y bytes maxL ret :: T) rm As w none w2) (hY : jYs T y bytes maxL ret n) (hl : (Cond.methodLinkNest own index y host).before args s = true) (hr : rm.cells = 0 ∧ rm.slots = 0) (hR : rm.frames + 1 ≤ R.frames ∧ 8 + (maxL + 11) + rm.locals ≤ R.locals) (hn : As.length = n) (hst : (rest.map fun v => v.category).sum ≤ 8) (hf : cells ≤ R.cells ∧ slots ≤ R.slots) (hdg : decode cc pc = .ok (.invokestatic index, 3)) {st0 : List Value} (pn : Nat) (hpn : pc + 3 = pn) (hs0 : st0 = As.reverse ++ rest) (k : jJ p l e R s m args below meth c cells slots Q D cl A (va_S A s.heap) nL w2 (pn) lv (rest)) : jJ p l e R s m args below meth c cells slots Q D cl A (va_S A s.heap) nL w (pc) lv (st0) := j_callSN C hE hG hM hY hl hr hR hn hst hf hdg pn hpn hs0 rfl k
theorem j_ald (C : jC p s m args c cc nL own Ts D cl tys A Sx E) {a : Nat} (q0 t0 : Nat) {cA : ClassId} {N : Nat} {f : Nat → Int32} (ha : w[q0]? = some (a, .inl (cA, N, .inl f))) (ht : tys[t0]? = some (cA, .int)) {i : Int32} (hin : vp_in i N) (pn : Nat) (hpn : pc + 1 = pn) (hdg : decode cc pc = .ok (.iaload, 1)) (k : jJ p l e R s m args below meth c cells slots Q D cl A Sx nL w (pn) lv (.int (f i.toNatClampNeg) :: rest)) : jJ p l e R s m args below meth c cells slots Q D cl A Sx nL w (pc) lv (.int i :: .ref a :: rest) := by
  subst hpn
  exact fun H locs ls h1 h2 h3 h4 => va_iald C.x C.b C.k h1 q0 t0 ha ht hin hdg (k H locs ls h1 h2 h3 h4)
theorem j_bld (C : jC p s m args c cc nL own Ts D cl tys A Sx E) {a : Nat} (q0 t0 : Nat) {cA : ClassId} {N : Nat} {f : Nat → Int32} (ha : w[q0]? = some (a, .inl (cA, N, .inl f))) (ht : tys[t0]? = some (cA, .byte)) {i : Int32} (hin : vp_in i N) (pn : Nat) (hpn : pc + 1 = pn) (hdg : decode cc pc = .ok (.baload, 1)) (k : jJ p l e R s m args below meth c cells slots Q D cl A Sx nL w (pn) lv (.int (f i.toNatClampNeg) :: rest)) : jJ p l e R s m args below meth c cells slots Q D cl A Sx nL w (pc) lv (.int i :: .ref a :: rest) := by
  subst hpn
  exact fun H locs ls h1 h2 h3 h4 => va_bald C.x C.b C.k h1 q0 t0 ha ht hin hdg (k H locs ls h1 h2 h3 h4)
theorem j_zld (C : jC p s m args c cc nL own Ts D cl tys A Sx E) {a : Nat} (q0 t0 : Nat) {cA : ClassId} {N : Nat} {g : Nat → Bool} (ha : w[q0]? = some (a, .inl (cA, N, .inl (fun i => bI (g i))))) (ht : tys[t0]? = some (cA, .boolean)) {i : Int32} (hin : vp_in i N) (pn : Nat) (hpn : pc + 1 = pn) (hdg : decode cc pc = .ok (.baload, 1)) (k : jJ p l e R s m args below meth c cells slots Q D cl A Sx nL w (pn) lv (.int (bI (g i.toNatClampNeg)) :: rest)) : jJ p l e R s m args below meth c cells slots Q D cl A Sx nL w (pc) lv (.int i :: .ref a :: rest) := by
  subst hpn
  exact fun H locs ls h1 h2 h3 h4 => va_zald C.x C.b C.k h1 q0 t0 ha ht hin hdg (k H locs ls h1 h2 h3 h4)
theorem j_ast (C : jC p s m args c cc nL own Ts D cl tys A (va_S A s.heap) E) {a : Nat} (q0 t0 : Nat) {cA : ClassId} {N : Nat} {f : Nat → Int32} (ha : w[q0]? = some (a, .inl (cA, N, .inl f))) (ht : tys[t0]? = some (cA, .int)) {i x : Int32} (hin : vp_in i N) (pn : Nat) (hpn : pc + 1 = pn) (hdg : decode cc pc = .ok (.iastore, 1)) (k : jJ p l e R s m args below meth c cells slots Q D cl A (va_S A s.heap) nL (w.set q0 (a, .inl (cA, N, .inl (upd f i.toNatClampNeg x)))) (pn) lv (rest)) : jJ p l e R s m args below meth c cells slots Q D cl A (va_S A s.heap) nL w (pc) lv (.int x :: .int i :: .ref a :: rest) := by
  subst hpn
  exact fun H locs ls h1 h2 h3 h4 => va_iast C.x C.b C.k h1 h2 h3 q0 t0 ha ht hin hdg (fun H1 locs1 g1 g2 g3 => k H1 locs1 ls g1 g2 g3 h4)
theorem j_bst (C : jC p s m args c cc nL own Ts D cl tys A (va_S A s.heap) E) {a : Nat} (q0 t0 : Nat) {cA : ClassId} {N : Nat} {f : Nat → Int32} (ha : w[q0]? = some (a, .inl (cA, N, .inl f))) (ht : tys[t0]? = some (cA, .byte)) {i x : Int32} (hin : vp_in i N) (pn : Nat) (hpn : pc + 1 = pn) (hdg : decode cc pc = .ok (.bastore, 1)) (k : jJ p l e R s m args below meth c cells slots Q D cl A (va_S A s.heap) nL (w.set q0 (a, .inl (cA, N, .inl (upd f i.toNatClampNeg x.toInt8.toInt32)))) (pn) lv (rest)) : jJ p l e R s m args below meth c cells slots Q D cl A (va_S A s.heap) nL w (pc) lv (.int x :: .int i :: .ref a :: rest) := by
  subst hpn
  intro H locs ls h1 h2 h3 h4
  refine va_bast C.x C.b C.k h1 h2 h3 q0 t0 ha ht hin hdg (fun H1 locs1 g1 g2 g3 => ?_)
  rw [vp_nar_byte] at g1 g2
  exact k H1 locs1 ls g1 g2 g3 h4
theorem bI_upd (g : Nat → Bool) (n : Nat) (b : Bool) : upd (fun i => bI (g i)) n (vp_nar .boolean (bI b)) = fun i => bI (va_up g n b i) := by
  funext j
  have e : vp_nar .boolean (bI b) = bI b := by cases b <;> rfl
  rw [e]
  by_cases h : j = n
  · simp [upd, va_up, h]
  · simp [upd, va_up, h]
theorem j_zst (C : jC p s m args c cc nL own Ts D cl tys A (va_S A s.heap) E) {a : Nat} (q0 t0 : Nat) {cA : ClassId} {N : Nat} {g : Nat → Bool} (ha : w[q0]? = some (a, .inl (cA, N, .inl (fun i => bI (g i))))) (ht : tys[t0]? = some (cA, .boolean)) {i x : Int32} (hin : vp_in i N) {b : Bool} (hb : x = bI b) (pn : Nat) (hpn : pc + 1 = pn) (hdg : decode cc pc = .ok (.bastore, 1)) (k : jJ p l e R s m args below meth c cells slots Q D cl A (va_S A s.heap) nL (w.set q0 (a, .inl (cA, N, .inl (fun j => bI (va_up g i.toNatClampNeg b j))))) (pn) lv (rest)) : jJ p l e R s m args below meth c cells slots Q D cl A (va_S A s.heap) nL w (pc) lv (.int x :: .int i :: .ref a :: rest) := by
  subst hpn
  subst hb
  intro H locs ls h1 h2 h3 h4
  refine va_zast C.x C.b C.k h1 h2 h3 q0 t0 ha ht hin hdg (fun H1 locs1 g1 g2 g3 => ?_)
  rw [bI_upd] at g1 g2
  exact k H1 locs1 ls g1 g2 g3 h4
theorem j_last (C : jC p s m args c cc nL own Ts D cl tys A (va_S A s.heap) E) {a : Nat} (q0 t0 : Nat) {cA : ClassId} {N : Nat} {f : Nat → Int64} (ha : w[q0]? = some (a, .inl (cA, N, .inr (.inl f)))) (ht : tys[t0]? = some (cA, .long)) {i : Int32} {x : Int64} (hin : vp_in i N) (pn : Nat) (hpn : pc + 1 = pn) (hdg : decode cc pc = .ok (.lastore, 1)) (k : jJ p l e R s m args below meth c cells slots Q D cl A (va_S A s.heap) nL (w.set q0 (a, .inl (cA, N, .inr (.inl (vp_updL f i.toNatClampNeg x))))) (pn) lv (rest)) : jJ p l e R s m args below meth c cells slots Q D cl A (va_S A s.heap) nL w (pc) lv (.long x :: .int i :: .ref a :: rest) := by
  subst hpn
  exact fun H locs ls h1 h2 h3 h4 => va_last C.x C.b C.k h1 h2 h3 q0 t0 ha ht hin hdg (fun H1 locs1 g1 g2 g3 => k H1 locs1 ls g1 g2 g3 h4)
theorem j_lald (C : jC p s m args c cc nL own Ts D cl tys A Sx E) {a : Nat} (q0 t0 : Nat) {cA : ClassId} {N : Nat} {f : Nat → Int64} (ha : w[q0]? = some (a, .inl (cA, N, .inr (.inl f)))) (ht : tys[t0]? = some (cA, .long)) {i : Int32} (hin : vp_in i N) (pn : Nat) (hpn : pc + 1 = pn) (hdg : decode cc pc = .ok (.laload, 1)) (k : jJ p l e R s m args below meth c cells slots Q D cl A Sx nL w (pn) lv (.long (f i.toNatClampNeg) :: rest)) : jJ p l e R s m args below meth c cells slots Q D cl A Sx nL w (pc) lv (.int i :: .ref a :: rest) := by
  subst hpn
  exact fun H locs ls h1 h2 h3 h4 => va_lald C.x C.b C.k h1 q0 t0 ha ht hin hdg (k H locs ls h1 h2 h3 h4)
/-! methods that only read: the heap stays as it is -/
def jQr (v : Option Value) : Array Value → State → Outcome → State → Prop := fun _ st oc t => oc = .returned v ∧ t.heap = st.heap
def jR (l : Launch) (D : va_G) (cl : List vw_C) (tys : List (ClassId × FieldType)) (E : State → Prop) (y : MethodName) (ws : List Cond) (rm : Room) (av : List Value) (w : va_W) (v : Option Value) : Prop :=
  ∀ sz : Nat, Met l y ws rm (va_Pc av (jPre D cl tys E w sz)) (jQr v) 0 0 (fun _ => False)
theorem jR.of {y : MethodName} {ws ws' : List Cond} {rm : Room} {maxL : Nat} {ret : Option FieldType} {av : List Value} {v : Option Value} (hE : jLoc D cl E) (hy : plainName y.cls = true) (ho : y.cls = own) (hw : ws = Cond.code y cc maxL ret :: ws') (hlen : (lg_sl av).length ≤ maxL) (hlv : lv_args 0 av = lv)
    (body : ∀ (p : Program) (e : Env) (s : State) (m : MethodId) (args : Array Value) (below : List Frame) (meth : Method) (c : Code) (A : Nat → Prop), jC p s m args c cc maxL own ws D cl tys A (rd s) E → meth.sig.returnType = ret → meth.locks = false →
      jJ p l e rm s m args below meth c 0 0 (MQ below (jQr v) args s 0 0 (fun _ => False)) D cl A (rd s) maxL w 0 lv []) : jR l D cl tys E y ws rm av w v := by
  intro sz
  refine Met.ofW (cc := cc) (maxL := maxL) (ret := ret) hy hw ?_
  intro p e s m args below meth c s₁ B hml hv
  obtain ⟨rfl, hsz, hP, hK, hD0, hE0⟩ := hv
  subst hsz
  have hD := hD0.self (sz := s.heap.size)
  have K := body p e s m av.toArray below meth c (va_A w s.heap.size) ⟨B.exec, B.bytes, hml, by rw [← ho]; exact findClass_of_methodNamed B.named, atoms_spec (ws := ws) B.pre, hK, fun q h => Or.inr h, fun U hq hW => hE.2 s U w hE0 hP hq hW, rd_S⟩ B.returns B.notSynchronized
  have hl := lv_entry av (n := maxL) hlen
  rw [hlv] at hl
  rw [lg_entry_eq]
  exact K s.heap [] _ hP hD ⟨rfl, rfl⟩ hl
theorem jR.toM {y : MethodName} {ws : List Cond} {rm : Room} {av : List Value} {v : Option Value} (h : jR l D cl tys E y ws rm av w v) : jM l D cl tys E y ws rm av w v w := by
  intro sz p e a1 a2 a3 s m args below g1 g2 g3 g4
  obtain ⟨n, o, k1, k2, k3, ⟨k4, k5⟩, L, k6, k7⟩ := h sz p e a1 a2 a3 s m args below g1 g2 g3 g4
  obtain ⟨-, hsz, hP, -, hD0, -⟩ := g3
  exact ⟨n, o, k1, k2, k3, ⟨k4, by rw [k5]; exact hP, hD0.self, by rw [k5]; exact Nat.le_refl _, fun q _ _ => by rw [k5]⟩, L, k6, fun q hq => (k7 q hq).elim⟩
theorem j_iretR (C : jC p s m args c cc nL own Ts D cl tys A (rd s) E) (hr : meth.sig.returnType = some .int) (hlk : meth.locks = false) {x r : Int32} (hdg : decode cc pc = .ok (.ireturn, 1)) (hv : x = r) : jJ p l e R s m args below meth c 0 0 (MQ below (jQr (some (.int r))) args s 0 0 (fun _ => False)) D cl A (rd s) nL w pc lv ([.int x]) := by
  intro H locs ls h1 h2 h3 h4
  obtain ⟨rfl, rfl⟩ := h3
  subst hv
  exact W.iret C.x C.b hr (fun t ht _ => ⟨rfl, ht⟩) (fun q h => nomatch h) hdg hlk
theorem j_zretR (C : jC p s m args c cc nL own Ts D cl tys A (rd s) E) (hr : meth.sig.returnType = some .boolean) (hlk : meth.locks = false) {x : Int32} {b : Bool} (hdg : decode cc pc = .ok (.ireturn, 1)) (hv : x = bI b) : jJ p l e R s m args below meth c 0 0 (MQ below (jQr (some (.int (bI b)))) args s 0 0 (fun _ => False)) D cl A (rd s) nL w pc lv ([.int x]) := by
  intro H locs ls h1 h2 h3 h4
  obtain ⟨rfl, rfl⟩ := h3
  subst hv
  exact W.zret C.x C.b hr (bI_nar b) (fun t ht _ => ⟨rfl, ht⟩) (fun q h => nomatch h) hdg hlk
theorem j_vretR (C : jC p s m args c cc nL own Ts D cl tys A (rd s) E) (hr : meth.sig.returnType = none) (hlk : meth.locks = false) (hdg : decode cc pc = .ok (.return_, 1)) : jJ p l e R s m args below meth c 0 0 (MQ below (jQr none) args s 0 0 (fun _ => False)) D cl A (rd s) nL w pc lv ([]) := by
  intro H locs ls h1 h2 h3 h4
  obtain ⟨rfl, rfl⟩ := h3
  exact W.vret C.x C.b hr (fun t ht _ => ⟨rfl, ht⟩) (fun q h => nomatch h) hdg hlk
theorem j_callVR {T : List Cond} {c0 : Cond} (C : jC p s m args c cc nL own (c0 :: T) D cl tys A Sx E) (hE : jLoc D cl E) (hG : jG T) {y : MethodName} {bytes : ByteArray} {maxL : Nat} {ret : Option FieldType} {n index : Nat} {rm : Room} {b : Nat} {As st' : List Value} {v : Option Value} (hM : jR l D cl tys E y (Cond.code y bytes maxL ret :: T) rm (.ref b :: As) w v) (hY : jY T y bytes maxL ret n) (hl : Cond.methodLink own index y ∈ T) (hr : rm.cells = 0 ∧ rm.slots = 0) (hR : rm.frames + 1 ≤ R.frames ∧ 8 + (maxL + 11) + rm.locals ≤ R.locals) (q0 : Nat) {ci : Nat} {fs : List Value} {qC : vw_C} (he : w[q0]? = some (b, .inr (ci, fs))) (hc : cl[ci]? = some qC) (hq : qC.1 = y.cls) (hn : As.length = n) (hst : (rest.map fun v => v.category).sum ≤ 8) (hf : cells ≤ R.cells ∧ slots ≤ R.slots) (hdg : decode cc pc = .ok (.invokevirtual index, 3)) {st0 : List Value} (pn : Nat) (hpn : pc + 3 = pn) (hs0 : st0 = As.reverse ++ .ref b :: rest) (hs' : v.toList ++ rest = st') (k : jJ p l e R s m args below meth c cells slots Q D cl A Sx nL w (pn) lv (st')) : jJ p l e R s m args below meth c cells slots Q D cl A Sx nL w (pc) lv (st0) := by
  subst hpn
  subst hs0
  intro H locs ls hP hD hS hl4 T0 hT X
  subst hs'
  have hb := va_recv C.k hP hc he
  rw [hq] at hb
  obtain ⟨v1, st₀, t, T', L, h0, X', hL, e1, e2, ⟨hv, hh⟩, st⟩ := va_runV (As := As) (rest := rest) ⟨C.x, C.b, C.ml, C.o, C.t⟩ (hM H.size) ⟨jCB hG C.t hY.1 hY.2.2.2.1 hY.2.2.2.2 hl hr.1 hr.2 hR, C.t _ (List.mem_cons_of_mem _ hY.2.1), C.t _ (List.mem_cons_of_mem _ hY.2.2.1)⟩
    ⟨jBlind hE, hb, jPre_at C hP hD (C.sx H locs hS)⟩ rfl hn hl4.1 rfl (lv_room hst) hdg ⟨hf.1, hf.2⟩ T0 hT X
  cases hv
  have hL0 : L = [] := by
    cases L with
    | nil => rfl
    | cons a r => exact (hL a List.mem_cons_self).elim
  subst hL0
  rw [List.append_nil] at X'
  obtain ⟨t2, a1, b1⟩ := k H locs ls hP hD hS hl4 T' (by rw [e1, hh, h0]) X'
  exact ⟨t2, st t2 a1, b1⟩
theorem j_callSR {T : List Cond} {c0 : Cond} (C : jC p s m args c cc nL own (c0 :: T) D cl tys A Sx E) (hE : jLoc D cl E) (hG : jG T) {y : MethodName} {bytes : ByteArray} {maxL : Nat} {ret : Option FieldType} {n index : Nat} {rm : Room} {As st' : List Value} {v : Option Value} (hM : jR l D cl tys E y (Cond.code y bytes maxL ret :: T) rm As w v) (hY : jYs T y bytes maxL ret n) (hl : Cond.methodLink own index y ∈ T) (hr : rm.cells = 0 ∧ rm.slots = 0) (hR : rm.frames + 1 ≤ R.frames ∧ 8 + (maxL + 11) + rm.locals ≤ R.locals) (hn : As.length = n) (hst : (rest.map fun v => v.category).sum ≤ 8) (hf : cells ≤ R.cells ∧ slots ≤ R.slots) (hdg : decode cc pc = .ok (.invokestatic index, 3)) {st0 : List Value} (pn : Nat) (hpn : pc + 3 = pn) (hs0 : st0 = As.reverse ++ rest) (hs' : v.toList ++ rest = st') (k : jJ p l e R s m args below meth c cells slots Q D cl A Sx nL w (pn) lv (st')) : jJ p l e R s m args below meth c cells slots Q D cl A Sx nL w (pc) lv (st0) := by
  subst hpn
  subst hs0
  intro H locs ls hP hD hS hl4 T0 hT X
  subst hs'
  obtain ⟨v1, st₀, t, T', L, h0, X', hL, e1, e2, ⟨hv, hh⟩, st⟩ := va_runS (As := As) (rest := rest) ⟨C.x, C.b, C.ml, C.o, C.t⟩ (hM H.size) ⟨jCB hG C.t hY.1 hY.2.2.1 hY.2.2.2 hl hr.1 hr.2 hR, C.t _ (List.mem_cons_of_mem _ hY.2.1)⟩
    ⟨jBlind hE, jPre_at C hP hD (C.sx H locs hS)⟩ rfl hn hl4.1 rfl (lv_room hst) hdg ⟨hf.1, hf.2⟩ T0 hT X
  cases hv
  have hL0 : L = [] := by
    cases L with
    | nil => rfl
    | cons a r => exact (hL a List.mem_cons_self).elim
  subst hL0
  rw [List.append_nil] at X'
  obtain ⟨t2, a1, b1⟩ := k H locs ls hP hD hS hl4 T' (by rw [e1, hh, h0]) X'
  exact ⟨t2, st t2 a1, b1⟩
theorem j_callVRi {T : List Cond} {c0 : Cond} (C : jC p s m args c cc nL own (c0 :: T) D cl tys A Sx E) (hE : jLoc D cl E) (hG : jG T) {y : MethodName} {bytes : ByteArray} {maxL : Nat} {ret : Option FieldType} {n index : Nat} {rm : Room} {b : Nat} {As : List Value} {x : Value} (hM : jR l D cl tys E y (Cond.code y bytes maxL ret :: T) rm (.ref b :: As) w (some x)) (hY : jY T y bytes maxL ret n) (hl : Cond.methodLink own index y ∈ T) (hr : rm.cells = 0 ∧ rm.slots = 0) (hR : rm.frames + 1 ≤ R.frames ∧ 8 + (maxL + 11) + rm.locals ≤ R.locals) (q0 : Nat) {ci : Nat} {fs : List Value} {qC : vw_C} (he : w[q0]? = some (b, .inr (ci, fs))) (hc : cl[ci]? = some qC) (hq : qC.1 = y.cls) (hn : As.length = n) (hst : (rest.map fun v => v.category).sum ≤ 8) (hf : cells ≤ R.cells ∧ slots ≤ R.slots) (hdg : decode cc pc = .ok (.invokevirtual index, 3)) {st0 : List Value} (pn : Nat) (hpn : pc + 3 = pn) (hs0 : st0 = As.reverse ++ .ref b :: rest) (k : jJ p l e R s m args below meth c cells slots Q D cl A Sx nL w (pn) lv (x :: rest)) : jJ p l e R s m args below meth c cells slots Q D cl A Sx nL w (pc) lv (st0) := j_callVR C hE hG hM hY hl hr hR q0 he hc hq hn hst hf hdg pn hpn hs0 rfl k
theorem j_callSRi {T : List Cond} {c0 : Cond} (C : jC p s m args c cc nL own (c0 :: T) D cl tys A Sx E) (hE : jLoc D cl E) (hG : jG T) {y : MethodName} {bytes : ByteArray} {maxL : Nat} {ret : Option FieldType} {n index : Nat} {rm : Room} {As : List Value} {x : Value} (hM : jR l D cl tys E y (Cond.code y bytes maxL ret :: T) rm As w (some x)) (hY : jYs T y bytes maxL ret n) (hl : Cond.methodLink own index y ∈ T) (hr : rm.cells = 0 ∧ rm.slots = 0) (hR : rm.frames + 1 ≤ R.frames ∧ 8 + (maxL + 11) + rm.locals ≤ R.locals) (hn : As.length = n) (hst : (rest.map fun v => v.category).sum ≤ 8) (hf : cells ≤ R.cells ∧ slots ≤ R.slots) (hdg : decode cc pc = .ok (.invokestatic index, 3)) {st0 : List Value} (pn : Nat) (hpn : pc + 3 = pn) (hs0 : st0 = As.reverse ++ rest) (k : jJ p l e R s m args below meth c cells slots Q D cl A Sx nL w (pn) lv (x :: rest)) : jJ p l e R s m args below meth c cells slots Q D cl A Sx nL w (pc) lv (st0) := j_callSR C hE hG hM hY hl hr hR hn hst hf hdg pn hpn hs0 rfl k
theorem j_callVRv {T : List Cond} {c0 : Cond} (C : jC p s m args c cc nL own (c0 :: T) D cl tys A Sx E) (hE : jLoc D cl E) (hG : jG T) {y : MethodName} {bytes : ByteArray} {maxL : Nat} {ret : Option FieldType} {n index : Nat} {rm : Room} {b : Nat} {As : List Value} (hM : jR l D cl tys E y (Cond.code y bytes maxL ret :: T) rm (.ref b :: As) w none) (hY : jY T y bytes maxL ret n) (hl : Cond.methodLink own index y ∈ T) (hr : rm.cells = 0 ∧ rm.slots = 0) (hR : rm.frames + 1 ≤ R.frames ∧ 8 + (maxL + 11) + rm.locals ≤ R.locals) (q0 : Nat) {ci : Nat} {fs : List Value} {qC : vw_C} (he : w[q0]? = some (b, .inr (ci, fs))) (hc : cl[ci]? = some qC) (hq : qC.1 = y.cls) (hn : As.length = n) (hst : (rest.map fun v => v.category).sum ≤ 8) (hf : cells ≤ R.cells ∧ slots ≤ R.slots) (hdg : decode cc pc = .ok (.invokevirtual index, 3)) {st0 : List Value} (pn : Nat) (hpn : pc + 3 = pn) (hs0 : st0 = As.reverse ++ .ref b :: rest) (k : jJ p l e R s m args below meth c cells slots Q D cl A Sx nL w (pn) lv (rest)) : jJ p l e R s m args below meth c cells slots Q D cl A Sx nL w (pc) lv (st0) := j_callVR C hE hG hM hY hl hr hR q0 he hc hq hn hst hf hdg pn hpn hs0 rfl k
theorem j_callSRv {T : List Cond} {c0 : Cond} (C : jC p s m args c cc nL own (c0 :: T) D cl tys A Sx E) (hE : jLoc D cl E) (hG : jG T) {y : MethodName} {bytes : ByteArray} {maxL : Nat} {ret : Option FieldType} {n index : Nat} {rm : Room} {As : List Value} (hM : jR l D cl tys E y (Cond.code y bytes maxL ret :: T) rm As w none) (hY : jYs T y bytes maxL ret n) (hl : Cond.methodLink own index y ∈ T) (hr : rm.cells = 0 ∧ rm.slots = 0) (hR : rm.frames + 1 ≤ R.frames ∧ 8 + (maxL + 11) + rm.locals ≤ R.locals) (hn : As.length = n) (hst : (rest.map fun v => v.category).sum ≤ 8) (hf : cells ≤ R.cells ∧ slots ≤ R.slots) (hdg : decode cc pc = .ok (.invokestatic index, 3)) {st0 : List Value} (pn : Nat) (hpn : pc + 3 = pn) (hs0 : st0 = As.reverse ++ rest) (k : jJ p l e R s m args below meth c cells slots Q D cl A Sx nL w (pn) lv (rest)) : jJ p l e R s m args below meth c cells slots Q D cl A Sx nL w (pc) lv (st0) := j_callSR C hE hG hM hY hl hr hR hn hst hf hdg pn hpn hs0 rfl k
end JB
end
section
/-! what the methods compute: plain functions over the numbers of the state -/
abbrev S2 : Type := Nat → Nat → Int32
abbrev B2 : Type := Nat → Nat → Bool
def ix (x : Int32) : Nat := (x &&& 127).toNatClampNeg
def iy (x : Int32) : Nat := (x &&& 4095).toNatClampNeg
def isx (op k : Int32) : Nat := ((op &&& 127) * 4 + (k &&& 3)).toNatClampNeg
def sS (σ : S2) (k : Nat) (v : Int32) : S2 := va_up σ k (fun _ => v)
def sA (σ : S2) (k i : Nat) (v : Int32) : S2 := va_up σ k (upd (σ k) i v)
def bA (β : B2) (k i : Nat) (b : Bool) : B2 := va_up β k (va_up (β k) i b)
theorem ix_in (x : Int32) : vp_in (x &&& 127) 128 := pk_andIn x 7 (by decide) (by decide)
theorem iy_in (x : Int32) : vp_in (x &&& 4095) 4096 := pk_andIn x 12 (by decide) (by decide)
theorem isx_in (op k : Int32) : vp_in ((op &&& 127) * 4 + (k &&& 3)) 512 := by
  obtain ⟨a, ha, ea⟩ := pk_andE op (m := 127) 7 (by decide)
  obtain ⟨b, hb, eb⟩ := pk_andE k (m := 3) 2 (by decide)
  rw [ea, eb, show (4 : Int32) = nI 4 from rfl, pk_mul, nI_add]
  exact vp_in_nI (by omega) (by omega)
theorem ix_lt (x : Int32) : ix x < 128 := Nat.not_le.mp fun q => ix_in x (Or.inr q)
theorem inc1 (x : Int32) : x + Int32.ofInt 1 = x + 1 := by rw [lit1]
theorem inc4 (x : Int32) : x + Int32.ofInt 4 = x + 4 := by rw [lit4]
theorem dec1 (x : Int32) : x + Int32.ofInt (-1) = x - 1 := by rw [litm1, Int32.sub_eq_add_neg]
/-! loops upward: from i to b -/
def dist (a b : Int32) : Nat := (b.toInt - a.toInt).toNat
theorem dist_out {i b : Int32} (c : b ≤ i) : dist i b = 0 := by
  have := Int32.le_iff_toInt_le.mp c
  unfold dist
  omega
theorem dist_in {i b : Int32} (c : ¬ b ≤ i) : dist i b = dist (i + 1) b + 1 := by
  rw [Int32.le_iff_toInt_le] at c
  have h1 := b.toInt_lt
  have h2 := i.le_toInt
  have e1 : (1 : Int32).toInt = 1 := by decide
  have e : (i + 1).toInt = i.toInt + 1 := by
    rw [Jvm.Kit.i32_add (by rw [e1]; omega) (by rw [e1]; omega), e1]
  unfold dist
  rw [e]
  omega
theorem dist_lt {i b : Int32} {k : Nat} (c : ¬ b ≤ i) (h : dist i b < k + 1) : dist (i + 1) b < k := by
  have := dist_in c
  omega
def exU (P : Int32 → Bool) : Nat → Int32 → Bool
  | 0, _ => false
  | k + 1, i => P i || exU P k (i + 1)
def exL (P : Int32 → Bool) (i b : Int32) : Bool := exU P (dist i b) i
theorem exL_out {P : Int32 → Bool} {i b : Int32} (c : b ≤ i) : exL P i b = false := by
  unfold exL
  rw [dist_out c]
  rfl
theorem exL_in {P : Int32 → Bool} {i b : Int32} (c : ¬ b ≤ i) : exL P i b = (P i || exL P (i + 1) b) := by
  unfold exL
  rw [dist_in c]
  rfl
def frU (P : Int32 → Bool) : Nat → Int32 → Int32
  | 0, _ => -1
  | k + 1, i => if P i then i else frU P k (i + 1)
def frL (P : Int32 → Bool) (i b : Int32) : Int32 := frU P (dist i b) i
theorem frL_out {P : Int32 → Bool} {i b : Int32} (c : b ≤ i) : frL P i b = -1 := by
  unfold frL
  rw [dist_out c]
  rfl
theorem frL_in {P : Int32 → Bool} {i b : Int32} (c : ¬ b ≤ i) : frL P i b = if P i then i else frL P (i + 1) b := by
  unfold frL
  rw [dist_in c]
  rfl
def cnU (P : Int32 → Bool) : Nat → Int32 → Int32 → Int32
  | 0, _, a => a
  | k + 1, i, a => cnU P k (i + 1) (if P i then a + 1 else a)
def cnL (P : Int32 → Bool) (i b a : Int32) : Int32 := cnU P (dist i b) i a
theorem cnL_out {P : Int32 → Bool} {i b a : Int32} (c : b ≤ i) : cnL P i b a = a := by
  unfold cnL
  rw [dist_out c]
  rfl
theorem cnL_in {P : Int32 → Bool} {i b a : Int32} (c : ¬ b ≤ i) : cnL P i b a = cnL P (i + 1) b (if P i then a + 1 else a) := by
  unfold cnL
  rw [dist_in c]
  rfl
def unB : Nat → Int32 → B2 → Int32 → B2 × Int32
  | 0, _, β, a => (β, a)
  | k + 1, i, β, a => if β 2 (ix i) then unB k (i + 1) (bA β 2 (ix i) false) (a + 1) else unB k (i + 1) β a
def unL (i e : Int32) (β : B2) (a : Int32) : B2 × Int32 := unB (dist i e) i β a
theorem unL_out {i e a : Int32} {β : B2} (c : e ≤ i) : unL i e β a = (β, a) := by
  unfold unL
  rw [dist_out c]
  rfl
theorem unL_in {i e a : Int32} {β : B2} (c : ¬ e ≤ i) : unL i e β a = if β 2 (ix i) then unL (i + 1) e (bA β 2 (ix i) false) (a + 1) else unL (i + 1) e β a := by
  unfold unL
  rw [dist_in c]
  rfl
/-! downward: from i to a -/
def dnst (a i : Int32) : Nat := (i.toInt - a.toInt + 1).toNat
theorem dnst_out {a i : Int32} (c : i < a) : dnst a i = 0 := by
  have := Int32.lt_iff_toInt_lt.mp c
  unfold dnst
  omega
theorem dnst_in {a i : Int32} (ha : 0 ≤ a) (c : ¬ i < a) : dnst a i = dnst a (i - 1) + 1 := by
  rw [Int32.lt_iff_toInt_lt] at c
  have h0 : (0 : Int) ≤ a.toInt := by
    have := Int32.le_iff_toInt_le.mp ha
    simpa using this
  have h1 := i.toInt_lt
  have e1 : (1 : Int32).toInt = 1 := by decide
  have e : (i - 1).toInt = i.toInt - 1 := by
    rw [Jvm.Kit.i32_sub (by rw [e1]; omega) (by rw [e1]; omega), e1]
  unfold dnst
  rw [e]
  omega
theorem dnst_lt {a i : Int32} {k : Nat} (ha : 0 ≤ a) (c : ¬ i < a) (h : dnst a i < k + 1) : dnst a (i - 1) < k := by
  have := dnst_in ha c
  omega
def laD (P : Int32 → Bool) : Nat → Int32 → Int32
  | 0, _ => -1
  | k + 1, i => if P i then i else laD P k (i - 1)
def laL (P : Int32 → Bool) (a i : Int32) : Int32 := laD P (dnst a i) i
theorem laL_out {P : Int32 → Bool} {a i : Int32} (c : i < a) : laL P a i = -1 := by
  unfold laL
  rw [dnst_out c]
  rfl
theorem laL_in {P : Int32 → Bool} {a i : Int32} (ha : 0 ≤ a) (c : ¬ i < a) : laL P a i = if P i then i else laL P a (i - 1) := by
  unfold laL
  rw [dnst_in ha c]
  rfl
/-! bytes -/
def bon (n b k : Int32) : Int32 := (n.toUInt32 >>> ((8 * (b - 1 - k)).toUInt32 &&& Int32.toUInt32 31)).toInt32 &&& 255
def mW (at0 sz number : Int32) : Nat → Int32 → S2 → S2
  | 0, _, σ => σ
  | c + 1, k, σ => mW at0 sz number c (k + 1) (sA σ 24 (iy (at0 + k)) (bon number sz k).toInt8.toInt32)
def mWL (at0 sz number k : Int32) (σ : S2) : S2 := mW at0 sz number (dist k sz) k σ
theorem mWL_out {at0 sz number k : Int32} {σ : S2} (c : sz ≤ k) : mWL at0 sz number k σ = σ := by
  unfold mWL
  rw [dist_out c]
  rfl
theorem mWL_in {at0 sz number k : Int32} {σ : S2} (c : ¬ sz ≤ k) : mWL at0 sz number k σ = mWL at0 sz number (k + 1) (sA σ 24 (iy (at0 + k)) (bon number sz k).toInt8.toInt32) := by
  unfold mWL
  rw [dist_in c]
  rfl
def nA (f : Nat → Int32) (at0 : Int32) : Nat → Int32 → Int32 → Int32
  | 0, _, n => n
  | c + 1, k, n => nA f at0 c (k + 1) ((n <<< ((8 : Int32) &&& 31)) ||| (f (iy (at0 + k)) &&& 255))
def nAL (f : Nat → Int32) (at0 sz k n : Int32) : Int32 := nA f at0 (dist k sz) k n
theorem nAL_out {f : Nat → Int32} {at0 sz k n : Int32} (c : sz ≤ k) : nAL f at0 sz k n = n := by
  unfold nAL
  rw [dist_out c]
  rfl
theorem nAL_in {f : Nat → Int32} {at0 sz k n : Int32} (c : ¬ sz ≤ k) : nAL f at0 sz k n = nAL f at0 sz (k + 1) ((n <<< ((8 : Int32) &&& 31)) ||| (f (iy (at0 + k)) &&& 255)) := by
  unfold nAL
  rw [dist_in c]
  rfl
/-! what the class's methods say -/
def covC (σ : S2) (β : B2) (op at0 : Int32) : Bool := β 0 (ix op) && (!decide (at0 < σ 13 (ix op)) && !decide (σ 13 (ix op) + σ 11 (ix op) ≤ at0))
def kwb (kind bytes : Int32) : Bool := if kind = 2 then decide (bytes = 0) else !decide (kind < 0) && (!decide (3 < kind) && (decide (bytes = 1) || (decide (bytes = 2) || decide (bytes = 4))))
def cba (at0 bytes : Int32) : Bool := !decide (at0 < 0) && (decide (at0 ≤ 4096 - bytes) && (!decide (at0 < 3072) || !decide (3072 < at0 + bytes)))
def apS (σ : S2) (st at0 size v : Int32) : S2 := if σ 6 0 < 0 ∨ ¬ σ 6 0 < 4 then σ else
  sS (sA (sA (sA (sA σ 20 (σ 6 0).toNatClampNeg st) 21 (σ 6 0).toNatClampNeg at0) 22 (σ 6 0).toNatClampNeg size) 23 (σ 6 0).toNatClampNeg v) 6 (σ 6 0 + 1)
theorem apS_out {σ : S2} {st at0 size v : Int32} (h : σ 6 0 < 0 ∨ ¬ σ 6 0 < 4) : apS σ st at0 size v = σ := if_pos h
theorem apS_in {σ : S2} {st at0 size v : Int32} (h1 : ¬ σ 6 0 < 0) (h2 : σ 6 0 < 4) : apS σ st at0 size v = sS (sA (sA (sA (sA σ 20 (σ 6 0).toNatClampNeg st) 21 (σ 6 0).toNatClampNeg at0) 22 (σ 6 0).toNatClampNeg size) 23 (σ 6 0).toNatClampNeg v) 6 (σ 6 0 + 1) := if_neg (fun h => h.elim h1 (fun q => q h2))
theorem in4 {x : Int32} (h1 : ¬ x < 0) (h2 : x < 4) : vp_in x 4 := by
  rw [vp_in_iff]
  rw [Int32.lt_iff_toInt_lt] at h1 h2
  have e0 : (0 : Int32).toInt = 0 := by decide
  have e4 : (4 : Int32).toInt = 4 := by decide
  omega
theorem i8i8 (x : Int32) : x.toInt8.toInt32.toInt8.toInt32 = x.toInt8.toInt32 := pk_vb x
theorem in0_4 : vp_in (0 : Int32) 4 := vp_in_iff.mpr (by decide)
/-! the buffer's byte: of the newest one that has it -/
def bbS (σ : S2) (at0 : Int32) (i : Int32) : Bool := !decide (σ 6 0 ≤ i) && (!decide (at0 < σ 21 i.toNatClampNeg) && !decide (σ 21 i.toNatClampNeg + σ 22 i.toNatClampNeg ≤ at0))
def bbV (σ : S2) (at0 : Int32) (i : Int32) : Int32 := bon (σ 23 i.toNatClampNeg) (σ 22 i.toNatClampNeg) (at0 - σ 21 i.toNatClampNeg)
def bbU (σ : S2) (at0 : Int32) : Nat → Int32 → Int32 → Int32
  | 0, _, n => n
  | k + 1, i, n => bbU σ at0 k (i + 1) (if bbS σ at0 i then bbV σ at0 i else n)
def bbL (σ : S2) (at0 i n : Int32) : Int32 := bbU σ at0 (dist i 4) i n
theorem bbL_out {σ : S2} {at0 i n : Int32} (c : 4 ≤ i) : bbL σ at0 i n = n := by
  unfold bbL
  rw [dist_out c]
  rfl
theorem bbL_in {σ : S2} {at0 i n : Int32} (c : ¬ 4 ≤ i) : bbL σ at0 i n = bbL σ at0 (i + 1) (if bbS σ at0 i then bbV σ at0 i else n) := by
  unfold bbL
  rw [dist_in c]
  rfl
theorem in4' {x : Int32} (h1 : 0 ≤ x) (h2 : ¬ 4 ≤ x) : vp_in x 4 := in4 (Int32.not_lt.mpr h1) (Int32.not_le.mp h2)
theorem nn1 {x b : Int32} (h1 : 0 ≤ x) (h2 : ¬ b ≤ x) : 0 ≤ x + 1 := by
  rw [Int32.le_iff_toInt_le] at h1 h2 ⊢
  have e0 : (0 : Int32).toInt = 0 := by decide
  have e1 : (1 : Int32).toInt = 1 := by decide
  have h3 := b.toInt_lt
  rw [Jvm.Kit.i32_add (by omega) (by omega)]
  omega
def shS (σ : S2) (i : Int32) : S2 :=
  sA (sA (sA (sA σ 20 (i - 1).toNatClampNeg (σ 20 i.toNatClampNeg)) 21 (i - 1).toNatClampNeg (σ 21 i.toNatClampNeg)) 22 (i - 1).toNatClampNeg (σ 22 i.toNatClampNeg)) 23 (i - 1).toNatClampNeg (σ 23 i.toNatClampNeg)
def shU : Nat → Int32 → S2 → S2
  | 0, _, σ => σ
  | k + 1, i, σ => shU k (i + 1) (shS σ i)
def shL (i : Int32) (σ : S2) : S2 := shU (dist i 4) i σ
theorem shL_out {i : Int32} {σ : S2} (c : 4 ≤ i) : shL i σ = σ := by
  unfold shL
  rw [dist_out c]
  rfl
theorem shL_in {i : Int32} {σ : S2} (c : ¬ 4 ≤ i) : shL i σ = shL (i + 1) (shS σ i) := by
  unfold shL
  rw [dist_in c]
  rfl
theorem in4m {x : Int32} (h1 : 1 ≤ x) (h2 : ¬ 4 ≤ x) : vp_in (x - 1) 4 := by
  rw [vp_in_iff]
  rw [Int32.le_iff_toInt_le] at h1 h2
  have e4 : (4 : Int32).toInt = 4 := by decide
  have e1 : (1 : Int32).toInt = 1 := by decide
  rw [Jvm.Kit.i32_sub (by omega) (by omega)]
  omega
theorem le0_of1 {x : Int32} (h1 : 1 ≤ x) : 0 ≤ x := by
  rw [Int32.le_iff_toInt_le] at h1 ⊢
  have e0 : (0 : Int32).toInt = 0 := by decide
  have e1 : (1 : Int32).toInt = 1 := by decide
  omega
theorem nn2 {x b : Int32} (h1 : 1 ≤ x) (h2 : ¬ b ≤ x) : 1 ≤ x + 1 := by
  rw [Int32.le_iff_toInt_le] at h1 h2 ⊢
  have e1 : (1 : Int32).toInt = 1 := by decide
  have h3 := b.toInt_lt
  rw [Jvm.Kit.i32_add (by omega) (by omega)]
  omega
def mvS (σ : S2) : S2 := if 0 < σ 6 0 then sS (shL 1 (mWL (σ 21 0) (σ 22 0) (σ 23 0) 0 σ)) 6 ((shL 1 (mWL (σ 21 0) (σ 22 0) (σ 23 0) 0 σ)) 6 0 - 1) else σ
def hlC (σ : S2) (β : B2) (op : Int32) : Bool := if σ 10 (ix op) = 3 then !(!decide (op < σ 1 0) && !decide (σ 0 0 ≤ op)) else β 2 (ix op)
def mkS (mk : Int64) (prog : Int32) : Int64 := mk ||| ((1 : Int64) <<< ((prog &&& 63).toInt64 &&& 63))
def hbP (σ : S2) (j : Int32) : Bool := decide (σ 10 (ix j) = 2) || decide (σ 10 (ix j) = 3)
def hbC (σ : S2) (β : B2) (load : Int32) : Bool := (!decide (σ 13 (ix load) < 3072) && (!decide (load = σ 1 0) || !decide (σ 6 0 = 0))) || exL (hbP σ) (σ 1 0) load
def naP (σ : S2) (β : B2) (j : Int32) : Bool := decide (σ 10 (ix j) = 1) && !β 0 (ix j)
def nsP (σ : S2) (β : B2) (at0 j : Int32) : Bool := decide (σ 10 (ix j) = 1) && covC σ β j at0
def nsC (σ : S2) (β : B2) (load at0 : Int32) : Int32 := laL (nsP σ β at0) (σ 1 0) (load - 1)
def nnP (σ : S2) (β : B2) (load k : Int32) : Bool := !decide (nsC σ β load (σ 13 (ix load) + k) = -1) && !β 1 (ix (nsC σ β load (σ 13 (ix load) + k)))
def tkB (σ : S2) (β : B2) (load at0 : Int32) : Int32 := if nsC σ β load at0 = -1 then (if bbL σ at0 0 (-1) = -1 then σ 24 (iy at0) &&& 255 else bbL σ at0 0 (-1))
  else bon (σ 15 (ix (nsC σ β load at0))) (σ 11 (ix (nsC σ β load at0))) (at0 - σ 13 (ix (nsC σ β load at0)))
def tkS (σ : S2) (β : B2) (load k at0 : Int32) : S2 := if nsC σ β load at0 = -1 then (if bbL σ at0 0 (-1) = -1 then sA (sS σ 5 (σ 5 0 + 1)) 19 (isx load k) (-1) else sA (sS σ 5 (σ 5 0 + 1)) 19 (isx load k) (-2))
  else sS (sA σ 19 (isx load k) (nsC σ β load at0)) 4 (σ 4 0 + 1)
theorem tkS_j {σ : S2} {β : B2} {load k at0 : Int32} {j : Nat} (h : j ≠ 4 ∧ j ≠ 5 ∧ j ≠ 19) : tkS σ β load k at0 j = σ j := by
  unfold tkS
  split
  · split <;> simp [sA, sS, va_up, h]
  · simp [sA, sS, va_up, h]
theorem tkS_1 {σ : S2} {β : B2} {load k at0 : Int32} : tkS σ β load k at0 1 = σ 1 := tkS_j (by decide)
theorem tkS_11 {σ : S2} {β : B2} {load k at0 : Int32} : tkS σ β load k at0 11 = σ 11 := tkS_j (by decide)
theorem tkS_13 {σ : S2} {β : B2} {load k at0 : Int32} : tkS σ β load k at0 13 = σ 13 := tkS_j (by decide)
def dlU (β : B2) (load at0 : Int32) : Nat → Int32 → Int32 → S2 → Int32 × S2
  | 0, _, n, σ => (n, σ)
  | c + 1, k, n, σ => dlU β load at0 c (k + 1) ((n <<< ((8 : Int32) &&& 31)) ||| tkB σ β load (at0 + k)) (tkS σ β load k (at0 + k))
def dlL (β : B2) (load at0 sz k n : Int32) (σ : S2) : Int32 × S2 := dlU β load at0 (dist k sz) k n σ
theorem dlL_out {β : B2} {load at0 sz k n : Int32} {σ : S2} (c : sz ≤ k) : dlL β load at0 sz k n σ = (n, σ) := by
  unfold dlL
  rw [dist_out c]
  rfl
theorem dlL_in {β : B2} {load at0 sz k n : Int32} {σ : S2} (c : ¬ sz ≤ k) : dlL β load at0 sz k n σ = dlL β load at0 sz (k + 1) ((n <<< ((8 : Int32) &&& 31)) ||| tkB σ β load (at0 + k)) (tkS σ β load k (at0 + k)) := by
  unfold dlL
  rw [dist_in c]
  rfl
def dlS (σ : S2) (β : B2) (load : Int32) : S2 := sA (dlL β load (σ 13 (ix load)) (σ 11 (ix load)) 0 0 σ).2 18 (ix load) (dlL β load (σ 13 (ix load)) (σ 11 (ix load)) 0 0 σ).1
def mbP (σ : S2) (β : B2) (load st k : Int32) : Bool := covC σ β st (σ 13 (ix load) + k) && !decide (st ≤ σ 19 (isx load k))
def mbC (σ : S2) (β : B2) (load st : Int32) : Bool := exL (mbP σ β load st) 0 (σ 11 (ix load))
def lpP (σ : S2) (β : B2) (st j : Int32) : Bool := β 2 (ix j) && mbC σ β j st
def lmP (σ : S2) (β : B2) (at0 j : Int32) : Bool := β 2 (ix j) && (covC σ β j at0 && decide (σ 19 (isx j (at0 - σ 13 (ix j))) = -1))
theorem bbU_5 {σ : S2} {v at0 : Int32} : ∀ (k : Nat) (i n : Int32), bbU (sS σ 5 v) at0 k i n = bbU σ at0 k i n
  | 0, _, _ => rfl
  | k + 1, i, n => bbU_5 k (i + 1) _
theorem bbL_5 {σ : S2} {v at0 i n : Int32} : bbL (sS σ 5 v) at0 i n = bbL σ at0 i n := bbU_5 _ _ _
theorem tsw3 {x : Int32} (h0 : ¬ x = 0) (h1 : ¬ x = 1) (h2 : ¬ x = 2) : x.toInt < 0 ∨ 2 < x.toInt := by
  rw [← Int32.toInt_inj] at h0 h1 h2
  have e0 : (0 : Int32).toInt = 0 := by decide
  have e1 : (1 : Int32).toInt = 1 := by decide
  have e2 : (2 : Int32).toInt = 2 := by decide
  omega
theorem tsw10 {x : Int32} (h0 : ¬ x = 0) (h1 : ¬ x = 1) (h2 : ¬ x = 2) (h3 : ¬ x = 3) (h4 : ¬ x = 4) (h5 : ¬ x = 5) (h6 : ¬ x = 6) (h7 : ¬ x = 7) (h8 : ¬ x = 8) (h9 : ¬ x = 9) : x.toInt < 0 ∨ 9 < x.toInt := by
  rw [← Int32.toInt_inj] at h0 h1 h2 h3 h4 h5 h6 h7 h8 h9
  have e0 : (0 : Int32).toInt = 0 := by decide
  have e1 : (1 : Int32).toInt = 1 := by decide
  have e2 : (2 : Int32).toInt = 2 := by decide
  have e3 : (3 : Int32).toInt = 3 := by decide
  have e4 : (4 : Int32).toInt = 4 := by decide
  have e5 : (5 : Int32).toInt = 5 := by decide
  have e6 : (6 : Int32).toInt = 6 := by decide
  have e7 : (7 : Int32).toInt = 7 := by decide
  have e8 : (8 : Int32).toInt = 8 := by decide
  have e9 : (9 : Int32).toInt = 9 := by decide
  omega
def mlC (σ : S2) (β : B2) (op : Int32) : Bool := if σ 10 (ix op) = 0 then β 2 (ix op) else if σ 10 (ix op) = 1 then ((β 0 (ix op) && β 1 (ix op)) && (if (!decide (σ 13 (ix op) < 3072)) = true then decide (σ 6 0 = 0) else !decide (4 ≤ σ 6 0)))
  else if σ 10 (ix op) = 2 then decide (σ 6 0 = 0) else ((β 0 (ix op) && β 1 (ix op)) && decide (σ 6 0 = 0))
def coT (σ : S2) (op : Int32) : S2 := if σ 10 (ix op) = 3 then mWL (σ 13 (ix op)) (σ 11 (ix op)) (σ 15 (ix op)) 0 (sA σ 18 (ix op) (nAL (σ 24) (σ 13 (ix op)) (σ 11 (ix op)) 0 0)) else mWL (σ 13 (ix op)) (σ 11 (ix op)) (σ 15 (ix op)) 0 σ
def coS (σ : S2) (_ : B2) (op : Int32) : S2 := if (decide (σ 10 (ix op) = 1) || decide (σ 10 (ix op) = 3)) = true then (if σ 10 (ix op) = 1 then (if (!decide (σ 13 (ix op) < 3072)) = true then coT σ op else apS σ op (σ 13 (ix op)) (σ 11 (ix op)) (σ 15 (ix op))) else coT σ op) else σ
def lvR (σ : S2) (β : B2) : Int32 × S2 := if σ 0 0 - σ 1 0 ≤ 0 then (-1, σ) else if mlC σ β (σ 1 0) = true then (σ 1 0, sS (coS σ β (σ 1 0)) 1 (σ 1 0 + 1)) else (-1, σ)
def drR (σ : S2) : Int32 × S2 := if decide (σ 6 0 = 0) = true then (-1, σ) else (if σ 6 0 = 0 then -1 else σ 20 0, mvS σ)
def mkB (mk : Int64) (prog : Int32) : Bool := !decide (lg_cmp ((mk.toUInt64 >>> ((prog &&& 63).toInt64.toUInt64 &&& Int64.toUInt64 63)).toInt64 &&& 1) 0 = 0)
def adT (σ : S2) (β : B2) (mk : Int64) (op : Int32) : Int32 × S2 × B2 × Int64 := if σ 10 (ix op) = 1 then (if frL (lpP σ β op) (op + 1) (σ 0 0) = -1 then (0, σ, β, mk) else
    ((unL (frL (lpP σ β op) (op + 1) (σ 0 0)) (σ 0 0) β 0).2, sS (sS σ 2 (σ 2 0 + (unL (frL (lpP σ β op) (op + 1) (σ 0 0)) (σ 0 0) β 0).2)) 3 (σ 3 0 + 1), (unL (frL (lpP σ β op) (op + 1) (σ 0 0)) (σ 0 0) β 0).1, mkS mk (σ 12 (ix (frL (lpP σ β op) (op + 1) (σ 0 0)))))) else (0, σ, β, mk)
def trR (σ : S2) (β : B2) (mk : Int64) (op : Int32) : Int32 × S2 × B2 := if hbC σ β op = true then (2, σ, β) else if mkB mk (σ 12 (ix op)) = true then (if exL (naP σ β) (σ 1 0) op = true then (3, σ, β) else if exL (nnP σ β op) 0 (σ 11 (ix op)) = true then (4, σ, β) else (1, dlS σ β op, bA β 2 (ix op) true))
  else if exL (nnP σ β op) 0 (σ 11 (ix op)) = true then (4, σ, β) else (1, dlS σ β op, bA β 2 (ix op) true)
def otR (σ : S2) (β : B2) (at0 : Int32) : Int32 × S2 × B2 := if frL (lmP σ β at0) (σ 1 0) (σ 0 0) = -1 then (0, σ, β) else
  ((unL (frL (lmP σ β at0) (σ 1 0) (σ 0 0)) (σ 0 0) β 0).2, sS (sS σ 2 (σ 2 0 + (unL (frL (lmP σ β at0) (σ 1 0) (σ 0 0)) (σ 0 0) β 0).2)) 3 (σ 3 0 + 1), (unL (frL (lmP σ β at0) (σ 1 0) (σ 0 0)) (σ 0 0) β 0).1)
def bcn (x : Int64) : Int32 :=
  let a := x - ((x.toUInt64 >>> ((1 : Int32).toInt64.toUInt64 &&& Int64.toUInt64 63)).toInt64 &&& 6148914691236517205)
  let b := (a &&& 3689348814741910323) + ((a.toUInt64 >>> ((2 : Int32).toInt64.toUInt64 &&& Int64.toUInt64 63)).toInt64 &&& 3689348814741910323)
  let c := (b + (b.toUInt64 >>> ((4 : Int32).toInt64.toUInt64 &&& Int64.toUInt64 63)).toInt64) &&& 1085102592571150095
  let d := c + (c.toUInt64 >>> ((8 : Int32).toInt64.toUInt64 &&& Int64.toUInt64 63)).toInt64
  let f := d + (d.toUInt64 >>> ((16 : Int32).toInt64.toUInt64 &&& Int64.toUInt64 63)).toInt64
  let g := f + (f.toUInt64 >>> ((32 : Int32).toInt64.toUInt64 &&& Int64.toUInt64 63)).toInt64
  g.toInt32 &&& 127
def cntR (σ : S2) (β : B2) (mk : Int64) (what : Int32) : Int32 := if what = 0 then σ 0 0 else if what = 1 then σ 0 0 - σ 1 0 else if what = 2 then σ 6 0 else if what = 3 then cnL (fun j => β 2 (ix j)) (σ 1 0) (σ 0 0) 0 else
  if what = 4 then σ 2 0 else if what = 5 then σ 3 0 else if what = 6 then σ 4 0 else if what = 7 then σ 5 0 else if what = 8 then bcn mk else if what = 9 then (if σ 0 0 - σ 1 0 ≤ 0 then -1 else σ 1 0) else -1
/-! what the reference's methods say -/
def ioM (μ : S2) (op : Int32) : Bool := !decide (op < 0) && !decide (μ 1 0 ≤ op)
def waM (μ : S2) (op : Int32) : Bool := !decide (op < μ 2 0) && !decide (μ 1 0 ≤ op)
def iszM (kind size : Int32) : Bool := if kind = 2 then decide (size = 0) else decide (size = 1) || (decide (size = 2) || decide (size = 4))
def bom (v s k : Int32) : Int32 := (v >>> ((8 * (s - 1 - k)) &&& 31)) &&& 255
def cvM (pl sz at0 : Int32) : Bool := !decide (at0 < pl) && !decide (pl + sz ≤ at0)
def haM (μ : S2) (i : Nat) (at0 : Int32) : Bool := !decide (μ 15 i < 0) && cvM (μ 15 i) (μ 13 i) at0
def wrU (pl sz v : Int32) : Nat → Int32 → S2 → S2
  | 0, _, μ => μ
  | c + 1, k, μ => wrU pl sz v c (k + 1) (sA μ 10 (pl + k).toNatClampNeg (bom v sz k))
def wrL (pl sz v k : Int32) (μ : S2) : S2 := wrU pl sz v (dist k sz) k μ
theorem wrL_out {pl sz v k : Int32} {μ : S2} (c : sz ≤ k) : wrL pl sz v k μ = μ := by
  unfold wrL
  rw [dist_out c]
  rfl
theorem wrL_in {pl sz v k : Int32} {μ : S2} (c : ¬ sz ≤ k) : wrL pl sz v k μ = wrL pl sz v (k + 1) (sA μ 10 (pl + k).toNatClampNeg (bom v sz k)) := by
  unfold wrL
  rw [dist_in c]
  rfl
def soP (μ : S2) (at0 j : Int32) : Bool := decide (μ 12 (ix j) = 1) && haM μ (ix j) at0
def soM (μ : S2) (op at0 : Int32) : Int32 := laL (soP μ at0) (μ 2 0) (op - 1)
def buU (μ : S2) (at0 : Int32) : Nat → Int32 → Int32 → Int32
  | 0, _, n => n
  | k + 1, i, n => buU μ at0 k (i + 1) (if cvM (μ 22 i.toNatClampNeg) (μ 23 i.toNatClampNeg) at0 = true then i else n)
def buL (μ : S2) (at0 i n : Int32) : Int32 := buU μ at0 (dist i (μ 7 0)) i n
theorem buL_out {μ : S2} {at0 i n : Int32} (c : μ 7 0 ≤ i) : buL μ at0 i n = n := by
  unfold buL
  rw [dist_out c]
  rfl
theorem buL_in {μ : S2} {at0 i n : Int32} (c : ¬ μ 7 0 ≤ i) : buL μ at0 i n = buL μ at0 (i + 1) (if cvM (μ 22 i.toNatClampNeg) (μ 23 i.toNatClampNeg) at0 = true then i else n) := by
  unfold buL
  rw [dist_in c]
  rfl
theorem in4b {x b : Int32} (h1 : 0 ≤ x) (h2 : ¬ b ≤ x) (h3 : b ≤ 4) : vp_in x 4 := in4' h1 (fun q => h2 (Int32.le_trans h3 q))
def cbM (μ : S2) (op at0 : Int32) : Bool := waM μ op && (!decide (μ 12 (ix op) = 2) && (decide (μ 15 (ix op) = -1) && (!decide (at0 < 0) && (decide (at0 ≤ 4096 - μ 13 (ix op)) && (decide (3072 ≤ at0) || !decide (3072 < at0 + μ 13 (ix op)))))))
def idM (μ : S2) (ν : B2) (op : Int32) : Bool := decide (μ 12 (ix op) = 0) && ν 2 (ix op)
def toP (μ : S2) (load st k : Int32) : Bool := haM μ (ix st) (μ 15 (ix load) + k) && !decide (st ≤ μ 20 (4 * (load &&& 127) + k).toNatClampNeg)
def toM (μ : S2) (load st : Int32) : Bool := exL (toP μ load st) 0 (μ 13 (ix load))
theorem fr_in {op k z : Int32} (h1 : 0 ≤ k) (h2 : ¬ z ≤ k) (h3 : z ≤ 4) : vp_in (4 * (op &&& 127) + k) 512 := by
  obtain ⟨a, ha, ea⟩ := pk_andE op (m := 127) 7 (by decide)
  obtain ⟨b, hb, eb⟩ := vp_in_of (in4b h1 h2 h3) (by decide)
  rw [ea, eb, show (4 : Int32) = nI 4 from rfl, pk_mul, nI_add]
  exact vp_in_nI (by omega) (by omega)
def udU (μ : S2) : Nat → Int32 → B2 → Int32 → B2 × Int32
  | 0, _, ν, a => (ν, a)
  | k + 1, i, ν, a => if idM μ ν i = true then udU μ k (i + 1) (bA ν 2 (ix i) false) (a + 1) else udU μ k (i + 1) ν a
def udL (μ : S2) (i e : Int32) (ν : B2) (a : Int32) : B2 × Int32 := udU μ (dist i e) i ν a
theorem udL_out {μ : S2} {i e a : Int32} {ν : B2} (c : e ≤ i) : udL μ i e ν a = (ν, a) := by
  unfold udL
  rw [dist_out c]
  rfl
theorem udL_in {μ : S2} {i e a : Int32} {ν : B2} (c : ¬ e ≤ i) : udL μ i e ν a = if idM μ ν i = true then udL μ (i + 1) e (bA ν 2 (ix i) false) (a + 1) else udL μ (i + 1) e ν a := by
  unfold udL
  rw [dist_in c]
  rfl
end
section
-- ===== PART A: goes FIRST, ahead of the names: the tables' words, and 'selects' of the private methods out of them =====
/-- a private method of a class that the tables say can be made, by its rows of tables_1 -/
def lw_okq (q : MethodName × Nat) : Prop := (q.1.cls ≠ "java/lang/invoke/MethodHandle" ∧ q.1.cls ≠ "java/lang/invoke/VarHandle") ∧ Cond.instantiable q.1.cls q.2 ∈ tables_1 ∧ Cond.privateMethod q.1 ∈ tables_1 ∧ Cond.instanceMethod q.1 ∈ tables_1
theorem lw_p0 : lw_okq (⟨"LoadStoreRows", "waitingOps", "()I"⟩, 10) := ⟨⟨by decide +kernel, by decide +kernel⟩, List.mem_of_getElem? (i := 15) (by decide +kernel), List.mem_of_getElem? (i := 130) (by decide +kernel), List.mem_of_getElem? (i := 131) (by decide +kernel)⟩
theorem lw_p1 : lw_okq (⟨"LoadStoreRows", "mayLeave", "(I)Z"⟩, 10) := ⟨⟨by decide +kernel, by decide +kernel⟩, List.mem_of_getElem? (i := 15) (by decide +kernel), List.mem_of_getElem? (i := 134) (by decide +kernel), List.mem_of_getElem? (i := 135) (by decide +kernel)⟩
theorem lw_p2 : lw_okq (⟨"LoadStoreRows", "carryOut", "(I)V"⟩, 10) := ⟨⟨by decide +kernel, by decide +kernel⟩, List.mem_of_getElem? (i := 15) (by decide +kernel), List.mem_of_getElem? (i := 173) (by decide +kernel), List.mem_of_getElem? (i := 174) (by decide +kernel)⟩
theorem lw_p3 : lw_okq (⟨"LoadStoreRows", "loadsDoneThatWait", "()I"⟩, 10) := ⟨⟨by decide +kernel, by decide +kernel⟩, List.mem_of_getElem? (i := 15) (by decide +kernel), List.mem_of_getElem? (i := 240) (by decide +kernel), List.mem_of_getElem? (i := 241) (by decide +kernel)⟩
theorem lw_p4 : lw_okq (⟨"java/lang/Throwable", "fillInStackTrace", "(I)Ljava/lang/Throwable;"⟩, 6) := ⟨⟨by decide +kernel, by decide +kernel⟩, List.mem_of_getElem? (i := 301) (by decide +kernel), List.mem_of_getElem? (i := 299) (by decide +kernel), List.mem_of_getElem? (i := 300) (by decide +kernel)⟩
theorem lw_p5 : lw_okq (⟨"LoadStoreRows", "requireOp", "(I)V"⟩, 10) := ⟨⟨by decide +kernel, by decide +kernel⟩, List.mem_of_getElem? (i := 15) (by decide +kernel), List.mem_of_getElem? (i := 358) (by decide +kernel), List.mem_of_getElem? (i := 359) (by decide +kernel)⟩
theorem lw_p6 : lw_okq (⟨"LoadStoreRows", "waits", "(I)Z"⟩, 10) := ⟨⟨by decide +kernel, by decide +kernel⟩, List.mem_of_getElem? (i := 15) (by decide +kernel), List.mem_of_getElem? (i := 378) (by decide +kernel), List.mem_of_getElem? (i := 379) (by decide +kernel)⟩
theorem lw_p7 : lw_okq (⟨"LoadStoreRows", "oldestLoadPast", "(I)I"⟩, 10) := ⟨⟨by decide +kernel, by decide +kernel⟩, List.mem_of_getElem? (i := 15) (by decide +kernel), List.mem_of_getElem? (i := 392) (by decide +kernel), List.mem_of_getElem? (i := 393) (by decide +kernel)⟩
theorem lw_p8 : lw_okq (⟨"LoadStoreRows", "missedByteOf", "(II)Z"⟩, 10) := ⟨⟨by decide +kernel, by decide +kernel⟩, List.mem_of_getElem? (i := 15) (by decide +kernel), List.mem_of_getElem? (i := 396) (by decide +kernel), List.mem_of_getElem? (i := 397) (by decide +kernel)⟩
theorem lw_p9 : lw_okq (⟨"LoadStoreRows", "mark", "(I)V"⟩, 10) := ⟨⟨by decide +kernel, by decide +kernel⟩, List.mem_of_getElem? (i := 15) (by decide +kernel), List.mem_of_getElem? (i := 417) (by decide +kernel), List.mem_of_getElem? (i := 418) (by decide +kernel)⟩
theorem lw_p10 : lw_okq (⟨"LoadStoreRows", "undoWrong", "(I)I"⟩, 10) := ⟨⟨by decide +kernel, by decide +kernel⟩, List.mem_of_getElem? (i := 15) (by decide +kernel), List.mem_of_getElem? (i := 421) (by decide +kernel), List.mem_of_getElem? (i := 422) (by decide +kernel)⟩
theorem lw_p11 : lw_okq (⟨"LoadStoreRows", "isHeldBack", "(I)Z"⟩, 10) := ⟨⟨by decide +kernel, by decide +kernel⟩, List.mem_of_getElem? (i := 15) (by decide +kernel), List.mem_of_getElem? (i := 450) (by decide +kernel), List.mem_of_getElem? (i := 451) (by decide +kernel)⟩
theorem lw_p12 : lw_okq (⟨"LoadStoreRows", "storeWithoutAddressBefore", "(I)Z"⟩, 10) := ⟨⟨by decide +kernel, by decide +kernel⟩, List.mem_of_getElem? (i := 15) (by decide +kernel), List.mem_of_getElem? (i := 455) (by decide +kernel), List.mem_of_getElem? (i := 456) (by decide +kernel)⟩
theorem lw_p13 : lw_okq (⟨"LoadStoreRows", "storeWithoutNumberFor", "(I)Z"⟩, 10) := ⟨⟨by decide +kernel, by decide +kernel⟩, List.mem_of_getElem? (i := 15) (by decide +kernel), List.mem_of_getElem? (i := 459) (by decide +kernel), List.mem_of_getElem? (i := 460) (by decide +kernel)⟩
theorem lw_p14 : lw_okq (⟨"LoadStoreRows", "newestStoreBefore", "(II)I"⟩, 10) := ⟨⟨by decide +kernel, by decide +kernel⟩, List.mem_of_getElem? (i := 15) (by decide +kernel), List.mem_of_getElem? (i := 463) (by decide +kernel), List.mem_of_getElem? (i := 464) (by decide +kernel)⟩
theorem lw_p15 : lw_okq (⟨"LoadStoreRows", "doLoad", "(I)V"⟩, 10) := ⟨⟨by decide +kernel, by decide +kernel⟩, List.mem_of_getElem? (i := 15) (by decide +kernel), List.mem_of_getElem? (i := 467) (by decide +kernel), List.mem_of_getElem? (i := 468) (by decide +kernel)⟩
def lw_privs_1 : List (MethodName × Nat) := [(⟨"LoadStoreRows", "waitingOps", "()I"⟩, 10), (⟨"LoadStoreRows", "mayLeave", "(I)Z"⟩, 10), (⟨"LoadStoreRows", "carryOut", "(I)V"⟩, 10), (⟨"LoadStoreRows", "loadsDoneThatWait", "()I"⟩, 10), (⟨"java/lang/Throwable", "fillInStackTrace", "(I)Ljava/lang/Throwable;"⟩, 6), (⟨"LoadStoreRows", "requireOp", "(I)V"⟩, 10), (⟨"LoadStoreRows", "waits", "(I)Z"⟩, 10), (⟨"LoadStoreRows", "oldestLoadPast", "(I)I"⟩, 10), (⟨"LoadStoreRows", "missedByteOf", "(II)Z"⟩, 10), (⟨"LoadStoreRows", "mark", "(I)V"⟩, 10), (⟨"LoadStoreRows", "undoWrong", "(I)I"⟩, 10), (⟨"LoadStoreRows", "isHeldBack", "(I)Z"⟩, 10), (⟨"LoadStoreRows", "storeWithoutAddressBefore", "(I)Z"⟩, 10), (⟨"LoadStoreRows", "storeWithoutNumberFor", "(I)Z"⟩, 10), (⟨"LoadStoreRows", "newestStoreBefore", "(II)I"⟩, 10), (⟨"LoadStoreRows", "doLoad", "(I)V"⟩, 10)]
theorem lw_r1 : ∀ q ∈ lw_privs_1, lw_okq q := List.forall_mem_cons.mpr ⟨lw_p0, List.forall_mem_cons.mpr ⟨lw_p1, List.forall_mem_cons.mpr ⟨lw_p2, List.forall_mem_cons.mpr ⟨lw_p3, List.forall_mem_cons.mpr ⟨lw_p4, List.forall_mem_cons.mpr ⟨lw_p5, List.forall_mem_cons.mpr ⟨lw_p6, List.forall_mem_cons.mpr ⟨lw_p7, List.forall_mem_cons.mpr ⟨lw_p8, List.forall_mem_cons.mpr ⟨lw_p9, List.forall_mem_cons.mpr ⟨lw_p10, List.forall_mem_cons.mpr ⟨lw_p11, List.forall_mem_cons.mpr ⟨lw_p12, List.forall_mem_cons.mpr ⟨lw_p13, List.forall_mem_cons.mpr ⟨lw_p14, List.forall_mem_cons.mpr ⟨lw_p15, fun _ h => absurd h List.not_mem_nil⟩⟩⟩⟩⟩⟩⟩⟩⟩⟩⟩⟩⟩⟩⟩⟩
theorem lw_p16 : lw_okq (⟨"LoadStoreRows", "takeByte", "(III)I"⟩, 10) := ⟨⟨by decide +kernel, by decide +kernel⟩, List.mem_of_getElem? (i := 15) (by decide +kernel), List.mem_of_getElem? (i := 471) (by decide +kernel), List.mem_of_getElem? (i := 472) (by decide +kernel)⟩
theorem lw_p17 : lw_okq (⟨"LoadStoreRows", "hasLoaded", "(I)Z"⟩, 10) := ⟨⟨by decide +kernel, by decide +kernel⟩, List.mem_of_getElem? (i := 15) (by decide +kernel), List.mem_of_getElem? (i := 515) (by decide +kernel), List.mem_of_getElem? (i := 516) (by decide +kernel)⟩
theorem lw_p18 : lw_okq (⟨"LoadStoreRows", "oldestLoadFromMemory", "(I)I"⟩, 10) := ⟨⟨by decide +kernel, by decide +kernel⟩, List.mem_of_getElem? (i := 15) (by decide +kernel), List.mem_of_getElem? (i := 545) (by decide +kernel), List.mem_of_getElem? (i := 546) (by decide +kernel)⟩
theorem lw_p19 : lw_okq (⟨"LoadStoreRowsModel", "isOp", "(I)Z"⟩, 23) := ⟨⟨by decide +kernel, by decide +kernel⟩, List.mem_of_getElem? (i := 565) (by decide +kernel), List.mem_of_getElem? (i := 656) (by decide +kernel), List.mem_of_getElem? (i := 657) (by decide +kernel)⟩
theorem lw_p20 : lw_okq (⟨"LoadStoreRowsModel", "canBe", "(II)Z"⟩, 23) := ⟨⟨by decide +kernel, by decide +kernel⟩, List.mem_of_getElem? (i := 565) (by decide +kernel), List.mem_of_getElem? (i := 660) (by decide +kernel), List.mem_of_getElem? (i := 661) (by decide +kernel)⟩
theorem lw_p21 : lw_okq (⟨"LoadStoreRowsModel", "waits", "(I)Z"⟩, 23) := ⟨⟨by decide +kernel, by decide +kernel⟩, List.mem_of_getElem? (i := 565) (by decide +kernel), List.mem_of_getElem? (i := 664) (by decide +kernel), List.mem_of_getElem? (i := 665) (by decide +kernel)⟩
theorem lw_p22 : lw_okq (⟨"LoadStoreRowsModel", "isDone", "(I)Z"⟩, 23) := ⟨⟨by decide +kernel, by decide +kernel⟩, List.mem_of_getElem? (i := 565) (by decide +kernel), List.mem_of_getElem? (i := 668) (by decide +kernel), List.mem_of_getElem? (i := 669) (by decide +kernel)⟩
theorem lw_p23 : lw_okq (⟨"LoadStoreRowsModel", "tookOlder", "(II)Z"⟩, 23) := ⟨⟨by decide +kernel, by decide +kernel⟩, List.mem_of_getElem? (i := 565) (by decide +kernel), List.mem_of_getElem? (i := 672) (by decide +kernel), List.mem_of_getElem? (i := 673) (by decide +kernel)⟩
theorem lw_p24 : lw_okq (⟨"LoadStoreRowsModel", "has", "(II)Z"⟩, 23) := ⟨⟨by decide +kernel, by decide +kernel⟩, List.mem_of_getElem? (i := 565) (by decide +kernel), List.mem_of_getElem? (i := 676) (by decide +kernel), List.mem_of_getElem? (i := 677) (by decide +kernel)⟩
theorem lw_p25 : lw_okq (⟨"LoadStoreRowsModel", "undo", "(I)I"⟩, 23) := ⟨⟨by decide +kernel, by decide +kernel⟩, List.mem_of_getElem? (i := 565) (by decide +kernel), List.mem_of_getElem? (i := 683) (by decide +kernel), List.mem_of_getElem? (i := 684) (by decide +kernel)⟩
theorem lw_p26 : lw_okq (⟨"LoadStoreRowsModel", "isHeld", "(I)Z"⟩, 23) := ⟨⟨by decide +kernel, by decide +kernel⟩, List.mem_of_getElem? (i := 565) (by decide +kernel), List.mem_of_getElem? (i := 695) (by decide +kernel), List.mem_of_getElem? (i := 696) (by decide +kernel)⟩
theorem lw_p27 : lw_okq (⟨"LoadStoreRowsModel", "hasUnknown", "(I)Z"⟩, 23) := ⟨⟨by decide +kernel, by decide +kernel⟩, List.mem_of_getElem? (i := 565) (by decide +kernel), List.mem_of_getElem? (i := 699) (by decide +kernel), List.mem_of_getElem? (i := 700) (by decide +kernel)⟩
theorem lw_p28 : lw_okq (⟨"LoadStoreRowsModel", "storeOf", "(II)I"⟩, 23) := ⟨⟨by decide +kernel, by decide +kernel⟩, List.mem_of_getElem? (i := 565) (by decide +kernel), List.mem_of_getElem? (i := 703) (by decide +kernel), List.mem_of_getElem? (i := 704) (by decide +kernel)⟩
theorem lw_p29 : lw_okq (⟨"LoadStoreRowsModel", "taken", "(II)I"⟩, 23) := ⟨⟨by decide +kernel, by decide +kernel⟩, List.mem_of_getElem? (i := 565) (by decide +kernel), List.mem_of_getElem? (i := 707) (by decide +kernel), List.mem_of_getElem? (i := 708) (by decide +kernel)⟩
theorem lw_p30 : lw_okq (⟨"LoadStoreRowsModel", "bufferOf", "(I)I"⟩, 23) := ⟨⟨by decide +kernel, by decide +kernel⟩, List.mem_of_getElem? (i := 565) (by decide +kernel), List.mem_of_getElem? (i := 711) (by decide +kernel), List.mem_of_getElem? (i := 712) (by decide +kernel)⟩
theorem lw_p31 : lw_okq (⟨"LoadStoreRowsModel", "mayLeave", "()Z"⟩, 23) := ⟨⟨by decide +kernel, by decide +kernel⟩, List.mem_of_getElem? (i := 565) (by decide +kernel), List.mem_of_getElem? (i := 730) (by decide +kernel), List.mem_of_getElem? (i := 731) (by decide +kernel)⟩
def lw_privs_2 : List (MethodName × Nat) := [(⟨"LoadStoreRows", "takeByte", "(III)I"⟩, 10), (⟨"LoadStoreRows", "hasLoaded", "(I)Z"⟩, 10), (⟨"LoadStoreRows", "oldestLoadFromMemory", "(I)I"⟩, 10), (⟨"LoadStoreRowsModel", "isOp", "(I)Z"⟩, 23), (⟨"LoadStoreRowsModel", "canBe", "(II)Z"⟩, 23), (⟨"LoadStoreRowsModel", "waits", "(I)Z"⟩, 23), (⟨"LoadStoreRowsModel", "isDone", "(I)Z"⟩, 23), (⟨"LoadStoreRowsModel", "tookOlder", "(II)Z"⟩, 23), (⟨"LoadStoreRowsModel", "has", "(II)Z"⟩, 23), (⟨"LoadStoreRowsModel", "undo", "(I)I"⟩, 23), (⟨"LoadStoreRowsModel", "isHeld", "(I)Z"⟩, 23), (⟨"LoadStoreRowsModel", "hasUnknown", "(I)Z"⟩, 23), (⟨"LoadStoreRowsModel", "storeOf", "(II)I"⟩, 23), (⟨"LoadStoreRowsModel", "taken", "(II)I"⟩, 23), (⟨"LoadStoreRowsModel", "bufferOf", "(I)I"⟩, 23), (⟨"LoadStoreRowsModel", "mayLeave", "()Z"⟩, 23)]
theorem lw_r2 : ∀ q ∈ lw_privs_2, lw_okq q := List.forall_mem_cons.mpr ⟨lw_p16, List.forall_mem_cons.mpr ⟨lw_p17, List.forall_mem_cons.mpr ⟨lw_p18, List.forall_mem_cons.mpr ⟨lw_p19, List.forall_mem_cons.mpr ⟨lw_p20, List.forall_mem_cons.mpr ⟨lw_p21, List.forall_mem_cons.mpr ⟨lw_p22, List.forall_mem_cons.mpr ⟨lw_p23, List.forall_mem_cons.mpr ⟨lw_p24, List.forall_mem_cons.mpr ⟨lw_p25, List.forall_mem_cons.mpr ⟨lw_p26, List.forall_mem_cons.mpr ⟨lw_p27, List.forall_mem_cons.mpr ⟨lw_p28, List.forall_mem_cons.mpr ⟨lw_p29, List.forall_mem_cons.mpr ⟨lw_p30, List.forall_mem_cons.mpr ⟨lw_p31, fun _ h => absurd h List.not_mem_nil⟩⟩⟩⟩⟩⟩⟩⟩⟩⟩⟩⟩⟩⟩⟩⟩
theorem lw_p32 : lw_okq (⟨"LoadStoreRowsModel", "intoBuffer", "(I)V"⟩, 23) := ⟨⟨by decide +kernel, by decide +kernel⟩, List.mem_of_getElem? (i := 565) (by decide +kernel), List.mem_of_getElem? (i := 734) (by decide +kernel), List.mem_of_getElem? (i := 735) (by decide +kernel)⟩
theorem lw_p33 : lw_okq (⟨"LoadStoreRowsModel", "write", "(III)V"⟩, 23) := ⟨⟨by decide +kernel, by decide +kernel⟩, List.mem_of_getElem? (i := 565) (by decide +kernel), List.mem_of_getElem? (i := 738) (by decide +kernel), List.mem_of_getElem? (i := 739) (by decide +kernel)⟩
theorem lw_p34 : lw_okq (⟨"LoadStoreRowsModel", "tookFromMemory", "(II)Z"⟩, 23) := ⟨⟨by decide +kernel, by decide +kernel⟩, List.mem_of_getElem? (i := 565) (by decide +kernel), List.mem_of_getElem? (i := 750) (by decide +kernel), List.mem_of_getElem? (i := 751) (by decide +kernel)⟩
def lw_privs_3 : List (MethodName × Nat) := [(⟨"LoadStoreRowsModel", "intoBuffer", "(I)V"⟩, 23), (⟨"LoadStoreRowsModel", "write", "(III)V"⟩, 23), (⟨"LoadStoreRowsModel", "tookFromMemory", "(II)Z"⟩, 23)]
theorem lw_r3 : ∀ q ∈ lw_privs_3, lw_okq q := List.forall_mem_cons.mpr ⟨lw_p32, List.forall_mem_cons.mpr ⟨lw_p33, List.forall_mem_cons.mpr ⟨lw_p34, fun _ h => absurd h List.not_mem_nil⟩⟩⟩
def lw_privs : List (MethodName × Nat) := lw_privs_1 ++ (lw_privs_2 ++ (lw_privs_3))
def lw_tbl : List Cond := k2_sels lw_privs ++ tables_1
theorem lw_privs_ok : ∀ q ∈ lw_privs, lw_okq q := by
  show ∀ q ∈ lw_privs_1 ++ (lw_privs_2 ++ (lw_privs_3)), lw_okq q
  exact List.forall_mem_append.mpr ⟨lw_r1, List.forall_mem_append.mpr ⟨lw_r2, lw_r3⟩⟩
/-! names -/
def R_C : String := "LoadStoreRows"
def T_C : u_T := fun k => match k with
  | 0 => ("LoadStoreRows", "ops", "LLoadStoreRows$OpRows;", true)
  | 1 => ("LoadStoreRows", "buffer", "LLoadStoreRows$StoreBuffer;", true)
  | 2 => ("LoadStoreRows", "mainMemory", "LLoadStoreRows$ByteMemory;", true)
  | 3 => ("LoadStoreRows", "nextOp", "I", false)
  | 4 => ("LoadStoreRows", "oldestWaiting", "I", false)
  | 5 => ("LoadStoreRows", "marks", "J", false)
  | 6 => ("LoadStoreRows", "undoneSoFar", "I", false)
  | 7 => ("LoadStoreRows", "wrongSoFar", "I", false)
  | 8 => ("LoadStoreRows", "bytesFromStores", "I", false)
  | _ => ("LoadStoreRows", "bytesFromElsewhere", "I", false)
def t_C : Nat → FieldType := fun k => match k with
  | 0 => .object "LoadStoreRows$OpRows"
  | 1 => .object "LoadStoreRows$StoreBuffer"
  | 2 => .object "LoadStoreRows$ByteMemory"
  | 3 => .int
  | 4 => .int
  | 5 => .long
  | 6 => .int
  | 7 => .int
  | 8 => .int
  | _ => .int
theorem n_C : ∀ a, a < 10 → ∀ b, b < 10 → a ≠ b → (T_C a).2.1 ≠ (T_C b).2.1 := by decide +kernel
theorem tk_C : ∀ k, k < 10 → parseFieldDescriptor (T_C k).2.2.1 = some (t_C k) := by decide +kernel
def R_O : String := "LoadStoreRows$OpRows"
def T_O : u_T := fun k => match k with
  | 0 => ("LoadStoreRows$OpRows", "kinds", "[I", true)
  | 1 => ("LoadStoreRows$OpRows", "sizes", "[I", true)
  | 2 => ("LoadStoreRows$OpRows", "programs", "[I", true)
  | 3 => ("LoadStoreRows$OpRows", "addresses", "[I", true)
  | 4 => ("LoadStoreRows$OpRows", "addressTold", "[Z", true)
  | 5 => ("LoadStoreRows$OpRows", "numbers", "[I", true)
  | 6 => ("LoadStoreRows$OpRows", "numberTold", "[Z", true)
  | 7 => ("LoadStoreRows$OpRows", "done", "[Z", true)
  | 8 => ("LoadStoreRows$OpRows", "loadedNumbers", "[I", true)
  | _ => ("LoadStoreRows$OpRows", "sources", "[I", true)
def t_O : Nat → FieldType := fun k => match k with
  | 0 => .array .int
  | 1 => .array .int
  | 2 => .array .int
  | 3 => .array .int
  | 4 => .array .boolean
  | 5 => .array .int
  | 6 => .array .boolean
  | 7 => .array .boolean
  | 8 => .array .int
  | _ => .array .int
theorem n_O : ∀ a, a < 10 → ∀ b, b < 10 → a ≠ b → (T_O a).2.1 ≠ (T_O b).2.1 := by decide +kernel
theorem tk_O : ∀ k, k < 10 → parseFieldDescriptor (T_O k).2.2.1 = some (t_O k) := by decide +kernel
def R_B : String := "LoadStoreRows$StoreBuffer"
def T_B : u_T := fun k => match k with
  | 0 => ("LoadStoreRows$StoreBuffer", "stores", "[I", true)
  | 1 => ("LoadStoreRows$StoreBuffer", "addresses", "[I", true)
  | 2 => ("LoadStoreRows$StoreBuffer", "sizes", "[I", true)
  | 3 => ("LoadStoreRows$StoreBuffer", "numbers", "[I", true)
  | _ => ("LoadStoreRows$StoreBuffer", "held", "I", false)
def t_B : Nat → FieldType := fun k => match k with
  | 0 => .array .int
  | 1 => .array .int
  | 2 => .array .int
  | 3 => .array .int
  | _ => .int
theorem n_B : ∀ a, a < 5 → ∀ b, b < 5 → a ≠ b → (T_B a).2.1 ≠ (T_B b).2.1 := by decide +kernel
theorem tk_B : ∀ k, k < 5 → parseFieldDescriptor (T_B k).2.2.1 = some (t_B k) := by decide +kernel
def R_Y : String := "LoadStoreRows$ByteMemory"
def T_Y : u_T := fun k => match k with
  | _ => ("LoadStoreRows$ByteMemory", "cells", "[B", true)
def t_Y : Nat → FieldType := fun k => match k with
  | _ => .array .byte
theorem n_Y : ∀ a, a < 1 → ∀ b, b < 1 → a ≠ b → (T_Y a).2.1 ≠ (T_Y b).2.1 := by decide +kernel
theorem tk_Y : ∀ k, k < 1 → parseFieldDescriptor (T_Y k).2.2.1 = some (t_Y k) := by decide +kernel
def R_M : String := "LoadStoreRowsModel"
def T_M : u_T := fun k => match k with
  | 0 => ("LoadStoreRowsModel", "thrown", "I", false)
  | 1 => ("LoadStoreRowsModel", "total", "I", false)
  | 2 => ("LoadStoreRowsModel", "oldest", "I", false)
  | 3 => ("LoadStoreRowsModel", "undone", "I", false)
  | 4 => ("LoadStoreRowsModel", "wrong", "I", false)
  | 5 => ("LoadStoreRowsModel", "ofStores", "I", false)
  | 6 => ("LoadStoreRowsModel", "ofOthers", "I", false)
  | 7 => ("LoadStoreRowsModel", "bytes", "[I", true)
  | 8 => ("LoadStoreRowsModel", "marks", "[Z", true)
  | 9 => ("LoadStoreRowsModel", "kinds", "[I", true)
  | 10 => ("LoadStoreRowsModel", "sizes", "[I", true)
  | 11 => ("LoadStoreRowsModel", "programs", "[I", true)
  | 12 => ("LoadStoreRowsModel", "places", "[I", true)
  | 13 => ("LoadStoreRowsModel", "values", "[I", true)
  | 14 => ("LoadStoreRowsModel", "results", "[I", true)
  | 15 => ("LoadStoreRowsModel", "told", "[Z", true)
  | 16 => ("LoadStoreRowsModel", "done", "[Z", true)
  | 17 => ("LoadStoreRowsModel", "from", "[I", true)
  | 18 => ("LoadStoreRowsModel", "waiting", "[I", true)
  | 19 => ("LoadStoreRowsModel", "waitPlace", "[I", true)
  | 20 => ("LoadStoreRowsModel", "waitSize", "[I", true)
  | 21 => ("LoadStoreRowsModel", "waitValue", "[I", true)
  | _ => ("LoadStoreRowsModel", "buffered", "I", false)
def t_M : Nat → FieldType := fun k => match k with
  | 0 => .int
  | 1 => .int
  | 2 => .int
  | 3 => .int
  | 4 => .int
  | 5 => .int
  | 6 => .int
  | 7 => .array .int
  | 8 => .array .boolean
  | 9 => .array .int
  | 10 => .array .int
  | 11 => .array .int
  | 12 => .array .int
  | 13 => .array .int
  | 14 => .array .int
  | 15 => .array .boolean
  | 16 => .array .boolean
  | 17 => .array .int
  | 18 => .array .int
  | 19 => .array .int
  | 20 => .array .int
  | 21 => .array .int
  | _ => .int
theorem n_M : ∀ a, a < 23 → ∀ b, b < 23 → a ≠ b → (T_M a).2.1 ≠ (T_M b).2.1 := by decide +kernel
theorem tk_M : ∀ k, k < 23 → parseFieldDescriptor (T_M k).2.2.1 = some (t_M k) := by decide +kernel
abbrev vwCl : List vw_C := [(R_C, T_C, 10), (R_O, T_O, 10), (R_B, T_B, 5), (R_Y, T_Y, 1), (R_M, T_M, 23)]
def R_L : String := "LoadStoreRowsLaw"
def R_G : String := "java/lang/Long"
abbrev b_C_init : ByteArray := prog_1_method_1_code
def y_C_init : MethodName := ⟨R_C, "<init>", "()V"⟩
abbrev b_O_init : ByteArray := prog_3_method_1_code
def y_O_init : MethodName := ⟨R_O, "<init>", "()V"⟩
abbrev b_B_init : ByteArray := prog_4_method_1_code
def y_B_init : MethodName := ⟨R_B, "<init>", "()V"⟩
abbrev b_Y_init : ByteArray := prog_2_method_1_code
def y_Y_init : MethodName := ⟨R_Y, "<init>", "()V"⟩
abbrev b_C_leave : ByteArray := prog_1_method_8_code
def y_C_leave : MethodName := ⟨R_C, "leave", "()I"⟩
abbrev b_C_waitingOps : ByteArray := prog_1_method_22_code
def y_C_waitingOps : MethodName := ⟨R_C, "waitingOps", "()I"⟩
abbrev b_C_mayLeave : ByteArray := prog_1_method_37_code
def y_C_mayLeave : MethodName := ⟨R_C, "mayLeave", "(I)Z"⟩
abbrev b_O_kindOf : ByteArray := prog_3_method_3_code
def y_O_kindOf : MethodName := ⟨R_O, "kindOf", "(I)I"⟩
abbrev b_O_isDone : ByteArray := prog_3_method_13_code
def y_O_isDone : MethodName := ⟨R_O, "isDone", "(I)Z"⟩
abbrev b_O_isTold : ByteArray := prog_3_method_12_code
def y_O_isTold : MethodName := ⟨R_O, "isTold", "(I)Z"⟩
abbrev b_O_hasAddress : ByteArray := prog_3_method_6_code
def y_O_hasAddress : MethodName := ⟨R_O, "hasAddress", "(I)Z"⟩
abbrev b_O_hasNumber : ByteArray := prog_3_method_9_code
def y_O_hasNumber : MethodName := ⟨R_O, "hasNumber", "(I)Z"⟩
abbrev b_O_addressOf : ByteArray := prog_3_method_7_code
def y_O_addressOf : MethodName := ⟨R_O, "addressOf", "(I)I"⟩
abbrev b_C_isDevice : ByteArray := prog_1_method_18_code
def y_C_isDevice : MethodName := ⟨R_C, "isDevice", "(I)Z"⟩
abbrev b_B_isEmpty : ByteArray := prog_4_method_3_code
def y_B_isEmpty : MethodName := ⟨R_B, "isEmpty", "()Z"⟩
abbrev b_B_hasRoom : ByteArray := prog_4_method_4_code
def y_B_hasRoom : MethodName := ⟨R_B, "hasRoom", "()Z"⟩
abbrev b_C_carryOut : ByteArray := prog_1_method_38_code
def y_C_carryOut : MethodName := ⟨R_C, "carryOut", "(I)V"⟩
abbrev b_C_takesNumber : ByteArray := prog_1_method_16_code
def y_C_takesNumber : MethodName := ⟨R_C, "takesNumber", "(I)Z"⟩
abbrev b_O_bytesOf : ByteArray := prog_3_method_4_code
def y_O_bytesOf : MethodName := ⟨R_O, "bytesOf", "(I)I"⟩
abbrev b_O_numberOf : ByteArray := prog_3_method_10_code
def y_O_numberOf : MethodName := ⟨R_O, "numberOf", "(I)I"⟩
abbrev b_B_append : ByteArray := prog_4_method_6_code
def y_B_append : MethodName := ⟨R_B, "append", "(IIII)V"⟩
abbrev b_Y_numberAt : ByteArray := prog_2_method_4_code
def y_Y_numberAt : MethodName := ⟨R_Y, "numberAt", "(II)I"⟩
abbrev b_Y_byteAt : ByteArray := prog_2_method_2_code
def y_Y_byteAt : MethodName := ⟨R_Y, "byteAt", "(I)I"⟩
abbrev b_O_setLoaded : ByteArray := prog_3_method_16_code
def y_O_setLoaded : MethodName := ⟨R_O, "setLoaded", "(II)V"⟩
abbrev b_Y_write : ByteArray := prog_2_method_5_code
def y_Y_write : MethodName := ⟨R_Y, "write", "(III)V"⟩
abbrev b_C_byteOfNumber : ByteArray := prog_1_method_20_code
def y_C_byteOfNumber : MethodName := ⟨R_C, "byteOfNumber", "(III)I"⟩
abbrev b_Y_setByte : ByteArray := prog_2_method_3_code
def y_Y_setByte : MethodName := ⟨R_Y, "setByte", "(II)V"⟩
abbrev b_C_drain : ByteArray := prog_1_method_9_code
def y_C_drain : MethodName := ⟨R_C, "drain", "()I"⟩
abbrev b_B_oldestStore : ByteArray := prog_4_method_5_code
def y_B_oldestStore : MethodName := ⟨R_B, "oldestStore", "()I"⟩
abbrev b_B_moveOldestTo : ByteArray := prog_4_method_7_code
def y_B_moveOldestTo : MethodName := ⟨R_B, "moveOldestTo", "(LLoadStoreRows$ByteMemory;)V"⟩
abbrev b_C_marked : ByteArray := prog_1_method_13_code
def y_C_marked : MethodName := ⟨R_C, "marked", "(I)Z"⟩
abbrev b_C_count : ByteArray := prog_1_method_14_code
def y_C_count : MethodName := ⟨R_C, "count", "(I)I"⟩
abbrev b_B_size : ByteArray := prog_4_method_2_code
def y_B_size : MethodName := ⟨R_B, "size", "()I"⟩
abbrev b_C_loadsDoneThatWait : ByteArray := prog_1_method_36_code
def y_C_loadsDoneThatWait : MethodName := ⟨R_C, "loadsDoneThatWait", "()I"⟩
abbrev b_G_bitCount : ByteArray := prog_11_method_50_code
def y_G_bitCount : MethodName := ⟨R_G, "bitCount", "(J)I"⟩
abbrev b_L_op : ByteArray := method_3_code
def y_L_op : MethodName := ⟨R_L, "op", "(LLoadStoreRows;III[J)I"⟩
abbrev b_C_op : ByteArray := prog_1_method_2_code
def y_C_op : MethodName := ⟨R_C, "op", "(III)I"⟩
abbrev b_C_isKindWithBytes : ByteArray := prog_1_method_15_code
def y_C_isKindWithBytes : MethodName := ⟨R_C, "isKindWithBytes", "(II)Z"⟩
abbrev b_O_begin : ByteArray := prog_3_method_2_code
def y_O_begin : MethodName := ⟨R_O, "begin", "(IIII)V"⟩
abbrev b_L_address : ByteArray := method_4_code
def y_L_address : MethodName := ⟨R_L, "address", "(LLoadStoreRows;II[J)I"⟩
abbrev b_C_address : ByteArray := prog_1_method_3_code
def y_C_address : MethodName := ⟨R_C, "address", "(II)I"⟩
abbrev b_C_requireOp : ByteArray := prog_1_method_21_code
def y_C_requireOp : MethodName := ⟨R_C, "requireOp", "(I)V"⟩
abbrev b_C_waits : ByteArray := prog_1_method_23_code
def y_C_waits : MethodName := ⟨R_C, "waits", "(I)Z"⟩
abbrev b_C_canBeAddress : ByteArray := prog_1_method_19_code
def y_C_canBeAddress : MethodName := ⟨R_C, "canBeAddress", "(II)Z"⟩
abbrev b_O_setAddress : ByteArray := prog_3_method_8_code
def y_O_setAddress : MethodName := ⟨R_O, "setAddress", "(II)V"⟩
abbrev b_C_oldestLoadPast : ByteArray := prog_1_method_32_code
def y_C_oldestLoadPast : MethodName := ⟨R_C, "oldestLoadPast", "(I)I"⟩
abbrev b_C_missedByteOf : ByteArray := prog_1_method_33_code
def y_C_missedByteOf : MethodName := ⟨R_C, "missedByteOf", "(II)Z"⟩
abbrev b_O_covers : ByteArray := prog_3_method_19_code
def y_O_covers : MethodName := ⟨R_O, "covers", "(II)Z"⟩
abbrev b_O_sourceOf : ByteArray := prog_3_method_17_code
def y_O_sourceOf : MethodName := ⟨R_O, "sourceOf", "(II)I"⟩
abbrev b_O_sourceSlot : ByteArray := prog_3_method_21_code
def y_O_sourceSlot : MethodName := ⟨R_O, "sourceSlot", "(II)I"⟩
abbrev b_O_programOf : ByteArray := prog_3_method_5_code
def y_O_programOf : MethodName := ⟨R_O, "programOf", "(I)I"⟩
abbrev b_C_mark : ByteArray := prog_1_method_25_code
def y_C_mark : MethodName := ⟨R_C, "mark", "(I)V"⟩
abbrev b_C_undoWrong : ByteArray := prog_1_method_35_code
def y_C_undoWrong : MethodName := ⟨R_C, "undoWrong", "(I)I"⟩
abbrev b_O_setDone : ByteArray := prog_3_method_14_code
def y_O_setDone : MethodName := ⟨R_O, "setDone", "(IZ)V"⟩
abbrev b_L_number : ByteArray := method_5_code
def y_L_number : MethodName := ⟨R_L, "number", "(LLoadStoreRows;II[J)I"⟩
abbrev b_C_number : ByteArray := prog_1_method_4_code
def y_C_number : MethodName := ⟨R_C, "number", "(II)I"⟩
abbrev b_O_setNumber : ByteArray := prog_3_method_11_code
def y_O_setNumber : MethodName := ⟨R_O, "setNumber", "(II)V"⟩
abbrev b_L_tried : ByteArray := method_6_code
def y_L_tried : MethodName := ⟨R_L, "tried", "(LLoadStoreRows;I[J)I"⟩
abbrev b_C_tried : ByteArray := prog_1_method_5_code
def y_C_tried : MethodName := ⟨R_C, "tried", "(I)I"⟩
abbrev b_C_isHeldBack : ByteArray := prog_1_method_26_code
def y_C_isHeldBack : MethodName := ⟨R_C, "isHeldBack", "(I)Z"⟩
abbrev b_C_storeWithoutAddressBefore : ByteArray := prog_1_method_27_code
def y_C_storeWithoutAddressBefore : MethodName := ⟨R_C, "storeWithoutAddressBefore", "(I)Z"⟩
abbrev b_C_storeWithoutNumberFor : ByteArray := prog_1_method_28_code
def y_C_storeWithoutNumberFor : MethodName := ⟨R_C, "storeWithoutNumberFor", "(I)Z"⟩
abbrev b_C_newestStoreBefore : ByteArray := prog_1_method_29_code
def y_C_newestStoreBefore : MethodName := ⟨R_C, "newestStoreBefore", "(II)I"⟩
abbrev b_C_doLoad : ByteArray := prog_1_method_30_code
def y_C_doLoad : MethodName := ⟨R_C, "doLoad", "(I)V"⟩
abbrev b_C_takeByte : ByteArray := prog_1_method_31_code
def y_C_takeByte : MethodName := ⟨R_C, "takeByte", "(III)I"⟩
abbrev b_O_setSource : ByteArray := prog_3_method_18_code
def y_O_setSource : MethodName := ⟨R_O, "setSource", "(III)V"⟩
abbrev b_O_byteAt : ByteArray := prog_3_method_20_code
def y_O_byteAt : MethodName := ⟨R_O, "byteAt", "(II)I"⟩
abbrev b_B_byteAt : ByteArray := prog_4_method_8_code
def y_B_byteAt : MethodName := ⟨R_B, "byteAt", "(I)I"⟩
abbrev b_L_loaded : ByteArray := method_7_code
def y_L_loaded : MethodName := ⟨R_L, "loaded", "(LLoadStoreRows;I[J)I"⟩
abbrev b_C_loaded : ByteArray := prog_1_method_6_code
def y_C_loaded : MethodName := ⟨R_C, "loaded", "(I)I"⟩
abbrev b_C_hasLoaded : ByteArray := prog_1_method_24_code
def y_C_hasLoaded : MethodName := ⟨R_C, "hasLoaded", "(I)Z"⟩
abbrev b_O_loadedBy : ByteArray := prog_3_method_15_code
def y_O_loadedBy : MethodName := ⟨R_O, "loadedBy", "(I)I"⟩
abbrev b_L_source : ByteArray := method_8_code
def y_L_source : MethodName := ⟨R_L, "source", "(LLoadStoreRows;II[J)I"⟩
abbrev b_C_source : ByteArray := prog_1_method_7_code
def y_C_source : MethodName := ⟨R_C, "source", "(II)I"⟩
abbrev b_L_other : ByteArray := method_9_code
def y_L_other : MethodName := ⟨R_L, "other", "(LLoadStoreRows;II[J)I"⟩
abbrev b_C_other : ByteArray := prog_1_method_10_code
def y_C_other : MethodName := ⟨R_C, "other", "(II)I"⟩
abbrev b_C_isMemoryByte : ByteArray := prog_1_method_17_code
def y_C_isMemoryByte : MethodName := ⟨R_C, "isMemoryByte", "(I)Z"⟩
abbrev b_C_oldestLoadFromMemory : ByteArray := prog_1_method_34_code
def y_C_oldestLoadFromMemory : MethodName := ⟨R_C, "oldestLoadFromMemory", "(I)I"⟩
abbrev b_L_memory : ByteArray := method_10_code
def y_L_memory : MethodName := ⟨R_L, "memory", "(LLoadStoreRows;I[J)I"⟩
abbrev b_C_memory : ByteArray := prog_1_method_11_code
def y_C_memory : MethodName := ⟨R_C, "memory", "(I)I"⟩
abbrev b_L_forget : ByteArray := method_11_code
def y_L_forget : MethodName := ⟨R_L, "forget", "(LLoadStoreRows;I[J)I"⟩
abbrev b_C_forget : ByteArray := prog_1_method_12_code
def y_C_forget : MethodName := ⟨R_C, "forget", "(I)I"⟩
abbrev b_M_init : ByteArray := prog_6_method_1_code
def y_M_init : MethodName := ⟨R_M, "<init>", "()V"⟩
abbrev b_M_thrown : ByteArray := prog_6_method_2_code
def y_M_thrown : MethodName := ⟨R_M, "thrown", "()I"⟩
abbrev b_M_op : ByteArray := prog_6_method_6_code
def y_M_op : MethodName := ⟨R_M, "op", "(III)I"⟩
abbrev b_M_isSize : ByteArray := prog_6_method_5_code
def y_M_isSize : MethodName := ⟨R_M, "isSize", "(II)Z"⟩
abbrev b_M_address : ByteArray := prog_6_method_14_code
def y_M_address : MethodName := ⟨R_M, "address", "(II)I"⟩
abbrev b_M_isOp : ByteArray := prog_6_method_3_code
def y_M_isOp : MethodName := ⟨R_M, "isOp", "(I)Z"⟩
abbrev b_M_canBe : ByteArray := prog_6_method_13_code
def y_M_canBe : MethodName := ⟨R_M, "canBe", "(II)Z"⟩
abbrev b_M_waits : ByteArray := prog_6_method_4_code
def y_M_waits : MethodName := ⟨R_M, "waits", "(I)Z"⟩
abbrev b_M_isDone : ByteArray := prog_6_method_15_code
def y_M_isDone : MethodName := ⟨R_M, "isDone", "(I)Z"⟩
abbrev b_M_tookOlder : ByteArray := prog_6_method_16_code
def y_M_tookOlder : MethodName := ⟨R_M, "tookOlder", "(II)Z"⟩
abbrev b_M_has : ByteArray := prog_6_method_10_code
def y_M_has : MethodName := ⟨R_M, "has", "(II)Z"⟩
abbrev b_M_covers : ByteArray := prog_6_method_9_code
def y_M_covers : MethodName := ⟨R_M, "covers", "(III)Z"⟩
abbrev b_M_undo : ByteArray := prog_6_method_17_code
def y_M_undo : MethodName := ⟨R_M, "undo", "(I)I"⟩
abbrev b_M_number : ByteArray := prog_6_method_18_code
def y_M_number : MethodName := ⟨R_M, "number", "(II)I"⟩
abbrev b_M_tried : ByteArray := prog_6_method_21_code
def y_M_tried : MethodName := ⟨R_M, "tried", "(I)I"⟩
abbrev b_M_isHeld : ByteArray := prog_6_method_19_code
def y_M_isHeld : MethodName := ⟨R_M, "isHeld", "(I)Z"⟩
abbrev b_M_hasUnknown : ByteArray := prog_6_method_20_code
def y_M_hasUnknown : MethodName := ⟨R_M, "hasUnknown", "(I)Z"⟩
abbrev b_M_storeOf : ByteArray := prog_6_method_11_code
def y_M_storeOf : MethodName := ⟨R_M, "storeOf", "(II)I"⟩
abbrev b_M_taken : ByteArray := prog_6_method_22_code
def y_M_taken : MethodName := ⟨R_M, "taken", "(II)I"⟩
abbrev b_M_bufferOf : ByteArray := prog_6_method_12_code
def y_M_bufferOf : MethodName := ⟨R_M, "bufferOf", "(I)I"⟩
abbrev b_M_byteOf : ByteArray := prog_6_method_7_code
def y_M_byteOf : MethodName := ⟨R_M, "byteOf", "(III)I"⟩
abbrev b_M_loaded : ByteArray := prog_6_method_23_code
def y_M_loaded : MethodName := ⟨R_M, "loaded", "(I)I"⟩
abbrev b_M_source : ByteArray := prog_6_method_24_code
def y_M_source : MethodName := ⟨R_M, "source", "(II)I"⟩
abbrev b_M_leave : ByteArray := prog_6_method_27_code
def y_M_leave : MethodName := ⟨R_M, "leave", "()I"⟩
abbrev b_M_mayLeave : ByteArray := prog_6_method_25_code
def y_M_mayLeave : MethodName := ⟨R_M, "mayLeave", "()Z"⟩
abbrev b_M_intoBuffer : ByteArray := prog_6_method_26_code
def y_M_intoBuffer : MethodName := ⟨R_M, "intoBuffer", "(I)V"⟩
abbrev b_M_write : ByteArray := prog_6_method_8_code
def y_M_write : MethodName := ⟨R_M, "write", "(III)V"⟩
abbrev b_M_drain : ByteArray := prog_6_method_28_code
def y_M_drain : MethodName := ⟨R_M, "drain", "()I"⟩
abbrev b_M_other : ByteArray := prog_6_method_30_code
def y_M_other : MethodName := ⟨R_M, "other", "(II)I"⟩
abbrev b_M_tookFromMemory : ByteArray := prog_6_method_29_code
def y_M_tookFromMemory : MethodName := ⟨R_M, "tookFromMemory", "(II)Z"⟩
abbrev b_M_memory : ByteArray := prog_6_method_31_code
def y_M_memory : MethodName := ⟨R_M, "memory", "(I)I"⟩
abbrev b_M_forget : ByteArray := prog_6_method_32_code
def y_M_forget : MethodName := ⟨R_M, "forget", "(I)I"⟩
abbrev b_M_marked : ByteArray := prog_6_method_33_code
def y_M_marked : MethodName := ⟨R_M, "marked", "(I)Z"⟩
abbrev b_M_count : ByteArray := prog_6_method_34_code
def y_M_count : MethodName := ⟨R_M, "count", "(I)I"⟩
def jT : List Cond := lw_tbl.filter goodWord
theorem jT_good : jG jT := fun w h => (List.mem_filter.mp h).2
theorem jT_in {w : Cond} (i : Nat) (h : lw_tbl[i]? = some w) (g : goodWord w = true) : w ∈ jT := List.mem_filter.mpr ⟨List.mem_of_getElem? h, g⟩
theorem lk_L_47 : Cond.methodLink R_L 47 y_C_init ∈ jT := jT_in 51 (by decide +kernel) (by decide +kernel)
theorem fk_O_kinds : Cond.fieldLink R_O 11 R_O "kinds" "[I" ∈ jT := jT_in 63 (by decide +kernel) (by decide +kernel)
theorem fk_O_sizes : Cond.fieldLink R_O 15 R_O "sizes" "[I" ∈ jT := jT_in 64 (by decide +kernel) (by decide +kernel)
theorem fk_O_programs : Cond.fieldLink R_O 18 R_O "programs" "[I" ∈ jT := jT_in 65 (by decide +kernel) (by decide +kernel)
theorem fk_O_addresses : Cond.fieldLink R_O 21 R_O "addresses" "[I" ∈ jT := jT_in 66 (by decide +kernel) (by decide +kernel)
theorem fk_O_addressTold : Cond.fieldLink R_O 24 R_O "addressTold" "[Z" ∈ jT := jT_in 67 (by decide +kernel) (by decide +kernel)
theorem fk_O_numbers : Cond.fieldLink R_O 28 R_O "numbers" "[I" ∈ jT := jT_in 68 (by decide +kernel) (by decide +kernel)
theorem fk_O_numberTold : Cond.fieldLink R_O 31 R_O "numberTold" "[Z" ∈ jT := jT_in 69 (by decide +kernel) (by decide +kernel)
theorem fk_O_done : Cond.fieldLink R_O 34 R_O "done" "[Z" ∈ jT := jT_in 70 (by decide +kernel) (by decide +kernel)
theorem fk_O_loadedNumbers : Cond.fieldLink R_O 37 R_O "loadedNumbers" "[I" ∈ jT := jT_in 71 (by decide +kernel) (by decide +kernel)
theorem fk_O_sources : Cond.fieldLink R_O 40 R_O "sources" "[I" ∈ jT := jT_in 72 (by decide +kernel) (by decide +kernel)
theorem fk_B_stores : Cond.fieldLink R_B 9 R_B "stores" "[I" ∈ jT := jT_in 102 (by decide +kernel) (by decide +kernel)
theorem fk_B_addresses : Cond.fieldLink R_B 15 R_B "addresses" "[I" ∈ jT := jT_in 103 (by decide +kernel) (by decide +kernel)
theorem fk_B_sizes : Cond.fieldLink R_B 18 R_B "sizes" "[I" ∈ jT := jT_in 104 (by decide +kernel) (by decide +kernel)
theorem fk_B_numbers : Cond.fieldLink R_B 21 R_B "numbers" "[I" ∈ jT := jT_in 105 (by decide +kernel) (by decide +kernel)
theorem fk_B_held : Cond.fieldLink R_B 24 R_B "held" "I" ∈ jT := jT_in 106 (by decide +kernel) (by decide +kernel)
theorem fk_Y_cells : Cond.fieldLink R_Y 9 R_Y "cells" "[B" ∈ jT := jT_in 124 (by decide +kernel) (by decide +kernel)
theorem fk_C_ops : Cond.fieldLink R_C 10 R_C "ops" "LLoadStoreRows$OpRows;" ∈ jT := jT_in 129 (by decide +kernel) (by decide +kernel)
theorem fk_C_buffer : Cond.fieldLink R_C 19 R_C "buffer" "LLoadStoreRows$StoreBuffer;" ∈ jT := jT_in 130 (by decide +kernel) (by decide +kernel)
theorem fk_C_mainMemory : Cond.fieldLink R_C 26 R_C "mainMemory" "LLoadStoreRows$ByteMemory;" ∈ jT := jT_in 131 (by decide +kernel) (by decide +kernel)
theorem fk_C_nextOp : Cond.fieldLink R_C 30 R_C "nextOp" "I" ∈ jT := jT_in 132 (by decide +kernel) (by decide +kernel)
theorem fk_C_oldestWaiting : Cond.fieldLink R_C 34 R_C "oldestWaiting" "I" ∈ jT := jT_in 133 (by decide +kernel) (by decide +kernel)
theorem fk_C_marks : Cond.fieldLink R_C 37 R_C "marks" "J" ∈ jT := jT_in 134 (by decide +kernel) (by decide +kernel)
theorem fk_C_undoneSoFar : Cond.fieldLink R_C 41 R_C "undoneSoFar" "I" ∈ jT := jT_in 135 (by decide +kernel) (by decide +kernel)
theorem fk_C_wrongSoFar : Cond.fieldLink R_C 44 R_C "wrongSoFar" "I" ∈ jT := jT_in 136 (by decide +kernel) (by decide +kernel)
theorem fk_C_bytesFromStores : Cond.fieldLink R_C 47 R_C "bytesFromStores" "I" ∈ jT := jT_in 137 (by decide +kernel) (by decide +kernel)
theorem fk_C_bytesFromElsewhere : Cond.fieldLink R_C 50 R_C "bytesFromElsewhere" "I" ∈ jT := jT_in 138 (by decide +kernel) (by decide +kernel)
theorem lk_L_78 : Cond.methodLink R_L 78 y_C_leave ∈ jT := jT_in 160 (by decide +kernel) (by decide +kernel)
theorem lk_C_64 : Cond.methodLink R_C 64 y_C_waitingOps ∈ jT := jT_in 164 (by decide +kernel) (by decide +kernel)
theorem lk_C_170 : Cond.methodLink R_C 170 y_C_mayLeave ∈ jT := jT_in 168 (by decide +kernel) (by decide +kernel)
theorem lk_C_85 : Cond.methodLink R_C 85 y_O_kindOf ∈ jT := jT_in 172 (by decide +kernel) (by decide +kernel)
theorem lk_C_129 : Cond.methodLink R_C 129 y_O_isDone ∈ jT := jT_in 176 (by decide +kernel) (by decide +kernel)
theorem lk_C_255 : Cond.methodLink R_C 255 y_O_isTold ∈ jT := jT_in 180 (by decide +kernel) (by decide +kernel)
theorem lk_O_43 : Cond.methodLink R_O 43 y_O_hasAddress ∈ jT := jT_in 184 (by decide +kernel) (by decide +kernel)
theorem lk_O_47 : Cond.methodLink R_O 47 y_O_hasNumber ∈ jT := jT_in 188 (by decide +kernel) (by decide +kernel)
theorem lk_C_225 : Cond.methodLink R_C 225 y_O_addressOf ∈ jT := jT_in 192 (by decide +kernel) (by decide +kernel)
theorem lk_C_217 : Cond.methodLink R_C 217 y_C_isDevice ∈ jT := jT_in 196 (by decide +kernel) (by decide +kernel)
theorem lk_C_176 : Cond.methodLink R_C 176 y_B_isEmpty ∈ jT := jT_in 199 (by decide +kernel) (by decide +kernel)
theorem lk_C_258 : Cond.methodLink R_C 258 y_B_hasRoom ∈ jT := jT_in 203 (by decide +kernel) (by decide +kernel)
theorem lk_C_173 : Cond.methodLink R_C 173 y_C_carryOut ∈ jT := jT_in 207 (by decide +kernel) (by decide +kernel)
theorem lk_C_118 : Cond.methodLink R_C 118 y_C_takesNumber ∈ jT := jT_in 211 (by decide +kernel) (by decide +kernel)
theorem lk_C_94 : Cond.methodLink R_C 94 y_O_bytesOf ∈ jT := jT_in 214 (by decide +kernel) (by decide +kernel)
theorem lk_C_261 : Cond.methodLink R_C 261 y_O_numberOf ∈ jT := jT_in 218 (by decide +kernel) (by decide +kernel)
theorem lk_C_264 : Cond.methodLink R_C 264 y_B_append ∈ jT := jT_in 222 (by decide +kernel) (by decide +kernel)
theorem lk_C_267 : Cond.methodLink R_C 267 y_Y_numberAt ∈ jT := jT_in 226 (by decide +kernel) (by decide +kernel)
theorem lk_Y_15 : Cond.methodLink R_Y 15 y_Y_byteAt ∈ jT := jT_in 230 (by decide +kernel) (by decide +kernel)
theorem lk_C_238 : Cond.methodLink R_C 238 y_O_setLoaded ∈ jT := jT_in 234 (by decide +kernel) (by decide +kernel)
theorem lk_C_270 : Cond.methodLink R_C 270 y_Y_write ∈ jT := jT_in 238 (by decide +kernel) (by decide +kernel)
theorem lk_Y_23 : Cond.methodLink R_Y 23 y_Y_setByte ∈ jT := jT_in 245 (by decide +kernel) (by decide +kernel)
theorem lk_L_82 : Cond.methodLink R_L 82 y_C_drain ∈ jT := jT_in 249 (by decide +kernel) (by decide +kernel)
theorem lk_C_180 : Cond.methodLink R_C 180 y_B_oldestStore ∈ jT := jT_in 253 (by decide +kernel) (by decide +kernel)
theorem lk_C_183 : Cond.methodLink R_C 183 y_B_moveOldestTo ∈ jT := jT_in 257 (by decide +kernel) (by decide +kernel)
theorem lk_B_28 : Cond.methodLink R_B 28 y_Y_write ∈ jT := jT_in 261 (by decide +kernel) (by decide +kernel)
theorem lk_L_95 : Cond.methodLink R_L 95 y_C_marked ∈ jT := jT_in 262 (by decide +kernel) (by decide +kernel)
theorem lk_L_100 : Cond.methodLink R_L 100 y_C_count ∈ jT := jT_in 266 (by decide +kernel) (by decide +kernel)
theorem lk_C_205 : Cond.methodLink R_C 205 y_B_size ∈ jT := jT_in 270 (by decide +kernel) (by decide +kernel)
theorem lk_C_208 : Cond.methodLink R_C 208 y_C_loadsDoneThatWait ∈ jT := jT_in 274 (by decide +kernel) (by decide +kernel)
theorem lk_C_211 : Cond.methodLink R_C 211 y_G_bitCount ∈ jT := jT_in 278 (by decide +kernel) (by decide +kernel)
theorem kl_314 : Cond.constantLong R_G 314 (6148914691236517205 : Int64) ∈ jT := jT_in 281 (by decide +kernel) (by decide +kernel)
theorem kl_316 : Cond.constantLong R_G 316 (3689348814741910323 : Int64) ∈ jT := jT_in 282 (by decide +kernel) (by decide +kernel)
theorem kl_318 : Cond.constantLong R_G 318 (1085102592571150095 : Int64) ∈ jT := jT_in 283 (by decide +kernel) (by decide +kernel)
theorem lk_L_7 : Cond.methodLink R_L 7 y_C_op ∈ jT := jT_in 289 (by decide +kernel) (by decide +kernel)
theorem lk_C_53 : Cond.methodLink R_C 53 y_C_isKindWithBytes ∈ jT := jT_in 293 (by decide +kernel) (by decide +kernel)
theorem lk_C_73 : Cond.methodLink R_C 73 y_O_begin ∈ jT := jT_in 380 (by decide +kernel) (by decide +kernel)
theorem lk_L_17 : Cond.methodLink R_L 17 y_C_address ∈ jT := jT_in 388 (by decide +kernel) (by decide +kernel)
theorem lk_C_77 : Cond.methodLink R_C 77 y_C_requireOp ∈ jT := jT_in 392 (by decide +kernel) (by decide +kernel)
theorem lk_C_81 : Cond.methodLink R_C 81 y_C_waits ∈ jT := jT_in 412 (by decide +kernel) (by decide +kernel)
theorem lk_C_89 : Cond.methodLink R_C 89 y_O_hasAddress ∈ jT := jT_in 416 (by decide +kernel) (by decide +kernel)
theorem lk_C_97 : Cond.methodLink R_C 97 y_C_canBeAddress ∈ jT := jT_in 418 (by decide +kernel) (by decide +kernel)
theorem lk_C_102 : Cond.methodLink R_C 102 y_O_setAddress ∈ jT := jT_in 422 (by decide +kernel) (by decide +kernel)
theorem lk_C_106 : Cond.methodLink R_C 106 y_C_oldestLoadPast ∈ jT := jT_in 426 (by decide +kernel) (by decide +kernel)
theorem lk_C_252 : Cond.methodLink R_C 252 y_C_missedByteOf ∈ jT := jT_in 430 (by decide +kernel) (by decide +kernel)
theorem lk_C_231 : Cond.methodLink R_C 231 y_O_covers ∈ jT := jT_in 434 (by decide +kernel) (by decide +kernel)
theorem lk_O_54 : Cond.methodLink R_O 54 y_O_addressOf ∈ jT := jT_in 438 (by decide +kernel) (by decide +kernel)
theorem lk_O_58 : Cond.methodLink R_O 58 y_O_bytesOf ∈ jT := jT_in 439 (by decide +kernel) (by decide +kernel)
theorem lk_C_166 : Cond.methodLink R_C 166 y_O_sourceOf ∈ jT := jT_in 440 (by decide +kernel) (by decide +kernel)
theorem lk_O_50 : Cond.methodLink R_O 50 y_O_sourceSlot ∈ jT := jT_in 444 (by decide +kernel) (by decide +kernel)
theorem lk_C_109 : Cond.methodLink R_C 109 y_O_programOf ∈ jT := jT_in 447 (by decide +kernel) (by decide +kernel)
theorem lk_C_112 : Cond.methodLink R_C 112 y_C_mark ∈ jT := jT_in 451 (by decide +kernel) (by decide +kernel)
theorem lk_C_115 : Cond.methodLink R_C 115 y_C_undoWrong ∈ jT := jT_in 455 (by decide +kernel) (by decide +kernel)
theorem lk_C_241 : Cond.methodLink R_C 241 y_O_setDone ∈ jT := jT_in 459 (by decide +kernel) (by decide +kernel)
theorem lk_L_23 : Cond.methodLink R_L 23 y_C_number ∈ jT := jT_in 466 (by decide +kernel) (by decide +kernel)
theorem lk_C_121 : Cond.methodLink R_C 121 y_O_hasNumber ∈ jT := jT_in 470 (by decide +kernel) (by decide +kernel)
theorem lk_C_126 : Cond.methodLink R_C 126 y_O_setNumber ∈ jT := jT_in 472 (by decide +kernel) (by decide +kernel)
theorem lk_L_26 : Cond.methodLink R_L 26 y_C_tried ∈ jT := jT_in 479 (by decide +kernel) (by decide +kernel)
theorem lk_C_134 : Cond.methodLink R_C 134 y_C_isHeldBack ∈ jT := jT_in 484 (by decide +kernel) (by decide +kernel)
theorem lk_C_137 : Cond.methodLink R_C 137 y_C_marked ∈ jT := jT_in 488 (by decide +kernel) (by decide +kernel)
theorem lk_C_140 : Cond.methodLink R_C 140 y_C_storeWithoutAddressBefore ∈ jT := jT_in 489 (by decide +kernel) (by decide +kernel)
theorem lk_C_143 : Cond.methodLink R_C 143 y_C_storeWithoutNumberFor ∈ jT := jT_in 493 (by decide +kernel) (by decide +kernel)
theorem lk_C_228 : Cond.methodLink R_C 228 y_C_newestStoreBefore ∈ jT := jT_in 497 (by decide +kernel) (by decide +kernel)
theorem lk_C_146 : Cond.methodLink R_C 146 y_C_doLoad ∈ jT := jT_in 501 (by decide +kernel) (by decide +kernel)
theorem lk_C_234 : Cond.methodLink R_C 234 y_C_takeByte ∈ jT := jT_in 505 (by decide +kernel) (by decide +kernel)
theorem lk_C_245 : Cond.methodLink R_C 245 y_O_setSource ∈ jT := jT_in 509 (by decide +kernel) (by decide +kernel)
theorem lk_C_249 : Cond.methodLink R_C 249 y_O_byteAt ∈ jT := jT_in 513 (by decide +kernel) (by decide +kernel)
theorem lk_O_61 : Cond.methodLink R_O 61 y_O_numberOf ∈ jT := jT_in 517 (by decide +kernel) (by decide +kernel)
theorem lk_C_251 : Cond.methodLink R_C 251 y_B_byteAt ∈ jT := jT_in 519 (by decide +kernel) (by decide +kernel)
theorem lk_C_200 : Cond.methodLink R_C 200 y_Y_byteAt ∈ jT := jT_in 524 (by decide +kernel) (by decide +kernel)
theorem lk_L_30 : Cond.methodLink R_L 30 y_C_loaded ∈ jT := jT_in 529 (by decide +kernel) (by decide +kernel)
theorem lk_C_154 : Cond.methodLink R_C 154 y_C_hasLoaded ∈ jT := jT_in 549 (by decide +kernel) (by decide +kernel)
theorem lk_C_159 : Cond.methodLink R_C 159 y_O_loadedBy ∈ jT := jT_in 554 (by decide +kernel) (by decide +kernel)
theorem lk_L_35 : Cond.methodLink R_L 35 y_C_source ∈ jT := jT_in 561 (by decide +kernel) (by decide +kernel)
theorem lk_L_38 : Cond.methodLink R_L 38 y_C_other ∈ jT := jT_in 570 (by decide +kernel) (by decide +kernel)
theorem lk_C_187 : Cond.methodLink R_C 187 y_C_isMemoryByte ∈ jT := jT_in 574 (by decide +kernel) (by decide +kernel)
theorem lk_C_192 : Cond.methodLink R_C 192 y_Y_setByte ∈ jT := jT_in 578 (by decide +kernel) (by decide +kernel)
theorem lk_C_195 : Cond.methodLink R_C 195 y_C_oldestLoadFromMemory ∈ jT := jT_in 579 (by decide +kernel) (by decide +kernel)
theorem lk_L_41 : Cond.methodLink R_L 41 y_C_memory ∈ jT := jT_in 586 (by decide +kernel) (by decide +kernel)
theorem lk_L_44 : Cond.methodLink R_L 44 y_C_forget ∈ jT := jT_in 594 (by decide +kernel) (by decide +kernel)
theorem lk_L_50 : Cond.methodLink R_L 50 y_M_init ∈ jT := jT_in 601 (by decide +kernel) (by decide +kernel)
theorem fk_M_thrown : Cond.fieldLink R_M 56 R_M "thrown" "I" ∈ jT := jT_in 605 (by decide +kernel) (by decide +kernel)
theorem fk_M_total : Cond.fieldLink R_M 60 R_M "total" "I" ∈ jT := jT_in 606 (by decide +kernel) (by decide +kernel)
theorem fk_M_oldest : Cond.fieldLink R_M 63 R_M "oldest" "I" ∈ jT := jT_in 607 (by decide +kernel) (by decide +kernel)
theorem fk_M_undone : Cond.fieldLink R_M 107 R_M "undone" "I" ∈ jT := jT_in 608 (by decide +kernel) (by decide +kernel)
theorem fk_M_wrong : Cond.fieldLink R_M 104 R_M "wrong" "I" ∈ jT := jT_in 609 (by decide +kernel) (by decide +kernel)
theorem fk_M_ofStores : Cond.fieldLink R_M 126 R_M "ofStores" "I" ∈ jT := jT_in 610 (by decide +kernel) (by decide +kernel)
theorem fk_M_ofOthers : Cond.fieldLink R_M 129 R_M "ofOthers" "I" ∈ jT := jT_in 611 (by decide +kernel) (by decide +kernel)
theorem fk_M_bytes : Cond.fieldLink R_M 7 R_M "bytes" "[I" ∈ jT := jT_in 612 (by decide +kernel) (by decide +kernel)
theorem fk_M_marks : Cond.fieldLink R_M 13 R_M "marks" "[Z" ∈ jT := jT_in 613 (by decide +kernel) (by decide +kernel)
theorem fk_M_kinds : Cond.fieldLink R_M 17 R_M "kinds" "[I" ∈ jT := jT_in 614 (by decide +kernel) (by decide +kernel)
theorem fk_M_sizes : Cond.fieldLink R_M 20 R_M "sizes" "[I" ∈ jT := jT_in 615 (by decide +kernel) (by decide +kernel)
theorem fk_M_programs : Cond.fieldLink R_M 23 R_M "programs" "[I" ∈ jT := jT_in 616 (by decide +kernel) (by decide +kernel)
theorem fk_M_places : Cond.fieldLink R_M 26 R_M "places" "[I" ∈ jT := jT_in 617 (by decide +kernel) (by decide +kernel)
theorem fk_M_values : Cond.fieldLink R_M 29 R_M "values" "[I" ∈ jT := jT_in 618 (by decide +kernel) (by decide +kernel)
theorem fk_M_results : Cond.fieldLink R_M 32 R_M "results" "[I" ∈ jT := jT_in 619 (by decide +kernel) (by decide +kernel)
theorem fk_M_told : Cond.fieldLink R_M 35 R_M "told" "[Z" ∈ jT := jT_in 620 (by decide +kernel) (by decide +kernel)
theorem fk_M_done : Cond.fieldLink R_M 38 R_M "done" "[Z" ∈ jT := jT_in 621 (by decide +kernel) (by decide +kernel)
theorem fk_M_from : Cond.fieldLink R_M 41 R_M "from" "[I" ∈ jT := jT_in 622 (by decide +kernel) (by decide +kernel)
theorem fk_M_waiting : Cond.fieldLink R_M 44 R_M "waiting" "[I" ∈ jT := jT_in 623 (by decide +kernel) (by decide +kernel)
theorem fk_M_waitPlace : Cond.fieldLink R_M 47 R_M "waitPlace" "[I" ∈ jT := jT_in 624 (by decide +kernel) (by decide +kernel)
theorem fk_M_waitSize : Cond.fieldLink R_M 50 R_M "waitSize" "[I" ∈ jT := jT_in 625 (by decide +kernel) (by decide +kernel)
theorem fk_M_waitValue : Cond.fieldLink R_M 53 R_M "waitValue" "[I" ∈ jT := jT_in 626 (by decide +kernel) (by decide +kernel)
theorem fk_M_buffered : Cond.fieldLink R_M 81 R_M "buffered" "I" ∈ jT := jT_in 627 (by decide +kernel) (by decide +kernel)
theorem lk_L_57 : Cond.methodLink R_L 57 y_M_thrown ∈ jT := jT_in 675 (by decide +kernel) (by decide +kernel)
theorem lk_L_56 : Cond.methodLink R_L 56 y_M_op ∈ jT := jT_in 679 (by decide +kernel) (by decide +kernel)
theorem lk_M_66 : Cond.methodLink R_M 66 y_M_isSize ∈ jT := jT_in 683 (by decide +kernel) (by decide +kernel)
theorem lk_L_64 : Cond.methodLink R_L 64 y_M_address ∈ jT := jT_in 686 (by decide +kernel) (by decide +kernel)
theorem lk_M_88 : Cond.methodLink R_M 88 y_M_isOp ∈ jT := jT_in 690 (by decide +kernel) (by decide +kernel)
theorem lk_M_91 : Cond.methodLink R_M 91 y_M_canBe ∈ jT := jT_in 694 (by decide +kernel) (by decide +kernel)
theorem lk_M_84 : Cond.methodLink R_M 84 y_M_waits ∈ jT := jT_in 698 (by decide +kernel) (by decide +kernel)
theorem lk_M_94 : Cond.methodLink R_M 94 y_M_isDone ∈ jT := jT_in 702 (by decide +kernel) (by decide +kernel)
theorem lk_M_97 : Cond.methodLink R_M 97 y_M_tookOlder ∈ jT := jT_in 706 (by decide +kernel) (by decide +kernel)
theorem lk_M_78 : Cond.methodLink R_M 78 y_M_has ∈ jT := jT_in 710 (by decide +kernel) (by decide +kernel)
theorem lk_M_74 : Cond.methodLink R_M 74 y_M_covers ∈ jT := jT_in 714 (by decide +kernel) (by decide +kernel)
theorem lk_M_100 : Cond.methodLink R_M 100 y_M_undo ∈ jT := jT_in 717 (by decide +kernel) (by decide +kernel)
theorem lk_L_67 : Cond.methodLink R_L 67 y_M_number ∈ jT := jT_in 721 (by decide +kernel) (by decide +kernel)
theorem lk_L_71 : Cond.methodLink R_L 71 y_M_tried ∈ jT := jT_in 725 (by decide +kernel) (by decide +kernel)
theorem lk_M_110 : Cond.methodLink R_M 110 y_M_isHeld ∈ jT := jT_in 729 (by decide +kernel) (by decide +kernel)
theorem lk_M_113 : Cond.methodLink R_M 113 y_M_hasUnknown ∈ jT := jT_in 733 (by decide +kernel) (by decide +kernel)
theorem lk_M_116 : Cond.methodLink R_M 116 y_M_storeOf ∈ jT := jT_in 737 (by decide +kernel) (by decide +kernel)
theorem lk_M_120 : Cond.methodLink R_M 120 y_M_taken ∈ jT := jT_in 741 (by decide +kernel) (by decide +kernel)
theorem lk_M_123 : Cond.methodLink R_M 123 y_M_bufferOf ∈ jT := jT_in 745 (by decide +kernel) (by decide +kernel)
theorem lk_M_70 : Cond.methodLink R_M 70 y_M_byteOf ∈ jT := jT_in 749 (by decide +kernel) (by decide +kernel)
theorem lk_L_74 : Cond.methodLink R_L 74 y_M_loaded ∈ jT := jT_in 752 (by decide +kernel) (by decide +kernel)
theorem lk_L_77 : Cond.methodLink R_L 77 y_M_source ∈ jT := jT_in 756 (by decide +kernel) (by decide +kernel)
theorem lk_L_81 : Cond.methodLink R_L 81 y_M_leave ∈ jT := jT_in 760 (by decide +kernel) (by decide +kernel)
theorem lk_M_132 : Cond.methodLink R_M 132 y_M_mayLeave ∈ jT := jT_in 764 (by decide +kernel) (by decide +kernel)
theorem lk_M_136 : Cond.methodLink R_M 136 y_M_intoBuffer ∈ jT := jT_in 768 (by decide +kernel) (by decide +kernel)
theorem lk_M_140 : Cond.methodLink R_M 140 y_M_write ∈ jT := jT_in 772 (by decide +kernel) (by decide +kernel)
theorem lk_L_85 : Cond.methodLink R_L 85 y_M_drain ∈ jT := jT_in 776 (by decide +kernel) (by decide +kernel)
theorem lk_L_88 : Cond.methodLink R_L 88 y_M_other ∈ jT := jT_in 780 (by decide +kernel) (by decide +kernel)
theorem lk_M_144 : Cond.methodLink R_M 144 y_M_tookFromMemory ∈ jT := jT_in 784 (by decide +kernel) (by decide +kernel)
theorem lk_L_91 : Cond.methodLink R_L 91 y_M_memory ∈ jT := jT_in 788 (by decide +kernel) (by decide +kernel)
theorem lk_L_94 : Cond.methodLink R_L 94 y_M_forget ∈ jT := jT_in 792 (by decide +kernel) (by decide +kernel)
theorem lk_L_99 : Cond.methodLink R_L 99 y_M_marked ∈ jT := jT_in 796 (by decide +kernel) (by decide +kernel)
theorem lk_L_103 : Cond.methodLink R_L 103 y_M_count ∈ jT := jT_in 800 (by decide +kernel) (by decide +kernel)
theorem yk_C_leave : jY jT y_C_leave b_C_leave 2 (some .int) 0 := ⟨jT_in 163 (by decide +kernel) (by decide +kernel), jT_in 161 (by decide +kernel) (by decide +kernel), jT_in 162 (by decide +kernel) (by decide +kernel), jT_in 36 (by decide +kernel) (by decide +kernel), ⟨by decide +kernel, by decide +kernel⟩, by decide +kernel⟩
theorem yk_C_waitingOps : jY jT y_C_waitingOps b_C_waitingOps 1 (some .int) 0 := ⟨jT_in 167 (by decide +kernel) (by decide +kernel), jT_in 166 (by decide +kernel) (by decide +kernel), jT_in 0 (by decide +kernel) (by decide +kernel), jT_in 36 (by decide +kernel) (by decide +kernel), ⟨by decide +kernel, by decide +kernel⟩, by decide +kernel⟩
theorem yk_C_mayLeave : jY jT y_C_mayLeave b_C_mayLeave 2 (some .boolean) 1 := ⟨jT_in 171 (by decide +kernel) (by decide +kernel), jT_in 170 (by decide +kernel) (by decide +kernel), jT_in 1 (by decide +kernel) (by decide +kernel), jT_in 36 (by decide +kernel) (by decide +kernel), ⟨by decide +kernel, by decide +kernel⟩, by decide +kernel⟩
theorem yk_O_kindOf : jY jT y_O_kindOf b_O_kindOf 2 (some .int) 1 := ⟨jT_in 175 (by decide +kernel) (by decide +kernel), jT_in 173 (by decide +kernel) (by decide +kernel), jT_in 174 (by decide +kernel) (by decide +kernel), jT_in 37 (by decide +kernel) (by decide +kernel), ⟨by decide +kernel, by decide +kernel⟩, by decide +kernel⟩
theorem yk_O_isDone : jY jT y_O_isDone b_O_isDone 2 (some .boolean) 1 := ⟨jT_in 179 (by decide +kernel) (by decide +kernel), jT_in 177 (by decide +kernel) (by decide +kernel), jT_in 178 (by decide +kernel) (by decide +kernel), jT_in 37 (by decide +kernel) (by decide +kernel), ⟨by decide +kernel, by decide +kernel⟩, by decide +kernel⟩
theorem yk_O_isTold : jY jT y_O_isTold b_O_isTold 2 (some .boolean) 1 := ⟨jT_in 183 (by decide +kernel) (by decide +kernel), jT_in 181 (by decide +kernel) (by decide +kernel), jT_in 182 (by decide +kernel) (by decide +kernel), jT_in 37 (by decide +kernel) (by decide +kernel), ⟨by decide +kernel, by decide +kernel⟩, by decide +kernel⟩
theorem yk_O_hasAddress : jY jT y_O_hasAddress b_O_hasAddress 2 (some .boolean) 1 := ⟨jT_in 187 (by decide +kernel) (by decide +kernel), jT_in 185 (by decide +kernel) (by decide +kernel), jT_in 186 (by decide +kernel) (by decide +kernel), jT_in 37 (by decide +kernel) (by decide +kernel), ⟨by decide +kernel, by decide +kernel⟩, by decide +kernel⟩
theorem yk_O_hasNumber : jY jT y_O_hasNumber b_O_hasNumber 2 (some .boolean) 1 := ⟨jT_in 191 (by decide +kernel) (by decide +kernel), jT_in 189 (by decide +kernel) (by decide +kernel), jT_in 190 (by decide +kernel) (by decide +kernel), jT_in 37 (by decide +kernel) (by decide +kernel), ⟨by decide +kernel, by decide +kernel⟩, by decide +kernel⟩
theorem yk_O_addressOf : jY jT y_O_addressOf b_O_addressOf 2 (some .int) 1 := ⟨jT_in 195 (by decide +kernel) (by decide +kernel), jT_in 193 (by decide +kernel) (by decide +kernel), jT_in 194 (by decide +kernel) (by decide +kernel), jT_in 37 (by decide +kernel) (by decide +kernel), ⟨by decide +kernel, by decide +kernel⟩, by decide +kernel⟩
theorem yk_C_isDevice : jYs jT y_C_isDevice b_C_isDevice 1 (some .boolean) 1 := ⟨jT_in 198 (by decide +kernel) (by decide +kernel), jT_in 197 (by decide +kernel) (by decide +kernel), jT_in 36 (by decide +kernel) (by decide +kernel), ⟨by decide +kernel, by decide +kernel⟩, by decide +kernel⟩
theorem yk_B_isEmpty : jY jT y_B_isEmpty b_B_isEmpty 1 (some .boolean) 0 := ⟨jT_in 202 (by decide +kernel) (by decide +kernel), jT_in 200 (by decide +kernel) (by decide +kernel), jT_in 201 (by decide +kernel) (by decide +kernel), jT_in 38 (by decide +kernel) (by decide +kernel), ⟨by decide +kernel, by decide +kernel⟩, by decide +kernel⟩
theorem yk_B_hasRoom : jY jT y_B_hasRoom b_B_hasRoom 1 (some .boolean) 0 := ⟨jT_in 206 (by decide +kernel) (by decide +kernel), jT_in 204 (by decide +kernel) (by decide +kernel), jT_in 205 (by decide +kernel) (by decide +kernel), jT_in 38 (by decide +kernel) (by decide +kernel), ⟨by decide +kernel, by decide +kernel⟩, by decide +kernel⟩
theorem yk_C_carryOut : jY jT y_C_carryOut b_C_carryOut 5 none 1 := ⟨jT_in 210 (by decide +kernel) (by decide +kernel), jT_in 209 (by decide +kernel) (by decide +kernel), jT_in 2 (by decide +kernel) (by decide +kernel), jT_in 36 (by decide +kernel) (by decide +kernel), ⟨by decide +kernel, by decide +kernel⟩, by decide +kernel⟩
theorem yk_C_takesNumber : jYs jT y_C_takesNumber b_C_takesNumber 1 (some .boolean) 1 := ⟨jT_in 213 (by decide +kernel) (by decide +kernel), jT_in 212 (by decide +kernel) (by decide +kernel), jT_in 36 (by decide +kernel) (by decide +kernel), ⟨by decide +kernel, by decide +kernel⟩, by decide +kernel⟩
theorem yk_O_bytesOf : jY jT y_O_bytesOf b_O_bytesOf 2 (some .int) 1 := ⟨jT_in 217 (by decide +kernel) (by decide +kernel), jT_in 215 (by decide +kernel) (by decide +kernel), jT_in 216 (by decide +kernel) (by decide +kernel), jT_in 37 (by decide +kernel) (by decide +kernel), ⟨by decide +kernel, by decide +kernel⟩, by decide +kernel⟩
theorem yk_O_numberOf : jY jT y_O_numberOf b_O_numberOf 2 (some .int) 1 := ⟨jT_in 221 (by decide +kernel) (by decide +kernel), jT_in 219 (by decide +kernel) (by decide +kernel), jT_in 220 (by decide +kernel) (by decide +kernel), jT_in 37 (by decide +kernel) (by decide +kernel), ⟨by decide +kernel, by decide +kernel⟩, by decide +kernel⟩
theorem yk_B_append : jY jT y_B_append b_B_append 5 none 4 := ⟨jT_in 225 (by decide +kernel) (by decide +kernel), jT_in 223 (by decide +kernel) (by decide +kernel), jT_in 224 (by decide +kernel) (by decide +kernel), jT_in 38 (by decide +kernel) (by decide +kernel), ⟨by decide +kernel, by decide +kernel⟩, by decide +kernel⟩
theorem yk_Y_numberAt : jY jT y_Y_numberAt b_Y_numberAt 5 (some .int) 2 := ⟨jT_in 229 (by decide +kernel) (by decide +kernel), jT_in 227 (by decide +kernel) (by decide +kernel), jT_in 228 (by decide +kernel) (by decide +kernel), jT_in 39 (by decide +kernel) (by decide +kernel), ⟨by decide +kernel, by decide +kernel⟩, by decide +kernel⟩
theorem yk_Y_byteAt : jY jT y_Y_byteAt b_Y_byteAt 2 (some .int) 1 := ⟨jT_in 233 (by decide +kernel) (by decide +kernel), jT_in 231 (by decide +kernel) (by decide +kernel), jT_in 232 (by decide +kernel) (by decide +kernel), jT_in 39 (by decide +kernel) (by decide +kernel), ⟨by decide +kernel, by decide +kernel⟩, by decide +kernel⟩
theorem yk_O_setLoaded : jY jT y_O_setLoaded b_O_setLoaded 3 none 2 := ⟨jT_in 237 (by decide +kernel) (by decide +kernel), jT_in 235 (by decide +kernel) (by decide +kernel), jT_in 236 (by decide +kernel) (by decide +kernel), jT_in 37 (by decide +kernel) (by decide +kernel), ⟨by decide +kernel, by decide +kernel⟩, by decide +kernel⟩
theorem yk_Y_write : jY jT y_Y_write b_Y_write 5 none 3 := ⟨jT_in 241 (by decide +kernel) (by decide +kernel), jT_in 239 (by decide +kernel) (by decide +kernel), jT_in 240 (by decide +kernel) (by decide +kernel), jT_in 39 (by decide +kernel) (by decide +kernel), ⟨by decide +kernel, by decide +kernel⟩, by decide +kernel⟩
theorem yk_C_byteOfNumber : jYs jT y_C_byteOfNumber b_C_byteOfNumber 3 (some .int) 3 := ⟨jT_in 244 (by decide +kernel) (by decide +kernel), jT_in 243 (by decide +kernel) (by decide +kernel), jT_in 36 (by decide +kernel) (by decide +kernel), ⟨by decide +kernel, by decide +kernel⟩, by decide +kernel⟩
theorem yk_Y_setByte : jY jT y_Y_setByte b_Y_setByte 3 none 2 := ⟨jT_in 248 (by decide +kernel) (by decide +kernel), jT_in 246 (by decide +kernel) (by decide +kernel), jT_in 247 (by decide +kernel) (by decide +kernel), jT_in 39 (by decide +kernel) (by decide +kernel), ⟨by decide +kernel, by decide +kernel⟩, by decide +kernel⟩
theorem yk_C_drain : jY jT y_C_drain b_C_drain 2 (some .int) 0 := ⟨jT_in 252 (by decide +kernel) (by decide +kernel), jT_in 250 (by decide +kernel) (by decide +kernel), jT_in 251 (by decide +kernel) (by decide +kernel), jT_in 36 (by decide +kernel) (by decide +kernel), ⟨by decide +kernel, by decide +kernel⟩, by decide +kernel⟩
theorem yk_B_oldestStore : jY jT y_B_oldestStore b_B_oldestStore 1 (some .int) 0 := ⟨jT_in 256 (by decide +kernel) (by decide +kernel), jT_in 254 (by decide +kernel) (by decide +kernel), jT_in 255 (by decide +kernel) (by decide +kernel), jT_in 38 (by decide +kernel) (by decide +kernel), ⟨by decide +kernel, by decide +kernel⟩, by decide +kernel⟩
theorem yk_B_moveOldestTo : jY jT y_B_moveOldestTo b_B_moveOldestTo 3 none 1 := ⟨jT_in 260 (by decide +kernel) (by decide +kernel), jT_in 258 (by decide +kernel) (by decide +kernel), jT_in 259 (by decide +kernel) (by decide +kernel), jT_in 38 (by decide +kernel) (by decide +kernel), ⟨by decide +kernel, by decide +kernel⟩, by decide +kernel⟩
theorem yk_C_marked : jY jT y_C_marked b_C_marked 2 (some .boolean) 1 := ⟨jT_in 265 (by decide +kernel) (by decide +kernel), jT_in 263 (by decide +kernel) (by decide +kernel), jT_in 264 (by decide +kernel) (by decide +kernel), jT_in 36 (by decide +kernel) (by decide +kernel), ⟨by decide +kernel, by decide +kernel⟩, by decide +kernel⟩
theorem yk_C_count : jY jT y_C_count b_C_count 2 (some .int) 1 := ⟨jT_in 269 (by decide +kernel) (by decide +kernel), jT_in 267 (by decide +kernel) (by decide +kernel), jT_in 268 (by decide +kernel) (by decide +kernel), jT_in 36 (by decide +kernel) (by decide +kernel), ⟨by decide +kernel, by decide +kernel⟩, by decide +kernel⟩
theorem yk_B_size : jY jT y_B_size b_B_size 1 (some .int) 0 := ⟨jT_in 273 (by decide +kernel) (by decide +kernel), jT_in 271 (by decide +kernel) (by decide +kernel), jT_in 272 (by decide +kernel) (by decide +kernel), jT_in 38 (by decide +kernel) (by decide +kernel), ⟨by decide +kernel, by decide +kernel⟩, by decide +kernel⟩
theorem yk_C_loadsDoneThatWait : jY jT y_C_loadsDoneThatWait b_C_loadsDoneThatWait 3 (some .int) 0 := ⟨jT_in 277 (by decide +kernel) (by decide +kernel), jT_in 276 (by decide +kernel) (by decide +kernel), jT_in 3 (by decide +kernel) (by decide +kernel), jT_in 36 (by decide +kernel) (by decide +kernel), ⟨by decide +kernel, by decide +kernel⟩, by decide +kernel⟩
theorem yk_G_bitCount : jYs jT y_G_bitCount b_G_bitCount 2 (some .int) 1 := ⟨jT_in 280 (by decide +kernel) (by decide +kernel), jT_in 279 (by decide +kernel) (by decide +kernel), jT_in 48 (by decide +kernel) (by decide +kernel), ⟨by decide +kernel, by decide +kernel⟩, by decide +kernel⟩
theorem yk_C_op : jY jT y_C_op b_C_op 5 (some .int) 3 := ⟨jT_in 292 (by decide +kernel) (by decide +kernel), jT_in 290 (by decide +kernel) (by decide +kernel), jT_in 291 (by decide +kernel) (by decide +kernel), jT_in 36 (by decide +kernel) (by decide +kernel), ⟨by decide +kernel, by decide +kernel⟩, by decide +kernel⟩
theorem yk_C_isKindWithBytes : jYs jT y_C_isKindWithBytes b_C_isKindWithBytes 2 (some .boolean) 2 := ⟨jT_in 295 (by decide +kernel) (by decide +kernel), jT_in 294 (by decide +kernel) (by decide +kernel), jT_in 36 (by decide +kernel) (by decide +kernel), ⟨by decide +kernel, by decide +kernel⟩, by decide +kernel⟩
theorem yk_O_begin : jY jT y_O_begin b_O_begin 6 none 4 := ⟨jT_in 383 (by decide +kernel) (by decide +kernel), jT_in 381 (by decide +kernel) (by decide +kernel), jT_in 382 (by decide +kernel) (by decide +kernel), jT_in 37 (by decide +kernel) (by decide +kernel), ⟨by decide +kernel, by decide +kernel⟩, by decide +kernel⟩
theorem yk_C_address : jY jT y_C_address b_C_address 4 (some .int) 2 := ⟨jT_in 391 (by decide +kernel) (by decide +kernel), jT_in 389 (by decide +kernel) (by decide +kernel), jT_in 390 (by decide +kernel) (by decide +kernel), jT_in 36 (by decide +kernel) (by decide +kernel), ⟨by decide +kernel, by decide +kernel⟩, by decide +kernel⟩
theorem yk_C_requireOp : jY jT y_C_requireOp b_C_requireOp 2 none 1 := ⟨jT_in 395 (by decide +kernel) (by decide +kernel), jT_in 394 (by decide +kernel) (by decide +kernel), jT_in 5 (by decide +kernel) (by decide +kernel), jT_in 36 (by decide +kernel) (by decide +kernel), ⟨by decide +kernel, by decide +kernel⟩, by decide +kernel⟩
theorem yk_C_waits : jY jT y_C_waits b_C_waits 2 (some .boolean) 1 := ⟨jT_in 415 (by decide +kernel) (by decide +kernel), jT_in 414 (by decide +kernel) (by decide +kernel), jT_in 6 (by decide +kernel) (by decide +kernel), jT_in 36 (by decide +kernel) (by decide +kernel), ⟨by decide +kernel, by decide +kernel⟩, by decide +kernel⟩
theorem yk_C_canBeAddress : jYs jT y_C_canBeAddress b_C_canBeAddress 2 (some .boolean) 2 := ⟨jT_in 420 (by decide +kernel) (by decide +kernel), jT_in 419 (by decide +kernel) (by decide +kernel), jT_in 36 (by decide +kernel) (by decide +kernel), ⟨by decide +kernel, by decide +kernel⟩, by decide +kernel⟩
theorem yk_O_setAddress : jY jT y_O_setAddress b_O_setAddress 3 none 2 := ⟨jT_in 425 (by decide +kernel) (by decide +kernel), jT_in 423 (by decide +kernel) (by decide +kernel), jT_in 424 (by decide +kernel) (by decide +kernel), jT_in 37 (by decide +kernel) (by decide +kernel), ⟨by decide +kernel, by decide +kernel⟩, by decide +kernel⟩
theorem yk_C_oldestLoadPast : jY jT y_C_oldestLoadPast b_C_oldestLoadPast 3 (some .int) 1 := ⟨jT_in 429 (by decide +kernel) (by decide +kernel), jT_in 428 (by decide +kernel) (by decide +kernel), jT_in 7 (by decide +kernel) (by decide +kernel), jT_in 36 (by decide +kernel) (by decide +kernel), ⟨by decide +kernel, by decide +kernel⟩, by decide +kernel⟩
theorem yk_C_missedByteOf : jY jT y_C_missedByteOf b_C_missedByteOf 5 (some .boolean) 2 := ⟨jT_in 433 (by decide +kernel) (by decide +kernel), jT_in 432 (by decide +kernel) (by decide +kernel), jT_in 8 (by decide +kernel) (by decide +kernel), jT_in 36 (by decide +kernel) (by decide +kernel), ⟨by decide +kernel, by decide +kernel⟩, by decide +kernel⟩
theorem yk_O_covers : jY jT y_O_covers b_O_covers 4 (some .boolean) 2 := ⟨jT_in 437 (by decide +kernel) (by decide +kernel), jT_in 435 (by decide +kernel) (by decide +kernel), jT_in 436 (by decide +kernel) (by decide +kernel), jT_in 37 (by decide +kernel) (by decide +kernel), ⟨by decide +kernel, by decide +kernel⟩, by decide +kernel⟩
theorem yk_O_sourceOf : jY jT y_O_sourceOf b_O_sourceOf 3 (some .int) 2 := ⟨jT_in 443 (by decide +kernel) (by decide +kernel), jT_in 441 (by decide +kernel) (by decide +kernel), jT_in 442 (by decide +kernel) (by decide +kernel), jT_in 37 (by decide +kernel) (by decide +kernel), ⟨by decide +kernel, by decide +kernel⟩, by decide +kernel⟩
theorem yk_O_sourceSlot : jYs jT y_O_sourceSlot b_O_sourceSlot 2 (some .int) 2 := ⟨jT_in 446 (by decide +kernel) (by decide +kernel), jT_in 445 (by decide +kernel) (by decide +kernel), jT_in 37 (by decide +kernel) (by decide +kernel), ⟨by decide +kernel, by decide +kernel⟩, by decide +kernel⟩
theorem yk_O_programOf : jY jT y_O_programOf b_O_programOf 2 (some .int) 1 := ⟨jT_in 450 (by decide +kernel) (by decide +kernel), jT_in 448 (by decide +kernel) (by decide +kernel), jT_in 449 (by decide +kernel) (by decide +kernel), jT_in 37 (by decide +kernel) (by decide +kernel), ⟨by decide +kernel, by decide +kernel⟩, by decide +kernel⟩
theorem yk_C_mark : jY jT y_C_mark b_C_mark 2 none 1 := ⟨jT_in 454 (by decide +kernel) (by decide +kernel), jT_in 453 (by decide +kernel) (by decide +kernel), jT_in 9 (by decide +kernel) (by decide +kernel), jT_in 36 (by decide +kernel) (by decide +kernel), ⟨by decide +kernel, by decide +kernel⟩, by decide +kernel⟩
theorem yk_C_undoWrong : jY jT y_C_undoWrong b_C_undoWrong 4 (some .int) 1 := ⟨jT_in 458 (by decide +kernel) (by decide +kernel), jT_in 457 (by decide +kernel) (by decide +kernel), jT_in 10 (by decide +kernel) (by decide +kernel), jT_in 36 (by decide +kernel) (by decide +kernel), ⟨by decide +kernel, by decide +kernel⟩, by decide +kernel⟩
theorem yk_O_setDone : jY jT y_O_setDone b_O_setDone 3 none 2 := ⟨jT_in 462 (by decide +kernel) (by decide +kernel), jT_in 460 (by decide +kernel) (by decide +kernel), jT_in 461 (by decide +kernel) (by decide +kernel), jT_in 37 (by decide +kernel) (by decide +kernel), ⟨by decide +kernel, by decide +kernel⟩, by decide +kernel⟩
theorem yk_C_number : jY jT y_C_number b_C_number 3 (some .int) 2 := ⟨jT_in 469 (by decide +kernel) (by decide +kernel), jT_in 467 (by decide +kernel) (by decide +kernel), jT_in 468 (by decide +kernel) (by decide +kernel), jT_in 36 (by decide +kernel) (by decide +kernel), ⟨by decide +kernel, by decide +kernel⟩, by decide +kernel⟩
theorem yk_O_setNumber : jY jT y_O_setNumber b_O_setNumber 3 none 2 := ⟨jT_in 475 (by decide +kernel) (by decide +kernel), jT_in 473 (by decide +kernel) (by decide +kernel), jT_in 474 (by decide +kernel) (by decide +kernel), jT_in 37 (by decide +kernel) (by decide +kernel), ⟨by decide +kernel, by decide +kernel⟩, by decide +kernel⟩
theorem yk_C_tried : jY jT y_C_tried b_C_tried 2 (some .int) 1 := ⟨jT_in 482 (by decide +kernel) (by decide +kernel), jT_in 480 (by decide +kernel) (by decide +kernel), jT_in 481 (by decide +kernel) (by decide +kernel), jT_in 36 (by decide +kernel) (by decide +kernel), ⟨by decide +kernel, by decide +kernel⟩, by decide +kernel⟩
theorem yk_C_isHeldBack : jY jT y_C_isHeldBack b_C_isHeldBack 4 (some .boolean) 1 := ⟨jT_in 487 (by decide +kernel) (by decide +kernel), jT_in 486 (by decide +kernel) (by decide +kernel), jT_in 11 (by decide +kernel) (by decide +kernel), jT_in 36 (by decide +kernel) (by decide +kernel), ⟨by decide +kernel, by decide +kernel⟩, by decide +kernel⟩
theorem yk_C_storeWithoutAddressBefore : jY jT y_C_storeWithoutAddressBefore b_C_storeWithoutAddressBefore 3 (some .boolean) 1 := ⟨jT_in 492 (by decide +kernel) (by decide +kernel), jT_in 491 (by decide +kernel) (by decide +kernel), jT_in 12 (by decide +kernel) (by decide +kernel), jT_in 36 (by decide +kernel) (by decide +kernel), ⟨by decide +kernel, by decide +kernel⟩, by decide +kernel⟩
theorem yk_C_storeWithoutNumberFor : jY jT y_C_storeWithoutNumberFor b_C_storeWithoutNumberFor 5 (some .boolean) 1 := ⟨jT_in 496 (by decide +kernel) (by decide +kernel), jT_in 495 (by decide +kernel) (by decide +kernel), jT_in 13 (by decide +kernel) (by decide +kernel), jT_in 36 (by decide +kernel) (by decide +kernel), ⟨by decide +kernel, by decide +kernel⟩, by decide +kernel⟩
theorem yk_C_newestStoreBefore : jY jT y_C_newestStoreBefore b_C_newestStoreBefore 4 (some .int) 2 := ⟨jT_in 500 (by decide +kernel) (by decide +kernel), jT_in 499 (by decide +kernel) (by decide +kernel), jT_in 14 (by decide +kernel) (by decide +kernel), jT_in 36 (by decide +kernel) (by decide +kernel), ⟨by decide +kernel, by decide +kernel⟩, by decide +kernel⟩
theorem yk_C_doLoad : jY jT y_C_doLoad b_C_doLoad 5 none 1 := ⟨jT_in 504 (by decide +kernel) (by decide +kernel), jT_in 503 (by decide +kernel) (by decide +kernel), jT_in 15 (by decide +kernel) (by decide +kernel), jT_in 36 (by decide +kernel) (by decide +kernel), ⟨by decide +kernel, by decide +kernel⟩, by decide +kernel⟩
theorem yk_C_takeByte : jY jT y_C_takeByte b_C_takeByte 6 (some .int) 3 := ⟨jT_in 508 (by decide +kernel) (by decide +kernel), jT_in 507 (by decide +kernel) (by decide +kernel), jT_in 16 (by decide +kernel) (by decide +kernel), jT_in 36 (by decide +kernel) (by decide +kernel), ⟨by decide +kernel, by decide +kernel⟩, by decide +kernel⟩
theorem yk_O_setSource : jY jT y_O_setSource b_O_setSource 4 none 3 := ⟨jT_in 512 (by decide +kernel) (by decide +kernel), jT_in 510 (by decide +kernel) (by decide +kernel), jT_in 511 (by decide +kernel) (by decide +kernel), jT_in 37 (by decide +kernel) (by decide +kernel), ⟨by decide +kernel, by decide +kernel⟩, by decide +kernel⟩
theorem yk_O_byteAt : jY jT y_O_byteAt b_O_byteAt 3 (some .int) 2 := ⟨jT_in 516 (by decide +kernel) (by decide +kernel), jT_in 514 (by decide +kernel) (by decide +kernel), jT_in 515 (by decide +kernel) (by decide +kernel), jT_in 37 (by decide +kernel) (by decide +kernel), ⟨by decide +kernel, by decide +kernel⟩, by decide +kernel⟩
theorem yk_B_byteAt : jY jT y_B_byteAt b_B_byteAt 4 (some .int) 1 := ⟨jT_in 522 (by decide +kernel) (by decide +kernel), jT_in 520 (by decide +kernel) (by decide +kernel), jT_in 521 (by decide +kernel) (by decide +kernel), jT_in 38 (by decide +kernel) (by decide +kernel), ⟨by decide +kernel, by decide +kernel⟩, by decide +kernel⟩
theorem yk_C_loaded : jY jT y_C_loaded b_C_loaded 2 (some .int) 1 := ⟨jT_in 532 (by decide +kernel) (by decide +kernel), jT_in 530 (by decide +kernel) (by decide +kernel), jT_in 531 (by decide +kernel) (by decide +kernel), jT_in 36 (by decide +kernel) (by decide +kernel), ⟨by decide +kernel, by decide +kernel⟩, by decide +kernel⟩
theorem yk_C_hasLoaded : jY jT y_C_hasLoaded b_C_hasLoaded 2 (some .boolean) 1 := ⟨jT_in 552 (by decide +kernel) (by decide +kernel), jT_in 551 (by decide +kernel) (by decide +kernel), jT_in 17 (by decide +kernel) (by decide +kernel), jT_in 36 (by decide +kernel) (by decide +kernel), ⟨by decide +kernel, by decide +kernel⟩, by decide +kernel⟩
theorem yk_O_loadedBy : jY jT y_O_loadedBy b_O_loadedBy 2 (some .int) 1 := ⟨jT_in 557 (by decide +kernel) (by decide +kernel), jT_in 555 (by decide +kernel) (by decide +kernel), jT_in 556 (by decide +kernel) (by decide +kernel), jT_in 37 (by decide +kernel) (by decide +kernel), ⟨by decide +kernel, by decide +kernel⟩, by decide +kernel⟩
theorem yk_C_source : jY jT y_C_source b_C_source 4 (some .int) 2 := ⟨jT_in 564 (by decide +kernel) (by decide +kernel), jT_in 562 (by decide +kernel) (by decide +kernel), jT_in 563 (by decide +kernel) (by decide +kernel), jT_in 36 (by decide +kernel) (by decide +kernel), ⟨by decide +kernel, by decide +kernel⟩, by decide +kernel⟩
theorem yk_C_other : jY jT y_C_other b_C_other 4 (some .int) 2 := ⟨jT_in 573 (by decide +kernel) (by decide +kernel), jT_in 571 (by decide +kernel) (by decide +kernel), jT_in 572 (by decide +kernel) (by decide +kernel), jT_in 36 (by decide +kernel) (by decide +kernel), ⟨by decide +kernel, by decide +kernel⟩, by decide +kernel⟩
theorem yk_C_isMemoryByte : jYs jT y_C_isMemoryByte b_C_isMemoryByte 1 (some .boolean) 1 := ⟨jT_in 576 (by decide +kernel) (by decide +kernel), jT_in 575 (by decide +kernel) (by decide +kernel), jT_in 36 (by decide +kernel) (by decide +kernel), ⟨by decide +kernel, by decide +kernel⟩, by decide +kernel⟩
theorem yk_C_oldestLoadFromMemory : jY jT y_C_oldestLoadFromMemory b_C_oldestLoadFromMemory 3 (some .int) 1 := ⟨jT_in 582 (by decide +kernel) (by decide +kernel), jT_in 581 (by decide +kernel) (by decide +kernel), jT_in 18 (by decide +kernel) (by decide +kernel), jT_in 36 (by decide +kernel) (by decide +kernel), ⟨by decide +kernel, by decide +kernel⟩, by decide +kernel⟩
theorem yk_C_memory : jY jT y_C_memory b_C_memory 2 (some .int) 1 := ⟨jT_in 589 (by decide +kernel) (by decide +kernel), jT_in 587 (by decide +kernel) (by decide +kernel), jT_in 588 (by decide +kernel) (by decide +kernel), jT_in 36 (by decide +kernel) (by decide +kernel), ⟨by decide +kernel, by decide +kernel⟩, by decide +kernel⟩
theorem yk_C_forget : jY jT y_C_forget b_C_forget 3 (some .int) 1 := ⟨jT_in 597 (by decide +kernel) (by decide +kernel), jT_in 595 (by decide +kernel) (by decide +kernel), jT_in 596 (by decide +kernel) (by decide +kernel), jT_in 36 (by decide +kernel) (by decide +kernel), ⟨by decide +kernel, by decide +kernel⟩, by decide +kernel⟩
theorem yk_M_thrown : jY jT y_M_thrown b_M_thrown 1 (some .int) 0 := ⟨jT_in 678 (by decide +kernel) (by decide +kernel), jT_in 676 (by decide +kernel) (by decide +kernel), jT_in 677 (by decide +kernel) (by decide +kernel), jT_in 40 (by decide +kernel) (by decide +kernel), ⟨by decide +kernel, by decide +kernel⟩, by decide +kernel⟩
theorem yk_M_op : jY jT y_M_op b_M_op 5 (some .int) 3 := ⟨jT_in 682 (by decide +kernel) (by decide +kernel), jT_in 680 (by decide +kernel) (by decide +kernel), jT_in 681 (by decide +kernel) (by decide +kernel), jT_in 40 (by decide +kernel) (by decide +kernel), ⟨by decide +kernel, by decide +kernel⟩, by decide +kernel⟩
theorem yk_M_isSize : jYs jT y_M_isSize b_M_isSize 2 (some .boolean) 2 := ⟨jT_in 685 (by decide +kernel) (by decide +kernel), jT_in 684 (by decide +kernel) (by decide +kernel), jT_in 40 (by decide +kernel) (by decide +kernel), ⟨by decide +kernel, by decide +kernel⟩, by decide +kernel⟩
theorem yk_M_address : jY jT y_M_address b_M_address 4 (some .int) 2 := ⟨jT_in 689 (by decide +kernel) (by decide +kernel), jT_in 687 (by decide +kernel) (by decide +kernel), jT_in 688 (by decide +kernel) (by decide +kernel), jT_in 40 (by decide +kernel) (by decide +kernel), ⟨by decide +kernel, by decide +kernel⟩, by decide +kernel⟩
theorem yk_M_isOp : jY jT y_M_isOp b_M_isOp 2 (some .boolean) 1 := ⟨jT_in 693 (by decide +kernel) (by decide +kernel), jT_in 692 (by decide +kernel) (by decide +kernel), jT_in 19 (by decide +kernel) (by decide +kernel), jT_in 40 (by decide +kernel) (by decide +kernel), ⟨by decide +kernel, by decide +kernel⟩, by decide +kernel⟩
theorem yk_M_canBe : jY jT y_M_canBe b_M_canBe 4 (some .boolean) 2 := ⟨jT_in 697 (by decide +kernel) (by decide +kernel), jT_in 696 (by decide +kernel) (by decide +kernel), jT_in 20 (by decide +kernel) (by decide +kernel), jT_in 40 (by decide +kernel) (by decide +kernel), ⟨by decide +kernel, by decide +kernel⟩, by decide +kernel⟩
theorem yk_M_waits : jY jT y_M_waits b_M_waits 2 (some .boolean) 1 := ⟨jT_in 701 (by decide +kernel) (by decide +kernel), jT_in 700 (by decide +kernel) (by decide +kernel), jT_in 21 (by decide +kernel) (by decide +kernel), jT_in 40 (by decide +kernel) (by decide +kernel), ⟨by decide +kernel, by decide +kernel⟩, by decide +kernel⟩
theorem yk_M_isDone : jY jT y_M_isDone b_M_isDone 2 (some .boolean) 1 := ⟨jT_in 705 (by decide +kernel) (by decide +kernel), jT_in 704 (by decide +kernel) (by decide +kernel), jT_in 22 (by decide +kernel) (by decide +kernel), jT_in 40 (by decide +kernel) (by decide +kernel), ⟨by decide +kernel, by decide +kernel⟩, by decide +kernel⟩
theorem yk_M_tookOlder : jY jT y_M_tookOlder b_M_tookOlder 6 (some .boolean) 2 := ⟨jT_in 709 (by decide +kernel) (by decide +kernel), jT_in 708 (by decide +kernel) (by decide +kernel), jT_in 23 (by decide +kernel) (by decide +kernel), jT_in 40 (by decide +kernel) (by decide +kernel), ⟨by decide +kernel, by decide +kernel⟩, by decide +kernel⟩
theorem yk_M_has : jY jT y_M_has b_M_has 3 (some .boolean) 2 := ⟨jT_in 713 (by decide +kernel) (by decide +kernel), jT_in 712 (by decide +kernel) (by decide +kernel), jT_in 24 (by decide +kernel) (by decide +kernel), jT_in 40 (by decide +kernel) (by decide +kernel), ⟨by decide +kernel, by decide +kernel⟩, by decide +kernel⟩
theorem yk_M_covers : jYs jT y_M_covers b_M_covers 3 (some .boolean) 3 := ⟨jT_in 716 (by decide +kernel) (by decide +kernel), jT_in 715 (by decide +kernel) (by decide +kernel), jT_in 40 (by decide +kernel) (by decide +kernel), ⟨by decide +kernel, by decide +kernel⟩, by decide +kernel⟩
theorem yk_M_undo : jY jT y_M_undo b_M_undo 4 (some .int) 1 := ⟨jT_in 720 (by decide +kernel) (by decide +kernel), jT_in 719 (by decide +kernel) (by decide +kernel), jT_in 25 (by decide +kernel) (by decide +kernel), jT_in 40 (by decide +kernel) (by decide +kernel), ⟨by decide +kernel, by decide +kernel⟩, by decide +kernel⟩
theorem yk_M_number : jY jT y_M_number b_M_number 5 (some .int) 2 := ⟨jT_in 724 (by decide +kernel) (by decide +kernel), jT_in 722 (by decide +kernel) (by decide +kernel), jT_in 723 (by decide +kernel) (by decide +kernel), jT_in 40 (by decide +kernel) (by decide +kernel), ⟨by decide +kernel, by decide +kernel⟩, by decide +kernel⟩
theorem yk_M_tried : jY jT y_M_tried b_M_tried 6 (some .int) 1 := ⟨jT_in 728 (by decide +kernel) (by decide +kernel), jT_in 726 (by decide +kernel) (by decide +kernel), jT_in 727 (by decide +kernel) (by decide +kernel), jT_in 40 (by decide +kernel) (by decide +kernel), ⟨by decide +kernel, by decide +kernel⟩, by decide +kernel⟩
theorem yk_M_isHeld : jY jT y_M_isHeld b_M_isHeld 3 (some .boolean) 1 := ⟨jT_in 732 (by decide +kernel) (by decide +kernel), jT_in 731 (by decide +kernel) (by decide +kernel), jT_in 26 (by decide +kernel) (by decide +kernel), jT_in 40 (by decide +kernel) (by decide +kernel), ⟨by decide +kernel, by decide +kernel⟩, by decide +kernel⟩
theorem yk_M_hasUnknown : jY jT y_M_hasUnknown b_M_hasUnknown 4 (some .boolean) 1 := ⟨jT_in 736 (by decide +kernel) (by decide +kernel), jT_in 735 (by decide +kernel) (by decide +kernel), jT_in 27 (by decide +kernel) (by decide +kernel), jT_in 40 (by decide +kernel) (by decide +kernel), ⟨by decide +kernel, by decide +kernel⟩, by decide +kernel⟩
theorem yk_M_storeOf : jY jT y_M_storeOf b_M_storeOf 4 (some .int) 2 := ⟨jT_in 740 (by decide +kernel) (by decide +kernel), jT_in 739 (by decide +kernel) (by decide +kernel), jT_in 28 (by decide +kernel) (by decide +kernel), jT_in 40 (by decide +kernel) (by decide +kernel), ⟨by decide +kernel, by decide +kernel⟩, by decide +kernel⟩
theorem yk_M_taken : jY jT y_M_taken b_M_taken 8 (some .int) 2 := ⟨jT_in 744 (by decide +kernel) (by decide +kernel), jT_in 743 (by decide +kernel) (by decide +kernel), jT_in 29 (by decide +kernel) (by decide +kernel), jT_in 40 (by decide +kernel) (by decide +kernel), ⟨by decide +kernel, by decide +kernel⟩, by decide +kernel⟩
theorem yk_M_bufferOf : jY jT y_M_bufferOf b_M_bufferOf 4 (some .int) 1 := ⟨jT_in 748 (by decide +kernel) (by decide +kernel), jT_in 747 (by decide +kernel) (by decide +kernel), jT_in 30 (by decide +kernel) (by decide +kernel), jT_in 40 (by decide +kernel) (by decide +kernel), ⟨by decide +kernel, by decide +kernel⟩, by decide +kernel⟩
theorem yk_M_byteOf : jYs jT y_M_byteOf b_M_byteOf 3 (some .int) 3 := ⟨jT_in 751 (by decide +kernel) (by decide +kernel), jT_in 750 (by decide +kernel) (by decide +kernel), jT_in 40 (by decide +kernel) (by decide +kernel), ⟨by decide +kernel, by decide +kernel⟩, by decide +kernel⟩
theorem yk_M_loaded : jY jT y_M_loaded b_M_loaded 4 (some .int) 1 := ⟨jT_in 755 (by decide +kernel) (by decide +kernel), jT_in 753 (by decide +kernel) (by decide +kernel), jT_in 754 (by decide +kernel) (by decide +kernel), jT_in 40 (by decide +kernel) (by decide +kernel), ⟨by decide +kernel, by decide +kernel⟩, by decide +kernel⟩
theorem yk_M_source : jY jT y_M_source b_M_source 4 (some .int) 2 := ⟨jT_in 759 (by decide +kernel) (by decide +kernel), jT_in 757 (by decide +kernel) (by decide +kernel), jT_in 758 (by decide +kernel) (by decide +kernel), jT_in 40 (by decide +kernel) (by decide +kernel), ⟨by decide +kernel, by decide +kernel⟩, by decide +kernel⟩
theorem yk_M_leave : jY jT y_M_leave b_M_leave 3 (some .int) 0 := ⟨jT_in 763 (by decide +kernel) (by decide +kernel), jT_in 761 (by decide +kernel) (by decide +kernel), jT_in 762 (by decide +kernel) (by decide +kernel), jT_in 40 (by decide +kernel) (by decide +kernel), ⟨by decide +kernel, by decide +kernel⟩, by decide +kernel⟩
theorem yk_M_mayLeave : jY jT y_M_mayLeave b_M_mayLeave 2 (some .boolean) 0 := ⟨jT_in 767 (by decide +kernel) (by decide +kernel), jT_in 766 (by decide +kernel) (by decide +kernel), jT_in 31 (by decide +kernel) (by decide +kernel), jT_in 40 (by decide +kernel) (by decide +kernel), ⟨by decide +kernel, by decide +kernel⟩, by decide +kernel⟩
theorem yk_M_intoBuffer : jY jT y_M_intoBuffer b_M_intoBuffer 3 none 1 := ⟨jT_in 771 (by decide +kernel) (by decide +kernel), jT_in 770 (by decide +kernel) (by decide +kernel), jT_in 32 (by decide +kernel) (by decide +kernel), jT_in 40 (by decide +kernel) (by decide +kernel), ⟨by decide +kernel, by decide +kernel⟩, by decide +kernel⟩
theorem yk_M_write : jY jT y_M_write b_M_write 5 none 3 := ⟨jT_in 775 (by decide +kernel) (by decide +kernel), jT_in 774 (by decide +kernel) (by decide +kernel), jT_in 33 (by decide +kernel) (by decide +kernel), jT_in 40 (by decide +kernel) (by decide +kernel), ⟨by decide +kernel, by decide +kernel⟩, by decide +kernel⟩
theorem yk_M_drain : jY jT y_M_drain b_M_drain 3 (some .int) 0 := ⟨jT_in 779 (by decide +kernel) (by decide +kernel), jT_in 777 (by decide +kernel) (by decide +kernel), jT_in 778 (by decide +kernel) (by decide +kernel), jT_in 40 (by decide +kernel) (by decide +kernel), ⟨by decide +kernel, by decide +kernel⟩, by decide +kernel⟩
theorem yk_M_other : jY jT y_M_other b_M_other 4 (some .int) 2 := ⟨jT_in 783 (by decide +kernel) (by decide +kernel), jT_in 781 (by decide +kernel) (by decide +kernel), jT_in 782 (by decide +kernel) (by decide +kernel), jT_in 40 (by decide +kernel) (by decide +kernel), ⟨by decide +kernel, by decide +kernel⟩, by decide +kernel⟩
theorem yk_M_tookFromMemory : jY jT y_M_tookFromMemory b_M_tookFromMemory 5 (some .boolean) 2 := ⟨jT_in 787 (by decide +kernel) (by decide +kernel), jT_in 786 (by decide +kernel) (by decide +kernel), jT_in 34 (by decide +kernel) (by decide +kernel), jT_in 40 (by decide +kernel) (by decide +kernel), ⟨by decide +kernel, by decide +kernel⟩, by decide +kernel⟩
theorem yk_M_memory : jY jT y_M_memory b_M_memory 2 (some .int) 1 := ⟨jT_in 791 (by decide +kernel) (by decide +kernel), jT_in 789 (by decide +kernel) (by decide +kernel), jT_in 790 (by decide +kernel) (by decide +kernel), jT_in 40 (by decide +kernel) (by decide +kernel), ⟨by decide +kernel, by decide +kernel⟩, by decide +kernel⟩
theorem yk_M_forget : jY jT y_M_forget b_M_forget 3 (some .int) 1 := ⟨jT_in 795 (by decide +kernel) (by decide +kernel), jT_in 793 (by decide +kernel) (by decide +kernel), jT_in 794 (by decide +kernel) (by decide +kernel), jT_in 40 (by decide +kernel) (by decide +kernel), ⟨by decide +kernel, by decide +kernel⟩, by decide +kernel⟩
theorem yk_M_marked : jY jT y_M_marked b_M_marked 2 (some .boolean) 1 := ⟨jT_in 799 (by decide +kernel) (by decide +kernel), jT_in 797 (by decide +kernel) (by decide +kernel), jT_in 798 (by decide +kernel) (by decide +kernel), jT_in 40 (by decide +kernel) (by decide +kernel), ⟨by decide +kernel, by decide +kernel⟩, by decide +kernel⟩
theorem yk_M_count : jY jT y_M_count b_M_count 4 (some .int) 1 := ⟨jT_in 803 (by decide +kernel) (by decide +kernel), jT_in 801 (by decide +kernel) (by decide +kernel), jT_in 802 (by decide +kernel) (by decide +kernel), jT_in 40 (by decide +kernel) (by decide +kernel), ⟨by decide +kernel, by decide +kernel⟩, by decide +kernel⟩
end
section
/-! what every contract takes along beside its world: links within the nest, texts, two statics of Throwable -/
def jNw : List Cond := [Cond.methodLinkNest R_C 9 y_O_init "LoadStoreRows", Cond.methodLinkNest R_C 18 y_B_init "LoadStoreRows", Cond.methodLinkNest R_C 25 y_Y_init "LoadStoreRows", Cond.methodLinkNest R_Y 19 y_C_byteOfNumber "LoadStoreRows", Cond.methodLinkNest R_O 64 y_C_byteOfNumber "LoadStoreRows", Cond.methodLinkNest R_B 34 y_C_byteOfNumber "LoadStoreRows"]
def jSt : List (Nat × String) := [(59, "no such kind, or not with so many bytes"), (70, "32 ops wait"), (222, "no op with that number"), (92, "no op that waits for an address"), (100, "can not be its address"), (124, "no op that waits for a number"), (132, "no load that can be tried"), (151, "64 ops or more came behind it"), (157, "nothing was loaded by it"), (162, "no load that is done and waits"), (164, "no such byte of it"), (190, "no such byte, or no byte's number"), (198, "no such byte"), (203, "it does not wait")]
def jZ (n d : String) (U : State) : Prop := ∃ (c : ClassId) (k : Class) (i : Nat) (f : Field) (a : Nat) (cell : Cell) (v : Value), U.vm.findClass Bundle.tN = some c ∧ U.fieldFound? Bundle.tN n d = some (c, k, i, f) ∧ f.isStatic = true ∧ k.statics = some a ∧ U.heap[a]? = some cell ∧ cell.vm.isStatics = true ∧ cell.cls = c ∧ f.slot < cell.slots.size ∧ k.staticTypes[f.slot]? = some f.type ∧ cell.slots[f.slot]? = some v ∧ v.isRef = true
def jE (U : State) : Prop := (∀ w ∈ jNw, va_Nw w U) ∧ (∀ q ∈ jSt, ∃ a, vk_R R_C q.1 q.2 a U) ∧ jZ "UNASSIGNED_STACK" Bundle.steD U ∧ jZ "SUPPRESSED_SENTINEL" Bundle.listD U
theorem va_at_vm {D : va_G} {cl : List vw_C} {a : Nat} {x : va_E} {H : Heap} (h : va_at D cl (a, x) H) : ∃ cell : Cell, H[a]? = some cell ∧ cell.vm = .none := by
  cases x with
  | inl y =>
    obtain ⟨cA, n, f | f | f | f | f⟩ := y
    · exact ⟨_, h, rfl⟩
    · exact ⟨_, h, rfl⟩
    · exact ⟨_, h, rfl⟩
    · exact ⟨_, h, rfl⟩
    · exact ⟨_, h, rfl⟩
  | inr o =>
    obtain ⟨r, h1, cell, h2, h3, h4, -⟩ := h
    exact ⟨cell, h2, h4⟩
theorem jZ_kept {D : va_G} {cl : List vw_C} {n d : String} {s U : State} {w : va_W} (h : jZ n d s) (hP : va_P D cl w s.heap) (hq : ∀ q : Nat, q < s.heap.size → ¬ va_A w s.heap.size q → U.heap[q]? = s.heap[q]?) (hW : s.WarmedH U.vm) : jZ n d U := by
  obtain ⟨c, k, i, f, a, cell, v, h1, h2, h3, h4, h5, h6, h7, h8, h9, h10, h11⟩ := h
  have ha : a < s.heap.size := (Array.getElem?_eq_some_iff.mp h5).1
  have hn : ¬ va_A w s.heap.size a := by
    rintro (⟨j, x, hj⟩ | hj)
    · obtain ⟨c2, g1, g2⟩ := va_at_vm (hP j _ hj)
      cases Option.some.inj (h5.symm.trans g1)
      rw [g2] at h6
      cases h6
    · omega
  have hvm := hW.alike
  obtain ⟨k', hi', he⟩ := State.fieldFound?_setVm hvm h2
  exact ⟨c, k', i, f, a, cell, v, by rw [hvm.findClass]; exact h1, hi', h3, by rw [he]; exact h4, by rw [hq a ha hn]; exact h5, h6, h7, h8, by rw [he]; exact h9, h10, h11⟩
theorem jNw_warm {s U : State} (hW : s.WarmedH U.vm) (h : ∀ w ∈ jNw, va_Nw w s) : ∀ w ∈ jNw, va_Nw w U := by
  intro w hw
  have h1 := h w hw
  simp only [jNw, List.mem_cons, List.not_mem_nil, or_false] at hw
  rcases hw with rfl | rfl | rfl | rfl | rfl | rfl <;> exact va_Nw.warmM hW h1
theorem jNw_tab : ∀ w ∈ jNw, w.onTables = true := by decide +kernel
theorem jE_loc {D : va_G} {cl : List vw_C} : jLoc D cl jE := by
  refine ⟨fun a U g mk h => ⟨fun w hw => va_Nw.same (jNw_tab w hw) (u := U) rfl (h.1 w hw), fun q hq => ?_, ?_, ?_⟩, fun s U w h hP hq hW => ⟨jNw_warm hW h.1, fun q hq => ?_, jZ_kept h.2.2.1 hP hq hW, jZ_kept h.2.2.2 hP hq hW⟩⟩
  · obtain ⟨b, hb⟩ := h.2.1 q hq
    exact ⟨b, vk_R.same (u := U) rfl hb⟩
  · exact h.2.2.1
  · exact h.2.2.2
  · obtain ⟨b, hb⟩ := h.2.1 q hq
    exact ⟨b, vk_R.warm hW hb⟩
theorem nest_Y_19 {p : Program} {s : State} {m : MethodId} {args : Array Value} {c : Code} {cc : ByteArray} {nL : Nat} {own : String} {Ts : List Cond} {D : va_G} {cl : List vw_C} {tys : List (ClassId × FieldType)} {A : Nat → Prop} {Sx : Heap → List Loc → Prop} (C : jC p s m args c cc nL own Ts D cl tys A Sx jE) : (Cond.methodLinkNest R_Y 19 y_C_byteOfNumber "LoadStoreRows").before args s = true :=
  va_Nw.use rfl ((C.ev s (fun _ _ _ => rfl) (State.WarmedH.refl s)).1 _ (by simp [jNw]))
theorem nest_O_64 {p : Program} {s : State} {m : MethodId} {args : Array Value} {c : Code} {cc : ByteArray} {nL : Nat} {own : String} {Ts : List Cond} {D : va_G} {cl : List vw_C} {tys : List (ClassId × FieldType)} {A : Nat → Prop} {Sx : Heap → List Loc → Prop} (C : jC p s m args c cc nL own Ts D cl tys A Sx jE) : (Cond.methodLinkNest R_O 64 y_C_byteOfNumber "LoadStoreRows").before args s = true :=
  va_Nw.use rfl ((C.ev s (fun _ _ _ => rfl) (State.WarmedH.refl s)).1 _ (by simp [jNw]))
theorem nest_B_34 {p : Program} {s : State} {m : MethodId} {args : Array Value} {c : Code} {cc : ByteArray} {nL : Nat} {own : String} {Ts : List Cond} {D : va_G} {cl : List vw_C} {tys : List (ClassId × FieldType)} {A : Nat → Prop} {Sx : Heap → List Loc → Prop} (C : jC p s m args c cc nL own Ts D cl tys A Sx jE) : (Cond.methodLinkNest R_B 34 y_C_byteOfNumber "LoadStoreRows").before args s = true :=
  va_Nw.use rfl ((C.ev s (fun _ _ _ => rfl) (State.WarmedH.refl s)).1 _ (by simp [jNw]))
end
section
/-! the worlds: the object and its arrays; the reference and its arrays -/
def jty (cI cZ cB cJ : ClassId) : List (ClassId × FieldType) := [(cI, .int), (cZ, .boolean), (cB, .byte), (cJ, .long)]
def wC (ad : Nat → Nat) (cI cZ cB : ClassId) (σ : S2) (β : B2) (mk : Int64) (ρ : va_W) : va_W :=
  (ad 0, .inr (0, [.ref (ad 1), .ref (ad 2), .ref (ad 3), .int (σ 0 0), .int (σ 1 0), .long mk, .int (σ 2 0), .int (σ 3 0), .int (σ 4 0), .int (σ 5 0)])) ::
  (ad 1, .inr (1, [.ref (ad 10), .ref (ad 11), .ref (ad 12), .ref (ad 13), .ref (ad 14), .ref (ad 15), .ref (ad 16), .ref (ad 17), .ref (ad 18), .ref (ad 19)])) ::
  (ad 2, .inr (2, [.ref (ad 20), .ref (ad 21), .ref (ad 22), .ref (ad 23), .int (σ 6 0)])) ::
  (ad 3, .inr (3, [.ref (ad 24)])) ::
  (ad 10, .inl (cI, 128, .inl (σ 10))) ::
  (ad 11, .inl (cI, 128, .inl (σ 11))) ::
  (ad 12, .inl (cI, 128, .inl (σ 12))) ::
  (ad 13, .inl (cI, 128, .inl (σ 13))) ::
  (ad 14, .inl (cZ, 128, .inl (fun i => bI (β 0 i)))) ::
  (ad 15, .inl (cI, 128, .inl (σ 15))) ::
  (ad 16, .inl (cZ, 128, .inl (fun i => bI (β 1 i)))) ::
  (ad 17, .inl (cZ, 128, .inl (fun i => bI (β 2 i)))) ::
  (ad 18, .inl (cI, 128, .inl (σ 18))) ::
  (ad 19, .inl (cI, 512, .inl (σ 19))) ::
  (ad 20, .inl (cI, 4, .inl (σ 20))) ::
  (ad 21, .inl (cI, 4, .inl (σ 21))) ::
  (ad 22, .inl (cI, 4, .inl (σ 22))) ::
  (ad 23, .inl (cI, 4, .inl (σ 23))) ::
  (ad 24, .inl (cB, 4096, .inl (σ 24))) :: ρ
def wM (am : Nat → Nat) (cI cZ : ClassId) (μ : S2) (ν : B2) (ρ : va_W) : va_W :=
  (am 0, .inr (4, [.int (μ 0 0), .int (μ 1 0), .int (μ 2 0), .int (μ 3 0), .int (μ 4 0), .int (μ 5 0), .int (μ 6 0), .ref (am 10), .ref (am 11), .ref (am 12), .ref (am 13), .ref (am 14), .ref (am 15), .ref (am 16), .ref (am 17), .ref (am 18), .ref (am 19), .ref (am 20), .ref (am 21), .ref (am 22), .ref (am 23), .ref (am 24), .int (μ 7 0)])) ::
  (am 10, .inl (cI, 4096, .inl (μ 10))) ::
  (am 11, .inl (cZ, 64, .inl (fun i => bI (ν 0 i)))) ::
  (am 12, .inl (cI, 128, .inl (μ 12))) ::
  (am 13, .inl (cI, 128, .inl (μ 13))) ::
  (am 14, .inl (cI, 128, .inl (μ 14))) ::
  (am 15, .inl (cI, 128, .inl (μ 15))) ::
  (am 16, .inl (cI, 128, .inl (μ 16))) ::
  (am 17, .inl (cI, 128, .inl (μ 17))) ::
  (am 18, .inl (cZ, 128, .inl (fun i => bI (ν 1 i)))) ::
  (am 19, .inl (cZ, 128, .inl (fun i => bI (ν 2 i)))) ::
  (am 20, .inl (cI, 512, .inl (μ 20))) ::
  (am 21, .inl (cI, 4, .inl (μ 21))) ::
  (am 22, .inl (cI, 4, .inl (μ 22))) ::
  (am 23, .inl (cI, 4, .inl (μ 23))) ::
  (am 24, .inl (cI, 4, .inl (μ 24))) :: ρ
abbrev kM (l : Launch) (dC : Nat → ClassId) (dI : Nat → Nat → Nat) (cI cZ cB cJ : ClassId) (y : MethodName) (bytes : ByteArray) (maxL : Nat) (ret : Option FieldType) (f n : Nat) (av : List Value) (w : va_W) (v : Option Value) (w' : va_W) : Prop :=
  jM l (dC, dI) vwCl (jty cI cZ cB cJ) jE y (Cond.code y bytes maxL ret :: jT) { frames := f, cells := 0, slots := 0, locals := n } av w v w'
abbrev kR (l : Launch) (dC : Nat → ClassId) (dI : Nat → Nat → Nat) (cI cZ cB cJ : ClassId) (y : MethodName) (bytes : ByteArray) (maxL : Nat) (ret : Option FieldType) (f n : Nat) (av : List Value) (w : va_W) (v : Option Value) : Prop :=
  jR l (dC, dI) vwCl (jty cI cZ cB cJ) jE y (Cond.code y bytes maxL ret :: jT) { frames := f, cells := 0, slots := 0, locals := n } av w v
abbrev kJ (l : Launch) (dC : Nat → ClassId) (dI : Nat → Nat → Nat) (p : Program) (e : Env) (s : State) (m : MethodId) (args : Array Value) (below : List Frame) (meth : Method) (c : Code) (A : Nat → Prop) (f n nL : Nat) (v : Option Value) (w' w : va_W) (pc : Nat) (lv : List (Nat × Value)) (st : List Value) : Prop :=
  jJ p l e { frames := f, cells := 0, slots := 0, locals := n } s m args below meth c 0 0 (MQ below (jQ (dC, dI) vwCl v w' A) args s 0 0 A) (dC, dI) vwCl A (va_S A s.heap) nL w pc lv st
section WR
variable {p : Program} {l : Launch} {e : Env} {R : Room} {s : State} {m : MethodId} {args : Array Value} {below : List Frame} {meth : Method} {c : Code} {cells slots : Nat} {Q : State → Prop}
variable {dC : Nat → ClassId} {dI : Nat → Nat → Nat} {cI cZ cB cJ : ClassId} {A : Nat → Prop} {Sx : Heap → List Loc → Prop} {nL : Nat} {cc : ByteArray} {c0 : Cond} {pc : Nat} {lv : List (Nat × Value)} {rest : List Value}
variable {ad am : Nat → Nat} {σ μ : S2} {β ν : B2} {mk : Int64} {ρ : va_W}
theorem i_C : ∀ w ∈ u_ws R_C T_C 10, w ∈ lw_tbl := by decide +kernel
theorem ig_C : ∀ w ∈ u_ws R_C T_C 10, goodWord w = true := by decide +kernel
theorem iw_C {c0 : Cond} : ∀ w ∈ u_ws R_C T_C 10, w ∈ (c0 :: jT) := fun w h => List.mem_cons_of_mem _ (List.mem_filter.mpr ⟨i_C w h, ig_C w h⟩)
theorem i_O : ∀ w ∈ u_ws R_O T_O 10, w ∈ lw_tbl := by decide +kernel
theorem ig_O : ∀ w ∈ u_ws R_O T_O 10, goodWord w = true := by decide +kernel
theorem iw_O {c0 : Cond} : ∀ w ∈ u_ws R_O T_O 10, w ∈ (c0 :: jT) := fun w h => List.mem_cons_of_mem _ (List.mem_filter.mpr ⟨i_O w h, ig_O w h⟩)
theorem i_B : ∀ w ∈ u_ws R_B T_B 5, w ∈ lw_tbl := by decide +kernel
theorem ig_B : ∀ w ∈ u_ws R_B T_B 5, goodWord w = true := by decide +kernel
theorem iw_B {c0 : Cond} : ∀ w ∈ u_ws R_B T_B 5, w ∈ (c0 :: jT) := fun w h => List.mem_cons_of_mem _ (List.mem_filter.mpr ⟨i_B w h, ig_B w h⟩)
theorem i_Y : ∀ w ∈ u_ws R_Y T_Y 1, w ∈ lw_tbl := by decide +kernel
theorem ig_Y : ∀ w ∈ u_ws R_Y T_Y 1, goodWord w = true := by decide +kernel
theorem iw_Y {c0 : Cond} : ∀ w ∈ u_ws R_Y T_Y 1, w ∈ (c0 :: jT) := fun w h => List.mem_cons_of_mem _ (List.mem_filter.mpr ⟨i_Y w h, ig_Y w h⟩)
theorem i_M : ∀ w ∈ u_ws R_M T_M 23, w ∈ lw_tbl := by decide +kernel
theorem ig_M : ∀ w ∈ u_ws R_M T_M 23, goodWord w = true := by decide +kernel
theorem iw_M {c0 : Cond} : ∀ w ∈ u_ws R_M T_M 23, w ∈ (c0 :: jT) := fun w h => List.mem_cons_of_mem _ (List.mem_filter.mpr ⟨i_M w h, ig_M w h⟩)
theorem g_C_ops (C : jC p s m args c cc nL R_C (c0 :: jT) (dC, dI) vwCl (jty cI cZ cB cJ) A Sx jE) (pn : Nat) (hpn : pc + 3 = pn) (hdg : decode cc pc = .ok (.getfield 10, 3)) (k : jJ p l e R s m args below meth c cells slots Q (dC, dI) vwCl A Sx nL (wC ad cI cZ cB σ β mk ρ) pn lv (.ref (ad 1) :: rest)) : jJ p l e R s m args below meth c cells slots Q (dC, dI) vwCl A Sx nL (wC ad cI cZ cB σ β mk ρ) pc lv (.ref (ad 0) :: rest) := by
  subst hpn
  exact fun H locs ls h1 h2 h3 h4 => va_get (D := (dC, dI)) (ci := 0) (v := .ref (ad 1)) (C := R_C) (T := T_C) (N := 10) C.x C.b C.t iw_C C.o C.k h1 0 rfl rfl 0 (by decide) (C.t _ (List.mem_cons_of_mem _ fk_C_ops)) (fun _ h9 => h9) rfl hdg (k H locs ls h1 h2 h3 h4)
theorem g_C_buffer (C : jC p s m args c cc nL R_C (c0 :: jT) (dC, dI) vwCl (jty cI cZ cB cJ) A Sx jE) (pn : Nat) (hpn : pc + 3 = pn) (hdg : decode cc pc = .ok (.getfield 19, 3)) (k : jJ p l e R s m args below meth c cells slots Q (dC, dI) vwCl A Sx nL (wC ad cI cZ cB σ β mk ρ) pn lv (.ref (ad 2) :: rest)) : jJ p l e R s m args below meth c cells slots Q (dC, dI) vwCl A Sx nL (wC ad cI cZ cB σ β mk ρ) pc lv (.ref (ad 0) :: rest) := by
  subst hpn
  exact fun H locs ls h1 h2 h3 h4 => va_get (D := (dC, dI)) (ci := 0) (v := .ref (ad 2)) (C := R_C) (T := T_C) (N := 10) C.x C.b C.t iw_C C.o C.k h1 0 rfl rfl 1 (by decide) (C.t _ (List.mem_cons_of_mem _ fk_C_buffer)) (fun _ h9 => h9) rfl hdg (k H locs ls h1 h2 h3 h4)
theorem g_C_mainMemory (C : jC p s m args c cc nL R_C (c0 :: jT) (dC, dI) vwCl (jty cI cZ cB cJ) A Sx jE) (pn : Nat) (hpn : pc + 3 = pn) (hdg : decode cc pc = .ok (.getfield 26, 3)) (k : jJ p l e R s m args below meth c cells slots Q (dC, dI) vwCl A Sx nL (wC ad cI cZ cB σ β mk ρ) pn lv (.ref (ad 3) :: rest)) : jJ p l e R s m args below meth c cells slots Q (dC, dI) vwCl A Sx nL (wC ad cI cZ cB σ β mk ρ) pc lv (.ref (ad 0) :: rest) := by
  subst hpn
  exact fun H locs ls h1 h2 h3 h4 => va_get (D := (dC, dI)) (ci := 0) (v := .ref (ad 3)) (C := R_C) (T := T_C) (N := 10) C.x C.b C.t iw_C C.o C.k h1 0 rfl rfl 2 (by decide) (C.t _ (List.mem_cons_of_mem _ fk_C_mainMemory)) (fun _ h9 => h9) rfl hdg (k H locs ls h1 h2 h3 h4)
theorem g_C_nextOp (C : jC p s m args c cc nL R_C (c0 :: jT) (dC, dI) vwCl (jty cI cZ cB cJ) A Sx jE) (pn : Nat) (hpn : pc + 3 = pn) (hdg : decode cc pc = .ok (.getfield 30, 3)) (k : jJ p l e R s m args below meth c cells slots Q (dC, dI) vwCl A Sx nL (wC ad cI cZ cB σ β mk ρ) pn lv (.int (σ 0 0) :: rest)) : jJ p l e R s m args below meth c cells slots Q (dC, dI) vwCl A Sx nL (wC ad cI cZ cB σ β mk ρ) pc lv (.ref (ad 0) :: rest) := by
  subst hpn
  exact fun H locs ls h1 h2 h3 h4 => va_get (D := (dC, dI)) (ci := 0) (v := .int (σ 0 0)) (C := R_C) (T := T_C) (N := 10) C.x C.b C.t iw_C C.o C.k h1 0 rfl rfl 3 (by decide) (C.t _ (List.mem_cons_of_mem _ fk_C_nextOp)) (fun _ h9 => h9) rfl hdg (k H locs ls h1 h2 h3 h4)
theorem p_C_nextOp (C : jC p s m args c cc nL R_C (c0 :: jT) (dC, dI) vwCl (jty cI cZ cB cJ) A (va_S A s.heap) jE) {v : Int32} (pn : Nat) (hpn : pc + 3 = pn) (hdg : decode cc pc = .ok (.putfield 30, 3)) (k : jJ p l e R s m args below meth c cells slots Q (dC, dI) vwCl A (va_S A s.heap) nL (wC ad cI cZ cB (sS σ 0 v) β mk ρ) pn lv (rest)) : jJ p l e R s m args below meth c cells slots Q (dC, dI) vwCl A (va_S A s.heap) nL (wC ad cI cZ cB σ β mk ρ) pc lv (.int v :: .ref (ad 0) :: rest) := by
  subst hpn
  exact fun H locs ls h1 h2 h3 h4 => va_put (D := (dC, dI)) (ci := 0) (v := .int v) (ty := .int) (C := R_C) (T := T_C) (N := 10) C.x C.b C.t iw_C t_C tk_C n_C C.o C.k h1 h2 h3 0 rfl rfl 3 (by decide) (C.t _ (List.mem_cons_of_mem _ fk_C_nextOp)) (fun _ h9 => h9) rfl (by decide +kernel) rfl rfl (Nat.le_of_ble_eq_true rfl) hdg (fun H1 locs1 g1 g2 g3 => k H1 locs1 ls g1 g2 g3 h4)
theorem g_C_oldestWaiting (C : jC p s m args c cc nL R_C (c0 :: jT) (dC, dI) vwCl (jty cI cZ cB cJ) A Sx jE) (pn : Nat) (hpn : pc + 3 = pn) (hdg : decode cc pc = .ok (.getfield 34, 3)) (k : jJ p l e R s m args below meth c cells slots Q (dC, dI) vwCl A Sx nL (wC ad cI cZ cB σ β mk ρ) pn lv (.int (σ 1 0) :: rest)) : jJ p l e R s m args below meth c cells slots Q (dC, dI) vwCl A Sx nL (wC ad cI cZ cB σ β mk ρ) pc lv (.ref (ad 0) :: rest) := by
  subst hpn
  exact fun H locs ls h1 h2 h3 h4 => va_get (D := (dC, dI)) (ci := 0) (v := .int (σ 1 0)) (C := R_C) (T := T_C) (N := 10) C.x C.b C.t iw_C C.o C.k h1 0 rfl rfl 4 (by decide) (C.t _ (List.mem_cons_of_mem _ fk_C_oldestWaiting)) (fun _ h9 => h9) rfl hdg (k H locs ls h1 h2 h3 h4)
theorem p_C_oldestWaiting (C : jC p s m args c cc nL R_C (c0 :: jT) (dC, dI) vwCl (jty cI cZ cB cJ) A (va_S A s.heap) jE) {v : Int32} (pn : Nat) (hpn : pc + 3 = pn) (hdg : decode cc pc = .ok (.putfield 34, 3)) (k : jJ p l e R s m args below meth c cells slots Q (dC, dI) vwCl A (va_S A s.heap) nL (wC ad cI cZ cB (sS σ 1 v) β mk ρ) pn lv (rest)) : jJ p l e R s m args below meth c cells slots Q (dC, dI) vwCl A (va_S A s.heap) nL (wC ad cI cZ cB σ β mk ρ) pc lv (.int v :: .ref (ad 0) :: rest) := by
  subst hpn
  exact fun H locs ls h1 h2 h3 h4 => va_put (D := (dC, dI)) (ci := 0) (v := .int v) (ty := .int) (C := R_C) (T := T_C) (N := 10) C.x C.b C.t iw_C t_C tk_C n_C C.o C.k h1 h2 h3 0 rfl rfl 4 (by decide) (C.t _ (List.mem_cons_of_mem _ fk_C_oldestWaiting)) (fun _ h9 => h9) rfl (by decide +kernel) rfl rfl (Nat.le_of_ble_eq_true rfl) hdg (fun H1 locs1 g1 g2 g3 => k H1 locs1 ls g1 g2 g3 h4)
theorem g_C_marks (C : jC p s m args c cc nL R_C (c0 :: jT) (dC, dI) vwCl (jty cI cZ cB cJ) A Sx jE) (pn : Nat) (hpn : pc + 3 = pn) (hdg : decode cc pc = .ok (.getfield 37, 3)) (k : jJ p l e R s m args below meth c cells slots Q (dC, dI) vwCl A Sx nL (wC ad cI cZ cB σ β mk ρ) pn lv (.long mk :: rest)) : jJ p l e R s m args below meth c cells slots Q (dC, dI) vwCl A Sx nL (wC ad cI cZ cB σ β mk ρ) pc lv (.ref (ad 0) :: rest) := by
  subst hpn
  exact fun H locs ls h1 h2 h3 h4 => va_get (D := (dC, dI)) (ci := 0) (v := .long mk) (C := R_C) (T := T_C) (N := 10) C.x C.b C.t iw_C C.o C.k h1 0 rfl rfl 5 (by decide) (C.t _ (List.mem_cons_of_mem _ fk_C_marks)) (fun _ h9 => h9) rfl hdg (k H locs ls h1 h2 h3 h4)
theorem p_C_marks (C : jC p s m args c cc nL R_C (c0 :: jT) (dC, dI) vwCl (jty cI cZ cB cJ) A (va_S A s.heap) jE) {v : Int64} (pn : Nat) (hpn : pc + 3 = pn) (hdg : decode cc pc = .ok (.putfield 37, 3)) (k : jJ p l e R s m args below meth c cells slots Q (dC, dI) vwCl A (va_S A s.heap) nL (wC ad cI cZ cB σ β v ρ) pn lv (rest)) : jJ p l e R s m args below meth c cells slots Q (dC, dI) vwCl A (va_S A s.heap) nL (wC ad cI cZ cB σ β mk ρ) pc lv (.long v :: .ref (ad 0) :: rest) := by
  subst hpn
  exact fun H locs ls h1 h2 h3 h4 => va_put (D := (dC, dI)) (ci := 0) (v := .long v) (ty := .long) (C := R_C) (T := T_C) (N := 10) C.x C.b C.t iw_C t_C tk_C n_C C.o C.k h1 h2 h3 0 rfl rfl 5 (by decide) (C.t _ (List.mem_cons_of_mem _ fk_C_marks)) (fun _ h9 => h9) rfl (by decide +kernel) rfl rfl (Nat.le_of_ble_eq_true rfl) hdg (fun H1 locs1 g1 g2 g3 => k H1 locs1 ls g1 g2 g3 h4)
theorem g_C_undoneSoFar (C : jC p s m args c cc nL R_C (c0 :: jT) (dC, dI) vwCl (jty cI cZ cB cJ) A Sx jE) (pn : Nat) (hpn : pc + 3 = pn) (hdg : decode cc pc = .ok (.getfield 41, 3)) (k : jJ p l e R s m args below meth c cells slots Q (dC, dI) vwCl A Sx nL (wC ad cI cZ cB σ β mk ρ) pn lv (.int (σ 2 0) :: rest)) : jJ p l e R s m args below meth c cells slots Q (dC, dI) vwCl A Sx nL (wC ad cI cZ cB σ β mk ρ) pc lv (.ref (ad 0) :: rest) := by
  subst hpn
  exact fun H locs ls h1 h2 h3 h4 => va_get (D := (dC, dI)) (ci := 0) (v := .int (σ 2 0)) (C := R_C) (T := T_C) (N := 10) C.x C.b C.t iw_C C.o C.k h1 0 rfl rfl 6 (by decide) (C.t _ (List.mem_cons_of_mem _ fk_C_undoneSoFar)) (fun _ h9 => h9) rfl hdg (k H locs ls h1 h2 h3 h4)
theorem p_C_undoneSoFar (C : jC p s m args c cc nL R_C (c0 :: jT) (dC, dI) vwCl (jty cI cZ cB cJ) A (va_S A s.heap) jE) {v : Int32} (pn : Nat) (hpn : pc + 3 = pn) (hdg : decode cc pc = .ok (.putfield 41, 3)) (k : jJ p l e R s m args below meth c cells slots Q (dC, dI) vwCl A (va_S A s.heap) nL (wC ad cI cZ cB (sS σ 2 v) β mk ρ) pn lv (rest)) : jJ p l e R s m args below meth c cells slots Q (dC, dI) vwCl A (va_S A s.heap) nL (wC ad cI cZ cB σ β mk ρ) pc lv (.int v :: .ref (ad 0) :: rest) := by
  subst hpn
  exact fun H locs ls h1 h2 h3 h4 => va_put (D := (dC, dI)) (ci := 0) (v := .int v) (ty := .int) (C := R_C) (T := T_C) (N := 10) C.x C.b C.t iw_C t_C tk_C n_C C.o C.k h1 h2 h3 0 rfl rfl 6 (by decide) (C.t _ (List.mem_cons_of_mem _ fk_C_undoneSoFar)) (fun _ h9 => h9) rfl (by decide +kernel) rfl rfl (Nat.le_of_ble_eq_true rfl) hdg (fun H1 locs1 g1 g2 g3 => k H1 locs1 ls g1 g2 g3 h4)
theorem g_C_wrongSoFar (C : jC p s m args c cc nL R_C (c0 :: jT) (dC, dI) vwCl (jty cI cZ cB cJ) A Sx jE) (pn : Nat) (hpn : pc + 3 = pn) (hdg : decode cc pc = .ok (.getfield 44, 3)) (k : jJ p l e R s m args below meth c cells slots Q (dC, dI) vwCl A Sx nL (wC ad cI cZ cB σ β mk ρ) pn lv (.int (σ 3 0) :: rest)) : jJ p l e R s m args below meth c cells slots Q (dC, dI) vwCl A Sx nL (wC ad cI cZ cB σ β mk ρ) pc lv (.ref (ad 0) :: rest) := by
  subst hpn
  exact fun H locs ls h1 h2 h3 h4 => va_get (D := (dC, dI)) (ci := 0) (v := .int (σ 3 0)) (C := R_C) (T := T_C) (N := 10) C.x C.b C.t iw_C C.o C.k h1 0 rfl rfl 7 (by decide) (C.t _ (List.mem_cons_of_mem _ fk_C_wrongSoFar)) (fun _ h9 => h9) rfl hdg (k H locs ls h1 h2 h3 h4)
theorem p_C_wrongSoFar (C : jC p s m args c cc nL R_C (c0 :: jT) (dC, dI) vwCl (jty cI cZ cB cJ) A (va_S A s.heap) jE) {v : Int32} (pn : Nat) (hpn : pc + 3 = pn) (hdg : decode cc pc = .ok (.putfield 44, 3)) (k : jJ p l e R s m args below meth c cells slots Q (dC, dI) vwCl A (va_S A s.heap) nL (wC ad cI cZ cB (sS σ 3 v) β mk ρ) pn lv (rest)) : jJ p l e R s m args below meth c cells slots Q (dC, dI) vwCl A (va_S A s.heap) nL (wC ad cI cZ cB σ β mk ρ) pc lv (.int v :: .ref (ad 0) :: rest) := by
  subst hpn
  exact fun H locs ls h1 h2 h3 h4 => va_put (D := (dC, dI)) (ci := 0) (v := .int v) (ty := .int) (C := R_C) (T := T_C) (N := 10) C.x C.b C.t iw_C t_C tk_C n_C C.o C.k h1 h2 h3 0 rfl rfl 7 (by decide) (C.t _ (List.mem_cons_of_mem _ fk_C_wrongSoFar)) (fun _ h9 => h9) rfl (by decide +kernel) rfl rfl (Nat.le_of_ble_eq_true rfl) hdg (fun H1 locs1 g1 g2 g3 => k H1 locs1 ls g1 g2 g3 h4)
theorem g_C_bytesFromStores (C : jC p s m args c cc nL R_C (c0 :: jT) (dC, dI) vwCl (jty cI cZ cB cJ) A Sx jE) (pn : Nat) (hpn : pc + 3 = pn) (hdg : decode cc pc = .ok (.getfield 47, 3)) (k : jJ p l e R s m args below meth c cells slots Q (dC, dI) vwCl A Sx nL (wC ad cI cZ cB σ β mk ρ) pn lv (.int (σ 4 0) :: rest)) : jJ p l e R s m args below meth c cells slots Q (dC, dI) vwCl A Sx nL (wC ad cI cZ cB σ β mk ρ) pc lv (.ref (ad 0) :: rest) := by
  subst hpn
  exact fun H locs ls h1 h2 h3 h4 => va_get (D := (dC, dI)) (ci := 0) (v := .int (σ 4 0)) (C := R_C) (T := T_C) (N := 10) C.x C.b C.t iw_C C.o C.k h1 0 rfl rfl 8 (by decide) (C.t _ (List.mem_cons_of_mem _ fk_C_bytesFromStores)) (fun _ h9 => h9) rfl hdg (k H locs ls h1 h2 h3 h4)
theorem p_C_bytesFromStores (C : jC p s m args c cc nL R_C (c0 :: jT) (dC, dI) vwCl (jty cI cZ cB cJ) A (va_S A s.heap) jE) {v : Int32} (pn : Nat) (hpn : pc + 3 = pn) (hdg : decode cc pc = .ok (.putfield 47, 3)) (k : jJ p l e R s m args below meth c cells slots Q (dC, dI) vwCl A (va_S A s.heap) nL (wC ad cI cZ cB (sS σ 4 v) β mk ρ) pn lv (rest)) : jJ p l e R s m args below meth c cells slots Q (dC, dI) vwCl A (va_S A s.heap) nL (wC ad cI cZ cB σ β mk ρ) pc lv (.int v :: .ref (ad 0) :: rest) := by
  subst hpn
  exact fun H locs ls h1 h2 h3 h4 => va_put (D := (dC, dI)) (ci := 0) (v := .int v) (ty := .int) (C := R_C) (T := T_C) (N := 10) C.x C.b C.t iw_C t_C tk_C n_C C.o C.k h1 h2 h3 0 rfl rfl 8 (by decide) (C.t _ (List.mem_cons_of_mem _ fk_C_bytesFromStores)) (fun _ h9 => h9) rfl (by decide +kernel) rfl rfl (Nat.le_of_ble_eq_true rfl) hdg (fun H1 locs1 g1 g2 g3 => k H1 locs1 ls g1 g2 g3 h4)
theorem g_C_bytesFromElsewhere (C : jC p s m args c cc nL R_C (c0 :: jT) (dC, dI) vwCl (jty cI cZ cB cJ) A Sx jE) (pn : Nat) (hpn : pc + 3 = pn) (hdg : decode cc pc = .ok (.getfield 50, 3)) (k : jJ p l e R s m args below meth c cells slots Q (dC, dI) vwCl A Sx nL (wC ad cI cZ cB σ β mk ρ) pn lv (.int (σ 5 0) :: rest)) : jJ p l e R s m args below meth c cells slots Q (dC, dI) vwCl A Sx nL (wC ad cI cZ cB σ β mk ρ) pc lv (.ref (ad 0) :: rest) := by
  subst hpn
  exact fun H locs ls h1 h2 h3 h4 => va_get (D := (dC, dI)) (ci := 0) (v := .int (σ 5 0)) (C := R_C) (T := T_C) (N := 10) C.x C.b C.t iw_C C.o C.k h1 0 rfl rfl 9 (by decide) (C.t _ (List.mem_cons_of_mem _ fk_C_bytesFromElsewhere)) (fun _ h9 => h9) rfl hdg (k H locs ls h1 h2 h3 h4)
theorem p_C_bytesFromElsewhere (C : jC p s m args c cc nL R_C (c0 :: jT) (dC, dI) vwCl (jty cI cZ cB cJ) A (va_S A s.heap) jE) {v : Int32} (pn : Nat) (hpn : pc + 3 = pn) (hdg : decode cc pc = .ok (.putfield 50, 3)) (k : jJ p l e R s m args below meth c cells slots Q (dC, dI) vwCl A (va_S A s.heap) nL (wC ad cI cZ cB (sS σ 5 v) β mk ρ) pn lv (rest)) : jJ p l e R s m args below meth c cells slots Q (dC, dI) vwCl A (va_S A s.heap) nL (wC ad cI cZ cB σ β mk ρ) pc lv (.int v :: .ref (ad 0) :: rest) := by
  subst hpn
  exact fun H locs ls h1 h2 h3 h4 => va_put (D := (dC, dI)) (ci := 0) (v := .int v) (ty := .int) (C := R_C) (T := T_C) (N := 10) C.x C.b C.t iw_C t_C tk_C n_C C.o C.k h1 h2 h3 0 rfl rfl 9 (by decide) (C.t _ (List.mem_cons_of_mem _ fk_C_bytesFromElsewhere)) (fun _ h9 => h9) rfl (by decide +kernel) rfl rfl (Nat.le_of_ble_eq_true rfl) hdg (fun H1 locs1 g1 g2 g3 => k H1 locs1 ls g1 g2 g3 h4)
theorem g_O_kinds (C : jC p s m args c cc nL R_O (c0 :: jT) (dC, dI) vwCl (jty cI cZ cB cJ) A Sx jE) (pn : Nat) (hpn : pc + 3 = pn) (hdg : decode cc pc = .ok (.getfield 11, 3)) (k : jJ p l e R s m args below meth c cells slots Q (dC, dI) vwCl A Sx nL (wC ad cI cZ cB σ β mk ρ) pn lv (.ref (ad 10) :: rest)) : jJ p l e R s m args below meth c cells slots Q (dC, dI) vwCl A Sx nL (wC ad cI cZ cB σ β mk ρ) pc lv (.ref (ad 1) :: rest) := by
  subst hpn
  exact fun H locs ls h1 h2 h3 h4 => va_get (D := (dC, dI)) (ci := 1) (v := .ref (ad 10)) (C := R_O) (T := T_O) (N := 10) C.x C.b C.t iw_O C.o C.k h1 1 rfl rfl 0 (by decide) (C.t _ (List.mem_cons_of_mem _ fk_O_kinds)) (fun _ h9 => h9) rfl hdg (k H locs ls h1 h2 h3 h4)
theorem g_O_sizes (C : jC p s m args c cc nL R_O (c0 :: jT) (dC, dI) vwCl (jty cI cZ cB cJ) A Sx jE) (pn : Nat) (hpn : pc + 3 = pn) (hdg : decode cc pc = .ok (.getfield 15, 3)) (k : jJ p l e R s m args below meth c cells slots Q (dC, dI) vwCl A Sx nL (wC ad cI cZ cB σ β mk ρ) pn lv (.ref (ad 11) :: rest)) : jJ p l e R s m args below meth c cells slots Q (dC, dI) vwCl A Sx nL (wC ad cI cZ cB σ β mk ρ) pc lv (.ref (ad 1) :: rest) := by
  subst hpn
  exact fun H locs ls h1 h2 h3 h4 => va_get (D := (dC, dI)) (ci := 1) (v := .ref (ad 11)) (C := R_O) (T := T_O) (N := 10) C.x C.b C.t iw_O C.o C.k h1 1 rfl rfl 1 (by decide) (C.t _ (List.mem_cons_of_mem _ fk_O_sizes)) (fun _ h9 => h9) rfl hdg (k H locs ls h1 h2 h3 h4)
theorem g_O_programs (C : jC p s m args c cc nL R_O (c0 :: jT) (dC, dI) vwCl (jty cI cZ cB cJ) A Sx jE) (pn : Nat) (hpn : pc + 3 = pn) (hdg : decode cc pc = .ok (.getfield 18, 3)) (k : jJ p l e R s m args below meth c cells slots Q (dC, dI) vwCl A Sx nL (wC ad cI cZ cB σ β mk ρ) pn lv (.ref (ad 12) :: rest)) : jJ p l e R s m args below meth c cells slots Q (dC, dI) vwCl A Sx nL (wC ad cI cZ cB σ β mk ρ) pc lv (.ref (ad 1) :: rest) := by
  subst hpn
  exact fun H locs ls h1 h2 h3 h4 => va_get (D := (dC, dI)) (ci := 1) (v := .ref (ad 12)) (C := R_O) (T := T_O) (N := 10) C.x C.b C.t iw_O C.o C.k h1 1 rfl rfl 2 (by decide) (C.t _ (List.mem_cons_of_mem _ fk_O_programs)) (fun _ h9 => h9) rfl hdg (k H locs ls h1 h2 h3 h4)
theorem g_O_addresses (C : jC p s m args c cc nL R_O (c0 :: jT) (dC, dI) vwCl (jty cI cZ cB cJ) A Sx jE) (pn : Nat) (hpn : pc + 3 = pn) (hdg : decode cc pc = .ok (.getfield 21, 3)) (k : jJ p l e R s m args below meth c cells slots Q (dC, dI) vwCl A Sx nL (wC ad cI cZ cB σ β mk ρ) pn lv (.ref (ad 13) :: rest)) : jJ p l e R s m args below meth c cells slots Q (dC, dI) vwCl A Sx nL (wC ad cI cZ cB σ β mk ρ) pc lv (.ref (ad 1) :: rest) := by
  subst hpn
  exact fun H locs ls h1 h2 h3 h4 => va_get (D := (dC, dI)) (ci := 1) (v := .ref (ad 13)) (C := R_O) (T := T_O) (N := 10) C.x C.b C.t iw_O C.o C.k h1 1 rfl rfl 3 (by decide) (C.t _ (List.mem_cons_of_mem _ fk_O_addresses)) (fun _ h9 => h9) rfl hdg (k H locs ls h1 h2 h3 h4)
theorem g_O_addressTold (C : jC p s m args c cc nL R_O (c0 :: jT) (dC, dI) vwCl (jty cI cZ cB cJ) A Sx jE) (pn : Nat) (hpn : pc + 3 = pn) (hdg : decode cc pc = .ok (.getfield 24, 3)) (k : jJ p l e R s m args below meth c cells slots Q (dC, dI) vwCl A Sx nL (wC ad cI cZ cB σ β mk ρ) pn lv (.ref (ad 14) :: rest)) : jJ p l e R s m args below meth c cells slots Q (dC, dI) vwCl A Sx nL (wC ad cI cZ cB σ β mk ρ) pc lv (.ref (ad 1) :: rest) := by
  subst hpn
  exact fun H locs ls h1 h2 h3 h4 => va_get (D := (dC, dI)) (ci := 1) (v := .ref (ad 14)) (C := R_O) (T := T_O) (N := 10) C.x C.b C.t iw_O C.o C.k h1 1 rfl rfl 4 (by decide) (C.t _ (List.mem_cons_of_mem _ fk_O_addressTold)) (fun _ h9 => h9) rfl hdg (k H locs ls h1 h2 h3 h4)
theorem g_O_numbers (C : jC p s m args c cc nL R_O (c0 :: jT) (dC, dI) vwCl (jty cI cZ cB cJ) A Sx jE) (pn : Nat) (hpn : pc + 3 = pn) (hdg : decode cc pc = .ok (.getfield 28, 3)) (k : jJ p l e R s m args below meth c cells slots Q (dC, dI) vwCl A Sx nL (wC ad cI cZ cB σ β mk ρ) pn lv (.ref (ad 15) :: rest)) : jJ p l e R s m args below meth c cells slots Q (dC, dI) vwCl A Sx nL (wC ad cI cZ cB σ β mk ρ) pc lv (.ref (ad 1) :: rest) := by
  subst hpn
  exact fun H locs ls h1 h2 h3 h4 => va_get (D := (dC, dI)) (ci := 1) (v := .ref (ad 15)) (C := R_O) (T := T_O) (N := 10) C.x C.b C.t iw_O C.o C.k h1 1 rfl rfl 5 (by decide) (C.t _ (List.mem_cons_of_mem _ fk_O_numbers)) (fun _ h9 => h9) rfl hdg (k H locs ls h1 h2 h3 h4)
theorem g_O_numberTold (C : jC p s m args c cc nL R_O (c0 :: jT) (dC, dI) vwCl (jty cI cZ cB cJ) A Sx jE) (pn : Nat) (hpn : pc + 3 = pn) (hdg : decode cc pc = .ok (.getfield 31, 3)) (k : jJ p l e R s m args below meth c cells slots Q (dC, dI) vwCl A Sx nL (wC ad cI cZ cB σ β mk ρ) pn lv (.ref (ad 16) :: rest)) : jJ p l e R s m args below meth c cells slots Q (dC, dI) vwCl A Sx nL (wC ad cI cZ cB σ β mk ρ) pc lv (.ref (ad 1) :: rest) := by
  subst hpn
  exact fun H locs ls h1 h2 h3 h4 => va_get (D := (dC, dI)) (ci := 1) (v := .ref (ad 16)) (C := R_O) (T := T_O) (N := 10) C.x C.b C.t iw_O C.o C.k h1 1 rfl rfl 6 (by decide) (C.t _ (List.mem_cons_of_mem _ fk_O_numberTold)) (fun _ h9 => h9) rfl hdg (k H locs ls h1 h2 h3 h4)
theorem g_O_done (C : jC p s m args c cc nL R_O (c0 :: jT) (dC, dI) vwCl (jty cI cZ cB cJ) A Sx jE) (pn : Nat) (hpn : pc + 3 = pn) (hdg : decode cc pc = .ok (.getfield 34, 3)) (k : jJ p l e R s m args below meth c cells slots Q (dC, dI) vwCl A Sx nL (wC ad cI cZ cB σ β mk ρ) pn lv (.ref (ad 17) :: rest)) : jJ p l e R s m args below meth c cells slots Q (dC, dI) vwCl A Sx nL (wC ad cI cZ cB σ β mk ρ) pc lv (.ref (ad 1) :: rest) := by
  subst hpn
  exact fun H locs ls h1 h2 h3 h4 => va_get (D := (dC, dI)) (ci := 1) (v := .ref (ad 17)) (C := R_O) (T := T_O) (N := 10) C.x C.b C.t iw_O C.o C.k h1 1 rfl rfl 7 (by decide) (C.t _ (List.mem_cons_of_mem _ fk_O_done)) (fun _ h9 => h9) rfl hdg (k H locs ls h1 h2 h3 h4)
theorem g_O_loadedNumbers (C : jC p s m args c cc nL R_O (c0 :: jT) (dC, dI) vwCl (jty cI cZ cB cJ) A Sx jE) (pn : Nat) (hpn : pc + 3 = pn) (hdg : decode cc pc = .ok (.getfield 37, 3)) (k : jJ p l e R s m args below meth c cells slots Q (dC, dI) vwCl A Sx nL (wC ad cI cZ cB σ β mk ρ) pn lv (.ref (ad 18) :: rest)) : jJ p l e R s m args below meth c cells slots Q (dC, dI) vwCl A Sx nL (wC ad cI cZ cB σ β mk ρ) pc lv (.ref (ad 1) :: rest) := by
  subst hpn
  exact fun H locs ls h1 h2 h3 h4 => va_get (D := (dC, dI)) (ci := 1) (v := .ref (ad 18)) (C := R_O) (T := T_O) (N := 10) C.x C.b C.t iw_O C.o C.k h1 1 rfl rfl 8 (by decide) (C.t _ (List.mem_cons_of_mem _ fk_O_loadedNumbers)) (fun _ h9 => h9) rfl hdg (k H locs ls h1 h2 h3 h4)
theorem g_O_sources (C : jC p s m args c cc nL R_O (c0 :: jT) (dC, dI) vwCl (jty cI cZ cB cJ) A Sx jE) (pn : Nat) (hpn : pc + 3 = pn) (hdg : decode cc pc = .ok (.getfield 40, 3)) (k : jJ p l e R s m args below meth c cells slots Q (dC, dI) vwCl A Sx nL (wC ad cI cZ cB σ β mk ρ) pn lv (.ref (ad 19) :: rest)) : jJ p l e R s m args below meth c cells slots Q (dC, dI) vwCl A Sx nL (wC ad cI cZ cB σ β mk ρ) pc lv (.ref (ad 1) :: rest) := by
  subst hpn
  exact fun H locs ls h1 h2 h3 h4 => va_get (D := (dC, dI)) (ci := 1) (v := .ref (ad 19)) (C := R_O) (T := T_O) (N := 10) C.x C.b C.t iw_O C.o C.k h1 1 rfl rfl 9 (by decide) (C.t _ (List.mem_cons_of_mem _ fk_O_sources)) (fun _ h9 => h9) rfl hdg (k H locs ls h1 h2 h3 h4)
theorem g_B_stores (C : jC p s m args c cc nL R_B (c0 :: jT) (dC, dI) vwCl (jty cI cZ cB cJ) A Sx jE) (pn : Nat) (hpn : pc + 3 = pn) (hdg : decode cc pc = .ok (.getfield 9, 3)) (k : jJ p l e R s m args below meth c cells slots Q (dC, dI) vwCl A Sx nL (wC ad cI cZ cB σ β mk ρ) pn lv (.ref (ad 20) :: rest)) : jJ p l e R s m args below meth c cells slots Q (dC, dI) vwCl A Sx nL (wC ad cI cZ cB σ β mk ρ) pc lv (.ref (ad 2) :: rest) := by
  subst hpn
  exact fun H locs ls h1 h2 h3 h4 => va_get (D := (dC, dI)) (ci := 2) (v := .ref (ad 20)) (C := R_B) (T := T_B) (N := 5) C.x C.b C.t iw_B C.o C.k h1 2 rfl rfl 0 (by decide) (C.t _ (List.mem_cons_of_mem _ fk_B_stores)) (fun _ h9 => h9) rfl hdg (k H locs ls h1 h2 h3 h4)
theorem g_B_addresses (C : jC p s m args c cc nL R_B (c0 :: jT) (dC, dI) vwCl (jty cI cZ cB cJ) A Sx jE) (pn : Nat) (hpn : pc + 3 = pn) (hdg : decode cc pc = .ok (.getfield 15, 3)) (k : jJ p l e R s m args below meth c cells slots Q (dC, dI) vwCl A Sx nL (wC ad cI cZ cB σ β mk ρ) pn lv (.ref (ad 21) :: rest)) : jJ p l e R s m args below meth c cells slots Q (dC, dI) vwCl A Sx nL (wC ad cI cZ cB σ β mk ρ) pc lv (.ref (ad 2) :: rest) := by
  subst hpn
  exact fun H locs ls h1 h2 h3 h4 => va_get (D := (dC, dI)) (ci := 2) (v := .ref (ad 21)) (C := R_B) (T := T_B) (N := 5) C.x C.b C.t iw_B C.o C.k h1 2 rfl rfl 1 (by decide) (C.t _ (List.mem_cons_of_mem _ fk_B_addresses)) (fun _ h9 => h9) rfl hdg (k H locs ls h1 h2 h3 h4)
theorem g_B_sizes (C : jC p s m args c cc nL R_B (c0 :: jT) (dC, dI) vwCl (jty cI cZ cB cJ) A Sx jE) (pn : Nat) (hpn : pc + 3 = pn) (hdg : decode cc pc = .ok (.getfield 18, 3)) (k : jJ p l e R s m args below meth c cells slots Q (dC, dI) vwCl A Sx nL (wC ad cI cZ cB σ β mk ρ) pn lv (.ref (ad 22) :: rest)) : jJ p l e R s m args below meth c cells slots Q (dC, dI) vwCl A Sx nL (wC ad cI cZ cB σ β mk ρ) pc lv (.ref (ad 2) :: rest) := by
  subst hpn
  exact fun H locs ls h1 h2 h3 h4 => va_get (D := (dC, dI)) (ci := 2) (v := .ref (ad 22)) (C := R_B) (T := T_B) (N := 5) C.x C.b C.t iw_B C.o C.k h1 2 rfl rfl 2 (by decide) (C.t _ (List.mem_cons_of_mem _ fk_B_sizes)) (fun _ h9 => h9) rfl hdg (k H locs ls h1 h2 h3 h4)
theorem g_B_numbers (C : jC p s m args c cc nL R_B (c0 :: jT) (dC, dI) vwCl (jty cI cZ cB cJ) A Sx jE) (pn : Nat) (hpn : pc + 3 = pn) (hdg : decode cc pc = .ok (.getfield 21, 3)) (k : jJ p l e R s m args below meth c cells slots Q (dC, dI) vwCl A Sx nL (wC ad cI cZ cB σ β mk ρ) pn lv (.ref (ad 23) :: rest)) : jJ p l e R s m args below meth c cells slots Q (dC, dI) vwCl A Sx nL (wC ad cI cZ cB σ β mk ρ) pc lv (.ref (ad 2) :: rest) := by
  subst hpn
  exact fun H locs ls h1 h2 h3 h4 => va_get (D := (dC, dI)) (ci := 2) (v := .ref (ad 23)) (C := R_B) (T := T_B) (N := 5) C.x C.b C.t iw_B C.o C.k h1 2 rfl rfl 3 (by decide) (C.t _ (List.mem_cons_of_mem _ fk_B_numbers)) (fun _ h9 => h9) rfl hdg (k H locs ls h1 h2 h3 h4)
theorem g_B_held (C : jC p s m args c cc nL R_B (c0 :: jT) (dC, dI) vwCl (jty cI cZ cB cJ) A Sx jE) (pn : Nat) (hpn : pc + 3 = pn) (hdg : decode cc pc = .ok (.getfield 24, 3)) (k : jJ p l e R s m args below meth c cells slots Q (dC, dI) vwCl A Sx nL (wC ad cI cZ cB σ β mk ρ) pn lv (.int (σ 6 0) :: rest)) : jJ p l e R s m args below meth c cells slots Q (dC, dI) vwCl A Sx nL (wC ad cI cZ cB σ β mk ρ) pc lv (.ref (ad 2) :: rest) := by
  subst hpn
  exact fun H locs ls h1 h2 h3 h4 => va_get (D := (dC, dI)) (ci := 2) (v := .int (σ 6 0)) (C := R_B) (T := T_B) (N := 5) C.x C.b C.t iw_B C.o C.k h1 2 rfl rfl 4 (by decide) (C.t _ (List.mem_cons_of_mem _ fk_B_held)) (fun _ h9 => h9) rfl hdg (k H locs ls h1 h2 h3 h4)
theorem p_B_held (C : jC p s m args c cc nL R_B (c0 :: jT) (dC, dI) vwCl (jty cI cZ cB cJ) A (va_S A s.heap) jE) {v : Int32} (pn : Nat) (hpn : pc + 3 = pn) (hdg : decode cc pc = .ok (.putfield 24, 3)) (k : jJ p l e R s m args below meth c cells slots Q (dC, dI) vwCl A (va_S A s.heap) nL (wC ad cI cZ cB (sS σ 6 v) β mk ρ) pn lv (rest)) : jJ p l e R s m args below meth c cells slots Q (dC, dI) vwCl A (va_S A s.heap) nL (wC ad cI cZ cB σ β mk ρ) pc lv (.int v :: .ref (ad 2) :: rest) := by
  subst hpn
  exact fun H locs ls h1 h2 h3 h4 => va_put (D := (dC, dI)) (ci := 2) (v := .int v) (ty := .int) (C := R_B) (T := T_B) (N := 5) C.x C.b C.t iw_B t_B tk_B n_B C.o C.k h1 h2 h3 2 rfl rfl 4 (by decide) (C.t _ (List.mem_cons_of_mem _ fk_B_held)) (fun _ h9 => h9) rfl (by decide +kernel) rfl rfl (Nat.le_of_ble_eq_true rfl) hdg (fun H1 locs1 g1 g2 g3 => k H1 locs1 ls g1 g2 g3 h4)
theorem g_Y_cells (C : jC p s m args c cc nL R_Y (c0 :: jT) (dC, dI) vwCl (jty cI cZ cB cJ) A Sx jE) (pn : Nat) (hpn : pc + 3 = pn) (hdg : decode cc pc = .ok (.getfield 9, 3)) (k : jJ p l e R s m args below meth c cells slots Q (dC, dI) vwCl A Sx nL (wC ad cI cZ cB σ β mk ρ) pn lv (.ref (ad 24) :: rest)) : jJ p l e R s m args below meth c cells slots Q (dC, dI) vwCl A Sx nL (wC ad cI cZ cB σ β mk ρ) pc lv (.ref (ad 3) :: rest) := by
  subst hpn
  exact fun H locs ls h1 h2 h3 h4 => va_get (D := (dC, dI)) (ci := 3) (v := .ref (ad 24)) (C := R_Y) (T := T_Y) (N := 1) C.x C.b C.t iw_Y C.o C.k h1 3 rfl rfl 0 (by decide) (C.t _ (List.mem_cons_of_mem _ fk_Y_cells)) (fun _ h9 => h9) rfl hdg (k H locs ls h1 h2 h3 h4)
theorem g_M_thrown (C : jC p s m args c cc nL R_M (c0 :: jT) (dC, dI) vwCl (jty cI cZ cB cJ) A Sx jE) (pn : Nat) (hpn : pc + 3 = pn) (hdg : decode cc pc = .ok (.getfield 56, 3)) (k : jJ p l e R s m args below meth c cells slots Q (dC, dI) vwCl A Sx nL (wM am cI cZ μ ν ρ) pn lv (.int (μ 0 0) :: rest)) : jJ p l e R s m args below meth c cells slots Q (dC, dI) vwCl A Sx nL (wM am cI cZ μ ν ρ) pc lv (.ref (am 0) :: rest) := by
  subst hpn
  exact fun H locs ls h1 h2 h3 h4 => va_get (D := (dC, dI)) (ci := 4) (v := .int (μ 0 0)) (C := R_M) (T := T_M) (N := 23) C.x C.b C.t iw_M C.o C.k h1 0 rfl rfl 0 (by decide) (C.t _ (List.mem_cons_of_mem _ fk_M_thrown)) (fun _ h9 => h9) rfl hdg (k H locs ls h1 h2 h3 h4)
theorem p_M_thrown (C : jC p s m args c cc nL R_M (c0 :: jT) (dC, dI) vwCl (jty cI cZ cB cJ) A (va_S A s.heap) jE) {v : Int32} (pn : Nat) (hpn : pc + 3 = pn) (hdg : decode cc pc = .ok (.putfield 56, 3)) (k : jJ p l e R s m args below meth c cells slots Q (dC, dI) vwCl A (va_S A s.heap) nL (wM am cI cZ (sS μ 0 v) ν ρ) pn lv (rest)) : jJ p l e R s m args below meth c cells slots Q (dC, dI) vwCl A (va_S A s.heap) nL (wM am cI cZ μ ν ρ) pc lv (.int v :: .ref (am 0) :: rest) := by
  subst hpn
  exact fun H locs ls h1 h2 h3 h4 => va_put (D := (dC, dI)) (ci := 4) (v := .int v) (ty := .int) (C := R_M) (T := T_M) (N := 23) C.x C.b C.t iw_M t_M tk_M n_M C.o C.k h1 h2 h3 0 rfl rfl 0 (by decide) (C.t _ (List.mem_cons_of_mem _ fk_M_thrown)) (fun _ h9 => h9) rfl (by decide +kernel) rfl rfl (Nat.le_of_ble_eq_true rfl) hdg (fun H1 locs1 g1 g2 g3 => k H1 locs1 ls g1 g2 g3 h4)
theorem g_M_total (C : jC p s m args c cc nL R_M (c0 :: jT) (dC, dI) vwCl (jty cI cZ cB cJ) A Sx jE) (pn : Nat) (hpn : pc + 3 = pn) (hdg : decode cc pc = .ok (.getfield 60, 3)) (k : jJ p l e R s m args below meth c cells slots Q (dC, dI) vwCl A Sx nL (wM am cI cZ μ ν ρ) pn lv (.int (μ 1 0) :: rest)) : jJ p l e R s m args below meth c cells slots Q (dC, dI) vwCl A Sx nL (wM am cI cZ μ ν ρ) pc lv (.ref (am 0) :: rest) := by
  subst hpn
  exact fun H locs ls h1 h2 h3 h4 => va_get (D := (dC, dI)) (ci := 4) (v := .int (μ 1 0)) (C := R_M) (T := T_M) (N := 23) C.x C.b C.t iw_M C.o C.k h1 0 rfl rfl 1 (by decide) (C.t _ (List.mem_cons_of_mem _ fk_M_total)) (fun _ h9 => h9) rfl hdg (k H locs ls h1 h2 h3 h4)
theorem p_M_total (C : jC p s m args c cc nL R_M (c0 :: jT) (dC, dI) vwCl (jty cI cZ cB cJ) A (va_S A s.heap) jE) {v : Int32} (pn : Nat) (hpn : pc + 3 = pn) (hdg : decode cc pc = .ok (.putfield 60, 3)) (k : jJ p l e R s m args below meth c cells slots Q (dC, dI) vwCl A (va_S A s.heap) nL (wM am cI cZ (sS μ 1 v) ν ρ) pn lv (rest)) : jJ p l e R s m args below meth c cells slots Q (dC, dI) vwCl A (va_S A s.heap) nL (wM am cI cZ μ ν ρ) pc lv (.int v :: .ref (am 0) :: rest) := by
  subst hpn
  exact fun H locs ls h1 h2 h3 h4 => va_put (D := (dC, dI)) (ci := 4) (v := .int v) (ty := .int) (C := R_M) (T := T_M) (N := 23) C.x C.b C.t iw_M t_M tk_M n_M C.o C.k h1 h2 h3 0 rfl rfl 1 (by decide) (C.t _ (List.mem_cons_of_mem _ fk_M_total)) (fun _ h9 => h9) rfl (by decide +kernel) rfl rfl (Nat.le_of_ble_eq_true rfl) hdg (fun H1 locs1 g1 g2 g3 => k H1 locs1 ls g1 g2 g3 h4)
theorem g_M_oldest (C : jC p s m args c cc nL R_M (c0 :: jT) (dC, dI) vwCl (jty cI cZ cB cJ) A Sx jE) (pn : Nat) (hpn : pc + 3 = pn) (hdg : decode cc pc = .ok (.getfield 63, 3)) (k : jJ p l e R s m args below meth c cells slots Q (dC, dI) vwCl A Sx nL (wM am cI cZ μ ν ρ) pn lv (.int (μ 2 0) :: rest)) : jJ p l e R s m args below meth c cells slots Q (dC, dI) vwCl A Sx nL (wM am cI cZ μ ν ρ) pc lv (.ref (am 0) :: rest) := by
  subst hpn
  exact fun H locs ls h1 h2 h3 h4 => va_get (D := (dC, dI)) (ci := 4) (v := .int (μ 2 0)) (C := R_M) (T := T_M) (N := 23) C.x C.b C.t iw_M C.o C.k h1 0 rfl rfl 2 (by decide) (C.t _ (List.mem_cons_of_mem _ fk_M_oldest)) (fun _ h9 => h9) rfl hdg (k H locs ls h1 h2 h3 h4)
theorem p_M_oldest (C : jC p s m args c cc nL R_M (c0 :: jT) (dC, dI) vwCl (jty cI cZ cB cJ) A (va_S A s.heap) jE) {v : Int32} (pn : Nat) (hpn : pc + 3 = pn) (hdg : decode cc pc = .ok (.putfield 63, 3)) (k : jJ p l e R s m args below meth c cells slots Q (dC, dI) vwCl A (va_S A s.heap) nL (wM am cI cZ (sS μ 2 v) ν ρ) pn lv (rest)) : jJ p l e R s m args below meth c cells slots Q (dC, dI) vwCl A (va_S A s.heap) nL (wM am cI cZ μ ν ρ) pc lv (.int v :: .ref (am 0) :: rest) := by
  subst hpn
  exact fun H locs ls h1 h2 h3 h4 => va_put (D := (dC, dI)) (ci := 4) (v := .int v) (ty := .int) (C := R_M) (T := T_M) (N := 23) C.x C.b C.t iw_M t_M tk_M n_M C.o C.k h1 h2 h3 0 rfl rfl 2 (by decide) (C.t _ (List.mem_cons_of_mem _ fk_M_oldest)) (fun _ h9 => h9) rfl (by decide +kernel) rfl rfl (Nat.le_of_ble_eq_true rfl) hdg (fun H1 locs1 g1 g2 g3 => k H1 locs1 ls g1 g2 g3 h4)
theorem g_M_undone (C : jC p s m args c cc nL R_M (c0 :: jT) (dC, dI) vwCl (jty cI cZ cB cJ) A Sx jE) (pn : Nat) (hpn : pc + 3 = pn) (hdg : decode cc pc = .ok (.getfield 107, 3)) (k : jJ p l e R s m args below meth c cells slots Q (dC, dI) vwCl A Sx nL (wM am cI cZ μ ν ρ) pn lv (.int (μ 3 0) :: rest)) : jJ p l e R s m args below meth c cells slots Q (dC, dI) vwCl A Sx nL (wM am cI cZ μ ν ρ) pc lv (.ref (am 0) :: rest) := by
  subst hpn
  exact fun H locs ls h1 h2 h3 h4 => va_get (D := (dC, dI)) (ci := 4) (v := .int (μ 3 0)) (C := R_M) (T := T_M) (N := 23) C.x C.b C.t iw_M C.o C.k h1 0 rfl rfl 3 (by decide) (C.t _ (List.mem_cons_of_mem _ fk_M_undone)) (fun _ h9 => h9) rfl hdg (k H locs ls h1 h2 h3 h4)
theorem p_M_undone (C : jC p s m args c cc nL R_M (c0 :: jT) (dC, dI) vwCl (jty cI cZ cB cJ) A (va_S A s.heap) jE) {v : Int32} (pn : Nat) (hpn : pc + 3 = pn) (hdg : decode cc pc = .ok (.putfield 107, 3)) (k : jJ p l e R s m args below meth c cells slots Q (dC, dI) vwCl A (va_S A s.heap) nL (wM am cI cZ (sS μ 3 v) ν ρ) pn lv (rest)) : jJ p l e R s m args below meth c cells slots Q (dC, dI) vwCl A (va_S A s.heap) nL (wM am cI cZ μ ν ρ) pc lv (.int v :: .ref (am 0) :: rest) := by
  subst hpn
  exact fun H locs ls h1 h2 h3 h4 => va_put (D := (dC, dI)) (ci := 4) (v := .int v) (ty := .int) (C := R_M) (T := T_M) (N := 23) C.x C.b C.t iw_M t_M tk_M n_M C.o C.k h1 h2 h3 0 rfl rfl 3 (by decide) (C.t _ (List.mem_cons_of_mem _ fk_M_undone)) (fun _ h9 => h9) rfl (by decide +kernel) rfl rfl (Nat.le_of_ble_eq_true rfl) hdg (fun H1 locs1 g1 g2 g3 => k H1 locs1 ls g1 g2 g3 h4)
theorem g_M_wrong (C : jC p s m args c cc nL R_M (c0 :: jT) (dC, dI) vwCl (jty cI cZ cB cJ) A Sx jE) (pn : Nat) (hpn : pc + 3 = pn) (hdg : decode cc pc = .ok (.getfield 104, 3)) (k : jJ p l e R s m args below meth c cells slots Q (dC, dI) vwCl A Sx nL (wM am cI cZ μ ν ρ) pn lv (.int (μ 4 0) :: rest)) : jJ p l e R s m args below meth c cells slots Q (dC, dI) vwCl A Sx nL (wM am cI cZ μ ν ρ) pc lv (.ref (am 0) :: rest) := by
  subst hpn
  exact fun H locs ls h1 h2 h3 h4 => va_get (D := (dC, dI)) (ci := 4) (v := .int (μ 4 0)) (C := R_M) (T := T_M) (N := 23) C.x C.b C.t iw_M C.o C.k h1 0 rfl rfl 4 (by decide) (C.t _ (List.mem_cons_of_mem _ fk_M_wrong)) (fun _ h9 => h9) rfl hdg (k H locs ls h1 h2 h3 h4)
theorem p_M_wrong (C : jC p s m args c cc nL R_M (c0 :: jT) (dC, dI) vwCl (jty cI cZ cB cJ) A (va_S A s.heap) jE) {v : Int32} (pn : Nat) (hpn : pc + 3 = pn) (hdg : decode cc pc = .ok (.putfield 104, 3)) (k : jJ p l e R s m args below meth c cells slots Q (dC, dI) vwCl A (va_S A s.heap) nL (wM am cI cZ (sS μ 4 v) ν ρ) pn lv (rest)) : jJ p l e R s m args below meth c cells slots Q (dC, dI) vwCl A (va_S A s.heap) nL (wM am cI cZ μ ν ρ) pc lv (.int v :: .ref (am 0) :: rest) := by
  subst hpn
  exact fun H locs ls h1 h2 h3 h4 => va_put (D := (dC, dI)) (ci := 4) (v := .int v) (ty := .int) (C := R_M) (T := T_M) (N := 23) C.x C.b C.t iw_M t_M tk_M n_M C.o C.k h1 h2 h3 0 rfl rfl 4 (by decide) (C.t _ (List.mem_cons_of_mem _ fk_M_wrong)) (fun _ h9 => h9) rfl (by decide +kernel) rfl rfl (Nat.le_of_ble_eq_true rfl) hdg (fun H1 locs1 g1 g2 g3 => k H1 locs1 ls g1 g2 g3 h4)
theorem g_M_ofStores (C : jC p s m args c cc nL R_M (c0 :: jT) (dC, dI) vwCl (jty cI cZ cB cJ) A Sx jE) (pn : Nat) (hpn : pc + 3 = pn) (hdg : decode cc pc = .ok (.getfield 126, 3)) (k : jJ p l e R s m args below meth c cells slots Q (dC, dI) vwCl A Sx nL (wM am cI cZ μ ν ρ) pn lv (.int (μ 5 0) :: rest)) : jJ p l e R s m args below meth c cells slots Q (dC, dI) vwCl A Sx nL (wM am cI cZ μ ν ρ) pc lv (.ref (am 0) :: rest) := by
  subst hpn
  exact fun H locs ls h1 h2 h3 h4 => va_get (D := (dC, dI)) (ci := 4) (v := .int (μ 5 0)) (C := R_M) (T := T_M) (N := 23) C.x C.b C.t iw_M C.o C.k h1 0 rfl rfl 5 (by decide) (C.t _ (List.mem_cons_of_mem _ fk_M_ofStores)) (fun _ h9 => h9) rfl hdg (k H locs ls h1 h2 h3 h4)
theorem p_M_ofStores (C : jC p s m args c cc nL R_M (c0 :: jT) (dC, dI) vwCl (jty cI cZ cB cJ) A (va_S A s.heap) jE) {v : Int32} (pn : Nat) (hpn : pc + 3 = pn) (hdg : decode cc pc = .ok (.putfield 126, 3)) (k : jJ p l e R s m args below meth c cells slots Q (dC, dI) vwCl A (va_S A s.heap) nL (wM am cI cZ (sS μ 5 v) ν ρ) pn lv (rest)) : jJ p l e R s m args below meth c cells slots Q (dC, dI) vwCl A (va_S A s.heap) nL (wM am cI cZ μ ν ρ) pc lv (.int v :: .ref (am 0) :: rest) := by
  subst hpn
  exact fun H locs ls h1 h2 h3 h4 => va_put (D := (dC, dI)) (ci := 4) (v := .int v) (ty := .int) (C := R_M) (T := T_M) (N := 23) C.x C.b C.t iw_M t_M tk_M n_M C.o C.k h1 h2 h3 0 rfl rfl 5 (by decide) (C.t _ (List.mem_cons_of_mem _ fk_M_ofStores)) (fun _ h9 => h9) rfl (by decide +kernel) rfl rfl (Nat.le_of_ble_eq_true rfl) hdg (fun H1 locs1 g1 g2 g3 => k H1 locs1 ls g1 g2 g3 h4)
theorem g_M_ofOthers (C : jC p s m args c cc nL R_M (c0 :: jT) (dC, dI) vwCl (jty cI cZ cB cJ) A Sx jE) (pn : Nat) (hpn : pc + 3 = pn) (hdg : decode cc pc = .ok (.getfield 129, 3)) (k : jJ p l e R s m args below meth c cells slots Q (dC, dI) vwCl A Sx nL (wM am cI cZ μ ν ρ) pn lv (.int (μ 6 0) :: rest)) : jJ p l e R s m args below meth c cells slots Q (dC, dI) vwCl A Sx nL (wM am cI cZ μ ν ρ) pc lv (.ref (am 0) :: rest) := by
  subst hpn
  exact fun H locs ls h1 h2 h3 h4 => va_get (D := (dC, dI)) (ci := 4) (v := .int (μ 6 0)) (C := R_M) (T := T_M) (N := 23) C.x C.b C.t iw_M C.o C.k h1 0 rfl rfl 6 (by decide) (C.t _ (List.mem_cons_of_mem _ fk_M_ofOthers)) (fun _ h9 => h9) rfl hdg (k H locs ls h1 h2 h3 h4)
theorem p_M_ofOthers (C : jC p s m args c cc nL R_M (c0 :: jT) (dC, dI) vwCl (jty cI cZ cB cJ) A (va_S A s.heap) jE) {v : Int32} (pn : Nat) (hpn : pc + 3 = pn) (hdg : decode cc pc = .ok (.putfield 129, 3)) (k : jJ p l e R s m args below meth c cells slots Q (dC, dI) vwCl A (va_S A s.heap) nL (wM am cI cZ (sS μ 6 v) ν ρ) pn lv (rest)) : jJ p l e R s m args below meth c cells slots Q (dC, dI) vwCl A (va_S A s.heap) nL (wM am cI cZ μ ν ρ) pc lv (.int v :: .ref (am 0) :: rest) := by
  subst hpn
  exact fun H locs ls h1 h2 h3 h4 => va_put (D := (dC, dI)) (ci := 4) (v := .int v) (ty := .int) (C := R_M) (T := T_M) (N := 23) C.x C.b C.t iw_M t_M tk_M n_M C.o C.k h1 h2 h3 0 rfl rfl 6 (by decide) (C.t _ (List.mem_cons_of_mem _ fk_M_ofOthers)) (fun _ h9 => h9) rfl (by decide +kernel) rfl rfl (Nat.le_of_ble_eq_true rfl) hdg (fun H1 locs1 g1 g2 g3 => k H1 locs1 ls g1 g2 g3 h4)
theorem g_M_bytes (C : jC p s m args c cc nL R_M (c0 :: jT) (dC, dI) vwCl (jty cI cZ cB cJ) A Sx jE) (pn : Nat) (hpn : pc + 3 = pn) (hdg : decode cc pc = .ok (.getfield 7, 3)) (k : jJ p l e R s m args below meth c cells slots Q (dC, dI) vwCl A Sx nL (wM am cI cZ μ ν ρ) pn lv (.ref (am 10) :: rest)) : jJ p l e R s m args below meth c cells slots Q (dC, dI) vwCl A Sx nL (wM am cI cZ μ ν ρ) pc lv (.ref (am 0) :: rest) := by
  subst hpn
  exact fun H locs ls h1 h2 h3 h4 => va_get (D := (dC, dI)) (ci := 4) (v := .ref (am 10)) (C := R_M) (T := T_M) (N := 23) C.x C.b C.t iw_M C.o C.k h1 0 rfl rfl 7 (by decide) (C.t _ (List.mem_cons_of_mem _ fk_M_bytes)) (fun _ h9 => h9) rfl hdg (k H locs ls h1 h2 h3 h4)
theorem g_M_marks (C : jC p s m args c cc nL R_M (c0 :: jT) (dC, dI) vwCl (jty cI cZ cB cJ) A Sx jE) (pn : Nat) (hpn : pc + 3 = pn) (hdg : decode cc pc = .ok (.getfield 13, 3)) (k : jJ p l e R s m args below meth c cells slots Q (dC, dI) vwCl A Sx nL (wM am cI cZ μ ν ρ) pn lv (.ref (am 11) :: rest)) : jJ p l e R s m args below meth c cells slots Q (dC, dI) vwCl A Sx nL (wM am cI cZ μ ν ρ) pc lv (.ref (am 0) :: rest) := by
  subst hpn
  exact fun H locs ls h1 h2 h3 h4 => va_get (D := (dC, dI)) (ci := 4) (v := .ref (am 11)) (C := R_M) (T := T_M) (N := 23) C.x C.b C.t iw_M C.o C.k h1 0 rfl rfl 8 (by decide) (C.t _ (List.mem_cons_of_mem _ fk_M_marks)) (fun _ h9 => h9) rfl hdg (k H locs ls h1 h2 h3 h4)
theorem g_M_kinds (C : jC p s m args c cc nL R_M (c0 :: jT) (dC, dI) vwCl (jty cI cZ cB cJ) A Sx jE) (pn : Nat) (hpn : pc + 3 = pn) (hdg : decode cc pc = .ok (.getfield 17, 3)) (k : jJ p l e R s m args below meth c cells slots Q (dC, dI) vwCl A Sx nL (wM am cI cZ μ ν ρ) pn lv (.ref (am 12) :: rest)) : jJ p l e R s m args below meth c cells slots Q (dC, dI) vwCl A Sx nL (wM am cI cZ μ ν ρ) pc lv (.ref (am 0) :: rest) := by
  subst hpn
  exact fun H locs ls h1 h2 h3 h4 => va_get (D := (dC, dI)) (ci := 4) (v := .ref (am 12)) (C := R_M) (T := T_M) (N := 23) C.x C.b C.t iw_M C.o C.k h1 0 rfl rfl 9 (by decide) (C.t _ (List.mem_cons_of_mem _ fk_M_kinds)) (fun _ h9 => h9) rfl hdg (k H locs ls h1 h2 h3 h4)
theorem g_M_sizes (C : jC p s m args c cc nL R_M (c0 :: jT) (dC, dI) vwCl (jty cI cZ cB cJ) A Sx jE) (pn : Nat) (hpn : pc + 3 = pn) (hdg : decode cc pc = .ok (.getfield 20, 3)) (k : jJ p l e R s m args below meth c cells slots Q (dC, dI) vwCl A Sx nL (wM am cI cZ μ ν ρ) pn lv (.ref (am 13) :: rest)) : jJ p l e R s m args below meth c cells slots Q (dC, dI) vwCl A Sx nL (wM am cI cZ μ ν ρ) pc lv (.ref (am 0) :: rest) := by
  subst hpn
  exact fun H locs ls h1 h2 h3 h4 => va_get (D := (dC, dI)) (ci := 4) (v := .ref (am 13)) (C := R_M) (T := T_M) (N := 23) C.x C.b C.t iw_M C.o C.k h1 0 rfl rfl 10 (by decide) (C.t _ (List.mem_cons_of_mem _ fk_M_sizes)) (fun _ h9 => h9) rfl hdg (k H locs ls h1 h2 h3 h4)
theorem g_M_programs (C : jC p s m args c cc nL R_M (c0 :: jT) (dC, dI) vwCl (jty cI cZ cB cJ) A Sx jE) (pn : Nat) (hpn : pc + 3 = pn) (hdg : decode cc pc = .ok (.getfield 23, 3)) (k : jJ p l e R s m args below meth c cells slots Q (dC, dI) vwCl A Sx nL (wM am cI cZ μ ν ρ) pn lv (.ref (am 14) :: rest)) : jJ p l e R s m args below meth c cells slots Q (dC, dI) vwCl A Sx nL (wM am cI cZ μ ν ρ) pc lv (.ref (am 0) :: rest) := by
  subst hpn
  exact fun H locs ls h1 h2 h3 h4 => va_get (D := (dC, dI)) (ci := 4) (v := .ref (am 14)) (C := R_M) (T := T_M) (N := 23) C.x C.b C.t iw_M C.o C.k h1 0 rfl rfl 11 (by decide) (C.t _ (List.mem_cons_of_mem _ fk_M_programs)) (fun _ h9 => h9) rfl hdg (k H locs ls h1 h2 h3 h4)
theorem g_M_places (C : jC p s m args c cc nL R_M (c0 :: jT) (dC, dI) vwCl (jty cI cZ cB cJ) A Sx jE) (pn : Nat) (hpn : pc + 3 = pn) (hdg : decode cc pc = .ok (.getfield 26, 3)) (k : jJ p l e R s m args below meth c cells slots Q (dC, dI) vwCl A Sx nL (wM am cI cZ μ ν ρ) pn lv (.ref (am 15) :: rest)) : jJ p l e R s m args below meth c cells slots Q (dC, dI) vwCl A Sx nL (wM am cI cZ μ ν ρ) pc lv (.ref (am 0) :: rest) := by
  subst hpn
  exact fun H locs ls h1 h2 h3 h4 => va_get (D := (dC, dI)) (ci := 4) (v := .ref (am 15)) (C := R_M) (T := T_M) (N := 23) C.x C.b C.t iw_M C.o C.k h1 0 rfl rfl 12 (by decide) (C.t _ (List.mem_cons_of_mem _ fk_M_places)) (fun _ h9 => h9) rfl hdg (k H locs ls h1 h2 h3 h4)
theorem g_M_values (C : jC p s m args c cc nL R_M (c0 :: jT) (dC, dI) vwCl (jty cI cZ cB cJ) A Sx jE) (pn : Nat) (hpn : pc + 3 = pn) (hdg : decode cc pc = .ok (.getfield 29, 3)) (k : jJ p l e R s m args below meth c cells slots Q (dC, dI) vwCl A Sx nL (wM am cI cZ μ ν ρ) pn lv (.ref (am 16) :: rest)) : jJ p l e R s m args below meth c cells slots Q (dC, dI) vwCl A Sx nL (wM am cI cZ μ ν ρ) pc lv (.ref (am 0) :: rest) := by
  subst hpn
  exact fun H locs ls h1 h2 h3 h4 => va_get (D := (dC, dI)) (ci := 4) (v := .ref (am 16)) (C := R_M) (T := T_M) (N := 23) C.x C.b C.t iw_M C.o C.k h1 0 rfl rfl 13 (by decide) (C.t _ (List.mem_cons_of_mem _ fk_M_values)) (fun _ h9 => h9) rfl hdg (k H locs ls h1 h2 h3 h4)
theorem g_M_results (C : jC p s m args c cc nL R_M (c0 :: jT) (dC, dI) vwCl (jty cI cZ cB cJ) A Sx jE) (pn : Nat) (hpn : pc + 3 = pn) (hdg : decode cc pc = .ok (.getfield 32, 3)) (k : jJ p l e R s m args below meth c cells slots Q (dC, dI) vwCl A Sx nL (wM am cI cZ μ ν ρ) pn lv (.ref (am 17) :: rest)) : jJ p l e R s m args below meth c cells slots Q (dC, dI) vwCl A Sx nL (wM am cI cZ μ ν ρ) pc lv (.ref (am 0) :: rest) := by
  subst hpn
  exact fun H locs ls h1 h2 h3 h4 => va_get (D := (dC, dI)) (ci := 4) (v := .ref (am 17)) (C := R_M) (T := T_M) (N := 23) C.x C.b C.t iw_M C.o C.k h1 0 rfl rfl 14 (by decide) (C.t _ (List.mem_cons_of_mem _ fk_M_results)) (fun _ h9 => h9) rfl hdg (k H locs ls h1 h2 h3 h4)
theorem g_M_told (C : jC p s m args c cc nL R_M (c0 :: jT) (dC, dI) vwCl (jty cI cZ cB cJ) A Sx jE) (pn : Nat) (hpn : pc + 3 = pn) (hdg : decode cc pc = .ok (.getfield 35, 3)) (k : jJ p l e R s m args below meth c cells slots Q (dC, dI) vwCl A Sx nL (wM am cI cZ μ ν ρ) pn lv (.ref (am 18) :: rest)) : jJ p l e R s m args below meth c cells slots Q (dC, dI) vwCl A Sx nL (wM am cI cZ μ ν ρ) pc lv (.ref (am 0) :: rest) := by
  subst hpn
  exact fun H locs ls h1 h2 h3 h4 => va_get (D := (dC, dI)) (ci := 4) (v := .ref (am 18)) (C := R_M) (T := T_M) (N := 23) C.x C.b C.t iw_M C.o C.k h1 0 rfl rfl 15 (by decide) (C.t _ (List.mem_cons_of_mem _ fk_M_told)) (fun _ h9 => h9) rfl hdg (k H locs ls h1 h2 h3 h4)
theorem g_M_done (C : jC p s m args c cc nL R_M (c0 :: jT) (dC, dI) vwCl (jty cI cZ cB cJ) A Sx jE) (pn : Nat) (hpn : pc + 3 = pn) (hdg : decode cc pc = .ok (.getfield 38, 3)) (k : jJ p l e R s m args below meth c cells slots Q (dC, dI) vwCl A Sx nL (wM am cI cZ μ ν ρ) pn lv (.ref (am 19) :: rest)) : jJ p l e R s m args below meth c cells slots Q (dC, dI) vwCl A Sx nL (wM am cI cZ μ ν ρ) pc lv (.ref (am 0) :: rest) := by
  subst hpn
  exact fun H locs ls h1 h2 h3 h4 => va_get (D := (dC, dI)) (ci := 4) (v := .ref (am 19)) (C := R_M) (T := T_M) (N := 23) C.x C.b C.t iw_M C.o C.k h1 0 rfl rfl 16 (by decide) (C.t _ (List.mem_cons_of_mem _ fk_M_done)) (fun _ h9 => h9) rfl hdg (k H locs ls h1 h2 h3 h4)
theorem g_M_from (C : jC p s m args c cc nL R_M (c0 :: jT) (dC, dI) vwCl (jty cI cZ cB cJ) A Sx jE) (pn : Nat) (hpn : pc + 3 = pn) (hdg : decode cc pc = .ok (.getfield 41, 3)) (k : jJ p l e R s m args below meth c cells slots Q (dC, dI) vwCl A Sx nL (wM am cI cZ μ ν ρ) pn lv (.ref (am 20) :: rest)) : jJ p l e R s m args below meth c cells slots Q (dC, dI) vwCl A Sx nL (wM am cI cZ μ ν ρ) pc lv (.ref (am 0) :: rest) := by
  subst hpn
  exact fun H locs ls h1 h2 h3 h4 => va_get (D := (dC, dI)) (ci := 4) (v := .ref (am 20)) (C := R_M) (T := T_M) (N := 23) C.x C.b C.t iw_M C.o C.k h1 0 rfl rfl 17 (by decide) (C.t _ (List.mem_cons_of_mem _ fk_M_from)) (fun _ h9 => h9) rfl hdg (k H locs ls h1 h2 h3 h4)
theorem g_M_waiting (C : jC p s m args c cc nL R_M (c0 :: jT) (dC, dI) vwCl (jty cI cZ cB cJ) A Sx jE) (pn : Nat) (hpn : pc + 3 = pn) (hdg : decode cc pc = .ok (.getfield 44, 3)) (k : jJ p l e R s m args below meth c cells slots Q (dC, dI) vwCl A Sx nL (wM am cI cZ μ ν ρ) pn lv (.ref (am 21) :: rest)) : jJ p l e R s m args below meth c cells slots Q (dC, dI) vwCl A Sx nL (wM am cI cZ μ ν ρ) pc lv (.ref (am 0) :: rest) := by
  subst hpn
  exact fun H locs ls h1 h2 h3 h4 => va_get (D := (dC, dI)) (ci := 4) (v := .ref (am 21)) (C := R_M) (T := T_M) (N := 23) C.x C.b C.t iw_M C.o C.k h1 0 rfl rfl 18 (by decide) (C.t _ (List.mem_cons_of_mem _ fk_M_waiting)) (fun _ h9 => h9) rfl hdg (k H locs ls h1 h2 h3 h4)
theorem g_M_waitPlace (C : jC p s m args c cc nL R_M (c0 :: jT) (dC, dI) vwCl (jty cI cZ cB cJ) A Sx jE) (pn : Nat) (hpn : pc + 3 = pn) (hdg : decode cc pc = .ok (.getfield 47, 3)) (k : jJ p l e R s m args below meth c cells slots Q (dC, dI) vwCl A Sx nL (wM am cI cZ μ ν ρ) pn lv (.ref (am 22) :: rest)) : jJ p l e R s m args below meth c cells slots Q (dC, dI) vwCl A Sx nL (wM am cI cZ μ ν ρ) pc lv (.ref (am 0) :: rest) := by
  subst hpn
  exact fun H locs ls h1 h2 h3 h4 => va_get (D := (dC, dI)) (ci := 4) (v := .ref (am 22)) (C := R_M) (T := T_M) (N := 23) C.x C.b C.t iw_M C.o C.k h1 0 rfl rfl 19 (by decide) (C.t _ (List.mem_cons_of_mem _ fk_M_waitPlace)) (fun _ h9 => h9) rfl hdg (k H locs ls h1 h2 h3 h4)
theorem g_M_waitSize (C : jC p s m args c cc nL R_M (c0 :: jT) (dC, dI) vwCl (jty cI cZ cB cJ) A Sx jE) (pn : Nat) (hpn : pc + 3 = pn) (hdg : decode cc pc = .ok (.getfield 50, 3)) (k : jJ p l e R s m args below meth c cells slots Q (dC, dI) vwCl A Sx nL (wM am cI cZ μ ν ρ) pn lv (.ref (am 23) :: rest)) : jJ p l e R s m args below meth c cells slots Q (dC, dI) vwCl A Sx nL (wM am cI cZ μ ν ρ) pc lv (.ref (am 0) :: rest) := by
  subst hpn
  exact fun H locs ls h1 h2 h3 h4 => va_get (D := (dC, dI)) (ci := 4) (v := .ref (am 23)) (C := R_M) (T := T_M) (N := 23) C.x C.b C.t iw_M C.o C.k h1 0 rfl rfl 20 (by decide) (C.t _ (List.mem_cons_of_mem _ fk_M_waitSize)) (fun _ h9 => h9) rfl hdg (k H locs ls h1 h2 h3 h4)
theorem g_M_waitValue (C : jC p s m args c cc nL R_M (c0 :: jT) (dC, dI) vwCl (jty cI cZ cB cJ) A Sx jE) (pn : Nat) (hpn : pc + 3 = pn) (hdg : decode cc pc = .ok (.getfield 53, 3)) (k : jJ p l e R s m args below meth c cells slots Q (dC, dI) vwCl A Sx nL (wM am cI cZ μ ν ρ) pn lv (.ref (am 24) :: rest)) : jJ p l e R s m args below meth c cells slots Q (dC, dI) vwCl A Sx nL (wM am cI cZ μ ν ρ) pc lv (.ref (am 0) :: rest) := by
  subst hpn
  exact fun H locs ls h1 h2 h3 h4 => va_get (D := (dC, dI)) (ci := 4) (v := .ref (am 24)) (C := R_M) (T := T_M) (N := 23) C.x C.b C.t iw_M C.o C.k h1 0 rfl rfl 21 (by decide) (C.t _ (List.mem_cons_of_mem _ fk_M_waitValue)) (fun _ h9 => h9) rfl hdg (k H locs ls h1 h2 h3 h4)
theorem g_M_buffered (C : jC p s m args c cc nL R_M (c0 :: jT) (dC, dI) vwCl (jty cI cZ cB cJ) A Sx jE) (pn : Nat) (hpn : pc + 3 = pn) (hdg : decode cc pc = .ok (.getfield 81, 3)) (k : jJ p l e R s m args below meth c cells slots Q (dC, dI) vwCl A Sx nL (wM am cI cZ μ ν ρ) pn lv (.int (μ 7 0) :: rest)) : jJ p l e R s m args below meth c cells slots Q (dC, dI) vwCl A Sx nL (wM am cI cZ μ ν ρ) pc lv (.ref (am 0) :: rest) := by
  subst hpn
  exact fun H locs ls h1 h2 h3 h4 => va_get (D := (dC, dI)) (ci := 4) (v := .int (μ 7 0)) (C := R_M) (T := T_M) (N := 23) C.x C.b C.t iw_M C.o C.k h1 0 rfl rfl 22 (by decide) (C.t _ (List.mem_cons_of_mem _ fk_M_buffered)) (fun _ h9 => h9) rfl hdg (k H locs ls h1 h2 h3 h4)
theorem p_M_buffered (C : jC p s m args c cc nL R_M (c0 :: jT) (dC, dI) vwCl (jty cI cZ cB cJ) A (va_S A s.heap) jE) {v : Int32} (pn : Nat) (hpn : pc + 3 = pn) (hdg : decode cc pc = .ok (.putfield 81, 3)) (k : jJ p l e R s m args below meth c cells slots Q (dC, dI) vwCl A (va_S A s.heap) nL (wM am cI cZ (sS μ 7 v) ν ρ) pn lv (rest)) : jJ p l e R s m args below meth c cells slots Q (dC, dI) vwCl A (va_S A s.heap) nL (wM am cI cZ μ ν ρ) pc lv (.int v :: .ref (am 0) :: rest) := by
  subst hpn
  exact fun H locs ls h1 h2 h3 h4 => va_put (D := (dC, dI)) (ci := 4) (v := .int v) (ty := .int) (C := R_M) (T := T_M) (N := 23) C.x C.b C.t iw_M t_M tk_M n_M C.o C.k h1 h2 h3 0 rfl rfl 22 (by decide) (C.t _ (List.mem_cons_of_mem _ fk_M_buffered)) (fun _ h9 => h9) rfl (by decide +kernel) rfl rfl (Nat.le_of_ble_eq_true rfl) hdg (fun H1 locs1 g1 g2 g3 => k H1 locs1 ls g1 g2 g3 h4)
theorem ld_O_kinds (C : jC p s m args c cc nL R_O (c0 :: jT) (dC, dI) vwCl (jty cI cZ cB cJ) A Sx jE) {i : Int32} (hin : vp_in i 128) (pn : Nat) (hpn : pc + 1 = pn) (hdg : decode cc pc = .ok (.iaload, 1)) (k : jJ p l e R s m args below meth c cells slots Q (dC, dI) vwCl A Sx nL (wC ad cI cZ cB σ β mk ρ) pn lv (.int (σ 10 i.toNatClampNeg) :: rest)) : jJ p l e R s m args below meth c cells slots Q (dC, dI) vwCl A Sx nL (wC ad cI cZ cB σ β mk ρ) pc lv (.int i :: .ref (ad 10) :: rest) := j_ald C 4 0 rfl rfl hin pn hpn hdg k
theorem st_O_kinds (C : jC p s m args c cc nL R_O (c0 :: jT) (dC, dI) vwCl (jty cI cZ cB cJ) A (va_S A s.heap) jE) {i x : Int32} (hin : vp_in i 128) (pn : Nat) (hpn : pc + 1 = pn) (hdg : decode cc pc = .ok (.iastore, 1)) (k : jJ p l e R s m args below meth c cells slots Q (dC, dI) vwCl A (va_S A s.heap) nL (wC ad cI cZ cB (sA σ 10 i.toNatClampNeg x) β mk ρ) pn lv (rest)) : jJ p l e R s m args below meth c cells slots Q (dC, dI) vwCl A (va_S A s.heap) nL (wC ad cI cZ cB σ β mk ρ) pc lv (.int x :: .int i :: .ref (ad 10) :: rest) := j_ast C 4 0 rfl rfl hin pn hpn hdg k
theorem ld_O_sizes (C : jC p s m args c cc nL R_O (c0 :: jT) (dC, dI) vwCl (jty cI cZ cB cJ) A Sx jE) {i : Int32} (hin : vp_in i 128) (pn : Nat) (hpn : pc + 1 = pn) (hdg : decode cc pc = .ok (.iaload, 1)) (k : jJ p l e R s m args below meth c cells slots Q (dC, dI) vwCl A Sx nL (wC ad cI cZ cB σ β mk ρ) pn lv (.int (σ 11 i.toNatClampNeg) :: rest)) : jJ p l e R s m args below meth c cells slots Q (dC, dI) vwCl A Sx nL (wC ad cI cZ cB σ β mk ρ) pc lv (.int i :: .ref (ad 11) :: rest) := j_ald C 5 0 rfl rfl hin pn hpn hdg k
theorem st_O_sizes (C : jC p s m args c cc nL R_O (c0 :: jT) (dC, dI) vwCl (jty cI cZ cB cJ) A (va_S A s.heap) jE) {i x : Int32} (hin : vp_in i 128) (pn : Nat) (hpn : pc + 1 = pn) (hdg : decode cc pc = .ok (.iastore, 1)) (k : jJ p l e R s m args below meth c cells slots Q (dC, dI) vwCl A (va_S A s.heap) nL (wC ad cI cZ cB (sA σ 11 i.toNatClampNeg x) β mk ρ) pn lv (rest)) : jJ p l e R s m args below meth c cells slots Q (dC, dI) vwCl A (va_S A s.heap) nL (wC ad cI cZ cB σ β mk ρ) pc lv (.int x :: .int i :: .ref (ad 11) :: rest) := j_ast C 5 0 rfl rfl hin pn hpn hdg k
theorem ld_O_programs (C : jC p s m args c cc nL R_O (c0 :: jT) (dC, dI) vwCl (jty cI cZ cB cJ) A Sx jE) {i : Int32} (hin : vp_in i 128) (pn : Nat) (hpn : pc + 1 = pn) (hdg : decode cc pc = .ok (.iaload, 1)) (k : jJ p l e R s m args below meth c cells slots Q (dC, dI) vwCl A Sx nL (wC ad cI cZ cB σ β mk ρ) pn lv (.int (σ 12 i.toNatClampNeg) :: rest)) : jJ p l e R s m args below meth c cells slots Q (dC, dI) vwCl A Sx nL (wC ad cI cZ cB σ β mk ρ) pc lv (.int i :: .ref (ad 12) :: rest) := j_ald C 6 0 rfl rfl hin pn hpn hdg k
theorem st_O_programs (C : jC p s m args c cc nL R_O (c0 :: jT) (dC, dI) vwCl (jty cI cZ cB cJ) A (va_S A s.heap) jE) {i x : Int32} (hin : vp_in i 128) (pn : Nat) (hpn : pc + 1 = pn) (hdg : decode cc pc = .ok (.iastore, 1)) (k : jJ p l e R s m args below meth c cells slots Q (dC, dI) vwCl A (va_S A s.heap) nL (wC ad cI cZ cB (sA σ 12 i.toNatClampNeg x) β mk ρ) pn lv (rest)) : jJ p l e R s m args below meth c cells slots Q (dC, dI) vwCl A (va_S A s.heap) nL (wC ad cI cZ cB σ β mk ρ) pc lv (.int x :: .int i :: .ref (ad 12) :: rest) := j_ast C 6 0 rfl rfl hin pn hpn hdg k
theorem ld_O_addresses (C : jC p s m args c cc nL R_O (c0 :: jT) (dC, dI) vwCl (jty cI cZ cB cJ) A Sx jE) {i : Int32} (hin : vp_in i 128) (pn : Nat) (hpn : pc + 1 = pn) (hdg : decode cc pc = .ok (.iaload, 1)) (k : jJ p l e R s m args below meth c cells slots Q (dC, dI) vwCl A Sx nL (wC ad cI cZ cB σ β mk ρ) pn lv (.int (σ 13 i.toNatClampNeg) :: rest)) : jJ p l e R s m args below meth c cells slots Q (dC, dI) vwCl A Sx nL (wC ad cI cZ cB σ β mk ρ) pc lv (.int i :: .ref (ad 13) :: rest) := j_ald C 7 0 rfl rfl hin pn hpn hdg k
theorem st_O_addresses (C : jC p s m args c cc nL R_O (c0 :: jT) (dC, dI) vwCl (jty cI cZ cB cJ) A (va_S A s.heap) jE) {i x : Int32} (hin : vp_in i 128) (pn : Nat) (hpn : pc + 1 = pn) (hdg : decode cc pc = .ok (.iastore, 1)) (k : jJ p l e R s m args below meth c cells slots Q (dC, dI) vwCl A (va_S A s.heap) nL (wC ad cI cZ cB (sA σ 13 i.toNatClampNeg x) β mk ρ) pn lv (rest)) : jJ p l e R s m args below meth c cells slots Q (dC, dI) vwCl A (va_S A s.heap) nL (wC ad cI cZ cB σ β mk ρ) pc lv (.int x :: .int i :: .ref (ad 13) :: rest) := j_ast C 7 0 rfl rfl hin pn hpn hdg k
theorem ld_O_addressTold (C : jC p s m args c cc nL R_O (c0 :: jT) (dC, dI) vwCl (jty cI cZ cB cJ) A Sx jE) {i : Int32} (hin : vp_in i 128) (pn : Nat) (hpn : pc + 1 = pn) (hdg : decode cc pc = .ok (.baload, 1)) (k : jJ p l e R s m args below meth c cells slots Q (dC, dI) vwCl A Sx nL (wC ad cI cZ cB σ β mk ρ) pn lv (.int (bI (β 0 i.toNatClampNeg)) :: rest)) : jJ p l e R s m args below meth c cells slots Q (dC, dI) vwCl A Sx nL (wC ad cI cZ cB σ β mk ρ) pc lv (.int i :: .ref (ad 14) :: rest) := j_zld (g := β 0) C 8 1 rfl rfl hin pn hpn hdg k
theorem st_O_addressTold (C : jC p s m args c cc nL R_O (c0 :: jT) (dC, dI) vwCl (jty cI cZ cB cJ) A (va_S A s.heap) jE) {i x : Int32} (hin : vp_in i 128) {b : Bool} (hb : x = bI b) (pn : Nat) (hpn : pc + 1 = pn) (hdg : decode cc pc = .ok (.bastore, 1)) (k : jJ p l e R s m args below meth c cells slots Q (dC, dI) vwCl A (va_S A s.heap) nL (wC ad cI cZ cB σ (bA β 0 i.toNatClampNeg b) mk ρ) pn lv (rest)) : jJ p l e R s m args below meth c cells slots Q (dC, dI) vwCl A (va_S A s.heap) nL (wC ad cI cZ cB σ β mk ρ) pc lv (.int x :: .int i :: .ref (ad 14) :: rest) := j_zst (g := β 0) C 8 1 rfl rfl hin hb pn hpn hdg k
theorem ld_O_numbers (C : jC p s m args c cc nL R_O (c0 :: jT) (dC, dI) vwCl (jty cI cZ cB cJ) A Sx jE) {i : Int32} (hin : vp_in i 128) (pn : Nat) (hpn : pc + 1 = pn) (hdg : decode cc pc = .ok (.iaload, 1)) (k : jJ p l e R s m args below meth c cells slots Q (dC, dI) vwCl A Sx nL (wC ad cI cZ cB σ β mk ρ) pn lv (.int (σ 15 i.toNatClampNeg) :: rest)) : jJ p l e R s m args below meth c cells slots Q (dC, dI) vwCl A Sx nL (wC ad cI cZ cB σ β mk ρ) pc lv (.int i :: .ref (ad 15) :: rest) := j_ald C 9 0 rfl rfl hin pn hpn hdg k
theorem st_O_numbers (C : jC p s m args c cc nL R_O (c0 :: jT) (dC, dI) vwCl (jty cI cZ cB cJ) A (va_S A s.heap) jE) {i x : Int32} (hin : vp_in i 128) (pn : Nat) (hpn : pc + 1 = pn) (hdg : decode cc pc = .ok (.iastore, 1)) (k : jJ p l e R s m args below meth c cells slots Q (dC, dI) vwCl A (va_S A s.heap) nL (wC ad cI cZ cB (sA σ 15 i.toNatClampNeg x) β mk ρ) pn lv (rest)) : jJ p l e R s m args below meth c cells slots Q (dC, dI) vwCl A (va_S A s.heap) nL (wC ad cI cZ cB σ β mk ρ) pc lv (.int x :: .int i :: .ref (ad 15) :: rest) := j_ast C 9 0 rfl rfl hin pn hpn hdg k
theorem ld_O_numberTold (C : jC p s m args c cc nL R_O (c0 :: jT) (dC, dI) vwCl (jty cI cZ cB cJ) A Sx jE) {i : Int32} (hin : vp_in i 128) (pn : Nat) (hpn : pc + 1 = pn) (hdg : decode cc pc = .ok (.baload, 1)) (k : jJ p l e R s m args below meth c cells slots Q (dC, dI) vwCl A Sx nL (wC ad cI cZ cB σ β mk ρ) pn lv (.int (bI (β 1 i.toNatClampNeg)) :: rest)) : jJ p l e R s m args below meth c cells slots Q (dC, dI) vwCl A Sx nL (wC ad cI cZ cB σ β mk ρ) pc lv (.int i :: .ref (ad 16) :: rest) := j_zld (g := β 1) C 10 1 rfl rfl hin pn hpn hdg k
theorem st_O_numberTold (C : jC p s m args c cc nL R_O (c0 :: jT) (dC, dI) vwCl (jty cI cZ cB cJ) A (va_S A s.heap) jE) {i x : Int32} (hin : vp_in i 128) {b : Bool} (hb : x = bI b) (pn : Nat) (hpn : pc + 1 = pn) (hdg : decode cc pc = .ok (.bastore, 1)) (k : jJ p l e R s m args below meth c cells slots Q (dC, dI) vwCl A (va_S A s.heap) nL (wC ad cI cZ cB σ (bA β 1 i.toNatClampNeg b) mk ρ) pn lv (rest)) : jJ p l e R s m args below meth c cells slots Q (dC, dI) vwCl A (va_S A s.heap) nL (wC ad cI cZ cB σ β mk ρ) pc lv (.int x :: .int i :: .ref (ad 16) :: rest) := j_zst (g := β 1) C 10 1 rfl rfl hin hb pn hpn hdg k
theorem ld_O_done (C : jC p s m args c cc nL R_O (c0 :: jT) (dC, dI) vwCl (jty cI cZ cB cJ) A Sx jE) {i : Int32} (hin : vp_in i 128) (pn : Nat) (hpn : pc + 1 = pn) (hdg : decode cc pc = .ok (.baload, 1)) (k : jJ p l e R s m args below meth c cells slots Q (dC, dI) vwCl A Sx nL (wC ad cI cZ cB σ β mk ρ) pn lv (.int (bI (β 2 i.toNatClampNeg)) :: rest)) : jJ p l e R s m args below meth c cells slots Q (dC, dI) vwCl A Sx nL (wC ad cI cZ cB σ β mk ρ) pc lv (.int i :: .ref (ad 17) :: rest) := j_zld (g := β 2) C 11 1 rfl rfl hin pn hpn hdg k
theorem st_O_done (C : jC p s m args c cc nL R_O (c0 :: jT) (dC, dI) vwCl (jty cI cZ cB cJ) A (va_S A s.heap) jE) {i x : Int32} (hin : vp_in i 128) {b : Bool} (hb : x = bI b) (pn : Nat) (hpn : pc + 1 = pn) (hdg : decode cc pc = .ok (.bastore, 1)) (k : jJ p l e R s m args below meth c cells slots Q (dC, dI) vwCl A (va_S A s.heap) nL (wC ad cI cZ cB σ (bA β 2 i.toNatClampNeg b) mk ρ) pn lv (rest)) : jJ p l e R s m args below meth c cells slots Q (dC, dI) vwCl A (va_S A s.heap) nL (wC ad cI cZ cB σ β mk ρ) pc lv (.int x :: .int i :: .ref (ad 17) :: rest) := j_zst (g := β 2) C 11 1 rfl rfl hin hb pn hpn hdg k
theorem ld_O_loadedNumbers (C : jC p s m args c cc nL R_O (c0 :: jT) (dC, dI) vwCl (jty cI cZ cB cJ) A Sx jE) {i : Int32} (hin : vp_in i 128) (pn : Nat) (hpn : pc + 1 = pn) (hdg : decode cc pc = .ok (.iaload, 1)) (k : jJ p l e R s m args below meth c cells slots Q (dC, dI) vwCl A Sx nL (wC ad cI cZ cB σ β mk ρ) pn lv (.int (σ 18 i.toNatClampNeg) :: rest)) : jJ p l e R s m args below meth c cells slots Q (dC, dI) vwCl A Sx nL (wC ad cI cZ cB σ β mk ρ) pc lv (.int i :: .ref (ad 18) :: rest) := j_ald C 12 0 rfl rfl hin pn hpn hdg k
theorem st_O_loadedNumbers (C : jC p s m args c cc nL R_O (c0 :: jT) (dC, dI) vwCl (jty cI cZ cB cJ) A (va_S A s.heap) jE) {i x : Int32} (hin : vp_in i 128) (pn : Nat) (hpn : pc + 1 = pn) (hdg : decode cc pc = .ok (.iastore, 1)) (k : jJ p l e R s m args below meth c cells slots Q (dC, dI) vwCl A (va_S A s.heap) nL (wC ad cI cZ cB (sA σ 18 i.toNatClampNeg x) β mk ρ) pn lv (rest)) : jJ p l e R s m args below meth c cells slots Q (dC, dI) vwCl A (va_S A s.heap) nL (wC ad cI cZ cB σ β mk ρ) pc lv (.int x :: .int i :: .ref (ad 18) :: rest) := j_ast C 12 0 rfl rfl hin pn hpn hdg k
theorem ld_O_sources (C : jC p s m args c cc nL R_O (c0 :: jT) (dC, dI) vwCl (jty cI cZ cB cJ) A Sx jE) {i : Int32} (hin : vp_in i 512) (pn : Nat) (hpn : pc + 1 = pn) (hdg : decode cc pc = .ok (.iaload, 1)) (k : jJ p l e R s m args below meth c cells slots Q (dC, dI) vwCl A Sx nL (wC ad cI cZ cB σ β mk ρ) pn lv (.int (σ 19 i.toNatClampNeg) :: rest)) : jJ p l e R s m args below meth c cells slots Q (dC, dI) vwCl A Sx nL (wC ad cI cZ cB σ β mk ρ) pc lv (.int i :: .ref (ad 19) :: rest) := j_ald C 13 0 rfl rfl hin pn hpn hdg k
theorem st_O_sources (C : jC p s m args c cc nL R_O (c0 :: jT) (dC, dI) vwCl (jty cI cZ cB cJ) A (va_S A s.heap) jE) {i x : Int32} (hin : vp_in i 512) (pn : Nat) (hpn : pc + 1 = pn) (hdg : decode cc pc = .ok (.iastore, 1)) (k : jJ p l e R s m args below meth c cells slots Q (dC, dI) vwCl A (va_S A s.heap) nL (wC ad cI cZ cB (sA σ 19 i.toNatClampNeg x) β mk ρ) pn lv (rest)) : jJ p l e R s m args below meth c cells slots Q (dC, dI) vwCl A (va_S A s.heap) nL (wC ad cI cZ cB σ β mk ρ) pc lv (.int x :: .int i :: .ref (ad 19) :: rest) := j_ast C 13 0 rfl rfl hin pn hpn hdg k
theorem ld_B_stores (C : jC p s m args c cc nL R_B (c0 :: jT) (dC, dI) vwCl (jty cI cZ cB cJ) A Sx jE) {i : Int32} (hin : vp_in i 4) (pn : Nat) (hpn : pc + 1 = pn) (hdg : decode cc pc = .ok (.iaload, 1)) (k : jJ p l e R s m args below meth c cells slots Q (dC, dI) vwCl A Sx nL (wC ad cI cZ cB σ β mk ρ) pn lv (.int (σ 20 i.toNatClampNeg) :: rest)) : jJ p l e R s m args below meth c cells slots Q (dC, dI) vwCl A Sx nL (wC ad cI cZ cB σ β mk ρ) pc lv (.int i :: .ref (ad 20) :: rest) := j_ald C 14 0 rfl rfl hin pn hpn hdg k
theorem st_B_stores (C : jC p s m args c cc nL R_B (c0 :: jT) (dC, dI) vwCl (jty cI cZ cB cJ) A (va_S A s.heap) jE) {i x : Int32} (hin : vp_in i 4) (pn : Nat) (hpn : pc + 1 = pn) (hdg : decode cc pc = .ok (.iastore, 1)) (k : jJ p l e R s m args below meth c cells slots Q (dC, dI) vwCl A (va_S A s.heap) nL (wC ad cI cZ cB (sA σ 20 i.toNatClampNeg x) β mk ρ) pn lv (rest)) : jJ p l e R s m args below meth c cells slots Q (dC, dI) vwCl A (va_S A s.heap) nL (wC ad cI cZ cB σ β mk ρ) pc lv (.int x :: .int i :: .ref (ad 20) :: rest) := j_ast C 14 0 rfl rfl hin pn hpn hdg k
theorem ld_B_addresses (C : jC p s m args c cc nL R_B (c0 :: jT) (dC, dI) vwCl (jty cI cZ cB cJ) A Sx jE) {i : Int32} (hin : vp_in i 4) (pn : Nat) (hpn : pc + 1 = pn) (hdg : decode cc pc = .ok (.iaload, 1)) (k : jJ p l e R s m args below meth c cells slots Q (dC, dI) vwCl A Sx nL (wC ad cI cZ cB σ β mk ρ) pn lv (.int (σ 21 i.toNatClampNeg) :: rest)) : jJ p l e R s m args below meth c cells slots Q (dC, dI) vwCl A Sx nL (wC ad cI cZ cB σ β mk ρ) pc lv (.int i :: .ref (ad 21) :: rest) := j_ald C 15 0 rfl rfl hin pn hpn hdg k
theorem st_B_addresses (C : jC p s m args c cc nL R_B (c0 :: jT) (dC, dI) vwCl (jty cI cZ cB cJ) A (va_S A s.heap) jE) {i x : Int32} (hin : vp_in i 4) (pn : Nat) (hpn : pc + 1 = pn) (hdg : decode cc pc = .ok (.iastore, 1)) (k : jJ p l e R s m args below meth c cells slots Q (dC, dI) vwCl A (va_S A s.heap) nL (wC ad cI cZ cB (sA σ 21 i.toNatClampNeg x) β mk ρ) pn lv (rest)) : jJ p l e R s m args below meth c cells slots Q (dC, dI) vwCl A (va_S A s.heap) nL (wC ad cI cZ cB σ β mk ρ) pc lv (.int x :: .int i :: .ref (ad 21) :: rest) := j_ast C 15 0 rfl rfl hin pn hpn hdg k
theorem ld_B_sizes (C : jC p s m args c cc nL R_B (c0 :: jT) (dC, dI) vwCl (jty cI cZ cB cJ) A Sx jE) {i : Int32} (hin : vp_in i 4) (pn : Nat) (hpn : pc + 1 = pn) (hdg : decode cc pc = .ok (.iaload, 1)) (k : jJ p l e R s m args below meth c cells slots Q (dC, dI) vwCl A Sx nL (wC ad cI cZ cB σ β mk ρ) pn lv (.int (σ 22 i.toNatClampNeg) :: rest)) : jJ p l e R s m args below meth c cells slots Q (dC, dI) vwCl A Sx nL (wC ad cI cZ cB σ β mk ρ) pc lv (.int i :: .ref (ad 22) :: rest) := j_ald C 16 0 rfl rfl hin pn hpn hdg k
theorem st_B_sizes (C : jC p s m args c cc nL R_B (c0 :: jT) (dC, dI) vwCl (jty cI cZ cB cJ) A (va_S A s.heap) jE) {i x : Int32} (hin : vp_in i 4) (pn : Nat) (hpn : pc + 1 = pn) (hdg : decode cc pc = .ok (.iastore, 1)) (k : jJ p l e R s m args below meth c cells slots Q (dC, dI) vwCl A (va_S A s.heap) nL (wC ad cI cZ cB (sA σ 22 i.toNatClampNeg x) β mk ρ) pn lv (rest)) : jJ p l e R s m args below meth c cells slots Q (dC, dI) vwCl A (va_S A s.heap) nL (wC ad cI cZ cB σ β mk ρ) pc lv (.int x :: .int i :: .ref (ad 22) :: rest) := j_ast C 16 0 rfl rfl hin pn hpn hdg k
theorem ld_B_numbers (C : jC p s m args c cc nL R_B (c0 :: jT) (dC, dI) vwCl (jty cI cZ cB cJ) A Sx jE) {i : Int32} (hin : vp_in i 4) (pn : Nat) (hpn : pc + 1 = pn) (hdg : decode cc pc = .ok (.iaload, 1)) (k : jJ p l e R s m args below meth c cells slots Q (dC, dI) vwCl A Sx nL (wC ad cI cZ cB σ β mk ρ) pn lv (.int (σ 23 i.toNatClampNeg) :: rest)) : jJ p l e R s m args below meth c cells slots Q (dC, dI) vwCl A Sx nL (wC ad cI cZ cB σ β mk ρ) pc lv (.int i :: .ref (ad 23) :: rest) := j_ald C 17 0 rfl rfl hin pn hpn hdg k
theorem st_B_numbers (C : jC p s m args c cc nL R_B (c0 :: jT) (dC, dI) vwCl (jty cI cZ cB cJ) A (va_S A s.heap) jE) {i x : Int32} (hin : vp_in i 4) (pn : Nat) (hpn : pc + 1 = pn) (hdg : decode cc pc = .ok (.iastore, 1)) (k : jJ p l e R s m args below meth c cells slots Q (dC, dI) vwCl A (va_S A s.heap) nL (wC ad cI cZ cB (sA σ 23 i.toNatClampNeg x) β mk ρ) pn lv (rest)) : jJ p l e R s m args below meth c cells slots Q (dC, dI) vwCl A (va_S A s.heap) nL (wC ad cI cZ cB σ β mk ρ) pc lv (.int x :: .int i :: .ref (ad 23) :: rest) := j_ast C 17 0 rfl rfl hin pn hpn hdg k
theorem ld_Y_cells (C : jC p s m args c cc nL R_Y (c0 :: jT) (dC, dI) vwCl (jty cI cZ cB cJ) A Sx jE) {i : Int32} (hin : vp_in i 4096) (pn : Nat) (hpn : pc + 1 = pn) (hdg : decode cc pc = .ok (.baload, 1)) (k : jJ p l e R s m args below meth c cells slots Q (dC, dI) vwCl A Sx nL (wC ad cI cZ cB σ β mk ρ) pn lv (.int (σ 24 i.toNatClampNeg) :: rest)) : jJ p l e R s m args below meth c cells slots Q (dC, dI) vwCl A Sx nL (wC ad cI cZ cB σ β mk ρ) pc lv (.int i :: .ref (ad 24) :: rest) := j_bld C 18 2 rfl rfl hin pn hpn hdg k
theorem st_Y_cells (C : jC p s m args c cc nL R_Y (c0 :: jT) (dC, dI) vwCl (jty cI cZ cB cJ) A (va_S A s.heap) jE) {i x : Int32} (hin : vp_in i 4096) (pn : Nat) (hpn : pc + 1 = pn) (hdg : decode cc pc = .ok (.bastore, 1)) (k : jJ p l e R s m args below meth c cells slots Q (dC, dI) vwCl A (va_S A s.heap) nL (wC ad cI cZ cB (sA σ 24 i.toNatClampNeg x.toInt8.toInt32) β mk ρ) pn lv (rest)) : jJ p l e R s m args below meth c cells slots Q (dC, dI) vwCl A (va_S A s.heap) nL (wC ad cI cZ cB σ β mk ρ) pc lv (.int x :: .int i :: .ref (ad 24) :: rest) := j_bst C 18 2 rfl rfl hin pn hpn hdg k
theorem ld_M_bytes (C : jC p s m args c cc nL R_M (c0 :: jT) (dC, dI) vwCl (jty cI cZ cB cJ) A Sx jE) {i : Int32} (hin : vp_in i 4096) (pn : Nat) (hpn : pc + 1 = pn) (hdg : decode cc pc = .ok (.iaload, 1)) (k : jJ p l e R s m args below meth c cells slots Q (dC, dI) vwCl A Sx nL (wM am cI cZ μ ν ρ) pn lv (.int (μ 10 i.toNatClampNeg) :: rest)) : jJ p l e R s m args below meth c cells slots Q (dC, dI) vwCl A Sx nL (wM am cI cZ μ ν ρ) pc lv (.int i :: .ref (am 10) :: rest) := j_ald C 1 0 rfl rfl hin pn hpn hdg k
theorem st_M_bytes (C : jC p s m args c cc nL R_M (c0 :: jT) (dC, dI) vwCl (jty cI cZ cB cJ) A (va_S A s.heap) jE) {i x : Int32} (hin : vp_in i 4096) (pn : Nat) (hpn : pc + 1 = pn) (hdg : decode cc pc = .ok (.iastore, 1)) (k : jJ p l e R s m args below meth c cells slots Q (dC, dI) vwCl A (va_S A s.heap) nL (wM am cI cZ (sA μ 10 i.toNatClampNeg x) ν ρ) pn lv (rest)) : jJ p l e R s m args below meth c cells slots Q (dC, dI) vwCl A (va_S A s.heap) nL (wM am cI cZ μ ν ρ) pc lv (.int x :: .int i :: .ref (am 10) :: rest) := j_ast C 1 0 rfl rfl hin pn hpn hdg k
theorem ld_M_marks (C : jC p s m args c cc nL R_M (c0 :: jT) (dC, dI) vwCl (jty cI cZ cB cJ) A Sx jE) {i : Int32} (hin : vp_in i 64) (pn : Nat) (hpn : pc + 1 = pn) (hdg : decode cc pc = .ok (.baload, 1)) (k : jJ p l e R s m args below meth c cells slots Q (dC, dI) vwCl A Sx nL (wM am cI cZ μ ν ρ) pn lv (.int (bI (ν 0 i.toNatClampNeg)) :: rest)) : jJ p l e R s m args below meth c cells slots Q (dC, dI) vwCl A Sx nL (wM am cI cZ μ ν ρ) pc lv (.int i :: .ref (am 11) :: rest) := j_zld (g := ν 0) C 2 1 rfl rfl hin pn hpn hdg k
theorem st_M_marks (C : jC p s m args c cc nL R_M (c0 :: jT) (dC, dI) vwCl (jty cI cZ cB cJ) A (va_S A s.heap) jE) {i x : Int32} (hin : vp_in i 64) {b : Bool} (hb : x = bI b) (pn : Nat) (hpn : pc + 1 = pn) (hdg : decode cc pc = .ok (.bastore, 1)) (k : jJ p l e R s m args below meth c cells slots Q (dC, dI) vwCl A (va_S A s.heap) nL (wM am cI cZ μ (bA ν 0 i.toNatClampNeg b) ρ) pn lv (rest)) : jJ p l e R s m args below meth c cells slots Q (dC, dI) vwCl A (va_S A s.heap) nL (wM am cI cZ μ ν ρ) pc lv (.int x :: .int i :: .ref (am 11) :: rest) := j_zst (g := ν 0) C 2 1 rfl rfl hin hb pn hpn hdg k
theorem ld_M_kinds (C : jC p s m args c cc nL R_M (c0 :: jT) (dC, dI) vwCl (jty cI cZ cB cJ) A Sx jE) {i : Int32} (hin : vp_in i 128) (pn : Nat) (hpn : pc + 1 = pn) (hdg : decode cc pc = .ok (.iaload, 1)) (k : jJ p l e R s m args below meth c cells slots Q (dC, dI) vwCl A Sx nL (wM am cI cZ μ ν ρ) pn lv (.int (μ 12 i.toNatClampNeg) :: rest)) : jJ p l e R s m args below meth c cells slots Q (dC, dI) vwCl A Sx nL (wM am cI cZ μ ν ρ) pc lv (.int i :: .ref (am 12) :: rest) := j_ald C 3 0 rfl rfl hin pn hpn hdg k
theorem st_M_kinds (C : jC p s m args c cc nL R_M (c0 :: jT) (dC, dI) vwCl (jty cI cZ cB cJ) A (va_S A s.heap) jE) {i x : Int32} (hin : vp_in i 128) (pn : Nat) (hpn : pc + 1 = pn) (hdg : decode cc pc = .ok (.iastore, 1)) (k : jJ p l e R s m args below meth c cells slots Q (dC, dI) vwCl A (va_S A s.heap) nL (wM am cI cZ (sA μ 12 i.toNatClampNeg x) ν ρ) pn lv (rest)) : jJ p l e R s m args below meth c cells slots Q (dC, dI) vwCl A (va_S A s.heap) nL (wM am cI cZ μ ν ρ) pc lv (.int x :: .int i :: .ref (am 12) :: rest) := j_ast C 3 0 rfl rfl hin pn hpn hdg k
theorem ld_M_sizes (C : jC p s m args c cc nL R_M (c0 :: jT) (dC, dI) vwCl (jty cI cZ cB cJ) A Sx jE) {i : Int32} (hin : vp_in i 128) (pn : Nat) (hpn : pc + 1 = pn) (hdg : decode cc pc = .ok (.iaload, 1)) (k : jJ p l e R s m args below meth c cells slots Q (dC, dI) vwCl A Sx nL (wM am cI cZ μ ν ρ) pn lv (.int (μ 13 i.toNatClampNeg) :: rest)) : jJ p l e R s m args below meth c cells slots Q (dC, dI) vwCl A Sx nL (wM am cI cZ μ ν ρ) pc lv (.int i :: .ref (am 13) :: rest) := j_ald C 4 0 rfl rfl hin pn hpn hdg k
theorem st_M_sizes (C : jC p s m args c cc nL R_M (c0 :: jT) (dC, dI) vwCl (jty cI cZ cB cJ) A (va_S A s.heap) jE) {i x : Int32} (hin : vp_in i 128) (pn : Nat) (hpn : pc + 1 = pn) (hdg : decode cc pc = .ok (.iastore, 1)) (k : jJ p l e R s m args below meth c cells slots Q (dC, dI) vwCl A (va_S A s.heap) nL (wM am cI cZ (sA μ 13 i.toNatClampNeg x) ν ρ) pn lv (rest)) : jJ p l e R s m args below meth c cells slots Q (dC, dI) vwCl A (va_S A s.heap) nL (wM am cI cZ μ ν ρ) pc lv (.int x :: .int i :: .ref (am 13) :: rest) := j_ast C 4 0 rfl rfl hin pn hpn hdg k
theorem ld_M_programs (C : jC p s m args c cc nL R_M (c0 :: jT) (dC, dI) vwCl (jty cI cZ cB cJ) A Sx jE) {i : Int32} (hin : vp_in i 128) (pn : Nat) (hpn : pc + 1 = pn) (hdg : decode cc pc = .ok (.iaload, 1)) (k : jJ p l e R s m args below meth c cells slots Q (dC, dI) vwCl A Sx nL (wM am cI cZ μ ν ρ) pn lv (.int (μ 14 i.toNatClampNeg) :: rest)) : jJ p l e R s m args below meth c cells slots Q (dC, dI) vwCl A Sx nL (wM am cI cZ μ ν ρ) pc lv (.int i :: .ref (am 14) :: rest) := j_ald C 5 0 rfl rfl hin pn hpn hdg k
theorem st_M_programs (C : jC p s m args c cc nL R_M (c0 :: jT) (dC, dI) vwCl (jty cI cZ cB cJ) A (va_S A s.heap) jE) {i x : Int32} (hin : vp_in i 128) (pn : Nat) (hpn : pc + 1 = pn) (hdg : decode cc pc = .ok (.iastore, 1)) (k : jJ p l e R s m args below meth c cells slots Q (dC, dI) vwCl A (va_S A s.heap) nL (wM am cI cZ (sA μ 14 i.toNatClampNeg x) ν ρ) pn lv (rest)) : jJ p l e R s m args below meth c cells slots Q (dC, dI) vwCl A (va_S A s.heap) nL (wM am cI cZ μ ν ρ) pc lv (.int x :: .int i :: .ref (am 14) :: rest) := j_ast C 5 0 rfl rfl hin pn hpn hdg k
theorem ld_M_places (C : jC p s m args c cc nL R_M (c0 :: jT) (dC, dI) vwCl (jty cI cZ cB cJ) A Sx jE) {i : Int32} (hin : vp_in i 128) (pn : Nat) (hpn : pc + 1 = pn) (hdg : decode cc pc = .ok (.iaload, 1)) (k : jJ p l e R s m args below meth c cells slots Q (dC, dI) vwCl A Sx nL (wM am cI cZ μ ν ρ) pn lv (.int (μ 15 i.toNatClampNeg) :: rest)) : jJ p l e R s m args below meth c cells slots Q (dC, dI) vwCl A Sx nL (wM am cI cZ μ ν ρ) pc lv (.int i :: .ref (am 15) :: rest) := j_ald C 6 0 rfl rfl hin pn hpn hdg k
theorem st_M_places (C : jC p s m args c cc nL R_M (c0 :: jT) (dC, dI) vwCl (jty cI cZ cB cJ) A (va_S A s.heap) jE) {i x : Int32} (hin : vp_in i 128) (pn : Nat) (hpn : pc + 1 = pn) (hdg : decode cc pc = .ok (.iastore, 1)) (k : jJ p l e R s m args below meth c cells slots Q (dC, dI) vwCl A (va_S A s.heap) nL (wM am cI cZ (sA μ 15 i.toNatClampNeg x) ν ρ) pn lv (rest)) : jJ p l e R s m args below meth c cells slots Q (dC, dI) vwCl A (va_S A s.heap) nL (wM am cI cZ μ ν ρ) pc lv (.int x :: .int i :: .ref (am 15) :: rest) := j_ast C 6 0 rfl rfl hin pn hpn hdg k
theorem ld_M_values (C : jC p s m args c cc nL R_M (c0 :: jT) (dC, dI) vwCl (jty cI cZ cB cJ) A Sx jE) {i : Int32} (hin : vp_in i 128) (pn : Nat) (hpn : pc + 1 = pn) (hdg : decode cc pc = .ok (.iaload, 1)) (k : jJ p l e R s m args below meth c cells slots Q (dC, dI) vwCl A Sx nL (wM am cI cZ μ ν ρ) pn lv (.int (μ 16 i.toNatClampNeg) :: rest)) : jJ p l e R s m args below meth c cells slots Q (dC, dI) vwCl A Sx nL (wM am cI cZ μ ν ρ) pc lv (.int i :: .ref (am 16) :: rest) := j_ald C 7 0 rfl rfl hin pn hpn hdg k
theorem st_M_values (C : jC p s m args c cc nL R_M (c0 :: jT) (dC, dI) vwCl (jty cI cZ cB cJ) A (va_S A s.heap) jE) {i x : Int32} (hin : vp_in i 128) (pn : Nat) (hpn : pc + 1 = pn) (hdg : decode cc pc = .ok (.iastore, 1)) (k : jJ p l e R s m args below meth c cells slots Q (dC, dI) vwCl A (va_S A s.heap) nL (wM am cI cZ (sA μ 16 i.toNatClampNeg x) ν ρ) pn lv (rest)) : jJ p l e R s m args below meth c cells slots Q (dC, dI) vwCl A (va_S A s.heap) nL (wM am cI cZ μ ν ρ) pc lv (.int x :: .int i :: .ref (am 16) :: rest) := j_ast C 7 0 rfl rfl hin pn hpn hdg k
theorem ld_M_results (C : jC p s m args c cc nL R_M (c0 :: jT) (dC, dI) vwCl (jty cI cZ cB cJ) A Sx jE) {i : Int32} (hin : vp_in i 128) (pn : Nat) (hpn : pc + 1 = pn) (hdg : decode cc pc = .ok (.iaload, 1)) (k : jJ p l e R s m args below meth c cells slots Q (dC, dI) vwCl A Sx nL (wM am cI cZ μ ν ρ) pn lv (.int (μ 17 i.toNatClampNeg) :: rest)) : jJ p l e R s m args below meth c cells slots Q (dC, dI) vwCl A Sx nL (wM am cI cZ μ ν ρ) pc lv (.int i :: .ref (am 17) :: rest) := j_ald C 8 0 rfl rfl hin pn hpn hdg k
theorem st_M_results (C : jC p s m args c cc nL R_M (c0 :: jT) (dC, dI) vwCl (jty cI cZ cB cJ) A (va_S A s.heap) jE) {i x : Int32} (hin : vp_in i 128) (pn : Nat) (hpn : pc + 1 = pn) (hdg : decode cc pc = .ok (.iastore, 1)) (k : jJ p l e R s m args below meth c cells slots Q (dC, dI) vwCl A (va_S A s.heap) nL (wM am cI cZ (sA μ 17 i.toNatClampNeg x) ν ρ) pn lv (rest)) : jJ p l e R s m args below meth c cells slots Q (dC, dI) vwCl A (va_S A s.heap) nL (wM am cI cZ μ ν ρ) pc lv (.int x :: .int i :: .ref (am 17) :: rest) := j_ast C 8 0 rfl rfl hin pn hpn hdg k
theorem ld_M_told (C : jC p s m args c cc nL R_M (c0 :: jT) (dC, dI) vwCl (jty cI cZ cB cJ) A Sx jE) {i : Int32} (hin : vp_in i 128) (pn : Nat) (hpn : pc + 1 = pn) (hdg : decode cc pc = .ok (.baload, 1)) (k : jJ p l e R s m args below meth c cells slots Q (dC, dI) vwCl A Sx nL (wM am cI cZ μ ν ρ) pn lv (.int (bI (ν 1 i.toNatClampNeg)) :: rest)) : jJ p l e R s m args below meth c cells slots Q (dC, dI) vwCl A Sx nL (wM am cI cZ μ ν ρ) pc lv (.int i :: .ref (am 18) :: rest) := j_zld (g := ν 1) C 9 1 rfl rfl hin pn hpn hdg k
theorem st_M_told (C : jC p s m args c cc nL R_M (c0 :: jT) (dC, dI) vwCl (jty cI cZ cB cJ) A (va_S A s.heap) jE) {i x : Int32} (hin : vp_in i 128) {b : Bool} (hb : x = bI b) (pn : Nat) (hpn : pc + 1 = pn) (hdg : decode cc pc = .ok (.bastore, 1)) (k : jJ p l e R s m args below meth c cells slots Q (dC, dI) vwCl A (va_S A s.heap) nL (wM am cI cZ μ (bA ν 1 i.toNatClampNeg b) ρ) pn lv (rest)) : jJ p l e R s m args below meth c cells slots Q (dC, dI) vwCl A (va_S A s.heap) nL (wM am cI cZ μ ν ρ) pc lv (.int x :: .int i :: .ref (am 18) :: rest) := j_zst (g := ν 1) C 9 1 rfl rfl hin hb pn hpn hdg k
theorem ld_M_done (C : jC p s m args c cc nL R_M (c0 :: jT) (dC, dI) vwCl (jty cI cZ cB cJ) A Sx jE) {i : Int32} (hin : vp_in i 128) (pn : Nat) (hpn : pc + 1 = pn) (hdg : decode cc pc = .ok (.baload, 1)) (k : jJ p l e R s m args below meth c cells slots Q (dC, dI) vwCl A Sx nL (wM am cI cZ μ ν ρ) pn lv (.int (bI (ν 2 i.toNatClampNeg)) :: rest)) : jJ p l e R s m args below meth c cells slots Q (dC, dI) vwCl A Sx nL (wM am cI cZ μ ν ρ) pc lv (.int i :: .ref (am 19) :: rest) := j_zld (g := ν 2) C 10 1 rfl rfl hin pn hpn hdg k
theorem st_M_done (C : jC p s m args c cc nL R_M (c0 :: jT) (dC, dI) vwCl (jty cI cZ cB cJ) A (va_S A s.heap) jE) {i x : Int32} (hin : vp_in i 128) {b : Bool} (hb : x = bI b) (pn : Nat) (hpn : pc + 1 = pn) (hdg : decode cc pc = .ok (.bastore, 1)) (k : jJ p l e R s m args below meth c cells slots Q (dC, dI) vwCl A (va_S A s.heap) nL (wM am cI cZ μ (bA ν 2 i.toNatClampNeg b) ρ) pn lv (rest)) : jJ p l e R s m args below meth c cells slots Q (dC, dI) vwCl A (va_S A s.heap) nL (wM am cI cZ μ ν ρ) pc lv (.int x :: .int i :: .ref (am 19) :: rest) := j_zst (g := ν 2) C 10 1 rfl rfl hin hb pn hpn hdg k
theorem ld_M_from (C : jC p s m args c cc nL R_M (c0 :: jT) (dC, dI) vwCl (jty cI cZ cB cJ) A Sx jE) {i : Int32} (hin : vp_in i 512) (pn : Nat) (hpn : pc + 1 = pn) (hdg : decode cc pc = .ok (.iaload, 1)) (k : jJ p l e R s m args below meth c cells slots Q (dC, dI) vwCl A Sx nL (wM am cI cZ μ ν ρ) pn lv (.int (μ 20 i.toNatClampNeg) :: rest)) : jJ p l e R s m args below meth c cells slots Q (dC, dI) vwCl A Sx nL (wM am cI cZ μ ν ρ) pc lv (.int i :: .ref (am 20) :: rest) := j_ald C 11 0 rfl rfl hin pn hpn hdg k
theorem st_M_from (C : jC p s m args c cc nL R_M (c0 :: jT) (dC, dI) vwCl (jty cI cZ cB cJ) A (va_S A s.heap) jE) {i x : Int32} (hin : vp_in i 512) (pn : Nat) (hpn : pc + 1 = pn) (hdg : decode cc pc = .ok (.iastore, 1)) (k : jJ p l e R s m args below meth c cells slots Q (dC, dI) vwCl A (va_S A s.heap) nL (wM am cI cZ (sA μ 20 i.toNatClampNeg x) ν ρ) pn lv (rest)) : jJ p l e R s m args below meth c cells slots Q (dC, dI) vwCl A (va_S A s.heap) nL (wM am cI cZ μ ν ρ) pc lv (.int x :: .int i :: .ref (am 20) :: rest) := j_ast C 11 0 rfl rfl hin pn hpn hdg k
theorem ld_M_waiting (C : jC p s m args c cc nL R_M (c0 :: jT) (dC, dI) vwCl (jty cI cZ cB cJ) A Sx jE) {i : Int32} (hin : vp_in i 4) (pn : Nat) (hpn : pc + 1 = pn) (hdg : decode cc pc = .ok (.iaload, 1)) (k : jJ p l e R s m args below meth c cells slots Q (dC, dI) vwCl A Sx nL (wM am cI cZ μ ν ρ) pn lv (.int (μ 21 i.toNatClampNeg) :: rest)) : jJ p l e R s m args below meth c cells slots Q (dC, dI) vwCl A Sx nL (wM am cI cZ μ ν ρ) pc lv (.int i :: .ref (am 21) :: rest) := j_ald C 12 0 rfl rfl hin pn hpn hdg k
theorem st_M_waiting (C : jC p s m args c cc nL R_M (c0 :: jT) (dC, dI) vwCl (jty cI cZ cB cJ) A (va_S A s.heap) jE) {i x : Int32} (hin : vp_in i 4) (pn : Nat) (hpn : pc + 1 = pn) (hdg : decode cc pc = .ok (.iastore, 1)) (k : jJ p l e R s m args below meth c cells slots Q (dC, dI) vwCl A (va_S A s.heap) nL (wM am cI cZ (sA μ 21 i.toNatClampNeg x) ν ρ) pn lv (rest)) : jJ p l e R s m args below meth c cells slots Q (dC, dI) vwCl A (va_S A s.heap) nL (wM am cI cZ μ ν ρ) pc lv (.int x :: .int i :: .ref (am 21) :: rest) := j_ast C 12 0 rfl rfl hin pn hpn hdg k
theorem ld_M_waitPlace (C : jC p s m args c cc nL R_M (c0 :: jT) (dC, dI) vwCl (jty cI cZ cB cJ) A Sx jE) {i : Int32} (hin : vp_in i 4) (pn : Nat) (hpn : pc + 1 = pn) (hdg : decode cc pc = .ok (.iaload, 1)) (k : jJ p l e R s m args below meth c cells slots Q (dC, dI) vwCl A Sx nL (wM am cI cZ μ ν ρ) pn lv (.int (μ 22 i.toNatClampNeg) :: rest)) : jJ p l e R s m args below meth c cells slots Q (dC, dI) vwCl A Sx nL (wM am cI cZ μ ν ρ) pc lv (.int i :: .ref (am 22) :: rest) := j_ald C 13 0 rfl rfl hin pn hpn hdg k
theorem st_M_waitPlace (C : jC p s m args c cc nL R_M (c0 :: jT) (dC, dI) vwCl (jty cI cZ cB cJ) A (va_S A s.heap) jE) {i x : Int32} (hin : vp_in i 4) (pn : Nat) (hpn : pc + 1 = pn) (hdg : decode cc pc = .ok (.iastore, 1)) (k : jJ p l e R s m args below meth c cells slots Q (dC, dI) vwCl A (va_S A s.heap) nL (wM am cI cZ (sA μ 22 i.toNatClampNeg x) ν ρ) pn lv (rest)) : jJ p l e R s m args below meth c cells slots Q (dC, dI) vwCl A (va_S A s.heap) nL (wM am cI cZ μ ν ρ) pc lv (.int x :: .int i :: .ref (am 22) :: rest) := j_ast C 13 0 rfl rfl hin pn hpn hdg k
theorem ld_M_waitSize (C : jC p s m args c cc nL R_M (c0 :: jT) (dC, dI) vwCl (jty cI cZ cB cJ) A Sx jE) {i : Int32} (hin : vp_in i 4) (pn : Nat) (hpn : pc + 1 = pn) (hdg : decode cc pc = .ok (.iaload, 1)) (k : jJ p l e R s m args below meth c cells slots Q (dC, dI) vwCl A Sx nL (wM am cI cZ μ ν ρ) pn lv (.int (μ 23 i.toNatClampNeg) :: rest)) : jJ p l e R s m args below meth c cells slots Q (dC, dI) vwCl A Sx nL (wM am cI cZ μ ν ρ) pc lv (.int i :: .ref (am 23) :: rest) := j_ald C 14 0 rfl rfl hin pn hpn hdg k
theorem st_M_waitSize (C : jC p s m args c cc nL R_M (c0 :: jT) (dC, dI) vwCl (jty cI cZ cB cJ) A (va_S A s.heap) jE) {i x : Int32} (hin : vp_in i 4) (pn : Nat) (hpn : pc + 1 = pn) (hdg : decode cc pc = .ok (.iastore, 1)) (k : jJ p l e R s m args below meth c cells slots Q (dC, dI) vwCl A (va_S A s.heap) nL (wM am cI cZ (sA μ 23 i.toNatClampNeg x) ν ρ) pn lv (rest)) : jJ p l e R s m args below meth c cells slots Q (dC, dI) vwCl A (va_S A s.heap) nL (wM am cI cZ μ ν ρ) pc lv (.int x :: .int i :: .ref (am 23) :: rest) := j_ast C 14 0 rfl rfl hin pn hpn hdg k
theorem ld_M_waitValue (C : jC p s m args c cc nL R_M (c0 :: jT) (dC, dI) vwCl (jty cI cZ cB cJ) A Sx jE) {i : Int32} (hin : vp_in i 4) (pn : Nat) (hpn : pc + 1 = pn) (hdg : decode cc pc = .ok (.iaload, 1)) (k : jJ p l e R s m args below meth c cells slots Q (dC, dI) vwCl A Sx nL (wM am cI cZ μ ν ρ) pn lv (.int (μ 24 i.toNatClampNeg) :: rest)) : jJ p l e R s m args below meth c cells slots Q (dC, dI) vwCl A Sx nL (wM am cI cZ μ ν ρ) pc lv (.int i :: .ref (am 24) :: rest) := j_ald C 15 0 rfl rfl hin pn hpn hdg k
theorem st_M_waitValue (C : jC p s m args c cc nL R_M (c0 :: jT) (dC, dI) vwCl (jty cI cZ cB cJ) A (va_S A s.heap) jE) {i x : Int32} (hin : vp_in i 4) (pn : Nat) (hpn : pc + 1 = pn) (hdg : decode cc pc = .ok (.iastore, 1)) (k : jJ p l e R s m args below meth c cells slots Q (dC, dI) vwCl A (va_S A s.heap) nL (wM am cI cZ (sA μ 24 i.toNatClampNeg x) ν ρ) pn lv (rest)) : jJ p l e R s m args below meth c cells slots Q (dC, dI) vwCl A (va_S A s.heap) nL (wM am cI cZ μ ν ρ) pc lv (.int x :: .int i :: .ref (am 24) :: rest) := j_ast C 15 0 rfl rfl hin pn hpn hdg k
end WR
end
