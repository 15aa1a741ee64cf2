section
/-! the judgement of a walk over a world w: locals lv, stack st -/
section JB
variable {p : Program} {l : Launch} {e : Env} {R : Room} {s : State} {m : MethodId} {args : Array Value} {below : List Frame} {meth : Method} {c : Code} {cells slots : Nat} {Q : State → Prop}
variable {D : va_G} {cl : List vw_C} {tys : List (ClassId × FieldType)} {A : Nat → Prop} {Sx : Heap → List Loc → Prop} {E : State → Prop} {nL : Nat} {cc : ByteArray} {own : String} {Ts : List Cond} {w : va_W} {pc : Nat} {lv : List (Nat × Value)} {rest : List Value}
def jJ (p : Program) (l : Launch) (e : Env) (R : Room) (s : State) (m : MethodId) (args : Array Value) (below : List Frame) (meth : Method) (c : Code) (cells slots : Nat) (Q : State → Prop) (D : va_G) (cl : List vw_C) (A : Nat → Prop) (Sx : Heap → List Loc → Prop) (nL : Nat) (w : va_W) (pc : Nat) (lv : List (Nat × Value)) (st : List Value) : Prop :=
  ∀ (H : Heap) (locs : List Loc) (ls : Array Slot), va_P D cl w H → va_D A w → Sx H locs → lv_has ls nL lv → W p l e R s m args below meth c H locs cells slots Q (F0 m pc ls st)
def jC (p : Program) (s : State) (m : MethodId) (args : Array Value) (c : Code) (cc : ByteArray) (nL : Nat) (own : String) (Ts : List Cond) (D : va_G) (cl : List vw_C) (tys : List (ClassId × FieldType)) (A : Nat → Prop) (Sx : Heap → List Loc → Prop) (E : State → Prop) : Prop :=
  p.tables.exec = Jvm.exec ∧ c.code = cc ∧ c.maxLocals = nL ∧ s.vm.findClass own = some m.cls ∧ (∀ w ∈ Ts, w.before args s = true) ∧ va_K D cl tys s ∧ (∀ q : Nat, s.heap.size ≤ q → A q) ∧ (∀ U : State, (∀ q : Nat, q < s.heap.size → ¬ A q → U.heap[q]? = s.heap[q]?) → s.WarmedH U.vm → E U) ∧ (∀ (H : Heap) (locs : List Loc), Sx H locs → va_S A s.heap H locs)
theorem jC.x (C : jC p s m args c cc nL own Ts D cl tys A Sx E) : p.tables.exec = Jvm.exec := C.1
theorem jC.b (C : jC p s m args c cc nL own Ts D cl tys A Sx E) : c.code = cc := C.2.1
theorem jC.ml (C : jC p s m args c cc nL own Ts D cl tys A Sx E) : c.maxLocals = nL := C.2.2.1
theorem jC.o (C : jC p s m args c cc nL own Ts D cl tys A Sx E) : s.vm.findClass own = some m.cls := C.2.2.2.1
theorem jC.t (C : jC p s m args c cc nL own Ts D cl tys A Sx E) : ∀ w ∈ Ts, w.before args s = true := C.2.2.2.2.1
theorem jC.k (C : jC p s m args c cc nL own Ts D cl tys A Sx E) : va_K D cl tys s := C.2.2.2.2.2.1
theorem jC.a (C : jC p s m args c cc nL own Ts D cl tys A Sx E) : ∀ q : Nat, s.heap.size ≤ q → A q := C.2.2.2.2.2.2.1
theorem jC.ev (C : jC p s m args c cc nL own Ts D cl tys A Sx E) : ∀ U : State, (∀ q : Nat, q < s.heap.size → ¬ A q → U.heap[q]? = s.heap[q]?) → s.WarmedH U.vm → E U := C.2.2.2.2.2.2.2.1
theorem jC.sx (C : jC p s m args c cc nL own Ts D cl tys A Sx E) : ∀ (H : Heap) (locs : List Loc), Sx H locs → va_S A s.heap H locs := C.2.2.2.2.2.2.2.2
def rd (s : State) : Heap → List Loc → Prop := fun H locs => H = s.heap ∧ locs = []
theorem rd_S {A : Nat → Prop} : ∀ (H : Heap) (locs : List Loc), rd s H locs → va_S A s.heap H locs := fun H locs h => by
  obtain ⟨rfl, rfl⟩ := h
  exact va_S.rf
def jLoc (D : va_G) (cl : List vw_C) (E : State → Prop) : Prop := (∀ (a : Array Value) (U : State) (g : JFrame) (mk : MethodId), E U → E (U.calling g mk a)) ∧
  ∀ (s U : State) (w : va_W), E s → va_P D cl w s.heap → (∀ q : Nat, q < s.heap.size → ¬ va_A w s.heap.size q → U.heap[q]? = s.heap[q]?) → s.WarmedH U.vm → E U
theorem j_iadd (C : jC p s m args c cc nL own Ts D cl tys A Sx E) {x y : Int32} (pn : Nat) (hpn : pc + 1 = pn) (hdg : decode cc pc = .ok (.iadd, 1)) (k : jJ p l e R s m args below meth c cells slots Q D cl A Sx nL w (pn) lv (.int (x + y) :: rest)) : jJ p l e R s m args below meth c cells slots Q D cl A Sx nL w (pc) lv (.int y :: .int x :: rest) := by
  subst hpn
  exact fun H locs ls h1 h2 h3 h4 => lv_iadd C.x C.b hdg (k H locs ls h1 h2 h3 h4)
theorem j_isub (C : jC p s m args c cc nL own Ts D cl tys A Sx E) {x y : Int32} (pn : Nat) (hpn : pc + 1 = pn) (hdg : decode cc pc = .ok (.isub, 1)) (k : jJ p l e R s m args below meth c cells slots Q D cl A Sx nL w (pn) lv (.int (x - y) :: rest)) : jJ p l e R s m args below meth c cells slots Q D cl A Sx nL w (pc) lv (.int y :: .int x :: rest) := by
  subst hpn
  exact fun H locs ls h1 h2 h3 h4 => lv_isub C.x C.b hdg (k H locs ls h1 h2 h3 h4)
theorem j_imul (C : jC p s m args c cc nL own Ts D cl tys A Sx E) {x y : Int32} (pn : Nat) (hpn : pc + 1 = pn) (hdg : decode cc pc = .ok (.imul, 1)) (k : jJ p l e R s m args below meth c cells slots Q D cl A Sx nL w (pn) lv (.int (x * y) :: rest)) : jJ p l e R s m args below meth c cells slots Q D cl A Sx nL w (pc) lv (.int y :: .int x :: rest) := by
  subst hpn
  exact fun H locs ls h1 h2 h3 h4 => lv_imul C.x C.b hdg (k H locs ls h1 h2 h3 h4)
theorem j_iand (C : jC p s m args c cc nL own Ts D cl tys A Sx E) {x y : Int32} (pn : Nat) (hpn : pc + 1 = pn) (hdg : decode cc pc = .ok (.iand, 1)) (k : jJ p l e R s m args below meth c cells slots Q D cl A Sx nL w (pn) lv (.int (x &&& y) :: rest)) : jJ p l e R s m args below meth c cells slots Q D cl A Sx nL w (pc) lv (.int y :: .int x :: rest) := by
  subst hpn
  exact fun H locs ls h1 h2 h3 h4 => lv_iand C.x C.b hdg (k H locs ls h1 h2 h3 h4)
theorem j_ior (C : jC p s m args c cc nL own Ts D cl tys A Sx E) {x y : Int32} (pn : Nat) (hpn : pc + 1 = pn) (hdg : decode cc pc = .ok (.ior, 1)) (k : jJ p l e R s m args below meth c cells slots Q D cl A Sx nL w (pn) lv (.int (x ||| y) :: rest)) : jJ p l e R s m args below meth c cells slots Q D cl A Sx nL w (pc) lv (.int y :: .int x :: rest) := by
  subst hpn
  exact fun H locs ls h1 h2 h3 h4 => lv_ior C.x C.b hdg (k H locs ls h1 h2 h3 h4)
theorem j_ixor (C : jC p s m args c cc nL own Ts D cl tys A Sx E) {x y : Int32} (pn : Nat) (hpn : pc + 1 = pn) (hdg : decode cc pc = .ok (.ixor, 1)) (k : jJ p l e R s m args below meth c cells slots Q D cl A Sx nL w (pn) lv (.int (x ^^^ y) :: rest)) : jJ p l e R s m args below meth c cells slots Q D cl A Sx nL w (pc) lv (.int y :: .int x :: rest) := by
  subst hpn
  exact fun H locs ls h1 h2 h3 h4 => lv_ixor C.x C.b hdg (k H locs ls h1 h2 h3 h4)
theorem j_ladd (C : jC p s m args c cc nL own Ts D cl tys A Sx E) {x y : Int64} (pn : Nat) (hpn : pc + 1 = pn) (hdg : decode cc pc = .ok (.ladd, 1)) (k : jJ p l e R s m args below meth c cells slots Q D cl A Sx nL w (pn) lv (.long (x + y) :: rest)) : jJ p l e R s m args below meth c cells slots Q D cl A Sx nL w (pc) lv (.long y :: .long x :: rest) := by
  subst hpn
  exact fun H locs ls h1 h2 h3 h4 => lv_ladd C.x C.b hdg (k H locs ls h1 h2 h3 h4)
theorem j_lsub (C : jC p s m args c cc nL own Ts D cl tys A Sx E) {x y : Int64} (pn : Nat) (hpn : pc + 1 = pn) (hdg : decode cc pc = .ok (.lsub, 1)) (k : jJ p l e R s m args below meth c cells slots Q D cl A Sx nL w (pn) lv (.long (x - y) :: rest)) : jJ p l e R s m args below meth c cells slots Q D cl A Sx nL w (pc) lv (.long y :: .long x :: rest) := by
  subst hpn
  exact fun H locs ls h1 h2 h3 h4 => lv_lsub C.x C.b hdg (k H locs ls h1 h2 h3 h4)
theorem j_land (C : jC p s m args c cc nL own Ts D cl tys A Sx E) {x y : Int64} (pn : Nat) (hpn : pc + 1 = pn) (hdg : decode cc pc = .ok (.land, 1)) (k : jJ p l e R s m args below meth c cells slots Q D cl A Sx nL w (pn) lv (.long (x &&& y) :: rest)) : jJ p l e R s m args below meth c cells slots Q D cl A Sx nL w (pc) lv (.long y :: .long x :: rest) := by
  subst hpn
  exact fun H locs ls h1 h2 h3 h4 => lv_land C.x C.b hdg (k H locs ls h1 h2 h3 h4)
theorem j_lor (C : jC p s m args c cc nL own Ts D cl tys A Sx E) {x y : Int64} (pn : Nat) (hpn : pc + 1 = pn) (hdg : decode cc pc = .ok (.lor, 1)) (k : jJ p l e R s m args below meth c cells slots Q D cl A Sx nL w (pn) lv (.long (x ||| y) :: rest)) : jJ p l e R s m args below meth c cells slots Q D cl A Sx nL w (pc) lv (.long y :: .long x :: rest) := by
  subst hpn
  exact fun H locs ls h1 h2 h3 h4 => lv_lor C.x C.b hdg (k H locs ls h1 h2 h3 h4)
theorem j_ishl (C : jC p s m args c cc nL own Ts D cl tys A Sx E) {x y : Int32} (pn : Nat) (hpn : pc + 1 = pn) (hdg : decode cc pc = .ok (.ishl, 1)) (k : jJ p l e R s m args below meth c cells slots Q D cl A Sx nL w (pn) lv (.int (x <<< (y &&& 31)) :: rest)) : jJ p l e R s m args below meth c cells slots Q D cl A Sx nL w (pc) lv (.int y :: .int x :: rest) := by
  subst hpn
  exact fun H locs ls h1 h2 h3 h4 => lv_ishl C.x C.b hdg (k H locs ls h1 h2 h3 h4)
theorem j_ishr (C : jC p s m args c cc nL own Ts D cl tys A Sx E) {x y : Int32} (pn : Nat) (hpn : pc + 1 = pn) (hdg : decode cc pc = .ok (.ishr, 1)) (k : jJ p l e R s m args below meth c cells slots Q D cl A Sx nL w (pn) lv (.int (x >>> (y &&& 31)) :: rest)) : jJ p l e R s m args below meth c cells slots Q D cl A Sx nL w (pc) lv (.int y :: .int x :: rest) := by
  subst hpn
  exact fun H locs ls h1 h2 h3 h4 => lv_ishr C.x C.b hdg (k H locs ls h1 h2 h3 h4)
theorem j_iushr (C : jC p s m args c cc nL own Ts D cl tys A Sx E) {x y v : Int32} (pn : Nat) (hpn : pc + 1 = pn) (hdg : decode cc pc = .ok (.iushr, 1)) (hv : (x.toUInt32 >>> (y.toUInt32 &&& Int32.toUInt32 31)).toInt32 = v) (k : jJ p l e R s m args below meth c cells slots Q D cl A Sx nL w (pn) lv (.int v :: rest)) : jJ p l e R s m args below meth c cells slots Q D cl A Sx nL w (pc) lv (.int y :: .int x :: rest) := by
  subst hpn
  exact fun H locs ls h1 h2 h3 h4 => lv_iushr C.x C.b hdg hv (k H locs ls h1 h2 h3 h4)
theorem j_lushr (C : jC p s m args c cc nL own Ts D cl tys A Sx E) {x v : Int64} {y : Int32} (pn : Nat) (hpn : pc + 1 = pn) (hdg : decode cc pc = .ok (.lushr, 1)) (hv : (x.toUInt64 >>> (y.toInt64.toUInt64 &&& Int64.toUInt64 63)).toInt64 = v) (k : jJ p l e R s m args below meth c cells slots Q D cl A Sx nL w (pn) lv (.long v :: rest)) : jJ p l e R s m args below meth c cells slots Q D cl A Sx nL w (pc) lv (.int y :: .long x :: rest) := by
  subst hpn
  exact fun H locs ls h1 h2 h3 h4 => lv_lushr C.x C.b hdg hv (k H locs ls h1 h2 h3 h4)
theorem j_lshl (C : jC p s m args c cc nL own Ts D cl tys A Sx E) {x v : Int64} {y : Int32} (pn : Nat) (hpn : pc + 1 = pn) (hdg : decode cc pc = .ok (.lshl, 1)) (hv : x <<< (y.toInt64 &&& 63) = v) (k : jJ p l e R s m args below meth c cells slots Q D cl A Sx nL w (pn) lv (.long v :: rest)) : jJ p l e R s m args below meth c cells slots Q D cl A Sx nL w (pc) lv (.int y :: .long x :: rest) := by
  subst hpn
  exact fun H locs ls h1 h2 h3 h4 => lv_lshl C.x C.b hdg hv (k H locs ls h1 h2 h3 h4)
theorem j_i2l (C : jC p s m args c cc nL own Ts D cl tys A Sx E) {x : Int32} {v : Int64} (pn : Nat) (hpn : pc + 1 = pn) (hdg : decode cc pc = .ok (.i2l, 1)) (hv : x.toInt64 = v) (k : jJ p l e R s m args below meth c cells slots Q D cl A Sx nL w (pn) lv (.long v :: rest)) : jJ p l e R s m args below meth c cells slots Q D cl A Sx nL w (pc) lv (.int x :: rest) := by
  subst hpn
  exact fun H locs ls h1 h2 h3 h4 => lv_i2l C.x C.b hdg hv (k H locs ls h1 h2 h3 h4)
theorem j_l2i (C : jC p s m args c cc nL own Ts D cl tys A Sx E) {x : Int64} {v : Int32} (pn : Nat) (hpn : pc + 1 = pn) (hdg : decode cc pc = .ok (.l2i, 1)) (hv : x.toInt32 = v) (k : jJ p l e R s m args below meth c cells slots Q D cl A Sx nL w (pn) lv (.int v :: rest)) : jJ p l e R s m args below meth c cells slots Q D cl A Sx nL w (pc) lv (.long x :: rest) := by
  subst hpn
  exact fun H locs ls h1 h2 h3 h4 => lv_l2i C.x C.b hdg hv (k H locs ls h1 h2 h3 h4)
theorem j_i2b (C : jC p s m args c cc nL own Ts D cl tys A Sx E) {x v : Int32} (pn : Nat) (hpn : pc + 1 = pn) (hdg : decode cc pc = .ok (.i2b, 1)) (hv : x.toInt8.toInt32 = v) (k : jJ p l e R s m args below meth c cells slots Q D cl A Sx nL w (pn) lv (.int v :: rest)) : jJ p l e R s m args below meth c cells slots Q D cl A Sx nL w (pc) lv (.int x :: rest) := by
  subst hpn
  exact fun H locs ls h1 h2 h3 h4 => lv_i2b C.x C.b hdg hv (k H locs ls h1 h2 h3 h4)
theorem j_iconst (C : jC p s m args c cc nL own Ts D cl tys A Sx E) {n : Int} {v : Int32} (pn : Nat) (hpn : pc + 1 = pn) (hdg : decode cc pc = .ok (.iconst n, 1)) (hv : Int32.ofInt n = v) (k : jJ p l e R s m args below meth c cells slots Q D cl A Sx nL w (pn) lv (.int v :: rest)) : jJ p l e R s m args below meth c cells slots Q D cl A Sx nL w (pc) lv (rest) := by
  subst hpn
  exact fun H locs ls h1 h2 h3 h4 => lv_iconst C.x C.b hdg hv (k H locs ls h1 h2 h3 h4)
theorem j_bipush (C : jC p s m args c cc nL own Ts D cl tys A Sx E) {n : Int} {v : Int32} (pn : Nat) (hpn : pc + 2 = pn) (hdg : decode cc pc = .ok (.bipush n, 2)) (hv : (Int8.ofInt n).toInt32 = v) (k : jJ p l e R s m args below meth c cells slots Q D cl A Sx nL w (pn) lv (.int v :: rest)) : jJ p l e R s m args below meth c cells slots Q D cl A Sx nL w (pc) lv (rest) := by
  subst hpn
  exact fun H locs ls h1 h2 h3 h4 => lv_bipush C.x C.b hdg hv (k H locs ls h1 h2 h3 h4)
theorem j_sipush (C : jC p s m args c cc nL own Ts D cl tys A Sx E) {n : Int} {v : Int32} (pn : Nat) (hpn : pc + 3 = pn) (hdg : decode cc pc = .ok (.sipush n, 3)) (hv : (Int16.ofInt n).toInt32 = v) (k : jJ p l e R s m args below meth c cells slots Q D cl A Sx nL w (pn) lv (.int v :: rest)) : jJ p l e R s m args below meth c cells slots Q D cl A Sx nL w (pc) lv (rest) := by
  subst hpn
  exact fun H locs ls h1 h2 h3 h4 => lv_sipush C.x C.b hdg hv (k H locs ls h1 h2 h3 h4)
theorem j_lconst (C : jC p s m args c cc nL own Ts D cl tys A Sx E) {n : Fin 2} {v : Int64} (pn : Nat) (hpn : pc + 1 = pn) (hdg : decode cc pc = .ok (.lconst n, 1)) (hv : Int64.ofNat (n : Nat) = v) (k : jJ p l e R s m args below meth c cells slots Q D cl A Sx nL w (pn) lv (.long v :: rest)) : jJ p l e R s m args below meth c cells slots Q D cl A Sx nL w (pc) lv (rest) := by
  subst hpn
  exact fun H locs ls h1 h2 h3 h4 => lv_lconst C.x C.b hdg hv (k H locs ls h1 h2 h3 h4)
theorem j_dup (C : jC p s m args c cc nL own Ts D cl tys A Sx E) {va : Value} (pn : Nat) (hpn : pc + 1 = pn) (hdg : decode cc pc = .ok (.dup, 1)) (hva : va.category = 1) (k : jJ p l e R s m args below meth c cells slots Q D cl A Sx nL w (pn) lv (va :: va :: rest)) : jJ p l e R s m args below meth c cells slots Q D cl A Sx nL w (pc) lv (va :: rest) := by
  subst hpn
  exact fun H locs ls h1 h2 h3 h4 => lv_dup C.x C.b hdg hva (k H locs ls h1 h2 h3 h4)
theorem j_pop (C : jC p s m args c cc nL own Ts D cl tys A Sx E) {va : Value} (pn : Nat) (hpn : pc + 1 = pn) (hdg : decode cc pc = .ok (.pop, 1)) (hva : va.category = 1) (k : jJ p l e R s m args below meth c cells slots Q D cl A Sx nL w (pn) lv (rest)) : jJ p l e R s m args below meth c cells slots Q D cl A Sx nL w (pc) lv (va :: rest) := by
  subst hpn
  exact fun H locs ls h1 h2 h3 h4 => lv_pop C.x C.b hdg hva (k H locs ls h1 h2 h3 h4)
theorem j_dup_x1 (C : jC p s m args c cc nL own Ts D cl tys A Sx E) {va vb : Value} (pn : Nat) (hpn : pc + 1 = pn) (hdg : decode cc pc = .ok (.dup_x1, 1)) (hva : va.category = 1) (hvb : vb.category = 1) (k : jJ p l e R s m args below meth c cells slots Q D cl A Sx nL w (pn) lv (va :: vb :: va :: rest)) : jJ p l e R s m args below meth c cells slots Q D cl A Sx nL w (pc) lv (va :: vb :: rest) := by
  subst hpn
  exact fun H locs ls h1 h2 h3 h4 => lv_dup_x1 C.x C.b hdg hva hvb (k H locs ls h1 h2 h3 h4)
theorem j_dup_x2 (C : jC p s m args c cc nL own Ts D cl tys A Sx E) {va vb vd : Value} (pn : Nat) (hpn : pc + 1 = pn) (hdg : decode cc pc = .ok (.dup_x2, 1)) (hva : va.category = 1) (hvb : vb.category = 1) (hvd : vd.category = 1) (k : jJ p l e R s m args below meth c cells slots Q D cl A Sx nL w (pn) lv (va :: vb :: vd :: va :: rest)) : jJ p l e R s m args below meth c cells slots Q D cl A Sx nL w (pc) lv (va :: vb :: vd :: rest) := by
  subst hpn
  exact fun H locs ls h1 h2 h3 h4 => lv_dup_x2 C.x C.b hdg hva hvb hvd (k H locs ls h1 h2 h3 h4)
theorem j_dup2 (C : jC p s m args c cc nL own Ts D cl tys A Sx E) {va vb : Value} (pn : Nat) (hpn : pc + 1 = pn) (hdg : decode cc pc = .ok (.dup2, 1)) (hva : va.category = 1) (hvb : vb.category = 1) (k : jJ p l e R s m args below meth c cells slots Q D cl A Sx nL w (pn) lv (va :: vb :: va :: vb :: rest)) : jJ p l e R s m args below meth c cells slots Q D cl A Sx nL w (pc) lv (va :: vb :: rest) := by
  subst hpn
  exact fun H locs ls h1 h2 h3 h4 => lv_dup2_11 C.x C.b hdg hva hvb (k H locs ls h1 h2 h3 h4)
theorem j_iload_n (C : jC p s m args c cc nL own Ts D cl tys A Sx E) {k : Fin 4} {i : Nat} {x : Int32} (n pn : Nat) (hpn : pc + 1 = pn) (hdg : decode cc pc = .ok (.iload_n k, 1)) (hi : (k : Nat) = i) (hl : lv[n]? = some (i, .int x)) (k : jJ p l e R s m args below meth c cells slots Q D cl A Sx nL w (pn) lv (.int x :: rest)) : jJ p l e R s m args below meth c cells slots Q D cl A Sx nL w (pc) lv (rest) := by
  subst hpn
  exact fun H locs ls h1 h2 h3 h4 => lv_iload_n C.x C.b hdg hi (lv_at h4 n hl) (k H locs ls h1 h2 h3 h4)
theorem j_iload (C : jC p s m args c cc nL own Ts D cl tys A Sx E) {i : Nat} {x : Int32} (n pn : Nat) (hpn : pc + 2 = pn) (hdg : decode cc pc = .ok (.iload i, 2)) (hl : lv[n]? = some (i, .int x)) (k : jJ p l e R s m args below meth c cells slots Q D cl A Sx nL w (pn) lv (.int x :: rest)) : jJ p l e R s m args below meth c cells slots Q D cl A Sx nL w (pc) lv (rest) := by
  subst hpn
  exact fun H locs ls h1 h2 h3 h4 => lv_iload C.x C.b hdg (lv_at h4 n hl) (k H locs ls h1 h2 h3 h4)
theorem j_lload_n (C : jC p s m args c cc nL own Ts D cl tys A Sx E) {k : Fin 4} {i : Nat} {x : Int64} (n pn : Nat) (hpn : pc + 1 = pn) (hdg : decode cc pc = .ok (.lload_n k, 1)) (hi : (k : Nat) = i) (hl : lv[n]? = some (i, .long x)) (k : jJ p l e R s m args below meth c cells slots Q D cl A Sx nL w (pn) lv (.long x :: rest)) : jJ p l e R s m args below meth c cells slots Q D cl A Sx nL w (pc) lv (rest) := by
  subst hpn
  exact fun H locs ls h1 h2 h3 h4 => lv_lload_n C.x C.b hdg hi (lv_at h4 n hl) (k H locs ls h1 h2 h3 h4)
theorem j_lload (C : jC p s m args c cc nL own Ts D cl tys A Sx E) {i : Nat} {x : Int64} (n pn : Nat) (hpn : pc + 2 = pn) (hdg : decode cc pc = .ok (.lload i, 2)) (hl : lv[n]? = some (i, .long x)) (k : jJ p l e R s m args below meth c cells slots Q D cl A Sx nL w (pn) lv (.long x :: rest)) : jJ p l e R s m args below meth c cells slots Q D cl A Sx nL w (pc) lv (rest) := by
  subst hpn
  exact fun H locs ls h1 h2 h3 h4 => lv_lload C.x C.b hdg (lv_at h4 n hl) (k H locs ls h1 h2 h3 h4)
theorem j_aload_n (C : jC p s m args c cc nL own Ts D cl tys A Sx E) {k : Fin 4} {i : Nat} {x : Nat} (n pn : Nat) (hpn : pc + 1 = pn) (hdg : decode cc pc = .ok (.aload_n k, 1)) (hi : (k : Nat) = i) (hl : lv[n]? = some (i, .ref x)) (k : jJ p l e R s m args below meth c cells slots Q D cl A Sx nL w (pn) lv (.ref x :: rest)) : jJ p l e R s m args below meth c cells slots Q D cl A Sx nL w (pc) lv (rest) := by
  subst hpn
  exact fun H locs ls h1 h2 h3 h4 => lv_aload_n C.x C.b hdg hi (lv_at h4 n hl) (k H locs ls h1 h2 h3 h4)
theorem j_aload (C : jC p s m args c cc nL own Ts D cl tys A Sx E) {i : Nat} {x : Nat} (n pn : Nat) (hpn : pc + 2 = pn) (hdg : decode cc pc = .ok (.aload i, 2)) (hl : lv[n]? = some (i, .ref x)) (k : jJ p l e R s m args below meth c cells slots Q D cl A Sx nL w (pn) lv (.ref x :: rest)) : jJ p l e R s m args below meth c cells slots Q D cl A Sx nL w (pc) lv (rest) := by
  subst hpn
  exact fun H locs ls h1 h2 h3 h4 => lv_aload C.x C.b hdg (lv_at h4 n hl) (k H locs ls h1 h2 h3 h4)
theorem j_istore_n (C : jC p s m args c cc nL own Ts D cl tys A Sx E) {k : Fin 4} {i : Nat} {x : Int32} {lv' : List (Nat × Value)} (pn : Nat) (hpn : pc + 1 = pn) (hdg : decode cc pc = .ok (.istore_n k, 1)) (hi : (k : Nat) = i) (hn : i < nL) (hl : (i, Value.int x) :: lv.filter (fun q => !(q.1 == i) && !(q.1 + 1 == i && q.2.category == 2)) = lv') (k : jJ p l e R s m args below meth c cells slots Q D cl A Sx nL w (pn) lv' (rest)) : jJ p l e R s m args below meth c cells slots Q D cl A Sx nL w (pc) lv (.int x :: rest) := by
  subst hpn
  exact fun H locs ls h1 h2 h3 h4 => lv_istore_n C.x C.b hdg hi h4 hn hl (fun ls h4 => k H locs ls h1 h2 h3 h4)
theorem j_istore (C : jC p s m args c cc nL own Ts D cl tys A Sx E) {i : Nat} {x : Int32} {lv' : List (Nat × Value)} (pn : Nat) (hpn : pc + 2 = pn) (hdg : decode cc pc = .ok (.istore i, 2)) (hn : i < nL) (hl : (i, Value.int x) :: lv.filter (fun q => !(q.1 == i) && !(q.1 + 1 == i && q.2.category == 2)) = lv') (k : jJ p l e R s m args below meth c cells slots Q D cl A Sx nL w (pn) lv' (rest)) : jJ p l e R s m args below meth c cells slots Q D cl A Sx nL w (pc) lv (.int x :: rest) := by
  subst hpn
  exact fun H locs ls h1 h2 h3 h4 => lv_istore C.x C.b hdg h4 hn hl (fun ls h4 => k H locs ls h1 h2 h3 h4)
theorem j_lstore_n (C : jC p s m args c cc nL own Ts D cl tys A Sx E) {k : Fin 4} {i : Nat} {x : Int64} {lv' : List (Nat × Value)} (pn : Nat) (hpn : pc + 1 = pn) (hdg : decode cc pc = .ok (.lstore_n k, 1)) (hi : (k : Nat) = i) (hn : i + 1 < nL) (hl : (i, Value.long x) :: lv.filter (fun q => !(q.1 == i) && (!(q.1 == i + 1) && !(q.1 + 1 == i && q.2.category == 2))) = lv') (k : jJ p l e R s m args below meth c cells slots Q D cl A Sx nL w (pn) lv' (rest)) : jJ p l e R s m args below meth c cells slots Q D cl A Sx nL w (pc) lv (.long x :: rest) := by
  subst hpn
  exact fun H locs ls h1 h2 h3 h4 => lv_lstore_n C.x C.b hdg hi h4 hn hl (fun ls h4 => k H locs ls h1 h2 h3 h4)
theorem j_lstore (C : jC p s m args c cc nL own Ts D cl tys A Sx E) {i : Nat} {x : Int64} {lv' : List (Nat × Value)} (pn : Nat) (hpn : pc + 2 = pn) (hdg : decode cc pc = .ok (.lstore i, 2)) (hn : i + 1 < nL) (hl : (i, Value.long x) :: lv.filter (fun q => !(q.1 == i) && (!(q.1 == i + 1) && !(q.1 + 1 == i && q.2.category == 2))) = lv') (k : jJ p l e R s m args below meth c cells slots Q D cl A Sx nL w (pn) lv' (rest)) : jJ p l e R s m args below meth c cells slots Q D cl A Sx nL w (pc) lv (.long x :: rest) := by
  subst hpn
  exact fun H locs ls h1 h2 h3 h4 => lv_lstore C.x C.b hdg h4 hn hl (fun ls h4 => k H locs ls h1 h2 h3 h4)
theorem j_astore_n (C : jC p s m args c cc nL own Ts D cl tys A Sx E) {k : Fin 4} {i : Nat} {x : Nat} {lv' : List (Nat × Value)} (pn : Nat) (hpn : pc + 1 = pn) (hdg : decode cc pc = .ok (.astore_n k, 1)) (hi : (k : Nat) = i) (hn : i < nL) (hl : (i, Value.ref x) :: lv.filter (fun q => !(q.1 == i) && !(q.1 + 1 == i && q.2.category == 2)) = lv') (k : jJ p l e R s m args below meth c cells slots Q D cl A Sx nL w (pn) lv' (rest)) : jJ p l e R s m args below meth c cells slots Q D cl A Sx nL w (pc) lv (.ref x :: rest) := by
  subst hpn
  exact fun H locs ls h1 h2 h3 h4 => lv_astore_n C.x C.b hdg hi h4 hn hl (fun ls h4 => k H locs ls h1 h2 h3 h4)
theorem j_astore (C : jC p s m args c cc nL own Ts D cl tys A Sx E) {i : Nat} {x : Nat} {lv' : List (Nat × Value)} (pn : Nat) (hpn : pc + 2 = pn) (hdg : decode cc pc = .ok (.astore i, 2)) (hn : i < nL) (hl : (i, Value.ref x) :: lv.filter (fun q => !(q.1 == i) && !(q.1 + 1 == i && q.2.category == 2)) = lv') (k : jJ p l e R s m args below meth c cells slots Q D cl A Sx nL w (pn) lv' (rest)) : jJ p l e R s m args below meth c cells slots Q D cl A Sx nL w (pc) lv (.ref x :: rest) := by
  subst hpn
  exact fun H locs ls h1 h2 h3 h4 => lv_astore C.x C.b hdg h4 hn hl (fun ls h4 => k H locs ls h1 h2 h3 h4)
theorem j_iinc (C : jC p s m args c cc nL own Ts D cl tys A Sx E) {i : Nat} {n : Int} {x v : Int32} {lv' : List (Nat × Value)} (k0 pn : Nat) (hpn : pc + 3 = pn) (hdg : decode cc pc = .ok (.iinc i n, 3)) (hk : lv[k0]? = some (i, .int x)) (hv : x + Int32.ofInt n = v) (hn : i < nL) (hl : (i, Value.int v) :: lv.filter (fun q => !(q.1 == i) && !(q.1 + 1 == i && q.2.category == 2)) = lv') (k : jJ p l e R s m args below meth c cells slots Q D cl A Sx nL w (pn) lv' (rest)) : jJ p l e R s m args below meth c cells slots Q D cl A Sx nL w (pc) lv (rest) := by
  subst hpn
  exact fun H locs ls h1 h2 h3 h4 => lv_iinc C.x C.b hdg h4 hk hv hn hl (fun ls h4 => k H locs ls h1 h2 h3 h4)
theorem j_if_eq (C : jC p s m args c cc nL own Ts D cl tys A Sx E) {x : Int32} {off : Int} (tgt pn : Nat) (hpn : pc + 3 = pn) (hdg : decode cc pc = .ok (.ifCond .eq off, 3)) (ht : (pc : Int) + off = (tgt : Int)) (kt : x = 0 → jJ p l e R s m args below meth c cells slots Q D cl A Sx nL w (tgt) lv (rest)) (kf : ¬ x = 0 → jJ p l e R s m args below meth c cells slots Q D cl A Sx nL w (pn) lv (rest)) : jJ p l e R s m args below meth c cells slots Q D cl A Sx nL w (pc) lv (.int x :: rest) := by
  subst hpn
  exact fun H locs ls h1 h2 h3 h4 => lv_if_eq C.x C.b hdg ht (fun q => kt q H locs ls h1 h2 h3 h4) (fun q => kf q H locs ls h1 h2 h3 h4)
theorem j_if_ne (C : jC p s m args c cc nL own Ts D cl tys A Sx E) {x : Int32} {off : Int} (tgt pn : Nat) (hpn : pc + 3 = pn) (hdg : decode cc pc = .ok (.ifCond .ne off, 3)) (ht : (pc : Int) + off = (tgt : Int)) (kt : ¬ x = 0 → jJ p l e R s m args below meth c cells slots Q D cl A Sx nL w (tgt) lv (rest)) (kf : x = 0 → jJ p l e R s m args below meth c cells slots Q D cl A Sx nL w (pn) lv (rest)) : jJ p l e R s m args below meth c cells slots Q D cl A Sx nL w (pc) lv (.int x :: rest) := by
  subst hpn
  exact fun H locs ls h1 h2 h3 h4 => lv_if_ne C.x C.b hdg ht (fun q => kt q H locs ls h1 h2 h3 h4) (fun q => kf q H locs ls h1 h2 h3 h4)
theorem j_if_lt (C : jC p s m args c cc nL own Ts D cl tys A Sx E) {x : Int32} {off : Int} (tgt pn : Nat) (hpn : pc + 3 = pn) (hdg : decode cc pc = .ok (.ifCond .lt off, 3)) (ht : (pc : Int) + off = (tgt : Int)) (kt : x < 0 → jJ p l e R s m args below meth c cells slots Q D cl A Sx nL w (tgt) lv (rest)) (kf : ¬ x < 0 → jJ p l e R s m args below meth c cells slots Q D cl A Sx nL w (pn) lv (rest)) : jJ p l e R s m args below meth c cells slots Q D cl A Sx nL w (pc) lv (.int x :: rest) := by
  subst hpn
  exact fun H locs ls h1 h2 h3 h4 => lv_if_lt C.x C.b hdg ht (fun q => kt q H locs ls h1 h2 h3 h4) (fun q => kf q H locs ls h1 h2 h3 h4)
theorem j_if_ge (C : jC p s m args c cc nL own Ts D cl tys A Sx E) {x : Int32} {off : Int} (tgt pn : Nat) (hpn : pc + 3 = pn) (hdg : decode cc pc = .ok (.ifCond .ge off, 3)) (ht : (pc : Int) + off = (tgt : Int)) (kt : 0 ≤ x → jJ p l e R s m args below meth c cells slots Q D cl A Sx nL w (tgt) lv (rest)) (kf : ¬ 0 ≤ x → jJ p l e R s m args below meth c cells slots Q D cl A Sx nL w (pn) lv (rest)) : jJ p l e R s m args below meth c cells slots Q D cl A Sx nL w (pc) lv (.int x :: rest) := by
  subst hpn
  exact fun H locs ls h1 h2 h3 h4 => lv_if_ge C.x C.b hdg ht (fun q => kt q H locs ls h1 h2 h3 h4) (fun q => kf q H locs ls h1 h2 h3 h4)
theorem j_if_gt (C : jC p s m args c cc nL own Ts D cl tys A Sx E) {x : Int32} {off : Int} (tgt pn : Nat) (hpn : pc + 3 = pn) (hdg : decode cc pc = .ok (.ifCond .gt off, 3)) (ht : (pc : Int) + off = (tgt : Int)) (kt : 0 < x → jJ p l e R s m args below meth c cells slots Q D cl A Sx nL w (tgt) lv (rest)) (kf : ¬ 0 < x → jJ p l e R s m args below meth c cells slots Q D cl A Sx nL w (pn) lv (rest)) : jJ p l e R s m args below meth c cells slots Q D cl A Sx nL w (pc) lv (.int x :: rest) := by
  subst hpn
  exact fun H locs ls h1 h2 h3 h4 => lv_if_gt C.x C.b hdg ht (fun q => kt q H locs ls h1 h2 h3 h4) (fun q => kf q H locs ls h1 h2 h3 h4)
theorem j_if_le (C : jC p s m args c cc nL own Ts D cl tys A Sx E) {x : Int32} {off : Int} (tgt pn : Nat) (hpn : pc + 3 = pn) (hdg : decode cc pc = .ok (.ifCond .le off, 3)) (ht : (pc : Int) + off = (tgt : Int)) (kt : x ≤ 0 → jJ p l e R s m args below meth c cells slots Q D cl A Sx nL w (tgt) lv (rest)) (kf : ¬ x ≤ 0 → jJ p l e R s m args below meth c cells slots Q D cl A Sx nL w (pn) lv (rest)) : jJ p l e R s m args below meth c cells slots Q D cl A Sx nL w (pc) lv (.int x :: rest) := by
  subst hpn
  exact fun H locs ls h1 h2 h3 h4 => lv_if_le C.x C.b hdg ht (fun q => kt q H locs ls h1 h2 h3 h4) (fun q => kf q H locs ls h1 h2 h3 h4)
theorem j_icmp_eq (C : jC p s m args c cc nL own Ts D cl tys A Sx E) {x y : Int32} {off : Int} (tgt pn : Nat) (hpn : pc + 3 = pn) (hdg : decode cc pc = .ok (.if_icmp .eq off, 3)) (ht : (pc : Int) + off = (tgt : Int)) (kt : x = y → jJ p l e R s m args below meth c cells slots Q D cl A Sx nL w (tgt) lv (rest)) (kf : ¬ x = y → jJ p l e R s m args below meth c cells slots Q D cl A Sx nL w (pn) lv (rest)) : jJ p l e R s m args below meth c cells slots Q D cl A Sx nL w (pc) lv (.int y :: .int x :: rest) := by
  subst hpn
  exact fun H locs ls h1 h2 h3 h4 => lv_icmp_eq C.x C.b hdg ht (fun q => kt q H locs ls h1 h2 h3 h4) (fun q => kf q H locs ls h1 h2 h3 h4)
theorem j_icmp_ne (C : jC p s m args c cc nL own Ts D cl tys A Sx E) {x y : Int32} {off : Int} (tgt pn : Nat) (hpn : pc + 3 = pn) (hdg : decode cc pc = .ok (.if_icmp .ne off, 3)) (ht : (pc : Int) + off = (tgt : Int)) (kt : ¬ x = y → jJ p l e R s m args below meth c cells slots Q D cl A Sx nL w (tgt) lv (rest)) (kf : x = y → jJ p l e R s m args below meth c cells slots Q D cl A Sx nL w (pn) lv (rest)) : jJ p l e R s m args below meth c cells slots Q D cl A Sx nL w (pc) lv (.int y :: .int x :: rest) := by
  subst hpn
  exact fun H locs ls h1 h2 h3 h4 => lv_icmp_ne C.x C.b hdg ht (fun q => kt q H locs ls h1 h2 h3 h4) (fun q => kf q H locs ls h1 h2 h3 h4)
theorem j_icmp_lt (C : jC p s m args c cc nL own Ts D cl tys A Sx E) {x y : Int32} {off : Int} (tgt pn : Nat) (hpn : pc + 3 = pn) (hdg : decode cc pc = .ok (.if_icmp .lt off, 3)) (ht : (pc : Int) + off = (tgt : Int)) (kt : x < y → jJ p l e R s m args below meth c cells slots Q D cl A Sx nL w (tgt) lv (rest)) (kf : ¬ x < y → jJ p l e R s m args below meth c cells slots Q D cl A Sx nL w (pn) lv (rest)) : jJ p l e R s m args below meth c cells slots Q D cl A Sx nL w (pc) lv (.int y :: .int x :: rest) := by
  subst hpn
  exact fun H locs ls h1 h2 h3 h4 => lv_icmp_lt C.x C.b hdg ht (fun q => kt q H locs ls h1 h2 h3 h4) (fun q => kf q H locs ls h1 h2 h3 h4)
theorem j_icmp_ge (C : jC p s m args c cc nL own Ts D cl tys A Sx E) {x y : Int32} {off : Int} (tgt pn : Nat) (hpn : pc + 3 = pn) (hdg : decode cc pc = .ok (.if_icmp .ge off, 3)) (ht : (pc : Int) + off = (tgt : Int)) (kt : y ≤ x → jJ p l e R s m args below meth c cells slots Q D cl A Sx nL w (tgt) lv (rest)) (kf : ¬ y ≤ x → jJ p l e R s m args below meth c cells slots Q D cl A Sx nL w (pn) lv (rest)) : jJ p l e R s m args below meth c cells slots Q D cl A Sx nL w (pc) lv (.int y :: .int x :: rest) := by
  subst hpn
  exact fun H locs ls h1 h2 h3 h4 => lv_icmp_ge C.x C.b hdg ht (fun q => kt q H locs ls h1 h2 h3 h4) (fun q => kf q H locs ls h1 h2 h3 h4)
theorem j_icmp_gt (C : jC p s m args c cc nL own Ts D cl tys A Sx E) {x y : Int32} {off : Int} (tgt pn : Nat) (hpn : pc + 3 = pn) (hdg : decode cc pc = .ok (.if_icmp .gt off, 3)) (ht : (pc : Int) + off = (tgt : Int)) (kt : y < x → jJ p l e R s m args below meth c cells slots Q D cl A Sx nL w (tgt) lv (rest)) (kf : ¬ y < x → jJ p l e R s m args below meth c cells slots Q D cl A Sx nL w (pn) lv (rest)) : jJ p l e R s m args below meth c cells slots Q D cl A Sx nL w (pc) lv (.int y :: .int x :: rest) := by
  subst hpn
  exact fun H locs ls h1 h2 h3 h4 => lv_icmp_gt C.x C.b hdg ht (fun q => kt q H locs ls h1 h2 h3 h4) (fun q => kf q H locs ls h1 h2 h3 h4)
theorem j_icmp_le (C : jC p s m args c cc nL own Ts D cl tys A Sx E) {x y : Int32} {off : Int} (tgt pn : Nat) (hpn : pc + 3 = pn) (hdg : decode cc pc = .ok (.if_icmp .le off, 3)) (ht : (pc : Int) + off = (tgt : Int)) (kt : x ≤ y → jJ p l e R s m args below meth c cells slots Q D cl A Sx nL w (tgt) lv (rest)) (kf : ¬ x ≤ y → jJ p l e R s m args below meth c cells slots Q D cl A Sx nL w (pn) lv (rest)) : jJ p l e R s m args below meth c cells slots Q D cl A Sx nL w (pc) lv (.int y :: .int x :: rest) := by
  subst hpn
  exact fun H locs ls h1 h2 h3 h4 => lv_icmp_le C.x C.b hdg ht (fun q => kt q H locs ls h1 h2 h3 h4) (fun q => kf q H locs ls h1 h2 h3 h4)
theorem j_goto (C : jC p s m args c cc nL own Ts D cl tys A Sx E) {off : Int} (tgt : Nat) (hdg : decode cc pc = .ok (.goto off, 3)) (ht : (pc : Int) + off = (tgt : Int)) (k : jJ p l e R s m args below meth c cells slots Q D cl A Sx nL w (tgt) lv (rest)) : jJ p l e R s m args below meth c cells slots Q D cl A Sx nL w (pc) lv (rest) := fun H locs ls h1 h2 h3 h4 => lv_goto C.x C.b hdg ht (k H locs ls h1 h2 h3 h4)
theorem j_lcmp (C : jC p s m args c cc nL own Ts D cl tys A Sx E) {x y : Int64} (pn : Nat) (hpn : pc + 1 = pn) (hdg : decode cc pc = .ok (.lcmp, 1)) (k : jJ p l e R s m args below meth c cells slots Q D cl A Sx nL w (pn) lv (.int (lg_cmp x y) :: rest)) : jJ p l e R s m args below meth c cells slots Q D cl A Sx nL w (pc) lv (.long y :: .long x :: rest) := by
  subst hpn
  exact fun H locs ls h1 h2 h3 h4 => W.lcmp C.x C.b hdg (k H locs ls h1 h2 h3 h4)
theorem j_tswOut (C : jC p s m args c cc nL own Ts D cl tys A Sx E) {dflt lo hi : Int} {offs : Array Int} {len : Nat} {x : Int32} (tgt : Nat) (hdg : decode cc pc = .ok (.tableswitch dflt lo hi offs, len)) (h : x.toInt < lo ∨ hi < x.toInt) (ht : (pc : Int) + dflt = (tgt : Int)) (k : jJ p l e R s m args below meth c cells slots Q D cl A Sx nL w (tgt) lv (rest)) : jJ p l e R s m args below meth c cells slots Q D cl A Sx nL w (pc) lv (.int x :: rest) := fun H locs ls h1 h2 h3 h4 => lv_tableOut C.x C.b hdg h ht (k H locs ls h1 h2 h3 h4)
theorem j_tswIn (C : jC p s m args c cc nL own Ts D cl tys A Sx E) {dflt lo hi : Int} {offs : Array Int} {len : Nat} {x : Int32} {off : Int} (tgt : Nat) (hdg : decode cc pc = .ok (.tableswitch dflt lo hi offs, len)) (g1 : ¬ x.toInt < lo) (g2 : ¬ hi < x.toInt) (ho : offs[(x.toInt - lo).toNat]? = some off) (ht : (pc : Int) + off = (tgt : Int)) (k : jJ p l e R s m args below meth c cells slots Q D cl A Sx nL w (tgt) lv (rest)) : jJ p l e R s m args below meth c cells slots Q D cl A Sx nL w (pc) lv (.int x :: rest) := fun H locs ls h1 h2 h3 h4 => lv_tableIn C.x C.b hdg g1 g2 ho ht (k H locs ls h1 h2 h3 h4)
theorem j_ldc2 (C : jC p s m args c cc nL own Ts D cl tys A Sx E) {index : Nat} {v : Int64} (pn : Nat) (hpn : pc + 3 = pn) (hc : (Jvm.Cond.constantLong own index v) ∈ Ts) (hdg : decode cc pc = .ok (.ldc2_w index, 3)) (k : jJ p l e R s m args below meth c cells slots Q D cl A Sx nL w (pn) lv (.long v :: rest)) : jJ p l e R s m args below meth c cells slots Q D cl A Sx nL w (pc) lv (rest) := by
  subst hpn
  exact fun H locs ls h1 h2 h3 h4 => lv_ldc2 C.x C.b C.o (C.t _ hc) hdg (k H locs ls h1 h2 h3 h4)
theorem j_topi {x : Int32} (k : ∀ y : Int32, y = x → jJ p l e R s m args below meth c cells slots Q D cl A Sx nL w (pc) lv (.int y :: rest)) : jJ p l e R s m args below meth c cells slots Q D cl A Sx nL w (pc) lv (.int x :: rest) := k x rfl
theorem j_eqi {x y : Int32} (h : x = y) (k : jJ p l e R s m args below meth c cells slots Q D cl A Sx nL w (pc) lv (.int y :: rest)) : jJ p l e R s m args below meth c cells slots Q D cl A Sx nL w (pc) lv (.int x :: rest) := h ▸ k
theorem j_eqw {w2 : va_W} (h : w = w2) (k : jJ p l e R s m args below meth c cells slots Q D cl A Sx nL w2 (pc) lv (rest)) : jJ p l e R s m args below meth c cells slots Q D cl A Sx nL w (pc) lv (rest) := h ▸ k
theorem j_widen {k n : Nat} (g1 : cells ≤ k) (g2 : slots ≤ n) (kk : jJ p l e R s m args below meth c k n Q D cl A Sx nL w pc lv rest) : jJ p l e R s m args below meth c cells slots Q D cl A Sx nL w (pc) lv (rest) := fun H locs ls h1 h2 h3 h4 => W.widen g1 g2 (kk H locs ls h1 h2 h3 h4)
theorem j_sub {lv' : List (Nat × Value)} (ks : List Nat) (hl : lv_pick lv ks = lv') (k : jJ p l e R s m args below meth c cells slots Q D cl A Sx nL w (pc) lv' (rest)) : jJ p l e R s m args below meth c cells slots Q D cl A Sx nL w (pc) lv (rest) := fun H locs ls h1 h2 h3 h4 => k H locs ls h1 h2 h3 (lv_sub h4 ks hl)
def jQ (D : va_G) (cl : List vw_C) (v : Option Value) (w' : va_W) (A : Nat → Prop) : Array Value → State → Outcome → State → Prop := fun _ st oc t => oc = .returned v ∧ va_P D cl w' t.heap ∧ va_D A w' ∧ va_F A st t
def jPre (D : va_G) (cl : List vw_C) (tys : List (ClassId × FieldType)) (E : State → Prop) (w : va_W) (sz : Nat) (U : State) : Prop := U.heap.size = sz ∧ va_P D cl w U.heap ∧ va_K D cl tys U ∧ va_D (fun _ => True) w ∧ E U
/-- y, called with av in the world w, answers v and leaves w' -/
def jM (l : Launch) (D : va_G) (cl : List vw_C) (tys : List (ClassId × FieldType)) (E : State → Prop) (y : MethodName) (ws : List Cond) (rm : Room) (av : List Value) (w : va_W) (v : Option Value) (w' : va_W) : Prop :=
  ∀ sz : Nat, Met l y ws rm (va_Pc av (jPre D cl tys E w sz)) (jQ D cl v w' (va_A w sz)) 0 0 (va_A w sz)
theorem jM.of {y : MethodName} {ws ws' : List Cond} {rm : Room} {maxL : Nat} {ret : Option FieldType} {av : List Value} {w' : va_W} {v : Option Value} (hE : jLoc D cl E) (hy : plainName y.cls = true) (ho : y.cls = own) (hw : ws = Cond.code y cc maxL ret :: ws') (hlen : (lg_sl av).length ≤ maxL) (hlv : lv_args 0 av = lv)
    (body : ∀ (p : Program) (e : Env) (s : State) (m : MethodId) (args : Array Value) (below : List Frame) (meth : Method) (c : Code) (A : Nat → Prop), jC p s m args c cc maxL own ws D cl tys A (va_S A s.heap) E → meth.sig.returnType = ret → meth.locks = false →
      jJ p l e rm s m args below meth c 0 0 (MQ below (jQ D cl v w' A) args s 0 0 A) D cl A (va_S A s.heap) maxL w 0 lv []) : jM l D cl tys E y ws rm av w v w' := by
  intro sz
  refine Met.ofW (cc := cc) (maxL := maxL) (ret := ret) hy hw ?_
  intro p e s m args below meth c s₁ B hml hv
  obtain ⟨rfl, hsz, hP, hK, hD0, hE0⟩ := hv
  subst hsz
  have hD := hD0.self (sz := s.heap.size)
  have K := body p e s m av.toArray below meth c (va_A w s.heap.size) ⟨B.exec, B.bytes, hml, by rw [← ho]; exact findClass_of_methodNamed B.named, atoms_spec (ws := ws) B.pre, hK, fun q h => Or.inr h, fun U hq hW => hE.2 s U w hE0 hP hq hW, fun _ _ h => h⟩ B.returns B.notSynchronized
  have hl := lv_entry av (n := maxL) hlen
  rw [hlv] at hl
  rw [lg_entry_eq]
  exact K s.heap [] _ hP hD va_S.rf hl
theorem j_iret (C : jC p s m args c cc nL own Ts D cl tys A Sx E) (hr : meth.sig.returnType = some .int) (hlk : meth.locks = false) {x r : Int32} {w' : va_W} (hdg : decode cc pc = .ok (.ireturn, 1)) (hv : x = r) (hw : w = w') : jJ p l e R s m args below meth c 0 0 (MQ below (jQ D cl (some (.int r)) w' A) args s 0 0 A) D cl A Sx nL w pc lv ([.int x]) := by
  subst hv
  subst hw
  intro H locs ls h1 h2 h3 h4
  exact W.iret C.x C.b hr (fun t ht _ => ⟨rfl, by rw [ht]; exact h1, h2, (C.sx H locs h3).F ht⟩) (C.sx H locs h3).2.2 hdg hlk
def bI (b : Bool) : Int32 := if b then 1 else 0
theorem bI0 {b : Bool} (h : bI b = 0) : b = false := by
  cases b
  · rfl
  · exact absurd h (by decide)
theorem bI1 {b : Bool} (h : ¬ bI b = 0) : b = true := by
  cases b
  · exact absurd rfl h
  · rfl
theorem bI_nar (b : Bool) : narrow .boolean (.int (bI b)) = .int (bI b) := by cases b <;> rfl
theorem j_zret (C : jC p s m args c cc nL own Ts D cl tys A Sx E) (hr : meth.sig.returnType = some .boolean) (hlk : meth.locks = false) {x : Int32} {b : Bool} {w' : va_W} (hdg : decode cc pc = .ok (.ireturn, 1)) (hv : x = bI b) (hw : w = w') : jJ p l e R s m args below meth c 0 0 (MQ below (jQ D cl (some (.int (bI b))) w' A) args s 0 0 A) D cl A Sx nL w pc lv ([.int x]) := by
  subst hv
  subst hw
  intro H locs ls h1 h2 h3 h4
  exact W.zret C.x C.b hr (bI_nar b) (fun t ht _ => ⟨rfl, by rw [ht]; exact h1, h2, (C.sx H locs h3).F ht⟩) (C.sx H locs h3).2.2 hdg hlk
theorem j_vret (C : jC p s m args c cc nL own Ts D cl tys A Sx E) (hr : meth.sig.returnType = none) (hlk : meth.locks = false) {w' : va_W} (hdg : decode cc pc = .ok (.return_, 1)) (hw : w = w') : jJ p l e R s m args below meth c 0 0 (MQ below (jQ D cl none w' A) args s 0 0 A) D cl A Sx nL w pc lv ([]) := by
  subst hw
  intro H locs ls h1 h2 h3 h4
  exact W.vret C.x C.b hr (fun t ht _ => ⟨rfl, by rw [ht]; exact h1, h2, (C.sx H locs h3).F ht⟩) (C.sx H locs h3).2.2 hdg hlk
theorem jS_keep {H H1 : Heap} {locs L : List Loc} {A1 : Nat → Prop} (hS : va_S A s.heap H locs) (hA : ∀ q, A1 q → A q) (hL : ∀ q ∈ L, A1 q.base) (hz : H.size ≤ H1.size) (hk : ∀ q : Nat, q < H.size → ¬ A1 q → H1[q]? = H[q]?) : va_S A s.heap H1 (locs ++ L) :=
  ⟨Nat.le_trans hS.1 hz, fun q h1 h2 => by rw [hk q (Nat.lt_of_lt_of_le h1 hS.1) (fun z => h2 (hA q z))]; exact hS.2.1 q h1 h2, fun q hq => (List.mem_append.mp hq).elim (hS.2.2 q) (fun h => hA _ (hL q h))⟩
theorem jA_sub {H : Heap} {locs : List Loc} (hA : ∀ q : Nat, s.heap.size ≤ q → A q) (hD : va_D A w) (hS : va_S A s.heap H locs) : ∀ q, va_A w H.size q → A q := by
  intro q h
  rcases h with ⟨k, e, h⟩ | h
  · exact hD.2 k (q, e) h
  · exact hA q (Nat.le_trans hS.1 h)
theorem jBlind {av : List Value} {sz : Nat} (hE : jLoc D cl E) : FrameBlind (va_Pc av (jPre D cl tys E w sz)) := fun a U g mk q => by
  obtain ⟨q0, q1, qP, qK, qD, qE⟩ := q
  exact ⟨q0, q1, qP, va_K.moved (u := U) (U := U.calling g mk a) (Vm.Alike.refl U.vm) qK, qD, hE.1 a U g mk qE⟩
theorem jPre_at (C : jC p s m args c cc nL own Ts D cl tys A Sx E) {av : List Value} {H : Heap} {locs : List Loc} (hP : va_P D cl w H) (hD : va_D A w) (hS : va_S A s.heap H locs) : ∀ U : State, U.heap = H → s.WarmedH U.vm → va_Pc av (jPre D cl tys E w H.size) av.toArray U :=
  fun U hU hW => ⟨rfl, by rw [hU], by rw [hU]; exact hP, va_K.moved hW.alike C.k, hD.weaken (fun _ _ _ _ => trivial), C.ev U (fun q h1 h2 => by rw [hU]; exact hS.2.1 q h1 h2) hW⟩
def jY (T : List Cond) (y : MethodName) (bytes : ByteArray) (maxL : Nat) (ret : Option FieldType) (n : Nat) : Prop := Cond.code y bytes maxL ret ∈ T ∧ Cond.instanceMethod y ∈ T ∧ Cond.selects y.cls y y ∈ T ∧ Cond.initialized y.cls ∈ T ∧ (y.cls ≠ "java/lang/invoke/MethodHandle" ∧ y.cls ≠ "java/lang/invoke/VarHandle") ∧ (parseMethodDescriptor y.desc).map (fun d => d.parameters.length) = some n
def jYs (T : List Cond) (y : MethodName) (bytes : ByteArray) (maxL : Nat) (ret : Option FieldType) (n : Nat) : Prop := Cond.code y bytes maxL ret ∈ T ∧ Cond.static y ∈ T ∧ Cond.initialized y.cls ∈ T ∧ (y.cls ≠ "java/lang/invoke/MethodHandle" ∧ y.cls ≠ "java/lang/invoke/VarHandle") ∧ (parseMethodDescriptor y.desc).map (fun d => d.parameters.length) = some n
def jG (T : List Cond) : Prop := ∀ w ∈ T, goodWord w = true
theorem jG.in {T : List Cond} (hG : jG T) {w0 c0 : Cond} (h : w0 ∈ T) : GoodIn (c0 :: T) (w0 :: T) := fun w hw => by
  have hm : w ∈ T := (List.mem_cons.mp hw).elim (fun e => by rw [e]; exact h) id
  exact ⟨List.mem_cons_of_mem _ hm, good_of_word (hG w hm)⟩
theorem jCB {T : List Cond} {c0 : Cond} (hG : jG T) (ht : ∀ w ∈ (c0 :: T), w.before args s = true) {y : MethodName} {bytes : ByteArray} {maxL : Nat} {ret : Option FieldType} {n index : Nat} {rm : Room} (h1 : Cond.code y bytes maxL ret ∈ T) (h2 : Cond.initialized y.cls ∈ T) (h3 : (y.cls ≠ "java/lang/invoke/MethodHandle" ∧ y.cls ≠ "java/lang/invoke/VarHandle") ∧ (parseMethodDescriptor y.desc).map (fun d => d.parameters.length) = some n) (hl : Cond.methodLink own index y ∈ T)
    (hc : rm.cells = 0) (hs : rm.slots = 0) (hR : rm.frames + 1 ≤ R.frames ∧ 8 + (maxL + 11) + rm.locals ≤ R.locals) : CallB R s args own index y bytes maxL ret (Cond.code y bytes maxL ret :: T) rm 0 0 n :=
  callB_of n ht (hG.in h1) rfl hc hs (ht _ (List.mem_cons_of_mem _ h2)) (ht _ (List.mem_cons_of_mem _ hl)) ⟨h3.1.1, h3.1.2, h3.2⟩ hR
theorem j_callV {T : List Cond} {c0 : Cond} (C : jC p s m args c cc nL own (c0 :: T) D cl tys A (va_S A s.heap) E) (hE : jLoc D cl E) (hG : jG T) {y : MethodName} {bytes : ByteArray} {maxL : Nat} {ret : Option FieldType} {n index : Nat} {rm : Room} {b : Nat} {As st' : List Value} {v : Option Value} {w2 : va_W}
    (hM : jM l D cl tys E y (Cond.code y bytes maxL ret :: T) rm (.ref b :: As) w v w2) (hY : jY T y bytes maxL ret n) (hl : Cond.methodLink own index y ∈ T) (hr : rm.cells = 0 ∧ rm.slots = 0) (hR : rm.frames + 1 ≤ R.frames ∧ 8 + (maxL + 11) + rm.locals ≤ R.locals)
    (q0 : Nat) {ci : Nat} {fs : List Value} {qC : vw_C} (he : w[q0]? = some (b, .inr (ci, fs))) (hc : cl[ci]? = some qC) (hq : qC.1 = y.cls) (hn : As.length = n) (hst : (rest.map fun v => v.category).sum ≤ 8) (hf : cells ≤ R.cells ∧ slots ≤ R.slots) (hdg : decode cc pc = .ok (.invokevirtual index, 3)) {st0 : List Value} (pn : Nat) (hpn : pc + 3 = pn) (hs0 : st0 = As.reverse ++ .ref b :: rest) (hs' : v.toList ++ rest = st')
    (k : jJ p l e R s m args below meth c cells slots Q D cl A (va_S A s.heap) nL w2 (pn) lv (st')) : jJ p l e R s m args below meth c cells slots Q D cl A (va_S A s.heap) nL w (pc) lv (st0) := by
  subst hpn
  subst hs0
  intro H locs ls hP hD hS hl4 T0 hT X
  subst hs'
  have hb := va_recv C.k hP hc he
  rw [hq] at hb
  have hA := jA_sub C.a hD hS
  obtain ⟨v1, st₀, t, T', L, h0, X', hL, e1, e2, ⟨hv, hP2, hD2, hz, hk⟩, st⟩ := va_runV (As := As) (rest := rest) ⟨C.x, C.b, C.ml, C.o, C.t⟩ (hM H.size) ⟨jCB hG C.t hY.1 hY.2.2.2.1 hY.2.2.2.2 hl hr.1 hr.2 hR, C.t _ (List.mem_cons_of_mem _ hY.2.1), C.t _ (List.mem_cons_of_mem _ hY.2.2.1)⟩
    ⟨jBlind hE, hb, jPre_at C hP hD hS⟩ rfl hn hl4.1 rfl (lv_room hst) hdg ⟨hf.1, hf.2⟩ T0 hT X
  cases hv
  rw [h0] at hz hk
  obtain ⟨t2, a1, b1⟩ := k T'.heap (locs ++ L) ls (by rw [e1]; exact hP2) (hD2.weaken (fun _ q _ h => hA q.1 h)) (jS_keep hS hA hL (by rw [e1]; exact hz) (fun q g1 g2 => by rw [e1]; exact hk q g1 g2)) hl4 T' rfl X'
  exact ⟨t2, st t2 a1, b1⟩
theorem j_callS {T : List Cond} {c0 : Cond} (C : jC p s m args c cc nL own (c0 :: T) D cl tys A (va_S A s.heap) E) (hE : jLoc D cl E) (hG : jG T) {y : MethodName} {bytes : ByteArray} {maxL : Nat} {ret : Option FieldType} {n index : Nat} {rm : Room} {As st' : List Value} {v : Option Value} {w2 : va_W}
    (hM : jM l D cl tys E y (Cond.code y bytes maxL ret :: T) rm As w v w2) (hY : jYs T y bytes maxL ret n) (hl : Cond.methodLink own index y ∈ T) (hr : rm.cells = 0 ∧ rm.slots = 0) (hR : rm.frames + 1 ≤ R.frames ∧ 8 + (maxL + 11) + rm.locals ≤ R.locals)
    (hn : As.length = n) (hst : (rest.map fun v => v.category).sum ≤ 8) (hf : cells ≤ R.cells ∧ slots ≤ R.slots) (hdg : decode cc pc = .ok (.invokestatic index, 3)) {st0 : List Value} (pn : Nat) (hpn : pc + 3 = pn) (hs0 : st0 = As.reverse ++ rest) (hs' : v.toList ++ rest = st')
    (k : jJ p l e R s m args below meth c cells slots Q D cl A (va_S A s.heap) nL w2 (pn) lv (st')) : jJ p l e R s m args below meth c cells slots Q D cl A (va_S A s.heap) nL w (pc) lv (st0) := by
  subst hpn
  subst hs0
  intro H locs ls hP hD hS hl4 T0 hT X
  subst hs'
  have hA := jA_sub C.a hD hS
  obtain ⟨v1, st₀, t, T', L, h0, X', hL, e1, e2, ⟨hv, hP2, hD2, hz, hk⟩, st⟩ := va_runS (As := As) (rest := rest) ⟨C.x, C.b, C.ml, C.o, C.t⟩ (hM H.size) ⟨jCB hG C.t hY.1 hY.2.2.1 hY.2.2.2 hl hr.1 hr.2 hR, C.t _ (List.mem_cons_of_mem _ hY.2.1)⟩
    ⟨jBlind hE, jPre_at C hP hD hS⟩ rfl hn hl4.1 rfl (lv_room hst) hdg ⟨hf.1, hf.2⟩ T0 hT X
  cases hv
  rw [h0] at hz hk
  obtain ⟨t2, a1, b1⟩ := k T'.heap (locs ++ L) ls (by rw [e1]; exact hP2) (hD2.weaken (fun _ q _ h => hA q.1 h)) (jS_keep hS hA hL (by rw [e1]; exact hz) (fun q g1 g2 => by rw [e1]; exact hk q g1 g2)) hl4 T' rfl X'
  exact ⟨t2, st t2 a1, b1⟩
theorem j_callSN {T : List Cond} {c0 : Cond} (C : jC p s m args c cc nL own (c0 :: T) D cl tys A (va_S A s.heap) E) (hE : jLoc D cl E) (hG : jG T) {y : MethodName} {bytes : ByteArray} {maxL : Nat} {ret : Option FieldType} {n index : Nat} {rm : Room} {host : String} {As st' : List Value} {v : Option Value} {w2 : va_W}
    (hM : jM l D cl tys E y (Cond.code y bytes maxL ret :: T) rm As w v w2) (hY : jYs T y bytes maxL ret n) (hl : (Cond.methodLinkNest own index y host).before args s = true) (hr : rm.cells = 0 ∧ rm.slots = 0) (hR : rm.frames + 1 ≤ R.frames ∧ 8 + (maxL + 11) + rm.locals ≤ R.locals)
    (hn : As.length = n) (hst : (rest.map fun v => v.category).sum ≤ 8) (hf : cells ≤ R.cells ∧ slots ≤ R.slots) (hdg : decode cc pc = .ok (.invokestatic index, 3)) {st0 : List Value} (pn : Nat) (hpn : pc + 3 = pn) (hs0 : st0 = As.reverse ++ rest) (hs' : v.toList ++ rest = st')
    (k : jJ p l e R s m args below meth c cells slots Q D cl A (va_S A s.heap) nL w2 (pn) lv (st')) : jJ p l e R s m args below meth c cells slots Q D cl A (va_S A s.heap) nL w (pc) lv (st0) := by
  subst hpn
  subst hs0
  intro H locs ls hP hD hS hl4 T0 hT X
  subst hs'
  have hA := jA_sub C.a hD hS
  obtain ⟨v1, st₀, t, T', L, h0, X', hL, e1, e2, ⟨hv, hP2, hD2, hz, hk⟩, st⟩ := va_runSN (host := host) (As := As) (rest := rest) ⟨C.x, C.b, C.ml, C.o, C.t⟩ (hM H.size) ⟨⟨⟨hr.1, hr.2, hR.1, hR.2, pay_in C.t (hG.in hY.1), List.mem_cons_self⟩, C.t _ (List.mem_cons_of_mem _ hY.1), C.t _ (List.mem_cons_of_mem _ hY.2.2.1), hY.2.2.2.1, fun sig h => by have h2 := hY.2.2.2.2; rw [h] at h2; exact (Option.some.inj h2).symm, hl⟩, C.t _ (List.mem_cons_of_mem _ hY.2.1), trivial⟩
    ⟨jBlind hE, jPre_at C hP hD hS⟩ rfl hn hl4.1 rfl (lv_room hst) hdg ⟨hf.1, hf.2⟩ T0 hT X
  cases hv
  rw [h0] at hz hk
  obtain ⟨t2, a1, b1⟩ := k T'.heap (locs ++ L) ls (by rw [e1]; exact hP2) (hD2.weaken (fun _ q _ h => hA q.1 h)) (jS_keep hS hA hL (by rw [e1]; exact hz) (fun q g1 g2 => by rw [e1]; exact hk q g1 g2)) hl4 T' rfl X'
  exact ⟨t2, st t2 a1, b1⟩
theorem j_callVi {T : List Cond} {c0 : Cond} (C : jC p s m args c cc nL own (c0 :: T) D cl tys A (va_S A s.heap) E) (hE : jLoc D cl E) (hG : jG T) {y : MethodName} {bytes : ByteArray} {maxL : Nat} {ret : Option FieldType} {n index : Nat} {rm : Room} {b : Nat} {As : List Value} {x : Value} {w2 : va_W} (hM : jM l D cl tys E y (Cond.code y bytes maxL ret :: T) rm (.ref b :: As) w (some x) w2) (hY : jY T y bytes maxL ret n) (hl : Cond.methodLink own index y ∈ T) (hr : rm.cells = 0 ∧ rm.slots = 0) (hR : rm.frames + 1 ≤ R.frames ∧ 8 + (maxL + 11) + rm.locals ≤ R.locals) (q0 : Nat) {ci : Nat} {fs : List Value} {qC : vw_C} (he : w[q0]? = some (b, .inr (ci, fs))) (hc : cl[ci]? = some qC) (hq : qC.1 = y.cls) (hn : As.length = n) (hst : (rest.map fun v => v.category).sum ≤ 8) (hf : cells ≤ R.cells ∧ slots ≤ R.slots) (hdg : decode cc pc = .ok (.invokevirtual index, 3)) {st0 : List Value} (pn : Nat) (hpn : pc + 3 = pn) (hs0 : st0 = As.reverse ++ .ref b :: rest) (k : jJ p l e R s m args below meth c cells slots Q D cl A (va_S A s.heap) nL w2 (pn) lv (x :: rest)) : jJ p l e R s m args below meth c cells slots Q D cl A (va_S A s.heap) nL w (pc) lv (st0) := j_callV C hE hG hM hY hl hr hR q0 he hc hq hn hst hf hdg pn hpn hs0 rfl k
theorem j_callSi {T : List Cond} {c0 : Cond} (C : jC p s m args c cc nL own (c0 :: T) D cl tys A (va_S A s.heap) E) (hE : jLoc D cl E) (hG : jG T) {y : MethodName} {bytes : ByteArray} {maxL : Nat} {ret : Option FieldType} {n index : Nat} {rm : Room} {As : List Value} {x : Value} {w2 : va_W} (hM : jM l D cl tys E y (Cond.code y bytes maxL ret :: T) rm As w (some x) w2) (hY : jYs T y bytes maxL ret n) (hl : Cond.methodLink own index y ∈ T) (hr : rm.cells = 0 ∧ rm.slots = 0) (hR : rm.frames + 1 ≤ R.frames ∧ 8 + (maxL + 11) + rm.locals ≤ R.locals) (hn : As.length = n) (hst : (rest.map fun v => v.category).sum ≤ 8) (hf : cells ≤ R.cells ∧ slots ≤ R.slots) (hdg : decode cc pc = .ok (.invokestatic index, 3)) {st0 : List Value} (pn : Nat) (hpn : pc + 3 = pn) (hs0 : st0 = As.reverse ++ rest) (k : jJ p l e R s m args below meth c cells slots Q D cl A (va_S A s.heap) nL w2 (pn) lv (x :: rest)) : jJ p l e R s m args below meth c cells slots Q D cl A (va_S A s.heap) nL w (pc) lv (st0) := j_callS C hE hG hM hY hl hr hR hn hst hf hdg pn hpn hs0 rfl k
theorem j_callSNi {T : List Cond} {c0 : Cond} (C : jC p s m args c cc nL own (c0 :: T) D cl tys A (va_S A s.heap) E) (hE : jLoc D cl E) (hG : jG T) {y : MethodName} {bytes : ByteArray} {maxL : Nat} {ret : Option FieldType} {n index : Nat} {rm : Room} {host : String} {As : List Value} {x : Value} {w2 : va_W} (hM : jM l D cl tys E y (Cond.code y bytes maxL ret :: T) rm As w (some x) w2) (hY : jYs T y bytes maxL ret n) (hl : (Cond.methodLinkNest own index y host).before args s = true) (hr : rm.cells = 0 ∧ rm.slots = 0) (hR : rm.frames + 1 ≤ R.frames ∧ 8 + (maxL + 11) + rm.locals ≤ R.locals) (hn : As.length = n) (hst : (rest.map fun v => v.category).sum ≤ 8) (hf : cells ≤ R.cells ∧ slots ≤ R.slots) (hdg : decode cc pc = .ok (.invokestatic index, 3)) {st0 : List Value} (pn : Nat) (hpn : pc + 3 = pn) (hs0 : st0 = As.reverse ++ rest) (k : jJ p l e R s m args below meth c cells slots Q D cl A (va_S A s.heap) nL w2 (pn) lv (x :: rest)) : jJ p l e R s m args below meth c cells slots Q D cl A (va_S A s.heap) nL w (pc) lv (st0) := j_callSN C hE hG hM hY hl hr hR hn hst hf hdg pn hpn hs0 rfl k
theorem j_callVv {T : List Cond} {c0 : Cond} (C : jC p s m args c cc nL own (c0 :: T) D cl tys A (va_S A s.heap) E) (hE : jLoc D cl E) (hG : jG T) {y : MethodName} {bytes : ByteArray} {maxL : Nat} {ret : Option FieldType} {n index : Nat} {rm : Room} {b : Nat} {As : List Value} {w2 : va_W} (hM : jM l D cl tys E y (Cond.code y bytes maxL ret :: T) rm (.ref b :: As) w none w2) (hY : jY T y bytes maxL ret n) (hl : Cond.methodLink own index y ∈ T) (hr : rm.cells = 0 ∧ rm.slots = 0) (hR : rm.frames + 1 ≤ R.frames ∧ 8 + (maxL + 11) + rm.locals ≤ R.locals) (q0 : Nat) {ci : Nat} {fs : List Value} {qC : vw_C} (he : w[q0]? = some (b, .inr (ci, fs))) (hc : cl[ci]? = some qC) (hq : qC.1 = y.cls) (hn : As.length = n) (hst : (rest.map fun v => v.category).sum ≤ 8) (hf : cells ≤ R.cells ∧ slots ≤ R.slots) (hdg : decode cc pc = .ok (.invokevirtual index, 3)) {st0 : List Value} (pn : Nat) (hpn : pc + 3 = pn) (hs0 : st0 = As.reverse ++ .ref b :: rest) (k : jJ p l e R s m args below meth c cells slots Q D cl A (va_S A s.heap) nL w2 (pn) lv (rest)) : jJ p l e R s m args below meth c cells slots Q D cl A (va_S A s.heap) nL w (pc) lv (st0) := j_callV C hE hG hM hY hl hr hR q0 he hc hq hn hst hf hdg pn hpn hs0 rfl k
theorem j_callSv {T : List Cond} {c0 : Cond} (C : jC p s m args c cc nL own (c0 :: T) D cl tys A (va_S A s.heap) E) (hE : jLoc D cl E) (hG : jG T) {y : MethodName} {bytes : ByteArray} {maxL : Nat} {ret : Option FieldType} {n index : Nat} {rm : Room} {As : List Value} {w2 : va_W} (hM : jM l D cl tys E y (Cond.code y bytes maxL ret :: T) rm As w none w2) (hY : jYs T y bytes maxL ret n) (hl : Cond.methodLink own index y ∈ T) (hr : rm.cells = 0 ∧ rm.slots = 0) (hR : rm.frames + 1 ≤ R.frames ∧ 8 + (maxL + 11) + rm.locals ≤ R.locals) (hn : As.length = n) (hst : (rest.map fun v => v.category).sum ≤ 8) (hf : cells ≤ R.cells ∧ slots ≤ R.slots) (hdg : decode cc pc = .ok (.invokestatic index, 3)) {st0 : List Value} (pn : Nat) (hpn : pc + 3 = pn) (hs0 : st0 = As.reverse ++ rest) (k : jJ p l e R s m args below meth c cells slots Q D cl A (va_S A s.heap) nL w2 (pn) lv (rest)) : jJ p l e R s m args below meth c cells slots Q D cl A (va_S A s.heap) nL w (pc) lv (st0) := j_callS C hE hG hM hY hl hr hR hn hst hf hdg pn hpn hs0 rfl k
theorem j_callSNv {T : List Cond} {c0 : Cond} (C : jC p s m args c cc nL own (c0 :: T) D cl tys A (va_S A s.heap) E) (hE : jLoc D cl E) (hG : jG T) {y : MethodName} {bytes : ByteArray} {maxL : Nat} {ret : Option FieldType} {n index : Nat} {rm : Room} {host : String} {As : List Value} {w2 : va_W} (hM : jM l D cl tys E y (Cond.code y bytes maxL ret :: T) rm As w none w2) (hY : jYs T y bytes maxL ret n) (hl : (Cond.methodLinkNest own index y host).before args s = true) (hr : rm.cells = 0 ∧ rm.slots = 0) (hR : rm.frames + 1 ≤ R.frames ∧ 8 + (maxL + 11) + rm.locals ≤ R.locals) (hn : As.length = n) (hst : (rest.map fun v => v.category).sum ≤ 8) (hf : cells ≤ R.cells ∧ slots ≤ R.slots) (hdg : decode cc pc = .ok (.invokestatic index, 3)) {st0 : List Value} (pn : Nat) (hpn : pc + 3 = pn) (hs0 : st0 = As.reverse ++ rest) (k : jJ p l e R s m args below meth c cells slots Q D cl A (va_S A s.heap) nL w2 (pn) lv (rest)) : jJ p l e R s m args below meth c cells slots Q D cl A (va_S A s.heap) nL w (pc) lv (st0) := j_callSN C hE hG hM hY hl hr hR hn hst hf hdg pn hpn hs0 rfl k
theorem j_ald (C : jC p s m args c cc nL own Ts D cl tys A Sx E) {a : Nat} (q0 t0 : Nat) {cA : ClassId} {N : Nat} {f : Nat → Int32} (ha : w[q0]? = some (a, .inl (cA, N, .inl f))) (ht : tys[t0]? = some (cA, .int)) {i : Int32} (hin : vp_in i N) (pn : Nat) (hpn : pc + 1 = pn) (hdg : decode cc pc = .ok (.iaload, 1)) (k : jJ p l e R s m args below meth c cells slots Q D cl A Sx nL w (pn) lv (.int (f i.toNatClampNeg) :: rest)) : jJ p l e R s m args below meth c cells slots Q D cl A Sx nL w (pc) lv (.int i :: .ref a :: rest) := by
  subst hpn
  exact fun H locs ls h1 h2 h3 h4 => va_iald C.x C.b C.k h1 q0 t0 ha ht hin hdg (k H locs ls h1 h2 h3 h4)
theorem j_bld (C : jC p s m args c cc nL own Ts D cl tys A Sx E) {a : Nat} (q0 t0 : Nat) {cA : ClassId} {N : Nat} {f : Nat → Int32} (ha : w[q0]? = some (a, .inl (cA, N, .inl f))) (ht : tys[t0]? = some (cA, .byte)) {i : Int32} (hin : vp_in i N) (pn : Nat) (hpn : pc + 1 = pn) (hdg : decode cc pc = .ok (.baload, 1)) (k : jJ p l e R s m args below meth c cells slots Q D cl A Sx nL w (pn) lv (.int (f i.toNatClampNeg) :: rest)) : jJ p l e R s m args below meth c cells slots Q D cl A Sx nL w (pc) lv (.int i :: .ref a :: rest) := by
  subst hpn
  exact fun H locs ls h1 h2 h3 h4 => va_bald C.x C.b C.k h1 q0 t0 ha ht hin hdg (k H locs ls h1 h2 h3 h4)
theorem j_zld (C : jC p s m args c cc nL own Ts D cl tys A Sx E) {a : Nat} (q0 t0 : Nat) {cA : ClassId} {N : Nat} {g : Nat → Bool} (ha : w[q0]? = some (a, .inl (cA, N, .inl (fun i => bI (g i))))) (ht : tys[t0]? = some (cA, .boolean)) {i : Int32} (hin : vp_in i N) (pn : Nat) (hpn : pc + 1 = pn) (hdg : decode cc pc = .ok (.baload, 1)) (k : jJ p l e R s m args below meth c cells slots Q D cl A Sx nL w (pn) lv (.int (bI (g i.toNatClampNeg)) :: rest)) : jJ p l e R s m args below meth c cells slots Q D cl A Sx nL w (pc) lv (.int i :: .ref a :: rest) := by
  subst hpn
  exact fun H locs ls h1 h2 h3 h4 => va_zald C.x C.b C.k h1 q0 t0 ha ht hin hdg (k H locs ls h1 h2 h3 h4)
theorem j_ast (C : jC p s m args c cc nL own Ts D cl tys A (va_S A s.heap) E) {a : Nat} (q0 t0 : Nat) {cA : ClassId} {N : Nat} {f : Nat → Int32} (ha : w[q0]? = some (a, .inl (cA, N, .inl f))) (ht : tys[t0]? = some (cA, .int)) {i x : Int32} (hin : vp_in i N) (pn : Nat) (hpn : pc + 1 = pn) (hdg : decode cc pc = .ok (.iastore, 1)) (k : jJ p l e R s m args below meth c cells slots Q D cl A (va_S A s.heap) nL (w.set q0 (a, .inl (cA, N, .inl (upd f i.toNatClampNeg x)))) (pn) lv (rest)) : jJ p l e R s m args below meth c cells slots Q D cl A (va_S A s.heap) nL w (pc) lv (.int x :: .int i :: .ref a :: rest) := by
  subst hpn
  exact fun H locs ls h1 h2 h3 h4 => va_iast C.x C.b C.k h1 h2 h3 q0 t0 ha ht hin hdg (fun H1 locs1 g1 g2 g3 => k H1 locs1 ls g1 g2 g3 h4)
theorem j_bst (C : jC p s m args c cc nL own Ts D cl tys A (va_S A s.heap) E) {a : Nat} (q0 t0 : Nat) {cA : ClassId} {N : Nat} {f : Nat → Int32} (ha : w[q0]? = some (a, .inl (cA, N, .inl f))) (ht : tys[t0]? = some (cA, .byte)) {i x : Int32} (hin : vp_in i N) (pn : Nat) (hpn : pc + 1 = pn) (hdg : decode cc pc = .ok (.bastore, 1)) (k : jJ p l e R s m args below meth c cells slots Q D cl A (va_S A s.heap) nL (w.set q0 (a, .inl (cA, N, .inl (upd f i.toNatClampNeg x.toInt8.toInt32)))) (pn) lv (rest)) : jJ p l e R s m args below meth c cells slots Q D cl A (va_S A s.heap) nL w (pc) lv (.int x :: .int i :: .ref a :: rest) := by
  subst hpn
  intro H locs ls h1 h2 h3 h4
  refine va_bast C.x C.b C.k h1 h2 h3 q0 t0 ha ht hin hdg (fun H1 locs1 g1 g2 g3 => ?_)
  rw [vp_nar_byte] at g1 g2
  exact k H1 locs1 ls g1 g2 g3 h4
theorem bI_upd (g : Nat → Bool) (n : Nat) (b : Bool) : upd (fun i => bI (g i)) n (vp_nar .boolean (bI b)) = fun i => bI (va_up g n b i) := by
  funext j
  have e : vp_nar .boolean (bI b) = bI b := by cases b <;> rfl
  rw [e]
  by_cases h : j = n
  · simp [upd, va_up, h]
  · simp [upd, va_up, h]
theorem j_zst (C : jC p s m args c cc nL own Ts D cl tys A (va_S A s.heap) E) {a : Nat} (q0 t0 : Nat) {cA : ClassId} {N : Nat} {g : Nat → Bool} (ha : w[q0]? = some (a, .inl (cA, N, .inl (fun i => bI (g i))))) (ht : tys[t0]? = some (cA, .boolean)) {i x : Int32} (hin : vp_in i N) {b : Bool} (hb : x = bI b) (pn : Nat) (hpn : pc + 1 = pn) (hdg : decode cc pc = .ok (.bastore, 1)) (k : jJ p l e R s m args below meth c cells slots Q D cl A (va_S A s.heap) nL (w.set q0 (a, .inl (cA, N, .inl (fun j => bI (va_up g i.toNatClampNeg b j))))) (pn) lv (rest)) : jJ p l e R s m args below meth c cells slots Q D cl A (va_S A s.heap) nL w (pc) lv (.int x :: .int i :: .ref a :: rest) := by
  subst hpn
  subst hb
  intro H locs ls h1 h2 h3 h4
  refine va_zast C.x C.b C.k h1 h2 h3 q0 t0 ha ht hin hdg (fun H1 locs1 g1 g2 g3 => ?_)
  rw [bI_upd] at g1 g2
  exact k H1 locs1 ls g1 g2 g3 h4
theorem j_last (C : jC p s m args c cc nL own Ts D cl tys A (va_S A s.heap) E) {a : Nat} (q0 t0 : Nat) {cA : ClassId} {N : Nat} {f : Nat → Int64} (ha : w[q0]? = some (a, .inl (cA, N, .inr (.inl f)))) (ht : tys[t0]? = some (cA, .long)) {i : Int32} {x : Int64} (hin : vp_in i N) (pn : Nat) (hpn : pc + 1 = pn) (hdg : decode cc pc = .ok (.lastore, 1)) (k : jJ p l e R s m args below meth c cells slots Q D cl A (va_S A s.heap) nL (w.set q0 (a, .inl (cA, N, .inr (.inl (vp_updL f i.toNatClampNeg x))))) (pn) lv (rest)) : jJ p l e R s m args below meth c cells slots Q D cl A (va_S A s.heap) nL w (pc) lv (.long x :: .int i :: .ref a :: rest) := by
  subst hpn
  exact fun H locs ls h1 h2 h3 h4 => va_last C.x C.b C.k h1 h2 h3 q0 t0 ha ht hin hdg (fun H1 locs1 g1 g2 g3 => k H1 locs1 ls g1 g2 g3 h4)
theorem j_lald (C : jC p s m args c cc nL own Ts D cl tys A Sx E) {a : Nat} (q0 t0 : Nat) {cA : ClassId} {N : Nat} {f : Nat → Int64} (ha : w[q0]? = some (a, .inl (cA, N, .inr (.inl f)))) (ht : tys[t0]? = some (cA, .long)) {i : Int32} (hin : vp_in i N) (pn : Nat) (hpn : pc + 1 = pn) (hdg : decode cc pc = .ok (.laload, 1)) (k : jJ p l e R s m args below meth c cells slots Q D cl A Sx nL w (pn) lv (.long (f i.toNatClampNeg) :: rest)) : jJ p l e R s m args below meth c cells slots Q D cl A Sx nL w (pc) lv (.int i :: .ref a :: rest) := by
  subst hpn
  exact fun H locs ls h1 h2 h3 h4 => va_lald C.x C.b C.k h1 q0 t0 ha ht hin hdg (k H locs ls h1 h2 h3 h4)
/-! methods that only read: the heap stays as it is -/
def jQr (v : Option Value) : Array Value → State → Outcome → State → Prop := fun _ st oc t => oc = .returned v ∧ t.heap = st.heap
def jR (l : Launch) (D : va_G) (cl : List vw_C) (tys : List (ClassId × FieldType)) (E : State → Prop) (y : MethodName) (ws : List Cond) (rm : Room) (av : List Value) (w : va_W) (v : Option Value) : Prop :=
  ∀ sz : Nat, Met l y ws rm (va_Pc av (jPre D cl tys E w sz)) (jQr v) 0 0 (fun _ => False)
theorem jR.of {y : MethodName} {ws ws' : List Cond} {rm : Room} {maxL : Nat} {ret : Option FieldType} {av : List Value} {v : Option Value} (hE : jLoc D cl E) (hy : plainName y.cls = true) (ho : y.cls = own) (hw : ws = Cond.code y cc maxL ret :: ws') (hlen : (lg_sl av).length ≤ maxL) (hlv : lv_args 0 av = lv)
    (body : ∀ (p : Program) (e : Env) (s : State) (m : MethodId) (args : Array Value) (below : List Frame) (meth : Method) (c : Code) (A : Nat → Prop), jC p s m args c cc maxL own ws D cl tys A (rd s) E → meth.sig.returnType = ret → meth.locks = false →
      jJ p l e rm s m args below meth c 0 0 (MQ below (jQr v) args s 0 0 (fun _ => False)) D cl A (rd s) maxL w 0 lv []) : jR l D cl tys E y ws rm av w v := by
  intro sz
  refine Met.ofW (cc := cc) (maxL := maxL) (ret := ret) hy hw ?_
  intro p e s m args below meth c s₁ B hml hv
  obtain ⟨rfl, hsz, hP, hK, hD0, hE0⟩ := hv
  subst hsz
  have hD := hD0.self (sz := s.heap.size)
  have K := body p e s m av.toArray below meth c (va_A w s.heap.size) ⟨B.exec, B.bytes, hml, by rw [← ho]; exact findClass_of_methodNamed B.named, atoms_spec (ws := ws) B.pre, hK, fun q h => Or.inr h, fun U hq hW => hE.2 s U w hE0 hP hq hW, rd_S⟩ B.returns B.notSynchronized
  have hl := lv_entry av (n := maxL) hlen
  rw [hlv] at hl
  rw [lg_entry_eq]
  exact K s.heap [] _ hP hD ⟨rfl, rfl⟩ hl
theorem jR.toM {y : MethodName} {ws : List Cond} {rm : Room} {av : List Value} {v : Option Value} (h : jR l D cl tys E y ws rm av w v) : jM l D cl tys E y ws rm av w v w := by
  intro sz p e a1 a2 a3 s m args below g1 g2 g3 g4
  obtain ⟨n, o, k1, k2, k3, ⟨k4, k5⟩, L, k6, k7⟩ := h sz p e a1 a2 a3 s m args below g1 g2 g3 g4
  obtain ⟨-, hsz, hP, -, hD0, -⟩ := g3
  exact ⟨n, o, k1, k2, k3, ⟨k4, by rw [k5]; exact hP, hD0.self, by rw [k5]; exact Nat.le_refl _, fun q _ _ => by rw [k5]⟩, L, k6, fun q hq => (k7 q hq).elim⟩
theorem j_iretR (C : jC p s m args c cc nL own Ts D cl tys A (rd s) E) (hr : meth.sig.returnType = some .int) (hlk : meth.locks = false) {x r : Int32} (hdg : decode cc pc = .ok (.ireturn, 1)) (hv : x = r) : jJ p l e R s m args below meth c 0 0 (MQ below (jQr (some (.int r))) args s 0 0 (fun _ => False)) D cl A (rd s) nL w pc lv ([.int x]) := by
  intro H locs ls h1 h2 h3 h4
  obtain ⟨rfl, rfl⟩ := h3
  subst hv
  exact W.iret C.x C.b hr (fun t ht _ => ⟨rfl, ht⟩) (fun q h => nomatch h) hdg hlk
theorem j_zretR (C : jC p s m args c cc nL own Ts D cl tys A (rd s) E) (hr : meth.sig.returnType = some .boolean) (hlk : meth.locks = false) {x : Int32} {b : Bool} (hdg : decode cc pc = .ok (.ireturn, 1)) (hv : x = bI b) : jJ p l e R s m args below meth c 0 0 (MQ below (jQr (some (.int (bI b)))) args s 0 0 (fun _ => False)) D cl A (rd s) nL w pc lv ([.int x]) := by
  intro H locs ls h1 h2 h3 h4
  obtain ⟨rfl, rfl⟩ := h3
  subst hv
  exact W.zret C.x C.b hr (bI_nar b) (fun t ht _ => ⟨rfl, ht⟩) (fun q h => nomatch h) hdg hlk
theorem j_vretR (C : jC p s m args c cc nL own Ts D cl tys A (rd s) E) (hr : meth.sig.returnType = none) (hlk : meth.locks = false) (hdg : decode cc pc = .ok (.return_, 1)) : jJ p l e R s m args below meth c 0 0 (MQ below (jQr none) args s 0 0 (fun _ => False)) D cl A (rd s) nL w pc lv ([]) := by
  intro H locs ls h1 h2 h3 h4
  obtain ⟨rfl, rfl⟩ := h3
  exact W.vret C.x C.b hr (fun t ht _ => ⟨rfl, ht⟩) (fun q h => nomatch h) hdg hlk
theorem j_callVR {T : List Cond} {c0 : Cond} (C : jC p s m args c cc nL own (c0 :: T) D cl tys A Sx E) (hE : jLoc D cl E) (hG : jG T) {y : MethodName} {bytes : ByteArray} {maxL : Nat} {ret : Option FieldType} {n index : Nat} {rm : Room} {b : Nat} {As st' : List Value} {v : Option Value} (hM : jR l D cl tys E y (Cond.code y bytes maxL ret :: T) rm (.ref b :: As) w v) (hY : jY T y bytes maxL ret n) (hl : Cond.methodLink own index y ∈ T) (hr : rm.cells = 0 ∧ rm.slots = 0) (hR : rm.frames + 1 ≤ R.frames ∧ 8 + (maxL + 11) + rm.locals ≤ R.locals) (q0 : Nat) {ci : Nat} {fs : List Value} {qC : vw_C} (he : w[q0]? = some (b, .inr (ci, fs))) (hc : cl[ci]? = some qC) (hq : qC.1 = y.cls) (hn : As.length = n) (hst : (rest.map fun v => v.category).sum ≤ 8) (hf : cells ≤ R.cells ∧ slots ≤ R.slots) (hdg : decode cc pc = .ok (.invokevirtual index, 3)) {st0 : List Value} (pn : Nat) (hpn : pc + 3 = pn) (hs0 : st0 = As.reverse ++ .ref b :: rest) (hs' : v.toList ++ rest = st') (k : jJ p l e R s m args below meth c cells slots Q D cl A Sx nL w (pn) lv (st')) : jJ p l e R s m args below meth c cells slots Q D cl A Sx nL w (pc) lv (st0) := by
  subst hpn
  subst hs0
  intro H locs ls hP hD hS hl4 T0 hT X
  subst hs'
  have hb := va_recv C.k hP hc he
  rw [hq] at hb
  obtain ⟨v1, st₀, t, T', L, h0, X', hL, e1, e2, ⟨hv, hh⟩, st⟩ := va_runV (As := As) (rest := rest) ⟨C.x, C.b, C.ml, C.o, C.t⟩ (hM H.size) ⟨jCB hG C.t hY.1 hY.2.2.2.1 hY.2.2.2.2 hl hr.1 hr.2 hR, C.t _ (List.mem_cons_of_mem _ hY.2.1), C.t _ (List.mem_cons_of_mem _ hY.2.2.1)⟩
    ⟨jBlind hE, hb, jPre_at C hP hD (C.sx H locs hS)⟩ rfl hn hl4.1 rfl (lv_room hst) hdg ⟨hf.1, hf.2⟩ T0 hT X
  cases hv
  have hL0 : L = [] := by
    cases L with
    | nil => rfl
    | cons a r => exact (hL a List.mem_cons_self).elim
  subst hL0
  rw [List.append_nil] at X'
  obtain ⟨t2, a1, b1⟩ := k H locs ls hP hD hS hl4 T' (by rw [e1, hh, h0]) X'
  exact ⟨t2, st t2 a1, b1⟩
theorem j_callSR {T : List Cond} {c0 : Cond} (C : jC p s m args c cc nL own (c0 :: T) D cl tys A Sx E) (hE : jLoc D cl E) (hG : jG T) {y : MethodName} {bytes : ByteArray} {maxL : Nat} {ret : Option FieldType} {n index : Nat} {rm : Room} {As st' : List Value} {v : Option Value} (hM : jR l D cl tys E y (Cond.code y bytes maxL ret :: T) rm As w v) (hY : jYs T y bytes maxL ret n) (hl : Cond.methodLink own index y ∈ T) (hr : rm.cells = 0 ∧ rm.slots = 0) (hR : rm.frames + 1 ≤ R.frames ∧ 8 + (maxL + 11) + rm.locals ≤ R.locals) (hn : As.length = n) (hst : (rest.map fun v => v.category).sum ≤ 8) (hf : cells ≤ R.cells ∧ slots ≤ R.slots) (hdg : decode cc pc = .ok (.invokestatic index, 3)) {st0 : List Value} (pn : Nat) (hpn : pc + 3 = pn) (hs0 : st0 = As.reverse ++ rest) (hs' : v.toList ++ rest = st') (k : jJ p l e R s m args below meth c cells slots Q D cl A Sx nL w (pn) lv (st')) : jJ p l e R s m args below meth c cells slots Q D cl A Sx nL w (pc) lv (st0) := by
  subst hpn
  subst hs0
  intro H locs ls hP hD hS hl4 T0 hT X
  subst hs'
  obtain ⟨v1, st₀, t, T', L, h0, X', hL, e1, e2, ⟨hv, hh⟩, st⟩ := va_runS (As := As) (rest := rest) ⟨C.x, C.b, C.ml, C.o, C.t⟩ (hM H.size) ⟨jCB hG C.t hY.1 hY.2.2.1 hY.2.2.2 hl hr.1 hr.2 hR, C.t _ (List.mem_cons_of_mem _ hY.2.1)⟩
    ⟨jBlind hE, jPre_at C hP hD (C.sx H locs hS)⟩ rfl hn hl4.1 rfl (lv_room hst) hdg ⟨hf.1, hf.2⟩ T0 hT X
  cases hv
  have hL0 : L = [] := by
    cases L with
    | nil => rfl
    | cons a r => exact (hL a List.mem_cons_self).elim
  subst hL0
  rw [List.append_nil] at X'
  obtain ⟨t2, a1, b1⟩ := k H locs ls hP hD hS hl4 T' (by rw [e1, hh, h0]) X'
  exact ⟨t2, st t2 a1, b1⟩
theorem j_callVRi {T : List Cond} {c0 : Cond} (C : jC p s m args c cc nL own (c0 :: T) D cl tys A Sx E) (hE : jLoc D cl E) (hG : jG T) {y : MethodName} {bytes : ByteArray} {maxL : Nat} {ret : Option FieldType} {n index : Nat} {rm : Room} {b : Nat} {As : List Value} {x : Value} (hM : jR l D cl tys E y (Cond.code y bytes maxL ret :: T) rm (.ref b :: As) w (some x)) (hY : jY T y bytes maxL ret n) (hl : Cond.methodLink own index y ∈ T) (hr : rm.cells = 0 ∧ rm.slots = 0) (hR : rm.frames + 1 ≤ R.frames ∧ 8 + (maxL + 11) + rm.locals ≤ R.locals) (q0 : Nat) {ci : Nat} {fs : List Value} {qC : vw_C} (he : w[q0]? = some (b, .inr (ci, fs))) (hc : cl[ci]? = some qC) (hq : qC.1 = y.cls) (hn : As.length = n) (hst : (rest.map fun v => v.category).sum ≤ 8) (hf : cells ≤ R.cells ∧ slots ≤ R.slots) (hdg : decode cc pc = .ok (.invokevirtual index, 3)) {st0 : List Value} (pn : Nat) (hpn : pc + 3 = pn) (hs0 : st0 = As.reverse ++ .ref b :: rest) (k : jJ p l e R s m args below meth c cells slots Q D cl A Sx nL w (pn) lv (x :: rest)) : jJ p l e R s m args below meth c cells slots Q D cl A Sx nL w (pc) lv (st0) := j_callVR C hE hG hM hY hl hr hR q0 he hc hq hn hst hf hdg pn hpn hs0 rfl k
theorem j_callSRi {T : List Cond} {c0 : Cond} (C : jC p s m args c cc nL own (c0 :: T) D cl tys A Sx E) (hE : jLoc D cl E) (hG : jG T) {y : MethodName} {bytes : ByteArray} {maxL : Nat} {ret : Option FieldType} {n index : Nat} {rm : Room} {As : List Value} {x : Value} (hM : jR l D cl tys E y (Cond.code y bytes maxL ret :: T) rm As w (some x)) (hY : jYs T y bytes maxL ret n) (hl : Cond.methodLink own index y ∈ T) (hr : rm.cells = 0 ∧ rm.slots = 0) (hR : rm.frames + 1 ≤ R.frames ∧ 8 + (maxL + 11) + rm.locals ≤ R.locals) (hn : As.length = n) (hst : (rest.map fun v => v.category).sum ≤ 8) (hf : cells ≤ R.cells ∧ slots ≤ R.slots) (hdg : decode cc pc = .ok (.invokestatic index, 3)) {st0 : List Value} (pn : Nat) (hpn : pc + 3 = pn) (hs0 : st0 = As.reverse ++ rest) (k : jJ p l e R s m args below meth c cells slots Q D cl A Sx nL w (pn) lv (x :: rest)) : jJ p l e R s m args below meth c cells slots Q D cl A Sx nL w (pc) lv (st0) := j_callSR C hE hG hM hY hl hr hR hn hst hf hdg pn hpn hs0 rfl k
theorem j_callVRv {T : List Cond} {c0 : Cond} (C : jC p s m args c cc nL own (c0 :: T) D cl tys A Sx E) (hE : jLoc D cl E) (hG : jG T) {y : MethodName} {bytes : ByteArray} {maxL : Nat} {ret : Option FieldType} {n index : Nat} {rm : Room} {b : Nat} {As : List Value} (hM : jR l D cl tys E y (Cond.code y bytes maxL ret :: T) rm (.ref b :: As) w none) (hY : jY T y bytes maxL ret n) (hl : Cond.methodLink own index y ∈ T) (hr : rm.cells = 0 ∧ rm.slots = 0) (hR : rm.frames + 1 ≤ R.frames ∧ 8 + (maxL + 11) + rm.locals ≤ R.locals) (q0 : Nat) {ci : Nat} {fs : List Value} {qC : vw_C} (he : w[q0]? = some (b, .inr (ci, fs))) (hc : cl[ci]? = some qC) (hq : qC.1 = y.cls) (hn : As.length = n) (hst : (rest.map fun v => v.category).sum ≤ 8) (hf : cells ≤ R.cells ∧ slots ≤ R.slots) (hdg : decode cc pc = .ok (.invokevirtual index, 3)) {st0 : List Value} (pn : Nat) (hpn : pc + 3 = pn) (hs0 : st0 = As.reverse ++ .ref b :: rest) (k : jJ p l e R s m args below meth c cells slots Q D cl A Sx nL w (pn) lv (rest)) : jJ p l e R s m args below meth c cells slots Q D cl A Sx nL w (pc) lv (st0) := j_callVR C hE hG hM hY hl hr hR q0 he hc hq hn hst hf hdg pn hpn hs0 rfl k
theorem j_callSRv {T : List Cond} {c0 : Cond} (C : jC p s m args c cc nL own (c0 :: T) D cl tys A Sx E) (hE : jLoc D cl E) (hG : jG T) {y : MethodName} {bytes : ByteArray} {maxL : Nat} {ret : Option FieldType} {n index : Nat} {rm : Room} {As : List Value} (hM : jR l D cl tys E y (Cond.code y bytes maxL ret :: T) rm As w none) (hY : jYs T y bytes maxL ret n) (hl : Cond.methodLink own index y ∈ T) (hr : rm.cells = 0 ∧ rm.slots = 0) (hR : rm.frames + 1 ≤ R.frames ∧ 8 + (maxL + 11) + rm.locals ≤ R.locals) (hn : As.length = n) (hst : (rest.map fun v => v.category).sum ≤ 8) (hf : cells ≤ R.cells ∧ slots ≤ R.slots) (hdg : decode cc pc = .ok (.invokestatic index, 3)) {st0 : List Value} (pn : Nat) (hpn : pc + 3 = pn) (hs0 : st0 = As.reverse ++ rest) (k : jJ p l e R s m args below meth c cells slots Q D cl A Sx nL w (pn) lv (rest)) : jJ p l e R s m args below meth c cells slots Q D cl A Sx nL w (pc) lv (st0) := j_callSR C hE hG hM hY hl hr hR hn hst hf hdg pn hpn hs0 rfl k
end JB
end
section
/-! what the methods compute: plain functions over the numbers of the state -/
abbrev S2 : Type := Nat → Nat → Int32
abbrev B2 : Type := Nat → Nat → Bool
def ix (x : Int32) : Nat := (x &&& 127).toNatClampNeg
def iy (x : Int32) : Nat := (x &&& 4095).toNatClampNeg
def isx (op k : Int32) : Nat := ((op &&& 127) * 4 + (k &&& 3)).toNatClampNeg
def sS (σ : S2) (k : Nat) (v : Int32) : S2 := va_up σ k (fun _ => v)
def sA (σ : S2) (k i : Nat) (v : Int32) : S2 := va_up σ k (upd (σ k) i v)
def bA (β : B2) (k i : Nat) (b : Bool) : B2 := va_up β k (va_up (β k) i b)
theorem ix_in (x : Int32) : vp_in (x &&& 127) 128 := pk_andIn x 7 (by decide) (by decide)
theorem iy_in (x : Int32) : vp_in (x &&& 4095) 4096 := pk_andIn x 12 (by decide) (by decide)
theorem isx_in (op k : Int32) : vp_in ((op &&& 127) * 4 + (k &&& 3)) 512 := by
  obtain ⟨a, ha, ea⟩ := pk_andE op (m := 127) 7 (by decide)
  obtain ⟨b, hb, eb⟩ := pk_andE k (m := 3) 2 (by decide)
  rw [ea, eb, show (4 : Int32) = nI 4 from rfl, pk_mul, nI_add]
  exact vp_in_nI (by omega) (by omega)
theorem ix_lt (x : Int32) : ix x < 128 := Nat.not_le.mp fun q => ix_in x (Or.inr q)
theorem inc1 (x : Int32) : x + Int32.ofInt 1 = x + 1 := by rw [lit1]
theorem inc4 (x : Int32) : x + Int32.ofInt 4 = x + 4 := by rw [lit4]
theorem dec1 (x : Int32) : x + Int32.ofInt (-1) = x - 1 := by rw [litm1, Int32.sub_eq_add_neg]
/-! loops upward: from i to b -/
def dist (a b : Int32) : Nat := (b.toInt - a.toInt).toNat
theorem dist_out {i b : Int32} (c : b ≤ i) : dist i b = 0 := by
  have := Int32.le_iff_toInt_le.mp c
  unfold dist
  omega
theorem dist_in {i b : Int32} (c : ¬ b ≤ i) : dist i b = dist (i + 1) b + 1 := by
  rw [Int32.le_iff_toInt_le] at c
  have h1 := b.toInt_lt
  have h2 := i.le_toInt
  have e1 : (1 : Int32).toInt = 1 := by decide
  have e : (i + 1).toInt = i.toInt + 1 := by
    rw [Jvm.Kit.i32_add (by rw [e1]; omega) (by rw [e1]; omega), e1]
  unfold dist
  rw [e]
  omega
theorem dist_lt {i b : Int32} {k : Nat} (c : ¬ b ≤ i) (h : dist i b < k + 1) : dist (i + 1) b < k := by
  have := dist_in c
  omega
def exU (P : Int32 → Bool) : Nat → Int32 → Bool
  | 0, _ => false
  | k + 1, i => P i || exU P k (i + 1)
def exL (P : Int32 → Bool) (i b : Int32) : Bool := exU P (dist i b) i
theorem exL_out {P : Int32 → Bool} {i b : Int32} (c : b ≤ i) : exL P i b = false := by
  unfold exL
  rw [dist_out c]
  rfl
theorem exL_in {P : Int32 → Bool} {i b : Int32} (c : ¬ b ≤ i) : exL P i b = (P i || exL P (i + 1) b) := by
  unfold exL
  rw [dist_in c]
  rfl
def frU (P : Int32 → Bool) : Nat → Int32 → Int32
  | 0, _ => -1
  | k + 1, i => if P i then i else frU P k (i + 1)
def frL (P : Int32 → Bool) (i b : Int32) : Int32 := frU P (dist i b) i
theorem frL_out {P : Int32 → Bool} {i b : Int32} (c : b ≤ i) : frL P i b = -1 := by
  unfold frL
  rw [dist_out c]
  rfl
theorem frL_in {P : Int32 → Bool} {i b : Int32} (c : ¬ b ≤ i) : frL P i b = if P i then i else frL P (i + 1) b := by
  unfold frL
  rw [dist_in c]
  rfl
def cnU (P : Int32 → Bool) : Nat → Int32 → Int32 → Int32
  | 0, _, a => a
  | k + 1, i, a => cnU P k (i + 1) (if P i then a + 1 else a)
def cnL (P : Int32 → Bool) (i b a : Int32) : Int32 := cnU P (dist i b) i a
theorem cnL_out {P : Int32 → Bool} {i b a : Int32} (c : b ≤ i) : cnL P i b a = a := by
  unfold cnL
  rw [dist_out c]
  rfl
theorem cnL_in {P : Int32 → Bool} {i b a : Int32} (c : ¬ b ≤ i) : cnL P i b a = cnL P (i + 1) b (if P i then a + 1 else a) := by
  unfold cnL
  rw [dist_in c]
  rfl
def unB : Nat → Int32 → B2 → Int32 → B2 × Int32
  | 0, _, β, a => (β, a)
  | k + 1, i, β, a => if β 2 (ix i) then unB k (i + 1) (bA β 2 (ix i) false) (a + 1) else unB k (i + 1) β a
def unL (i e : Int32) (β : B2) (a : Int32) : B2 × Int32 := unB (dist i e) i β a
theorem unL_out {i e a : Int32} {β : B2} (c : e ≤ i) : unL i e β a = (β, a) := by
  unfold unL
  rw [dist_out c]
  rfl
theorem unL_in {i e a : Int32} {β : B2} (c : ¬ e ≤ i) : unL i e β a = if β 2 (ix i) then unL (i + 1) e (bA β 2 (ix i) false) (a + 1) else unL (i + 1) e β a := by
  unfold unL
  rw [dist_in c]
  rfl
/-! downward: from i to a -/
def dnst (a i : Int32) : Nat := (i.toInt - a.toInt + 1).toNat
theorem dnst_out {a i : Int32} (c : i < a) : dnst a i = 0 := by
  have := Int32.lt_iff_toInt_lt.mp c
  unfold dnst
  omega
theorem dnst_in {a i : Int32} (ha : 0 ≤ a) (c : ¬ i < a) : dnst a i = dnst a (i - 1) + 1 := by
  rw [Int32.lt_iff_toInt_lt] at c
  have h0 : (0 : Int) ≤ a.toInt := by
    have := Int32.le_iff_toInt_le.mp ha
    simpa using this
  have h1 := i.toInt_lt
  have e1 : (1 : Int32).toInt = 1 := by decide
  have e : (i - 1).toInt = i.toInt - 1 := by
    rw [Jvm.Kit.i32_sub (by rw [e1]; omega) (by rw [e1]; omega), e1]
  unfold dnst
  rw [e]
  omega
theorem dnst_lt {a i : Int32} {k : Nat} (ha : 0 ≤ a) (c : ¬ i < a) (h : dnst a i < k + 1) : dnst a (i - 1) < k := by
  have := dnst_in ha c
  omega
def laD (P : Int32 → Bool) : Nat → Int32 → Int32
  | 0, _ => -1
  | k + 1, i => if P i then i else laD P k (i - 1)
def laL (P : Int32 → Bool) (a i : Int32) : Int32 := laD P (dnst a i) i
theorem laL_out {P : Int32 → Bool} {a i : Int32} (c : i < a) : laL P a i = -1 := by
  unfold laL
  rw [dnst_out c]
  rfl
theorem laL_in {P : Int32 → Bool} {a i : Int32} (ha : 0 ≤ a) (c : ¬ i < a) : laL P a i = if P i then i else laL P a (i - 1) := by
  unfold laL
  rw [dnst_in ha c]
  rfl
/-! bytes -/
def bon (n b k : Int32) : Int32 := (n.toUInt32 >>> ((8 * (b - 1 - k)).toUInt32 &&& Int32.toUInt32 31)).toInt32 &&& 255
def mW (at0 sz number : Int32) : Nat → Int32 → S2 → S2
  | 0, _, σ => σ
  | c + 1, k, σ => mW at0 sz number c (k + 1) (sA σ 24 (iy (at0 + k)) (bon number sz k).toInt8.toInt32)
def mWL (at0 sz number k : Int32) (σ : S2) : S2 := mW at0 sz number (dist k sz) k σ
theorem mWL_out {at0 sz number k : Int32} {σ : S2} (c : sz ≤ k) : mWL at0 sz number k σ = σ := by
  unfold mWL
  rw [dist_out c]
  rfl
theorem mWL_in {at0 sz number k : Int32} {σ : S2} (c : ¬ sz ≤ k) : mWL at0 sz number k σ = mWL at0 sz number (k + 1) (sA σ 24 (iy (at0 + k)) (bon number sz k).toInt8.toInt32) := by
  unfold mWL
  rw [dist_in c]
  rfl
def nA (f : Nat → Int32) (at0 : Int32) : Nat → Int32 → Int32 → Int32
  | 0, _, n => n
  | c + 1, k, n => nA f at0 c (k + 1) ((n <<< ((8 : Int32) &&& 31)) ||| (f (iy (at0 + k)) &&& 255))
def nAL (f : Nat → Int32) (at0 sz k n : Int32) : Int32 := nA f at0 (dist k sz) k n
theorem nAL_out {f : Nat → Int32} {at0 sz k n : Int32} (c : sz ≤ k) : nAL f at0 sz k n = n := by
  unfold nAL
  rw [dist_out c]
  rfl
theorem nAL_in {f : Nat → Int32} {at0 sz k n : Int32} (c : ¬ sz ≤ k) : nAL f at0 sz k n = nAL f at0 sz (k + 1) ((n <<< ((8 : Int32) &&& 31)) ||| (f (iy (at0 + k)) &&& 255)) := by
  unfold nAL
  rw [dist_in c]
  rfl
/-! what the class's methods say -/
def covC (σ : S2) (β : B2) (op at0 : Int32) : Bool := β 0 (ix op) && (!decide (at0 < σ 13 (ix op)) && !decide (σ 13 (ix op) + σ 11 (ix op) ≤ at0))
def kwb (kind bytes : Int32) : Bool := if kind = 2 then decide (bytes = 0) else !decide (kind < 0) && (!decide (3 < kind) && (decide (bytes = 1) || (decide (bytes = 2) || decide (bytes = 4))))
def cba (at0 bytes : Int32) : Bool := !decide (at0 < 0) && (decide (at0 ≤ 4096 - bytes) && (!decide (at0 < 3072) || !decide (3072 < at0 + bytes)))
def apS (σ : S2) (st at0 size v : Int32) : S2 := if σ 6 0 < 0 ∨ ¬ σ 6 0 < 4 then σ else
  sS (sA (sA (sA (sA σ 20 (σ 6 0).toNatClampNeg st) 21 (σ 6 0).toNatClampNeg at0) 22 (σ 6 0).toNatClampNeg size) 23 (σ 6 0).toNatClampNeg v) 6 (σ 6 0 + 1)
theorem apS_out {σ : S2} {st at0 size v : Int32} (h : σ 6 0 < 0 ∨ ¬ σ 6 0 < 4) : apS σ st at0 size v = σ := if_pos h
theorem apS_in {σ : S2} {st at0 size v : Int32} (h1 : ¬ σ 6 0 < 0) (h2 : σ 6 0 < 4) : apS σ st at0 size v = sS (sA (sA (sA (sA σ 20 (σ 6 0).toNatClampNeg st) 21 (σ 6 0).toNatClampNeg at0) 22 (σ 6 0).toNatClampNeg size) 23 (σ 6 0).toNatClampNeg v) 6 (σ 6 0 + 1) := if_neg (fun h => h.elim h1 (fun q => q h2))
theorem in4 {x : Int32} (h1 : ¬ x < 0) (h2 : x < 4) : vp_in x 4 := by
  rw [vp_in_iff]
  rw [Int32.lt_iff_toInt_lt] at h1 h2
  have e0 : (0 : Int32).toInt = 0 := by decide
  have e4 : (4 : Int32).toInt = 4 := by decide
  omega
theorem i8i8 (x : Int32) : x.toInt8.toInt32.toInt8.toInt32 = x.toInt8.toInt32 := pk_vb x
theorem in0_4 : vp_in (0 : Int32) 4 := vp_in_iff.mpr (by decide)
/-! the buffer's byte: of the newest one that has it -/
def bbS (σ : S2) (at0 : Int32) (i : Int32) : Bool := !decide (σ 6 0 ≤ i) && (!decide (at0 < σ 21 i.toNatClampNeg) && !decide (σ 21 i.toNatClampNeg + σ 22 i.toNatClampNeg ≤ at0))
def bbV (σ : S2) (at0 : Int32) (i : Int32) : Int32 := bon (σ 23 i.toNatClampNeg) (σ 22 i.toNatClampNeg) (at0 - σ 21 i.toNatClampNeg)
def bbU (σ : S2) (at0 : Int32) : Nat → Int32 → Int32 → Int32
  | 0, _, n => n
  | k + 1, i, n => bbU σ at0 k (i + 1) (if bbS σ at0 i then bbV σ at0 i else n)
def bbL (σ : S2) (at0 i n : Int32) : Int32 := bbU σ at0 (dist i 4) i n
theorem bbL_out {σ : S2} {at0 i n : Int32} (c : 4 ≤ i) : bbL σ at0 i n = n := by
  unfold bbL
  rw [dist_out c]
  rfl
theorem bbL_in {σ : S2} {at0 i n : Int32} (c : ¬ 4 ≤ i) : bbL σ at0 i n = bbL σ at0 (i + 1) (if bbS σ at0 i then bbV σ at0 i else n) := by
  unfold bbL
  rw [dist_in c]
  rfl
theorem in4' {x : Int32} (h1 : 0 ≤ x) (h2 : ¬ 4 ≤ x) : vp_in x 4 := in4 (Int32.not_lt.mpr h1) (Int32.not_le.mp h2)
theorem nn1 {x b : Int32} (h1 : 0 ≤ x) (h2 : ¬ b ≤ x) : 0 ≤ x + 1 := by
  rw [Int32.le_iff_toInt_le] at h1 h2 ⊢
  have e0 : (0 : Int32).toInt = 0 := by decide
  have e1 : (1 : Int32).toInt = 1 := by decide
  have h3 := b.toInt_lt
  rw [Jvm.Kit.i32_add (by omega) (by omega)]
  omega
def shS (σ : S2) (i : Int32) : S2 :=
  sA (sA (sA (sA σ 20 (i - 1).toNatClampNeg (σ 20 i.toNatClampNeg)) 21 (i - 1).toNatClampNeg (σ 21 i.toNatClampNeg)) 22 (i - 1).toNatClampNeg (σ 22 i.toNatClampNeg)) 23 (i - 1).toNatClampNeg (σ 23 i.toNatClampNeg)
def shU : Nat → Int32 → S2 → S2
  | 0, _, σ => σ
  | k + 1, i, σ => shU k (i + 1) (shS σ i)
def shL (i : Int32) (σ : S2) : S2 := shU (dist i 4) i σ
theorem shL_out {i : Int32} {σ : S2} (c : 4 ≤ i) : shL i σ = σ := by
  unfold shL
  rw [dist_out c]
  rfl
theorem shL_in {i : Int32} {σ : S2} (c : ¬ 4 ≤ i) : shL i σ = shL (i + 1) (shS σ i) := by
  unfold shL
  rw [dist_in c]
  rfl
theorem in4m {x : Int32} (h1 : 1 ≤ x) (h2 : ¬ 4 ≤ x) : vp_in (x - 1) 4 := by
  rw [vp_in_iff]
  rw [Int32.le_iff_toInt_le] at h1 h2
  have e4 : (4 : Int32).toInt = 4 := by decide
  have e1 : (1 : Int32).toInt = 1 := by decide
  rw [Jvm.Kit.i32_sub (by omega) (by omega)]
  omega
theorem le0_of1 {x : Int32} (h1 : 1 ≤ x) : 0 ≤ x := by
  rw [Int32.le_iff_toInt_le] at h1 ⊢
  have e0 : (0 : Int32).toInt = 0 := by decide
  have e1 : (1 : Int32).toInt = 1 := by decide
  omega
theorem nn2 {x b : Int32} (h1 : 1 ≤ x) (h2 : ¬ b ≤ x) : 1 ≤ x + 1 := by
  rw [Int32.le_iff_toInt_le] at h1 h2 ⊢
  have e1 : (1 : Int32).toInt = 1 := by decide
  have h3 := b.toInt_lt
  rw [Jvm.Kit.i32_add (by omega) (by omega)]
  omega
def mvS (σ : S2) : S2 := if 0 < σ 6 0 then sS (shL 1 (mWL (σ 21 0) (σ 22 0) (σ 23 0) 0 σ)) 6 ((shL 1 (mWL (σ 21 0) (σ 22 0) (σ 23 0) 0 σ)) 6 0 - 1) else σ
def hlC (σ : S2) (β : B2) (op : Int32) : Bool := if σ 10 (ix op) = 3 then !(!decide (op < σ 1 0) && !decide (σ 0 0 ≤ op)) else β 2 (ix op)
def mkS (mk : Int64) (prog : Int32) : Int64 := mk ||| ((1 : Int64) <<< ((prog &&& 63).toInt64 &&& 63))
def hbP (σ : S2) (j : Int32) : Bool := decide (σ 10 (ix j) = 2) || decide (σ 10 (ix j) = 3)
def hbC (σ : S2) (β : B2) (load : Int32) : Bool := (!decide (σ 13 (ix load) < 3072) && (!decide (load = σ 1 0) || !decide (σ 6 0 = 0))) || exL (hbP σ) (σ 1 0) load
def naP (σ : S2) (β : B2) (j : Int32) : Bool := decide (σ 10 (ix j) = 1) && !β 0 (ix j)
def nsP (σ : S2) (β : B2) (at0 j : Int32) : Bool := decide (σ 10 (ix j) = 1) && covC σ β j at0
def nsC (σ : S2) (β : B2) (load at0 : Int32) : Int32 := laL (nsP σ β at0) (σ 1 0) (load - 1)
def nnP (σ : S2) (β : B2) (load k : Int32) : Bool := !decide (nsC σ β load (σ 13 (ix load) + k) = -1) && !β 1 (ix (nsC σ β load (σ 13 (ix load) + k)))
def tkB (σ : S2) (β : B2) (load at0 : Int32) : Int32 := if nsC σ β load at0 = -1 then (if bbL σ at0 0 (-1) = -1 then σ 24 (iy at0) &&& 255 else bbL σ at0 0 (-1))
  else bon (σ 15 (ix (nsC σ β load at0))) (σ 11 (ix (nsC σ β load at0))) (at0 - σ 13 (ix (nsC σ β load at0)))
def tkS (σ : S2) (β : B2) (load k at0 : Int32) : S2 := if nsC σ β load at0 = -1 then (if bbL σ at0 0 (-1) = -1 then sA (sS σ 5 (σ 5 0 + 1)) 19 (isx load k) (-1) else sA (sS σ 5 (σ 5 0 + 1)) 19 (isx load k) (-2))
  else sS (sA σ 19 (isx load k) (nsC σ β load at0)) 4 (σ 4 0 + 1)
theorem tkS_j {σ : S2} {β : B2} {load k at0 : Int32} {j : Nat} (h : j ≠ 4 ∧ j ≠ 5 ∧ j ≠ 19) : tkS σ β load k at0 j = σ j := by
  unfold tkS
  split
  · split <;> simp [sA, sS, va_up, h]
  · simp [sA, sS, va_up, h]
theorem tkS_1 {σ : S2} {β : B2} {load k at0 : Int32} : tkS σ β load k at0 1 = σ 1 := tkS_j (by decide)
theorem tkS_11 {σ : S2} {β : B2} {load k at0 : Int32} : tkS σ β load k at0 11 = σ 11 := tkS_j (by decide)
theorem tkS_13 {σ : S2} {β : B2} {load k at0 : Int32} : tkS σ β load k at0 13 = σ 13 := tkS_j (by decide)
def dlU (β : B2) (load at0 : Int32) : Nat → Int32 → Int32 → S2 → Int32 × S2
  | 0, _, n, σ => (n, σ)
  | c + 1, k, n, σ => dlU β load at0 c (k + 1) ((n <<< ((8 : Int32) &&& 31)) ||| tkB σ β load (at0 + k)) (tkS σ β load k (at0 + k))
def dlL (β : B2) (load at0 sz k n : Int32) (σ : S2) : Int32 × S2 := dlU β load at0 (dist k sz) k n σ
theorem dlL_out {β : B2} {load at0 sz k n : Int32} {σ : S2} (c : sz ≤ k) : dlL β load at0 sz k n σ = (n, σ) := by
  unfold dlL
  rw [dist_out c]
  rfl
theorem dlL_in {β : B2} {load at0 sz k n : Int32} {σ : S2} (c : ¬ sz ≤ k) : dlL β load at0 sz k n σ = dlL β load at0 sz (k + 1) ((n <<< ((8 : Int32) &&& 31)) ||| tkB σ β load (at0 + k)) (tkS σ β load k (at0 + k)) := by
  unfold dlL
  rw [dist_in c]
  rfl
def dlS (σ : S2) (β : B2) (load : Int32) : S2 := sA (dlL β load (σ 13 (ix load)) (σ 11 (ix load)) 0 0 σ).2 18 (ix load) (dlL β load (σ 13 (ix load)) (σ 11 (ix load)) 0 0 σ).1
def mbP (σ : S2) (β : B2) (load st k : Int32) : Bool := covC σ β st (σ 13 (ix load) + k) && !decide (st ≤ σ 19 (isx load k))
def mbC (σ : S2) (β : B2) (load st : Int32) : Bool := exL (mbP σ β load st) 0 (σ 11 (ix load))
def lpP (σ : S2) (β : B2) (st j : Int32) : Bool := β 2 (ix j) && mbC σ β j st
def lmP (σ : S2) (β : B2) (at0 j : Int32) : Bool := β 2 (ix j) && (covC σ β j at0 && decide (σ 19 (isx j (at0 - σ 13 (ix j))) = -1))
theorem bbU_5 {σ : S2} {v at0 : Int32} : ∀ (k : Nat) (i n : Int32), bbU (sS σ 5 v) at0 k i n = bbU σ at0 k i n
  | 0, _, _ => rfl
  | k + 1, i, n => bbU_5 k (i + 1) _
theorem bbL_5 {σ : S2} {v at0 i n : Int32} : bbL (sS σ 5 v) at0 i n = bbL σ at0 i n := bbU_5 _ _ _
theorem tsw3 {x : Int32} (h0 : ¬ x = 0) (h1 : ¬ x = 1) (h2 : ¬ x = 2) : x.toInt < 0 ∨ 2 < x.toInt := by
  rw [← Int32.toInt_inj] at h0 h1 h2
  have e0 : (0 : Int32).toInt = 0 := by decide
  have e1 : (1 : Int32).toInt = 1 := by decide
  have e2 : (2 : Int32).toInt = 2 := by decide
  omega
theorem tsw10 {x : Int32} (h0 : ¬ x = 0) (h1 : ¬ x = 1) (h2 : ¬ x = 2) (h3 : ¬ x = 3) (h4 : ¬ x = 4) (h5 : ¬ x = 5) (h6 : ¬ x = 6) (h7 : ¬ x = 7) (h8 : ¬ x = 8) (h9 : ¬ x = 9) : x.toInt < 0 ∨ 9 < x.toInt := by
  rw [← Int32.toInt_inj] at h0 h1 h2 h3 h4 h5 h6 h7 h8 h9
  have e0 : (0 : Int32).toInt = 0 := by decide
  have e1 : (1 : Int32).toInt = 1 := by decide
  have e2 : (2 : Int32).toInt = 2 := by decide
  have e3 : (3 : Int32).toInt = 3 := by decide
  have e4 : (4 : Int32).toInt = 4 := by decide
  have e5 : (5 : Int32).toInt = 5 := by decide
  have e6 : (6 : Int32).toInt = 6 := by decide
  have e7 : (7 : Int32).toInt = 7 := by decide
  have e8 : (8 : Int32).toInt = 8 := by decide
  have e9 : (9 : Int32).toInt = 9 := by decide
  omega
def mlC (σ : S2) (β : B2) (op : Int32) : Bool := if σ 10 (ix op) = 0 then β 2 (ix op) else if σ 10 (ix op) = 1 then ((β 0 (ix op) && β 1 (ix op)) && (if (!decide (σ 13 (ix op) < 3072)) = true then decide (σ 6 0 = 0) else !decide (4 ≤ σ 6 0)))
  else if σ 10 (ix op) = 2 then decide (σ 6 0 = 0) else ((β 0 (ix op) && β 1 (ix op)) && decide (σ 6 0 = 0))
def coT (σ : S2) (op : Int32) : S2 := if σ 10 (ix op) = 3 then mWL (σ 13 (ix op)) (σ 11 (ix op)) (σ 15 (ix op)) 0 (sA σ 18 (ix op) (nAL (σ 24) (σ 13 (ix op)) (σ 11 (ix op)) 0 0)) else mWL (σ 13 (ix op)) (σ 11 (ix op)) (σ 15 (ix op)) 0 σ
def coS (σ : S2) (_ : B2) (op : Int32) : S2 := if (decide (σ 10 (ix op) = 1) || decide (σ 10 (ix op) = 3)) = true then (if σ 10 (ix op) = 1 then (if (!decide (σ 13 (ix op) < 3072)) = true then coT σ op else apS σ op (σ 13 (ix op)) (σ 11 (ix op)) (σ 15 (ix op))) else coT σ op) else σ
def lvR (σ : S2) (β : B2) : Int32 × S2 := if σ 0 0 - σ 1 0 ≤ 0 then (-1, σ) else if mlC σ β (σ 1 0) = true then (σ 1 0, sS (coS σ β (σ 1 0)) 1 (σ 1 0 + 1)) else (-1, σ)
def drR (σ : S2) : Int32 × S2 := if decide (σ 6 0 = 0) = true then (-1, σ) else (if σ 6 0 = 0 then -1 else σ 20 0, mvS σ)
def mkB (mk : Int64) (prog : Int32) : Bool := !decide (lg_cmp ((mk.toUInt64 >>> ((prog &&& 63).toInt64.toUInt64 &&& Int64.toUInt64 63)).toInt64 &&& 1) 0 = 0)
def adT (σ : S2) (β : B2) (mk : Int64) (op : Int32) : Int32 × S2 × B2 × Int64 := if σ 10 (ix op) = 1 then (if frL (lpP σ β op) (op + 1) (σ 0 0) = -1 then (0, σ, β, mk) else
    ((unL (frL (lpP σ β op) (op + 1) (σ 0 0)) (σ 0 0) β 0).2, sS (sS σ 2 (σ 2 0 + (unL (frL (lpP σ β op) (op + 1) (σ 0 0)) (σ 0 0) β 0).2)) 3 (σ 3 0 + 1), (unL (frL (lpP σ β op) (op + 1) (σ 0 0)) (σ 0 0) β 0).1, mkS mk (σ 12 (ix (frL (lpP σ β op) (op + 1) (σ 0 0)))))) else (0, σ, β, mk)
def trR (σ : S2) (β : B2) (mk : Int64) (op : Int32) : Int32 × S2 × B2 := if hbC σ β op = true then (2, σ, β) else if mkB mk (σ 12 (ix op)) = true then (if exL (naP σ β) (σ 1 0) op = true then (3, σ, β) else if exL (nnP σ β op) 0 (σ 11 (ix op)) = true then (4, σ, β) else (1, dlS σ β op, bA β 2 (ix op) true))
  else if exL (nnP σ β op) 0 (σ 11 (ix op)) = true then (4, σ, β) else (1, dlS σ β op, bA β 2 (ix op) true)
def otR (σ : S2) (β : B2) (at0 : Int32) : Int32 × S2 × B2 := if frL (lmP σ β at0) (σ 1 0) (σ 0 0) = -1 then (0, σ, β) else
  ((unL (frL (lmP σ β at0) (σ 1 0) (σ 0 0)) (σ 0 0) β 0).2, sS (sS σ 2 (σ 2 0 + (unL (frL (lmP σ β at0) (σ 1 0) (σ 0 0)) (σ 0 0) β 0).2)) 3 (σ 3 0 + 1), (unL (frL (lmP σ β at0) (σ 1 0) (σ 0 0)) (σ 0 0) β 0).1)
def bcn (x : Int64) : Int32 :=
  let a := x - ((x.toUInt64 >>> ((1 : Int32).toInt64.toUInt64 &&& Int64.toUInt64 63)).toInt64 &&& 6148914691236517205)
  let b := (a &&& 3689348814741910323) + ((a.toUInt64 >>> ((2 : Int32).toInt64.toUInt64 &&& Int64.toUInt64 63)).toInt64 &&& 3689348814741910323)
  let c := (b + (b.toUInt64 >>> ((4 : Int32).toInt64.toUInt64 &&& Int64.toUInt64 63)).toInt64) &&& 1085102592571150095
  let d := c + (c.toUInt64 >>> ((8 : Int32).toInt64.toUInt64 &&& Int64.toUInt64 63)).toInt64
  let f := d + (d.toUInt64 >>> ((16 : Int32).toInt64.toUInt64 &&& Int64.toUInt64 63)).toInt64
  let g := f + (f.toUInt64 >>> ((32 : Int32).toInt64.toUInt64 &&& Int64.toUInt64 63)).toInt64
  g.toInt32 &&& 127
def cntR (σ : S2) (β : B2) (mk : Int64) (what : Int32) : Int32 := if what = 0 then σ 0 0 else if what = 1 then σ 0 0 - σ 1 0 else if what = 2 then σ 6 0 else if what = 3 then cnL (fun j => β 2 (ix j)) (σ 1 0) (σ 0 0) 0 else
  if what = 4 then σ 2 0 else if what = 5 then σ 3 0 else if what = 6 then σ 4 0 else if what = 7 then σ 5 0 else if what = 8 then bcn mk else if what = 9 then (if σ 0 0 - σ 1 0 ≤ 0 then -1 else σ 1 0) else -1
/-! what the reference's methods say -/
def ioM (μ : S2) (op : Int32) : Bool := !decide (op < 0) && !decide (μ 1 0 ≤ op)
def waM (μ : S2) (op : Int32) : Bool := !decide (op < μ 2 0) && !decide (μ 1 0 ≤ op)
def iszM (kind size : Int32) : Bool := if kind = 2 then decide (size = 0) else decide (size = 1) || (decide (size = 2) || decide (size = 4))
def bom (v s k : Int32) : Int32 := (v >>> ((8 * (s - 1 - k)) &&& 31)) &&& 255
def cvM (pl sz at0 : Int32) : Bool := !decide (at0 < pl) && !decide (pl + sz ≤ at0)
def haM (μ : S2) (i : Nat) (at0 : Int32) : Bool := !decide (μ 15 i < 0) && cvM (μ 15 i) (μ 13 i) at0
def wrU (pl sz v : Int32) : Nat → Int32 → S2 → S2
  | 0, _, μ => μ
  | c + 1, k, μ => wrU pl sz v c (k + 1) (sA μ 10 (pl + k).toNatClampNeg (bom v sz k))
def wrL (pl sz v k : Int32) (μ : S2) : S2 := wrU pl sz v (dist k sz) k μ
theorem wrL_out {pl sz v k : Int32} {μ : S2} (c : sz ≤ k) : wrL pl sz v k μ = μ := by
  unfold wrL
  rw [dist_out c]
  rfl
theorem wrL_in {pl sz v k : Int32} {μ : S2} (c : ¬ sz ≤ k) : wrL pl sz v k μ = wrL pl sz v (k + 1) (sA μ 10 (pl + k).toNatClampNeg (bom v sz k)) := by
  unfold wrL
  rw [dist_in c]
  rfl
def soP (μ : S2) (at0 j : Int32) : Bool := decide (μ 12 (ix j) = 1) && haM μ (ix j) at0
def soM (μ : S2) (op at0 : Int32) : Int32 := laL (soP μ at0) (μ 2 0) (op - 1)
def buU (μ : S2) (at0 : Int32) : Nat → Int32 → Int32 → Int32
  | 0, _, n => n
  | k + 1, i, n => buU μ at0 k (i + 1) (if cvM (μ 22 i.toNatClampNeg) (μ 23 i.toNatClampNeg) at0 = true then i else n)
def buL (μ : S2) (at0 i n : Int32) : Int32 := buU μ at0 (dist i (μ 7 0)) i n
theorem buL_out {μ : S2} {at0 i n : Int32} (c : μ 7 0 ≤ i) : buL μ at0 i n = n := by
  unfold buL
  rw [dist_out c]
  rfl
theorem buL_in {μ : S2} {at0 i n : Int32} (c : ¬ μ 7 0 ≤ i) : buL μ at0 i n = buL μ at0 (i + 1) (if cvM (μ 22 i.toNatClampNeg) (μ 23 i.toNatClampNeg) at0 = true then i else n) := by
  unfold buL
  rw [dist_in c]
  rfl
theorem in4b {x b : Int32} (h1 : 0 ≤ x) (h2 : ¬ b ≤ x) (h3 : b ≤ 4) : vp_in x 4 := in4' h1 (fun q => h2 (Int32.le_trans h3 q))
def cbM (μ : S2) (op at0 : Int32) : Bool := waM μ op && (!decide (μ 12 (ix op) = 2) && (decide (μ 15 (ix op) = -1) && (!decide (at0 < 0) && (decide (at0 ≤ 4096 - μ 13 (ix op)) && (decide (3072 ≤ at0) || !decide (3072 < at0 + μ 13 (ix op)))))))
def idM (μ : S2) (ν : B2) (op : Int32) : Bool := decide (μ 12 (ix op) = 0) && ν 2 (ix op)
def toP (μ : S2) (load st k : Int32) : Bool := haM μ (ix st) (μ 15 (ix load) + k) && !decide (st ≤ μ 20 (4 * (load &&& 127) + k).toNatClampNeg)
def toM (μ : S2) (load st : Int32) : Bool := exL (toP μ load st) 0 (μ 13 (ix load))
theorem fr_in {op k z : Int32} (h1 : 0 ≤ k) (h2 : ¬ z ≤ k) (h3 : z ≤ 4) : vp_in (4 * (op &&& 127) + k) 512 := by
  obtain ⟨a, ha, ea⟩ := pk_andE op (m := 127) 7 (by decide)
  obtain ⟨b, hb, eb⟩ := vp_in_of (in4b h1 h2 h3) (by decide)
  rw [ea, eb, show (4 : Int32) = nI 4 from rfl, pk_mul, nI_add]
  exact vp_in_nI (by omega) (by omega)
def udU (μ : S2) : Nat → Int32 → B2 → Int32 → B2 × Int32
  | 0, _, ν, a => (ν, a)
  | k + 1, i, ν, a => if idM μ ν i = true then udU μ k (i + 1) (bA ν 2 (ix i) false) (a + 1) else udU μ k (i + 1) ν a
def udL (μ : S2) (i e : Int32) (ν : B2) (a : Int32) : B2 × Int32 := udU μ (dist i e) i ν a
theorem udL_out {μ : S2} {i e a : Int32} {ν : B2} (c : e ≤ i) : udL μ i e ν a = (ν, a) := by
  unfold udL
  rw [dist_out c]
  rfl
theorem udL_in {μ : S2} {i e a : Int32} {ν : B2} (c : ¬ e ≤ i) : udL μ i e ν a = if idM μ ν i = true then udL μ (i + 1) e (bA ν 2 (ix i) false) (a + 1) else udL μ (i + 1) e ν a := by
  unfold udL
  rw [dist_in c]
  rfl
end
section
-- ===== PART A: goes FIRST, ahead of the names: the tables' words, and 'selects' of the private methods out of them =====
/-- a private method of a class that the tables say can be made, by its rows of tables_1 -/
def lw_okq (q : MethodName × Nat) : Prop := (q.1.cls ≠ "java/lang/invoke/MethodHandle" ∧ q.1.cls ≠ "java/lang/invoke/VarHandle") ∧ Cond.instantiable q.1.cls q.2 ∈ tables_1 ∧ Cond.privateMethod q.1 ∈ tables_1 ∧ Cond.instanceMethod q.1 ∈ tables_1
theorem lw_p0 : lw_okq (⟨"LoadStoreRows", "waitingOps", "()I"⟩, 10) := ⟨⟨by decide +kernel, by decide +kernel⟩, List.mem_of_getElem? (i := 15) (by decide +kernel), List.mem_of_getElem? (i := 130) (by decide +kernel), List.mem_of_getElem? (i := 131) (by decide +kernel)⟩
theorem lw_p1 : lw_okq (⟨"LoadStoreRows", "mayLeave", "(I)Z"⟩, 10) := ⟨⟨by decide +kernel, by decide +kernel⟩, List.mem_of_getElem? (i := 15) (by decide +kernel), List.mem_of_getElem? (i := 134) (by decide +kernel), List.mem_of_getElem? (i := 135) (by decide +kernel)⟩
theorem lw_p2 : lw_okq (⟨"LoadStoreRows", "carryOut", "(I)V"⟩, 10) := ⟨⟨by decide +kernel, by decide +kernel⟩, List.mem_of_getElem? (i := 15) (by decide +kernel), List.mem_of_getElem? (i := 173) (by decide +kernel), List.mem_of_getElem? (i := 174) (by decide +kernel)⟩
theorem lw_p3 : lw_okq (⟨"LoadStoreRows", "loadsDoneThatWait", "()I"⟩, 10) := ⟨⟨by decide +kernel, by decide +kernel⟩, List.mem_of_getElem? (i := 15) (by decide +kernel), List.mem_of_getElem? (i := 240) (by decide +kernel), List.mem_of_getElem? (i := 241) (by decide +kernel)⟩
theorem lw_p4 : lw_okq (⟨"java/lang/Throwable", "fillInStackTrace", "(I)Ljava/lang/Throwable;"⟩, 6) := ⟨⟨by decide +kernel, by decide +kernel⟩, List.mem_of_getElem? (i := 301) (by decide +kernel), List.mem_of_getElem? (i := 299) (by decide +kernel), List.mem_of_getElem? (i := 300) (by decide +kernel)⟩
theorem lw_p5 : lw_okq (⟨"LoadStoreRows", "requireOp", "(I)V"⟩, 10) := ⟨⟨by decide +kernel, by decide +kernel⟩, List.mem_of_getElem? (i := 15) (by decide +kernel), List.mem_of_getElem? (i := 358) (by decide +kernel), List.mem_of_getElem? (i := 359) (by decide +kernel)⟩
theorem lw_p6 : lw_okq (⟨"LoadStoreRows", "waits", "(I)Z"⟩, 10) := ⟨⟨by decide +kernel, by decide +kernel⟩, List.mem_of_getElem? (i := 15) (by decide +kernel), List.mem_of_getElem? (i := 378) (by decide +kernel), List.mem_of_getElem? (i := 379) (by decide +kernel)⟩
theorem lw_p7 : lw_okq (⟨"LoadStoreRows", "oldestLoadPast", "(I)I"⟩, 10) := ⟨⟨by decide +kernel, by decide +kernel⟩, List.mem_of_getElem? (i := 15) (by decide +kernel), List.mem_of_getElem? (i := 392) (by decide +kernel), List.mem_of_getElem? (i := 393) (by decide +kernel)⟩
theorem lw_p8 : lw_okq (⟨"LoadStoreRows", "missedByteOf", "(II)Z"⟩, 10) := ⟨⟨by decide +kernel, by decide +kernel⟩, List.mem_of_getElem? (i := 15) (by decide +kernel), List.mem_of_getElem? (i := 396) (by decide +kernel), List.mem_of_getElem? (i := 397) (by decide +kernel)⟩
theorem lw_p9 : lw_okq (⟨"LoadStoreRows", "mark", "(I)V"⟩, 10) := ⟨⟨by decide +kernel, by decide +kernel⟩, List.mem_of_getElem? (i := 15) (by decide +kernel), List.mem_of_getElem? (i := 417) (by decide +kernel), List.mem_of_getElem? (i := 418) (by decide +kernel)⟩
theorem lw_p10 : lw_okq (⟨"LoadStoreRows", "undoWrong", "(I)I"⟩, 10) := ⟨⟨by decide +kernel, by decide +kernel⟩, List.mem_of_getElem? (i := 15) (by decide +kernel), List.mem_of_getElem? (i := 421) (by decide +kernel), List.mem_of_getElem? (i := 422) (by decide +kernel)⟩
theorem lw_p11 : lw_okq (⟨"LoadStoreRows", "isHeldBack", "(I)Z"⟩, 10) := ⟨⟨by decide +kernel, by decide +kernel⟩, List.mem_of_getElem? (i := 15) (by decide +kernel), List.mem_of_getElem? (i := 450) (by decide +kernel), List.mem_of_getElem? (i := 451) (by decide +kernel)⟩
theorem lw_p12 : lw_okq (⟨"LoadStoreRows", "storeWithoutAddressBefore", "(I)Z"⟩, 10) := ⟨⟨by decide +kernel, by decide +kernel⟩, List.mem_of_getElem? (i := 15) (by decide +kernel), List.mem_of_getElem? (i := 455) (by decide +kernel), List.mem_of_getElem? (i := 456) (by decide +kernel)⟩
theorem lw_p13 : lw_okq (⟨"LoadStoreRows", "storeWithoutNumberFor", "(I)Z"⟩, 10) := ⟨⟨by decide +kernel, by decide +kernel⟩, List.mem_of_getElem? (i := 15) (by decide +kernel), List.mem_of_getElem? (i := 459) (by decide +kernel), List.mem_of_getElem? (i := 460) (by decide +kernel)⟩
theorem lw_p14 : lw_okq (⟨"LoadStoreRows", "newestStoreBefore", "(II)I"⟩, 10) := ⟨⟨by decide +kernel, by decide +kernel⟩, List.mem_of_getElem? (i := 15) (by decide +kernel), List.mem_of_getElem? (i := 463) (by decide +kernel), List.mem_of_getElem? (i := 464) (by decide +kernel)⟩
theorem lw_p15 : lw_okq (⟨"LoadStoreRows", "doLoad", "(I)V"⟩, 10) := ⟨⟨by decide +kernel, by decide +kernel⟩, List.mem_of_getElem? (i := 15) (by decide +kernel), List.mem_of_getElem? (i := 467) (by decide +kernel), List.mem_of_getElem? (i := 468) (by decide +kernel)⟩
def lw_privs_1 : List (MethodName × Nat) := [(⟨"LoadStoreRows", "waitingOps", "()I"⟩, 10), (⟨"LoadStoreRows", "mayLeave", "(I)Z"⟩, 10), (⟨"LoadStoreRows", "carryOut", "(I)V"⟩, 10), (⟨"LoadStoreRows", "loadsDoneThatWait", "()I"⟩, 10), (⟨"java/lang/Throwable", "fillInStackTrace", "(I)Ljava/lang/Throwable;"⟩, 6), (⟨"LoadStoreRows", "requireOp", "(I)V"⟩, 10), (⟨"LoadStoreRows", "waits", "(I)Z"⟩, 10), (⟨"LoadStoreRows", "oldestLoadPast", "(I)I"⟩, 10), (⟨"LoadStoreRows", "missedByteOf", "(II)Z"⟩, 10), (⟨"LoadStoreRows", "mark", "(I)V"⟩, 10), (⟨"LoadStoreRows", "undoWrong", "(I)I"⟩, 10), (⟨"LoadStoreRows", "isHeldBack", "(I)Z"⟩, 10), (⟨"LoadStoreRows", "storeWithoutAddressBefore", "(I)Z"⟩, 10), (⟨"LoadStoreRows", "storeWithoutNumberFor", "(I)Z"⟩, 10), (⟨"LoadStoreRows", "newestStoreBefore", "(II)I"⟩, 10), (⟨"LoadStoreRows", "doLoad", "(I)V"⟩, 10)]
theorem lw_r1 : ∀ q ∈ lw_privs_1, lw_okq q := List.forall_mem_cons.mpr ⟨lw_p0, List.forall_mem_cons.mpr ⟨lw_p1, List.forall_mem_cons.mpr ⟨lw_p2, List.forall_mem_cons.mpr ⟨lw_p3, List.forall_mem_cons.mpr ⟨lw_p4, List.forall_mem_cons.mpr ⟨lw_p5, List.forall_mem_cons.mpr ⟨lw_p6, List.forall_mem_cons.mpr ⟨lw_p7, List.forall_mem_cons.mpr ⟨lw_p8, List.forall_mem_cons.mpr ⟨lw_p9, List.forall_mem_cons.mpr ⟨lw_p10, List.forall_mem_cons.mpr ⟨lw_p11, List.forall_mem_cons.mpr ⟨lw_p12, List.forall_mem_cons.mpr ⟨lw_p13, List.forall_mem_cons.mpr ⟨lw_p14, List.forall_mem_cons.mpr ⟨lw_p15, fun _ h => absurd h List.not_mem_nil⟩⟩⟩⟩⟩⟩⟩⟩⟩⟩⟩⟩⟩⟩⟩⟩
theorem lw_p16 : lw_okq (⟨"LoadStoreRows", "takeByte", "(III)I"⟩, 10) := ⟨⟨by decide +kernel, by decide +kernel⟩, List.mem_of_getElem? (i := 15) (by decide +kernel), List.mem_of_getElem? (i := 471) (by decide +kernel), List.mem_of_getElem? (i := 472) (by decide +kernel)⟩
theorem lw_p17 : lw_okq (⟨"LoadStoreRows", "hasLoaded", "(I)Z"⟩, 10) := ⟨⟨by decide +kernel, by decide +kernel⟩, List.mem_of_getElem? (i := 15) (by decide +kernel), List.mem_of_getElem? (i := 515) (by decide +kernel), List.mem_of_getElem? (i := 516) (by decide +kernel)⟩
theorem lw_p18 : lw_okq (⟨"LoadStoreRows", "oldestLoadFromMemory", "(I)I"⟩, 10) := ⟨⟨by decide +kernel, by decide +kernel⟩, List.mem_of_getElem? (i := 15) (by decide +kernel), List.mem_of_getElem? (i := 545) (by decide +kernel), List.mem_of_getElem? (i := 546) (by decide +kernel)⟩
theorem lw_p19 : lw_okq (⟨"LoadStoreRowsModel", "isOp", "(I)Z"⟩, 23) := ⟨⟨by decide +kernel, by decide +kernel⟩, List.mem_of_getElem? (i := 565) (by decide +kernel), List.mem_of_getElem? (i := 656) (by decide +kernel), List.mem_of_getElem? (i := 657) (by decide +kernel)⟩
theorem lw_p20 : lw_okq (⟨"LoadStoreRowsModel", "canBe", "(II)Z"⟩, 23) := ⟨⟨by decide +kernel, by decide +kernel⟩, List.mem_of_getElem? (i := 565) (by decide +kernel), List.mem_of_getElem? (i := 660) (by decide +kernel), List.mem_of_getElem? (i := 661) (by decide +kernel)⟩
theorem lw_p21 : lw_okq (⟨"LoadStoreRowsModel", "waits", "(I)Z"⟩, 23) := ⟨⟨by decide +kernel, by decide +kernel⟩, List.mem_of_getElem? (i := 565) (by decide +kernel), List.mem_of_getElem? (i := 664) (by decide +kernel), List.mem_of_getElem? (i := 665) (by decide +kernel)⟩
theorem lw_p22 : lw_okq (⟨"LoadStoreRowsModel", "isDone", "(I)Z"⟩, 23) := ⟨⟨by decide +kernel, by decide +kernel⟩, List.mem_of_getElem? (i := 565) (by decide +kernel), List.mem_of_getElem? (i := 668) (by decide +kernel), List.mem_of_getElem? (i := 669) (by decide +kernel)⟩
theorem lw_p23 : lw_okq (⟨"LoadStoreRowsModel", "tookOlder", "(II)Z"⟩, 23) := ⟨⟨by decide +kernel, by decide +kernel⟩, List.mem_of_getElem? (i := 565) (by decide +kernel), List.mem_of_getElem? (i := 672) (by decide +kernel), List.mem_of_getElem? (i := 673) (by decide +kernel)⟩
theorem lw_p24 : lw_okq (⟨"LoadStoreRowsModel", "has", "(II)Z"⟩, 23) := ⟨⟨by decide +kernel, by decide +kernel⟩, List.mem_of_getElem? (i := 565) (by decide +kernel), List.mem_of_getElem? (i := 676) (by decide +kernel), List.mem_of_getElem? (i := 677) (by decide +kernel)⟩
theorem lw_p25 : lw_okq (⟨"LoadStoreRowsModel", "undo", "(I)I"⟩, 23) := ⟨⟨by decide +kernel, by decide +kernel⟩, List.mem_of_getElem? (i := 565) (by decide +kernel), List.mem_of_getElem? (i := 683) (by decide +kernel), List.mem_of_getElem? (i := 684) (by decide +kernel)⟩
theorem lw_p26 : lw_okq (⟨"LoadStoreRowsModel", "isHeld", "(I)Z"⟩, 23) := ⟨⟨by decide +kernel, by decide +kernel⟩, List.mem_of_getElem? (i := 565) (by decide +kernel), List.mem_of_getElem? (i := 695) (by decide +kernel), List.mem_of_getElem? (i := 696) (by decide +kernel)⟩
theorem lw_p27 : lw_okq (⟨"LoadStoreRowsModel", "hasUnknown", "(I)Z"⟩, 23) := ⟨⟨by decide +kernel, by decide +kernel⟩, List.mem_of_getElem? (i := 565) (by decide +kernel), List.mem_of_getElem? (i := 699) (by decide +kernel), List.mem_of_getElem? (i := 700) (by decide +kernel)⟩
theorem lw_p28 : lw_okq (⟨"LoadStoreRowsModel", "storeOf", "(II)I"⟩, 23) := ⟨⟨by decide +kernel, by decide +kernel⟩, List.mem_of_getElem? (i := 565) (by decide +kernel), List.mem_of_getElem? (i := 703) (by decide +kernel), List.mem_of_getElem? (i := 704) (by decide +kernel)⟩
theorem lw_p29 : lw_okq (⟨"LoadStoreRowsModel", "taken", "(II)I"⟩, 23) := ⟨⟨by decide +kernel, by decide +kernel⟩, List.mem_of_getElem? (i := 565) (by decide +kernel), List.mem_of_getElem? (i := 707) (by decide +kernel), List.mem_of_getElem? (i := 708) (by decide +kernel)⟩
theorem lw_p30 : lw_okq (⟨"LoadStoreRowsModel", "bufferOf", "(I)I"⟩, 23) := ⟨⟨by decide +kernel, by decide +kernel⟩, List.mem_of_getElem? (i := 565) (by decide +kernel), List.mem_of_getElem? (i := 711) (by decide +kernel), List.mem_of_getElem? (i := 712) (by decide +kernel)⟩
theorem lw_p31 : lw_okq (⟨"LoadStoreRowsModel", "mayLeave", "()Z"⟩, 23) := ⟨⟨by decide +kernel, by decide +kernel⟩, List.mem_of_getElem? (i := 565) (by decide +kernel), List.mem_of_getElem? (i := 730) (by decide +kernel), List.mem_of_getElem? (i := 731) (by decide +kernel)⟩
def lw_privs_2 : List (MethodName × Nat) := [(⟨"LoadStoreRows", "takeByte", "(III)I"⟩, 10), (⟨"LoadStoreRows", "hasLoaded", "(I)Z"⟩, 10), (⟨"LoadStoreRows", "oldestLoadFromMemory", "(I)I"⟩, 10), (⟨"LoadStoreRowsModel", "isOp", "(I)Z"⟩, 23), (⟨"LoadStoreRowsModel", "canBe", "(II)Z"⟩, 23), (⟨"LoadStoreRowsModel", "waits", "(I)Z"⟩, 23), (⟨"LoadStoreRowsModel", "isDone", "(I)Z"⟩, 23), (⟨"LoadStoreRowsModel", "tookOlder", "(II)Z"⟩, 23), (⟨"LoadStoreRowsModel", "has", "(II)Z"⟩, 23), (⟨"LoadStoreRowsModel", "undo", "(I)I"⟩, 23), (⟨"LoadStoreRowsModel", "isHeld", "(I)Z"⟩, 23), (⟨"LoadStoreRowsModel", "hasUnknown", "(I)Z"⟩, 23), (⟨"LoadStoreRowsModel", "storeOf", "(II)I"⟩, 23), (⟨"LoadStoreRowsModel", "taken", "(II)I"⟩, 23), (⟨"LoadStoreRowsModel", "bufferOf", "(I)I"⟩, 23), (⟨"LoadStoreRowsModel", "mayLeave", "()Z"⟩, 23)]
theorem lw_r2 : ∀ q ∈ lw_privs_2, lw_okq q := List.forall_mem_cons.mpr ⟨lw_p16, List.forall_mem_cons.mpr ⟨lw_p17, List.forall_mem_cons.mpr ⟨lw_p18, List.forall_mem_cons.mpr ⟨lw_p19, List.forall_mem_cons.mpr ⟨lw_p20, List.forall_mem_cons.mpr ⟨lw_p21, List.forall_mem_cons.mpr ⟨lw_p22, List.forall_mem_cons.mpr ⟨lw_p23, List.forall_mem_cons.mpr ⟨lw_p24, List.forall_mem_cons.mpr ⟨lw_p25, List.forall_mem_cons.mpr ⟨lw_p26, List.forall_mem_cons.mpr ⟨lw_p27, List.forall_mem_cons.mpr ⟨lw_p28, List.forall_mem_cons.mpr ⟨lw_p29, List.forall_mem_cons.mpr ⟨lw_p30, List.forall_mem_cons.mpr ⟨lw_p31, fun _ h => absurd h List.not_mem_nil⟩⟩⟩⟩⟩⟩⟩⟩⟩⟩⟩⟩⟩⟩⟩⟩
theorem lw_p32 : lw_okq (⟨"LoadStoreRowsModel", "intoBuffer", "(I)V"⟩, 23) := ⟨⟨by decide +kernel, by decide +kernel⟩, List.mem_of_getElem? (i := 565) (by decide +kernel), List.mem_of_getElem? (i := 734) (by decide +kernel), List.mem_of_getElem? (i := 735) (by decide +kernel)⟩
theorem lw_p33 : lw_okq (⟨"LoadStoreRowsModel", "write", "(III)V"⟩, 23) := ⟨⟨by decide +kernel, by decide +kernel⟩, List.mem_of_getElem? (i := 565) (by decide +kernel), List.mem_of_getElem? (i := 738) (by decide +kernel), List.mem_of_getElem? (i := 739) (by decide +kernel)⟩
theorem lw_p34 : lw_okq (⟨"LoadStoreRowsModel", "tookFromMemory", "(II)Z"⟩, 23) := ⟨⟨by decide +kernel, by decide +kernel⟩, List.mem_of_getElem? (i := 565) (by decide +kernel), List.mem_of_getElem? (i := 750) (by decide +kernel), List.mem_of_getElem? (i := 751) (by decide +kernel)⟩
def lw_privs_3 : List (MethodName × Nat) := [(⟨"LoadStoreRowsModel", "intoBuffer", "(I)V"⟩, 23), (⟨"LoadStoreRowsModel", "write", "(III)V"⟩, 23), (⟨"LoadStoreRowsModel", "tookFromMemory", "(II)Z"⟩, 23)]
theorem lw_r3 : ∀ q ∈ lw_privs_3, lw_okq q := List.forall_mem_cons.mpr ⟨lw_p32, List.forall_mem_cons.mpr ⟨lw_p33, List.forall_mem_cons.mpr ⟨lw_p34, fun _ h => absurd h List.not_mem_nil⟩⟩⟩
def lw_privs : List (MethodName × Nat) := lw_privs_1 ++ (lw_privs_2 ++ (lw_privs_3))
def lw_tbl : List Cond := k2_sels lw_privs ++ tables_1
theorem lw_privs_ok : ∀ q ∈ lw_privs, lw_okq q := by
  show ∀ q ∈ lw_privs_1 ++ (lw_privs_2 ++ (lw_privs_3)), lw_okq q
  exact List.forall_mem_append.mpr ⟨lw_r1, List.forall_mem_append.mpr ⟨lw_r2, lw_r3⟩⟩
/-! names -/
def R_C : String := "LoadStoreRows"
def T_C : u_T := fun k => match k with
  | 0 => ("LoadStoreRows", "ops", "LLoadStoreRows$OpRows;", true)
  | 1 => ("LoadStoreRows", "buffer", "LLoadStoreRows$StoreBuffer;", true)
  | 2 => ("LoadStoreRows", "mainMemory", "LLoadStoreRows$ByteMemory;", true)
  | 3 => ("LoadStoreRows", "nextOp", "I", false)
  | 4 => ("LoadStoreRows", "oldestWaiting", "I", false)
  | 5 => ("LoadStoreRows", "marks", "J", false)
  | 6 => ("LoadStoreRows", "undoneSoFar", "I", false)
  | 7 => ("LoadStoreRows", "wrongSoFar", "I", false)
  | 8 => ("LoadStoreRows", "bytesFromStores", "I", false)
  | _ => ("LoadStoreRows", "bytesFromElsewhere", "I", false)
def t_C : Nat → FieldType := fun k => match k with
  | 0 => .object "LoadStoreRows$OpRows"
  | 1 => .object "LoadStoreRows$StoreBuffer"
  | 2 => .object "LoadStoreRows$ByteMemory"
  | 3 => .int
  | 4 => .int
  | 5 => .long
  | 6 => .int
  | 7 => .int
  | 8 => .int
  | _ => .int
theorem n_C : ∀ a, a < 10 → ∀ b, b < 10 → a ≠ b → (T_C a).2.1 ≠ (T_C b).2.1 := by decide +kernel
theorem tk_C : ∀ k, k < 10 → parseFieldDescriptor (T_C k).2.2.1 = some (t_C k) := by decide +kernel
def R_O : String := "LoadStoreRows$OpRows"
def T_O : u_T := fun k => match k with
  | 0 => ("LoadStoreRows$OpRows", "kinds", "[I", true)
  | 1 => ("LoadStoreRows$OpRows", "sizes", "[I", true)
  | 2 => ("LoadStoreRows$OpRows", "programs", "[I", true)
  | 3 => ("LoadStoreRows$OpRows", "addresses", "[I", true)
  | 4 => ("LoadStoreRows$OpRows", "addressTold", "[Z", true)
  | 5 => ("LoadStoreRows$OpRows", "numbers", "[I", true)
  | 6 => ("LoadStoreRows$OpRows", "numberTold", "[Z", true)
  | 7 => ("LoadStoreRows$OpRows", "done", "[Z", true)
  | 8 => ("LoadStoreRows$OpRows", "loadedNumbers", "[I", true)
  | _ => ("LoadStoreRows$OpRows", "sources", "[I", true)
def t_O : Nat → FieldType := fun k => match k with
  | 0 => .array .int
  | 1 => .array .int
  | 2 => .array .int
  | 3 => .array .int
  | 4 => .array .boolean
  | 5 => .array .int
  | 6 => .array .boolean
  | 7 => .array .boolean
  | 8 => .array .int
  | _ => .array .int
theorem n_O : ∀ a, a < 10 → ∀ b, b < 10 → a ≠ b → (T_O a).2.1 ≠ (T_O b).2.1 := by decide +kernel
theorem tk_O : ∀ k, k < 10 → parseFieldDescriptor (T_O k).2.2.1 = some (t_O k) := by decide +kernel
def R_B : String := "LoadStoreRows$StoreBuffer"
def T_B : u_T := fun k => match k with
  | 0 => ("LoadStoreRows$StoreBuffer", "stores", "[I", true)
  | 1 => ("LoadStoreRows$StoreBuffer", "addresses", "[I", true)
  | 2 => ("LoadStoreRows$StoreBuffer", "sizes", "[I", true)
  | 3 => ("LoadStoreRows$StoreBuffer", "numbers", "[I", true)
  | _ => ("LoadStoreRows$StoreBuffer", "held", "I", false)
def t_B : Nat → FieldType := fun k => match k with
  | 0 => .array .int
  | 1 => .array .int
  | 2 => .array .int
  | 3 => .array .int
  | _ => .int
theorem n_B : ∀ a, a < 5 → ∀ b, b < 5 → a ≠ b → (T_B a).2.1 ≠ (T_B b).2.1 := by decide +kernel
theorem tk_B : ∀ k, k < 5 → parseFieldDescriptor (T_B k).2.2.1 = some (t_B k) := by decide +kernel
def R_Y : String := "LoadStoreRows$ByteMemory"
def T_Y : u_T := fun k => match k with
  | _ => ("LoadStoreRows$ByteMemory", "cells", "[B", true)
def t_Y : Nat → FieldType := fun k => match k with
  | _ => .array .byte
theorem n_Y : ∀ a, a < 1 → ∀ b, b < 1 → a ≠ b → (T_Y a).2.1 ≠ (T_Y b).2.1 := by decide +kernel
theorem tk_Y : ∀ k, k < 1 → parseFieldDescriptor (T_Y k).2.2.1 = some (t_Y k) := by decide +kernel
def R_M : String := "LoadStoreRowsModel"
def T_M : u_T := fun k => match k with
  | 0 => ("LoadStoreRowsModel", "thrown", "I", false)
  | 1 => ("LoadStoreRowsModel", "total", "I", false)
  | 2 => ("LoadStoreRowsModel", "oldest", "I", false)
  | 3 => ("LoadStoreRowsModel", "undone", "I", false)
  | 4 => ("LoadStoreRowsModel", "wrong", "I", false)
  | 5 => ("LoadStoreRowsModel", "ofStores", "I", false)
  | 6 => ("LoadStoreRowsModel", "ofOthers", "I", false)
  | 7 => ("LoadStoreRowsModel", "bytes", "[I", true)
  | 8 => ("LoadStoreRowsModel", "marks", "[Z", true)
  | 9 => ("LoadStoreRowsModel", "kinds", "[I", true)
  | 10 => ("LoadStoreRowsModel", "sizes", "[I", true)
  | 11 => ("LoadStoreRowsModel", "programs", "[I", true)
  | 12 => ("LoadStoreRowsModel", "places", "[I", true)
  | 13 => ("LoadStoreRowsModel", "values", "[I", true)
  | 14 => ("LoadStoreRowsModel", "results", "[I", true)
  | 15 => ("LoadStoreRowsModel", "told", "[Z", true)
  | 16 => ("LoadStoreRowsModel", "done", "[Z", true)
  | 17 => ("LoadStoreRowsModel", "from", "[I", true)
  | 18 => ("LoadStoreRowsModel", "waiting", "[I", true)
  | 19 => ("LoadStoreRowsModel", "waitPlace", "[I", true)
  | 20 => ("LoadStoreRowsModel", "waitSize", "[I", true)
  | 21 => ("LoadStoreRowsModel", "waitValue", "[I", true)
  | _ => ("LoadStoreRowsModel", "buffered", "I", false)
def t_M : Nat → FieldType := fun k => match k with
  | 0 => .int
  | 1 => .int
  | 2 => .int
  | 3 => .int
  | 4 => .int
  | 5 => .int
  | 6 => .int
  | 7 => .array .int
  | 8 => .array .boolean
  | 9 => .array .int
  | 10 => .array .int
  | 11 => .array .int
  | 12 => .array .int
  | 13 => .array .int
  | 14 => .array .int
  | 15 => .array .boolean
  | 16 => .array .boolean
  | 17 => .array .int
  | 18 => .array .int
  | 19 => .array .int
  | 20 => .array .int
  | 21 => .array .int
  | _ => .int
theorem n_M : ∀ a, a < 23 → ∀ b, b < 23 → a ≠ b → (T_M a).2.1 ≠ (T_M b).2.1 := by decide +kernel
theorem tk_M : ∀ k, k < 23 → parseFieldDescriptor (T_M k).2.2.1 = some (t_M k) := by decide +kernel
abbrev vwCl : List vw_C := [(R_C, T_C, 10), (R_O, T_O, 10), (R_B, T_B, 5), (R_Y, T_Y, 1), (R_M, T_M, 23)]
def R_L : String := "LoadStoreRowsLaw"
def R_G : String := "java/lang/Long"
abbrev b_C_init : ByteArray := prog_1_method_1_code
def y_C_init : MethodName := ⟨R_C, "<init>", "()V"⟩
abbrev b_O_init : ByteArray := prog_3_method_1_code
def y_O_init : MethodName := ⟨R_O, "<init>", "()V"⟩
abbrev b_B_init : ByteArray := prog_4_method_1_code
def y_B_init : MethodName := ⟨R_B, "<init>", "()V"⟩
abbrev b_Y_init : ByteArray := prog_2_method_1_code
def y_Y_init : MethodName := ⟨R_Y, "<init>", "()V"⟩
abbrev b_C_leave : ByteArray := prog_1_method_8_code
def y_C_leave : MethodName := ⟨R_C, "leave", "()I"⟩
abbrev b_C_waitingOps : ByteArray := prog_1_method_22_code
def y_C_waitingOps : MethodName := ⟨R_C, "waitingOps", "()I"⟩
abbrev b_C_mayLeave : ByteArray := prog_1_method_37_code
def y_C_mayLeave : MethodName := ⟨R_C, "mayLeave", "(I)Z"⟩
abbrev b_O_kindOf : ByteArray := prog_3_method_3_code
def y_O_kindOf : MethodName := ⟨R_O, "kindOf", "(I)I"⟩
abbrev b_O_isDone : ByteArray := prog_3_method_13_code
def y_O_isDone : MethodName := ⟨R_O, "isDone", "(I)Z"⟩
abbrev b_O_isTold : ByteArray := prog_3_method_12_code
def y_O_isTold : MethodName := ⟨R_O, "isTold", "(I)Z"⟩
abbrev b_O_hasAddress : ByteArray := prog_3_method_6_code
def y_O_hasAddress : MethodName := ⟨R_O, "hasAddress", "(I)Z"⟩
abbrev b_O_hasNumber : ByteArray := prog_3_method_9_code
def y_O_hasNumber : MethodName := ⟨R_O, "hasNumber", "(I)Z"⟩
abbrev b_O_addressOf : ByteArray := prog_3_method_7_code
def y_O_addressOf : MethodName := ⟨R_O, "addressOf", "(I)I"⟩
abbrev b_C_isDevice : ByteArray := prog_1_method_18_code
def y_C_isDevice : MethodName := ⟨R_C, "isDevice", "(I)Z"⟩
abbrev b_B_isEmpty : ByteArray := prog_4_method_3_code
def y_B_isEmpty : MethodName := ⟨R_B, "isEmpty", "()Z"⟩
abbrev b_B_hasRoom : ByteArray := prog_4_method_4_code
def y_B_hasRoom : MethodName := ⟨R_B, "hasRoom", "()Z"⟩
abbrev b_C_carryOut : ByteArray := prog_1_method_38_code
def y_C_carryOut : MethodName := ⟨R_C, "carryOut", "(I)V"⟩
abbrev b_C_takesNumber : ByteArray := prog_1_method_16_code
def y_C_takesNumber : MethodName := ⟨R_C, "takesNumber", "(I)Z"⟩
abbrev b_O_bytesOf : ByteArray := prog_3_method_4_code
def y_O_bytesOf : MethodName := ⟨R_O, "bytesOf", "(I)I"⟩
abbrev b_O_numberOf : ByteArray := prog_3_method_10_code
def y_O_numberOf : MethodName := ⟨R_O, "numberOf", "(I)I"⟩
abbrev b_B_append : ByteArray := prog_4_method_6_code
def y_B_append : MethodName := ⟨R_B, "append", "(IIII)V"⟩
abbrev b_Y_numberAt : ByteArray := prog_2_method_4_code
def y_Y_numberAt : MethodName := ⟨R_Y, "numberAt", "(II)I"⟩
abbrev b_Y_byteAt : ByteArray := prog_2_method_2_code
def y_Y_byteAt : MethodName := ⟨R_Y, "byteAt", "(I)I"⟩
abbrev b_O_setLoaded : ByteArray := prog_3_method_16_code
def y_O_setLoaded : MethodName := ⟨R_O, "setLoaded", "(II)V"⟩
abbrev b_Y_write : ByteArray := prog_2_method_5_code
def y_Y_write : MethodName := ⟨R_Y, "write", "(III)V"⟩
abbrev b_C_byteOfNumber : ByteArray := prog_1_method_20_code
def y_C_byteOfNumber : MethodName := ⟨R_C, "byteOfNumber", "(III)I"⟩
abbrev b_Y_setByte : ByteArray := prog_2_method_3_code
def y_Y_setByte : MethodName := ⟨R_Y, "setByte", "(II)V"⟩
abbrev b_C_drain : ByteArray := prog_1_method_9_code
def y_C_drain : MethodName := ⟨R_C, "drain", "()I"⟩
abbrev b_B_oldestStore : ByteArray := prog_4_method_5_code
def y_B_oldestStore : MethodName := ⟨R_B, "oldestStore", "()I"⟩
abbrev b_B_moveOldestTo : ByteArray := prog_4_method_7_code
def y_B_moveOldestTo : MethodName := ⟨R_B, "moveOldestTo", "(LLoadStoreRows$ByteMemory;)V"⟩
abbrev b_C_marked : ByteArray := prog_1_method_13_code
def y_C_marked : MethodName := ⟨R_C, "marked", "(I)Z"⟩
abbrev b_C_count : ByteArray := prog_1_method_14_code
def y_C_count : MethodName := ⟨R_C, "count", "(I)I"⟩
abbrev b_B_size : ByteArray := prog_4_method_2_code
def y_B_size : MethodName := ⟨R_B, "size", "()I"⟩
abbrev b_C_loadsDoneThatWait : ByteArray := prog_1_method_36_code
def y_C_loadsDoneThatWait : MethodName := ⟨R_C, "loadsDoneThatWait", "()I"⟩
abbrev b_G_bitCount : ByteArray := prog_11_method_50_code
def y_G_bitCount : MethodName := ⟨R_G, "bitCount", "(J)I"⟩
abbrev b_L_op : ByteArray := method_3_code
def y_L_op : MethodName := ⟨R_L, "op", "(LLoadStoreRows;III[J)I"⟩
abbrev b_C_op : ByteArray := prog_1_method_2_code
def y_C_op : MethodName := ⟨R_C, "op", "(III)I"⟩
abbrev b_C_isKindWithBytes : ByteArray := prog_1_method_15_code
def y_C_isKindWithBytes : MethodName := ⟨R_C, "isKindWithBytes", "(II)Z"⟩
abbrev b_O_begin : ByteArray := prog_3_method_2_code
def y_O_begin : MethodName := ⟨R_O, "begin", "(IIII)V"⟩
abbrev b_L_address : ByteArray := method_4_code
def y_L_address : MethodName := ⟨R_L, "address", "(LLoadStoreRows;II[J)I"⟩
abbrev b_C_address : ByteArray := prog_1_method_3_code
def y_C_address : MethodName := ⟨R_C, "address", "(II)I"⟩
abbrev b_C_requireOp : ByteArray := prog_1_method_21_code
def y_C_requireOp : MethodName := ⟨R_C, "requireOp", "(I)V"⟩
abbrev b_C_waits : ByteArray := prog_1_method_23_code
def y_C_waits : MethodName := ⟨R_C, "waits", "(I)Z"⟩
abbrev b_C_canBeAddress : ByteArray := prog_1_method_19_code
def y_C_canBeAddress : MethodName := ⟨R_C, "canBeAddress", "(II)Z"⟩
abbrev b_O_setAddress : ByteArray := prog_3_method_8_code
def y_O_setAddress : MethodName := ⟨R_O, "setAddress", "(II)V"⟩
abbrev b_C_oldestLoadPast : ByteArray := prog_1_method_32_code
def y_C_oldestLoadPast : MethodName := ⟨R_C, "oldestLoadPast", "(I)I"⟩
abbrev b_C_missedByteOf : ByteArray := prog_1_method_33_code
def y_C_missedByteOf : MethodName := ⟨R_C, "missedByteOf", "(II)Z"⟩
abbrev b_O_covers : ByteArray := prog_3_method_19_code
def y_O_covers : MethodName := ⟨R_O, "covers", "(II)Z"⟩
abbrev b_O_sourceOf : ByteArray := prog_3_method_17_code
def y_O_sourceOf : MethodName := ⟨R_O, "sourceOf", "(II)I"⟩
abbrev b_O_sourceSlot : ByteArray := prog_3_method_21_code
def y_O_sourceSlot : MethodName := ⟨R_O, "sourceSlot", "(II)I"⟩
abbrev b_O_programOf : ByteArray := prog_3_method_5_code
def y_O_programOf : MethodName := ⟨R_O, "programOf", "(I)I"⟩
abbrev b_C_mark : ByteArray := prog_1_method_25_code
def y_C_mark : MethodName := ⟨R_C, "mark", "(I)V"⟩
abbrev b_C_undoWrong : ByteArray := prog_1_method_35_code
def y_C_undoWrong : MethodName := ⟨R_C, "undoWrong", "(I)I"⟩
abbrev b_O_setDone : ByteArray := prog_3_method_14_code
def y_O_setDone : MethodName := ⟨R_O, "setDone", "(IZ)V"⟩
abbrev b_L_number : ByteArray := method_5_code
def y_L_number : MethodName := ⟨R_L, "number", "(LLoadStoreRows;II[J)I"⟩
abbrev b_C_number : ByteArray := prog_1_method_4_code
def y_C_number : MethodName := ⟨R_C, "number", "(II)I"⟩
abbrev b_O_setNumber : ByteArray := prog_3_method_11_code
def y_O_setNumber : MethodName := ⟨R_O, "setNumber", "(II)V"⟩
abbrev b_L_tried : ByteArray := method_6_code
def y_L_tried : MethodName := ⟨R_L, "tried", "(LLoadStoreRows;I[J)I"⟩
abbrev b_C_tried : ByteArray := prog_1_method_5_code
def y_C_tried : MethodName := ⟨R_C, "tried", "(I)I"⟩
abbrev b_C_isHeldBack : ByteArray := prog_1_method_26_code
def y_C_isHeldBack : MethodName := ⟨R_C, "isHeldBack", "(I)Z"⟩
abbrev b_C_storeWithoutAddressBefore : ByteArray := prog_1_method_27_code
def y_C_storeWithoutAddressBefore : MethodName := ⟨R_C, "storeWithoutAddressBefore", "(I)Z"⟩
abbrev b_C_storeWithoutNumberFor : ByteArray := prog_1_method_28_code
def y_C_storeWithoutNumberFor : MethodName := ⟨R_C, "storeWithoutNumberFor", "(I)Z"⟩
abbrev b_C_newestStoreBefore : ByteArray := prog_1_method_29_code
def y_C_newestStoreBefore : MethodName := ⟨R_C, "newestStoreBefore", "(II)I"⟩
abbrev b_C_doLoad : ByteArray := prog_1_method_30_code
def y_C_doLoad : MethodName := ⟨R_C, "doLoad", "(I)V"⟩
abbrev b_C_takeByte : ByteArray := prog_1_method_31_code
def y_C_takeByte : MethodName := ⟨R_C, "takeByte", "(III)I"⟩
abbrev b_O_setSource : ByteArray := prog_3_method_18_code
def y_O_setSource : MethodName := ⟨R_O, "setSource", "(III)V"⟩
abbrev b_O_byteAt : ByteArray := prog_3_method_20_code
def y_O_byteAt : MethodName := ⟨R_O, "byteAt", "(II)I"⟩
abbrev b_B_byteAt : ByteArray := prog_4_method_8_code
def y_B_byteAt : MethodName := ⟨R_B, "byteAt", "(I)I"⟩
abbrev b_L_loaded : ByteArray := method_7_code
def y_L_loaded : MethodName := ⟨R_L, "loaded", "(LLoadStoreRows;I[J)I"⟩
abbrev b_C_loaded : ByteArray := prog_1_method_6_code
def y_C_loaded : MethodName := ⟨R_C, "loaded", "(I)I"⟩
abbrev b_C_hasLoaded : ByteArray := prog_1_method_24_code
def y_C_hasLoaded : MethodName := ⟨R_C, "hasLoaded", "(I)Z"⟩
abbrev b_O_loadedBy : ByteArray := prog_3_method_15_code
def y_O_loadedBy : MethodName := ⟨R_O, "loadedBy", "(I)I"⟩
abbrev b_L_source : ByteArray := method_8_code
def y_L_source : MethodName := ⟨R_L, "source", "(LLoadStoreRows;II[J)I"⟩
abbrev b_C_source : ByteArray := prog_1_method_7_code
def y_C_source : MethodName := ⟨R_C, "source", "(II)I"⟩
abbrev b_L_other : ByteArray := method_9_code
def y_L_other : MethodName := ⟨R_L, "other", "(LLoadStoreRows;II[J)I"⟩
abbrev b_C_other : ByteArray := prog_1_method_10_code
def y_C_other : MethodName := ⟨R_C, "other", "(II)I"⟩
abbrev b_C_isMemoryByte : ByteArray := prog_1_method_17_code
def y_C_isMemoryByte : MethodName := ⟨R_C, "isMemoryByte", "(I)Z"⟩
abbrev b_C_oldestLoadFromMemory : ByteArray := prog_1_method_34_code
def y_C_oldestLoadFromMemory : MethodName := ⟨R_C, "oldestLoadFromMemory", "(I)I"⟩
abbrev b_L_memory : ByteArray := method_10_code
def y_L_memory : MethodName := ⟨R_L, "memory", "(LLoadStoreRows;I[J)I"⟩
abbrev b_C_memory : ByteArray := prog_1_method_11_code
def y_C_memory : MethodName := ⟨R_C, "memory", "(I)I"⟩
abbrev b_L_forget : ByteArray := method_11_code
def y_L_forget : MethodName := ⟨R_L, "forget", "(LLoadStoreRows;I[J)I"⟩
abbrev b_C_forget : ByteArray := prog_1_method_12_code
def y_C_forget : MethodName := ⟨R_C, "forget", "(I)I"⟩
abbrev b_M_init : ByteArray := prog_6_method_1_code
def y_M_init : MethodName := ⟨R_M, "<init>", "()V"⟩
abbrev b_M_thrown : ByteArray := prog_6_method_2_code
def y_M_thrown : MethodName := ⟨R_M, "thrown", "()I"⟩
abbrev b_M_op : ByteArray := prog_6_method_6_code
def y_M_op : MethodName := ⟨R_M, "op", "(III)I"⟩
abbrev b_M_isSize : ByteArray := prog_6_method_5_code
def y_M_isSize : MethodName := ⟨R_M, "isSize", "(II)Z"⟩
abbrev b_M_address : ByteArray := prog_6_method_14_code
def y_M_address : MethodName := ⟨R_M, "address", "(II)I"⟩
abbrev b_M_isOp : ByteArray := prog_6_method_3_code
def y_M_isOp : MethodName := ⟨R_M, "isOp", "(I)Z"⟩
abbrev b_M_canBe : ByteArray := prog_6_method_13_code
def y_M_canBe : MethodName := ⟨R_M, "canBe", "(II)Z"⟩
abbrev b_M_waits : ByteArray := prog_6_method_4_code
def y_M_waits : MethodName := ⟨R_M, "waits", "(I)Z"⟩
abbrev b_M_isDone : ByteArray := prog_6_method_15_code
def y_M_isDone : MethodName := ⟨R_M, "isDone", "(I)Z"⟩
abbrev b_M_tookOlder : ByteArray := prog_6_method_16_code
def y_M_tookOlder : MethodName := ⟨R_M, "tookOlder", "(II)Z"⟩
abbrev b_M_has : ByteArray := prog_6_method_10_code
def y_M_has : MethodName := ⟨R_M, "has", "(II)Z"⟩
abbrev b_M_covers : ByteArray := prog_6_method_9_code
def y_M_covers : MethodName := ⟨R_M, "covers", "(III)Z"⟩
abbrev b_M_undo : ByteArray := prog_6_method_17_code
def y_M_undo : MethodName := ⟨R_M, "undo", "(I)I"⟩
abbrev b_M_number : ByteArray := prog_6_method_18_code
def y_M_number : MethodName := ⟨R_M, "number", "(II)I"⟩
abbrev b_M_tried : ByteArray := prog_6_method_21_code
def y_M_tried : MethodName := ⟨R_M, "tried", "(I)I"⟩
abbrev b_M_isHeld : ByteArray := prog_6_method_19_code
def y_M_isHeld : MethodName := ⟨R_M, "isHeld", "(I)Z"⟩
abbrev b_M_hasUnknown : ByteArray := prog_6_method_20_code
def y_M_hasUnknown : MethodName := ⟨R_M, "hasUnknown", "(I)Z"⟩
abbrev b_M_storeOf : ByteArray := prog_6_method_11_code
def y_M_storeOf : MethodName := ⟨R_M, "storeOf", "(II)I"⟩
abbrev b_M_taken : ByteArray := prog_6_method_22_code
def y_M_taken : MethodName := ⟨R_M, "taken", "(II)I"⟩
abbrev b_M_bufferOf : ByteArray := prog_6_method_12_code
def y_M_bufferOf : MethodName := ⟨R_M, "bufferOf", "(I)I"⟩
abbrev b_M_byteOf : ByteArray := prog_6_method_7_code
def y_M_byteOf : MethodName := ⟨R_M, "byteOf", "(III)I"⟩
abbrev b_M_loaded : ByteArray := prog_6_method_23_code
def y_M_loaded : MethodName := ⟨R_M, "loaded", "(I)I"⟩
abbrev b_M_source : ByteArray := prog_6_method_24_code
def y_M_source : MethodName := ⟨R_M, "source", "(II)I"⟩
abbrev b_M_leave : ByteArray := prog_6_method_27_code
def y_M_leave : MethodName := ⟨R_M, "leave", "()I"⟩
abbrev b_M_mayLeave : ByteArray := prog_6_method_25_code
def y_M_mayLeave : MethodName := ⟨R_M, "mayLeave", "()Z"⟩
abbrev b_M_intoBuffer : ByteArray := prog_6_method_26_code
def y_M_intoBuffer : MethodName := ⟨R_M, "intoBuffer", "(I)V"⟩
abbrev b_M_write : ByteArray := prog_6_method_8_code
def y_M_write : MethodName := ⟨R_M, "write", "(III)V"⟩
abbrev b_M_drain : ByteArray := prog_6_method_28_code
def y_M_drain : MethodName := ⟨R_M, "drain", "()I"⟩
abbrev b_M_other : ByteArray := prog_6_method_30_code
def y_M_other : MethodName := ⟨R_M, "other", "(II)I"⟩
abbrev b_M_tookFromMemory : ByteArray := prog_6_method_29_code
def y_M_tookFromMemory : MethodName := ⟨R_M, "tookFromMemory", "(II)Z"⟩
abbrev b_M_memory : ByteArray := prog_6_method_31_code
def y_M_memory : MethodName := ⟨R_M, "memory", "(I)I"⟩
abbrev b_M_forget : ByteArray := prog_6_method_32_code
def y_M_forget : MethodName := ⟨R_M, "forget", "(I)I"⟩
abbrev b_M_marked : ByteArray := prog_6_method_33_code
def y_M_marked : MethodName := ⟨R_M, "marked", "(I)Z"⟩
abbrev b_M_count : ByteArray := prog_6_method_34_code
def y_M_count : MethodName := ⟨R_M, "count", "(I)I"⟩
def jT : List Cond := lw_tbl.filter goodWord
theorem jT_good : jG jT := fun w h => (List.mem_filter.mp h).2
theorem jT_in {w : Cond} (i : Nat) (h : lw_tbl[i]? = some w) (g : goodWord w = true) : w ∈ jT := List.mem_filter.mpr ⟨List.mem_of_getElem? h, g⟩
theorem lk_L_47 : Cond.methodLink R_L 47 y_C_init ∈ jT := jT_in 51 (by decide +kernel) (by decide +kernel)
theorem fk_O_kinds : Cond.fieldLink R_O 11 R_O "kinds" "[I" ∈ jT := jT_in 63 (by decide +kernel) (by decide +kernel)
theorem fk_O_sizes : Cond.fieldLink R_O 15 R_O "sizes" "[I" ∈ jT := jT_in 64 (by decide +kernel) (by decide +kernel)
theorem fk_O_programs : Cond.fieldLink R_O 18 R_O "programs" "[I" ∈ jT := jT_in 65 (by decide +kernel) (by decide +kernel)
theorem fk_O_addresses : Cond.fieldLink R_O 21 R_O "addresses" "[I" ∈ jT := jT_in 66 (by decide +kernel) (by decide +kernel)
theorem fk_O_addressTold : Cond.fieldLink R_O 24 R_O "addressTold" "[Z" ∈ jT := jT_in 67 (by decide +kernel) (by decide +kernel)
theorem fk_O_numbers : Cond.fieldLink R_O 28 R_O "numbers" "[I" ∈ jT := jT_in 68 (by decide +kernel) (by decide +kernel)
theorem fk_O_numberTold : Cond.fieldLink R_O 31 R_O "numberTold" "[Z" ∈ jT := jT_in 69 (by decide +kernel) (by decide +kernel)
theorem fk_O_done : Cond.fieldLink R_O 34 R_O "done" "[Z" ∈ jT := jT_in 70 (by decide +kernel) (by decide +kernel)
theorem fk_O_loadedNumbers : Cond.fieldLink R_O 37 R_O "loadedNumbers" "[I" ∈ jT := jT_in 71 (by decide +kernel) (by decide +kernel)
theorem fk_O_sources : Cond.fieldLink R_O 40 R_O "sources" "[I" ∈ jT := jT_in 72 (by decide +kernel) (by decide +kernel)
theorem fk_B_stores : Cond.fieldLink R_B 9 R_B "stores" "[I" ∈ jT := jT_in 102 (by decide +kernel) (by decide +kernel)
theorem fk_B_addresses : Cond.fieldLink R_B 15 R_B "addresses" "[I" ∈ jT := jT_in 103 (by decide +kernel) (by decide +kernel)
theorem fk_B_sizes : Cond.fieldLink R_B 18 R_B "sizes" "[I" ∈ jT := jT_in 104 (by decide +kernel) (by decide +kernel)
theorem fk_B_numbers : Cond.fieldLink R_B 21 R_B "numbers" "[I" ∈ jT := jT_in 105 (by decide +kernel) (by decide +kernel)
theorem fk_B_held : Cond.fieldLink R_B 24 R_B "held" "I" ∈ jT := jT_in 106 (by decide +kernel) (by decide +kernel)
theorem fk_Y_cells : Cond.fieldLink R_Y 9 R_Y "cells" "[B" ∈ jT := jT_in 124 (by decide +kernel) (by decide +kernel)
theorem fk_C_ops : Cond.fieldLink R_C 10 R_C "ops" "LLoadStoreRows$OpRows;" ∈ jT := jT_in 129 (by decide +kernel) (by decide +kernel)
theorem fk_C_buffer : Cond.fieldLink R_C 19 R_C "buffer" "LLoadStoreRows$StoreBuffer;" ∈ jT := jT_in 130 (by decide +kernel) (by decide +kernel)
theorem fk_C_mainMemory : Cond.fieldLink R_C 26 R_C "mainMemory" "LLoadStoreRows$ByteMemory;" ∈ jT := jT_in 131 (by decide +kernel) (by decide +kernel)
theorem fk_C_nextOp : Cond.fieldLink R_C 30 R_C "nextOp" "I" ∈ jT := jT_in 132 (by decide +kernel) (by decide +kernel)
theorem fk_C_oldestWaiting : Cond.fieldLink R_C 34 R_C "oldestWaiting" "I" ∈ jT := jT_in 133 (by decide +kernel) (by decide +kernel)
theorem fk_C_marks : Cond.fieldLink R_C 37 R_C "marks" "J" ∈ jT := jT_in 134 (by decide +kernel) (by decide +kernel)
theorem fk_C_undoneSoFar : Cond.fieldLink R_C 41 R_C "undoneSoFar" "I" ∈ jT := jT_in 135 (by decide +kernel) (by decide +kernel)
theorem fk_C_wrongSoFar : Cond.fieldLink R_C 44 R_C "wrongSoFar" "I" ∈ jT := jT_in 136 (by decide +kernel) (by decide +kernel)
theorem fk_C_bytesFromStores : Cond.fieldLink R_C 47 R_C "bytesFromStores" "I" ∈ jT := jT_in 137 (by decide +kernel) (by decide +kernel)
theorem fk_C_bytesFromElsewhere : Cond.fieldLink R_C 50 R_C "bytesFromElsewhere" "I" ∈ jT := jT_in 138 (by decide +kernel) (by decide +kernel)
theorem lk_L_78 : Cond.methodLink R_L 78 y_C_leave ∈ jT := jT_in 160 (by decide +kernel) (by decide +kernel)
theorem lk_C_64 : Cond.methodLink R_C 64 y_C_waitingOps ∈ jT := jT_in 164 (by decide +kernel) (by decide +kernel)
theorem lk_C_170 : Cond.methodLink R_C 170 y_C_mayLeave ∈ jT := jT_in 168 (by decide +kernel) (by decide +kernel)
theorem lk_C_85 : Cond.methodLink R_C 85 y_O_kindOf ∈ jT := jT_in 172 (by decide +kernel) (by decide +kernel)
theorem lk_C_129 : Cond.methodLink R_C 129 y_O_isDone ∈ jT := jT_in 176 (by decide +kernel) (by decide +kernel)
theorem lk_C_255 : Cond.methodLink R_C 255 y_O_isTold ∈ jT := jT_in 180 (by decide +kernel) (by decide +kernel)
theorem lk_O_43 : Cond.methodLink R_O 43 y_O_hasAddress ∈ jT := jT_in 184 (by decide +kernel) (by decide +kernel)
theorem lk_O_47 : Cond.methodLink R_O 47 y_O_hasNumber ∈ jT := jT_in 188 (by decide +kernel) (by decide +kernel)
theorem lk_C_225 : Cond.methodLink R_C 225 y_O_addressOf ∈ jT := jT_in 192 (by decide +kernel) (by decide +kernel)
theorem lk_C_217 : Cond.methodLink R_C 217 y_C_isDevice ∈ jT := jT_in 196 (by decide +kernel) (by decide +kernel)
theorem lk_C_176 : Cond.methodLink R_C 176 y_B_isEmpty ∈ jT := jT_in 199 (by decide +kernel) (by decide +kernel)
theorem lk_C_258 : Cond.methodLink R_C 258 y_B_hasRoom ∈ jT := jT_in 203 (by decide +kernel) (by decide +kernel)
theorem lk_C_173 : Cond.methodLink R_C 173 y_C_carryOut ∈ jT := jT_in 207 (by decide +kernel) (by decide +kernel)
theorem lk_C_118 : Cond.methodLink R_C 118 y_C_takesNumber ∈ jT := jT_in 211 (by decide +kernel) (by decide +kernel)
theorem lk_C_94 : Cond.methodLink R_C 94 y_O_bytesOf ∈ jT := jT_in 214 (by decide +kernel) (by decide +kernel)
theorem lk_C_261 : Cond.methodLink R_C 261 y_O_numberOf ∈ jT := jT_in 218 (by decide +kernel) (by decide +kernel)
theorem lk_C_264 : Cond.methodLink R_C 264 y_B_append ∈ jT := jT_in 222 (by decide +kernel) (by decide +kernel)
theorem lk_C_267 : Cond.methodLink R_C 267 y_Y_numberAt ∈ jT := jT_in 226 (by decide +kernel) (by decide +kernel)
theorem lk_Y_15 : Cond.methodLink R_Y 15 y_Y_byteAt ∈ jT := jT_in 230 (by decide +kernel) (by decide +kernel)
theorem lk_C_238 : Cond.methodLink R_C 238 y_O_setLoaded ∈ jT := jT_in 234 (by decide +kernel) (by decide +kernel)
theorem lk_C_270 : Cond.methodLink R_C 270 y_Y_write ∈ jT := jT_in 238 (by decide +kernel) (by decide +kernel)
theorem lk_Y_23 : Cond.methodLink R_Y 23 y_Y_setByte ∈ jT := jT_in 245 (by decide +kernel) (by decide +kernel)
theorem lk_L_82 : Cond.methodLink R_L 82 y_C_drain ∈ jT := jT_in 249 (by decide +kernel) (by decide +kernel)
theorem lk_C_180 : Cond.methodLink R_C 180 y_B_oldestStore ∈ jT := jT_in 253 (by decide +kernel) (by decide +kernel)
theorem lk_C_183 : Cond.methodLink R_C 183 y_B_moveOldestTo ∈ jT := jT_in 257 (by decide +kernel) (by decide +kernel)
theorem lk_B_28 : Cond.methodLink R_B 28 y_Y_write ∈ jT := jT_in 261 (by decide +kernel) (by decide +kernel)
theorem lk_L_95 : Cond.methodLink R_L 95 y_C_marked ∈ jT := jT_in 262 (by decide +kernel) (by decide +kernel)
theorem lk_L_100 : Cond.methodLink R_L 100 y_C_count ∈ jT := jT_in 266 (by decide +kernel) (by decide +kernel)
theorem lk_C_205 : Cond.methodLink R_C 205 y_B_size ∈ jT := jT_in 270 (by decide +kernel) (by decide +kernel)
theorem lk_C_208 : Cond.methodLink R_C 208 y_C_loadsDoneThatWait ∈ jT := jT_in 274 (by decide +kernel) (by decide +kernel)
theorem lk_C_211 : Cond.methodLink R_C 211 y_G_bitCount ∈ jT := jT_in 278 (by decide +kernel) (by decide +kernel)
theorem kl_314 : Cond.constantLong R_G 314 (6148914691236517205 : Int64) ∈ jT := jT_in 281 (by decide +kernel) (by decide +kernel)
theorem kl_316 : Cond.constantLong R_G 316 (3689348814741910323 : Int64) ∈ jT := jT_in 282 (by decide +kernel) (by decide +kernel)
theorem kl_318 : Cond.constantLong R_G 318 (1085102592571150095 : Int64) ∈ jT := jT_in 283 (by decide +kernel) (by decide +kernel)
theorem lk_L_7 : Cond.methodLink R_L 7 y_C_op ∈ jT := jT_in 289 (by decide +kernel) (by decide +kernel)
theorem lk_C_53 : Cond.methodLink R_C 53 y_C_isKindWithBytes ∈ jT := jT_in 293 (by decide +kernel) (by decide +kernel)
theorem lk_C_73 : Cond.methodLink R_C 73 y_O_begin ∈ jT := jT_in 380 (by decide +kernel) (by decide +kernel)
theorem lk_L_17 : Cond.methodLink R_L 17 y_C_address ∈ jT := jT_in 388 (by decide +kernel) (by decide +kernel)
theorem lk_C_77 : Cond.methodLink R_C 77 y_C_requireOp ∈ jT := jT_in 392 (by decide +kernel) (by decide +kernel)
theorem lk_C_81 : Cond.methodLink R_C 81 y_C_waits ∈ jT := jT_in 412 (by decide +kernel) (by decide +kernel)
theorem lk_C_89 : Cond.methodLink R_C 89 y_O_hasAddress ∈ jT := jT_in 416 (by decide +kernel) (by decide +kernel)
theorem lk_C_97 : Cond.methodLink R_C 97 y_C_canBeAddress ∈ jT := jT_in 418 (by decide +kernel) (by decide +kernel)
theorem lk_C_102 : Cond.methodLink R_C 102 y_O_setAddress ∈ jT := jT_in 422 (by decide +kernel) (by decide +kernel)
theorem lk_C_106 : Cond.methodLink R_C 106 y_C_oldestLoadPast ∈ jT := jT_in 426 (by decide +kernel) (by decide +kernel)
theorem lk_C_252 : Cond.methodLink R_C 252 y_C_missedByteOf ∈ jT := jT_in 430 (by decide +kernel) (by decide +kernel)
theorem lk_C_231 : Cond.methodLink R_C 231 y_O_covers ∈ jT := jT_in 434 (by decide +kernel) (by decide +kernel)
theorem lk_O_54 : Cond.methodLink R_O 54 y_O_addressOf ∈ jT := jT_in 438 (by decide +kernel) (by decide +kernel)
theorem lk_O_58 : Cond.methodLink R_O 58 y_O_bytesOf ∈ jT := jT_in 439 (by decide +kernel) (by decide +kernel)
theorem lk_C_166 : Cond.methodLink R_C 166 y_O_sourceOf ∈ jT := jT_in 440 (by decide +kernel) (by decide +kernel)
theorem lk_O_50 : Cond.methodLink R_O 50 y_O_sourceSlot ∈ jT := jT_in 444 (by decide +kernel) (by decide +kernel)
theorem lk_C_109 : Cond.methodLink R_C 109 y_O_programOf ∈ jT := jT_in 447 (by decide +kernel) (by decide +kernel)
theorem lk_C_112 : Cond.methodLink R_C 112 y_C_mark ∈ jT := jT_in 451 (by decide +kernel) (by decide +kernel)
theorem lk_C_115 : Cond.methodLink R_C 115 y_C_undoWrong ∈ jT := jT_in 455 (by decide +kernel) (by decide +kernel)
theorem lk_C_241 : Cond.methodLink R_C 241 y_O_setDone ∈ jT := jT_in 459 (by decide +kernel) (by decide +kernel)
theorem lk_L_23 : Cond.methodLink R_L 23 y_C_number ∈ jT := jT_in 466 (by decide +kernel) (by decide +kernel)
theorem lk_C_121 : Cond.methodLink R_C 121 y_O_hasNumber ∈ jT := jT_in 470 (by decide +kernel) (by decide +kernel)
theorem lk_C_126 : Cond.methodLink R_C 126 y_O_setNumber ∈ jT := jT_in 472 (by decide +kernel) (by decide +kernel)
theorem lk_L_26 : Cond.methodLink R_L 26 y_C_tried ∈ jT := jT_in 479 (by decide +kernel) (by decide +kernel)
theorem lk_C_134 : Cond.methodLink R_C 134 y_C_isHeldBack ∈ jT := jT_in 484 (by decide +kernel) (by decide +kernel)
theorem lk_C_137 : Cond.methodLink R_C 137 y_C_marked ∈ jT := jT_in 488 (by decide +kernel) (by decide +kernel)
theorem lk_C_140 : Cond.methodLink R_C 140 y_C_storeWithoutAddressBefore ∈ jT := jT_in 489 (by decide +kernel) (by decide +kernel)
theorem lk_C_143 : Cond.methodLink R_C 143 y_C_storeWithoutNumberFor ∈ jT := jT_in 493 (by decide +kernel) (by decide +kernel)
theorem lk_C_228 : Cond.methodLink R_C 228 y_C_newestStoreBefore ∈ jT := jT_in 497 (by decide +kernel) (by decide +kernel)
theorem lk_C_146 : Cond.methodLink R_C 146 y_C_doLoad ∈ jT := jT_in 501 (by decide +kernel) (by decide +kernel)
theorem lk_C_234 : Cond.methodLink R_C 234 y_C_takeByte ∈ jT := jT_in 505 (by decide +kernel) (by decide +kernel)
theorem lk_C_245 : Cond.methodLink R_C 245 y_O_setSource ∈ jT := jT_in 509 (by decide +kernel) (by decide +kernel)
theorem lk_C_249 : Cond.methodLink R_C 249 y_O_byteAt ∈ jT := jT_in 513 (by decide +kernel) (by decide +kernel)
theorem lk_O_61 : Cond.methodLink R_O 61 y_O_numberOf ∈ jT := jT_in 517 (by decide +kernel) (by decide +kernel)
theorem lk_C_251 : Cond.methodLink R_C 251 y_B_byteAt ∈ jT := jT_in 519 (by decide +kernel) (by decide +kernel)
theorem lk_C_200 : Cond.methodLink R_C 200 y_Y_byteAt ∈ jT := jT_in 524 (by decide +kernel) (by decide +kernel)
theorem lk_L_30 : Cond.methodLink R_L 30 y_C_loaded ∈ jT := jT_in 529 (by decide +kernel) (by decide +kernel)
theorem lk_C_154 : Cond.methodLink R_C 154 y_C_hasLoaded ∈ jT := jT_in 549 (by decide +kernel) (by decide +kernel)
theorem lk_C_159 : Cond.methodLink R_C 159 y_O_loadedBy ∈ jT := jT_in 554 (by decide +kernel) (by decide +kernel)
theorem lk_L_35 : Cond.methodLink R_L 35 y_C_source ∈ jT := jT_in 561 (by decide +kernel) (by decide +kernel)
theorem lk_L_38 : Cond.methodLink R_L 38 y_C_other ∈ jT := jT_in 570 (by decide +kernel) (by decide +kernel)
theorem lk_C_187 : Cond.methodLink R_C 187 y_C_isMemoryByte ∈ jT := jT_in 574 (by decide +kernel) (by decide +kernel)
theorem lk_C_192 : Cond.methodLink R_C 192 y_Y_setByte ∈ jT := jT_in 578 (by decide +kernel) (by decide +kernel)
theorem lk_C_195 : Cond.methodLink R_C 195 y_C_oldestLoadFromMemory ∈ jT := jT_in 579 (by decide +kernel) (by decide +kernel)
theorem lk_L_41 : Cond.methodLink R_L 41 y_C_memory ∈ jT := jT_in 586 (by decide +kernel) (by decide +kernel)
theorem lk_L_44 : Cond.methodLink R_L 44 y_C_forget ∈ jT := jT_in 594 (by decide +kernel) (by decide +kernel)
theorem lk_L_50 : Cond.methodLink R_L 50 y_M_init ∈ jT := jT_in 601 (by decide +kernel) (by decide +kernel)
theorem fk_M_thrown : Cond.fieldLink R_M 56 R_M "thrown" "I" ∈ jT := jT_in 605 (by decide +kernel) (by decide +kernel)
theorem fk_M_total : Cond.fieldLink R_M 60 R_M "total" "I" ∈ jT := jT_in 606 (by decide +kernel) (by decide +kernel)
theorem fk_M_oldest : Cond.fieldLink R_M 63 R_M "oldest" "I" ∈ jT := jT_in 607 (by decide +kernel) (by decide +kernel)
theorem fk_M_undone : Cond.fieldLink R_M 107 R_M "undone" "I" ∈ jT := jT_in 608 (by decide +kernel) (by decide +kernel)
theorem fk_M_wrong : Cond.fieldLink R_M 104 R_M "wrong" "I" ∈ jT := jT_in 609 (by decide +kernel) (by decide +kernel)
theorem fk_M_ofStores : Cond.fieldLink R_M 126 R_M "ofStores" "I" ∈ jT := jT_in 610 (by decide +kernel) (by decide +kernel)
theorem fk_M_ofOthers : Cond.fieldLink R_M 129 R_M "ofOthers" "I" ∈ jT := jT_in 611 (by decide +kernel) (by decide +kernel)
theorem fk_M_bytes : Cond.fieldLink R_M 7 R_M "bytes" "[I" ∈ jT := jT_in 612 (by decide +kernel) (by decide +kernel)
theorem fk_M_marks : Cond.fieldLink R_M 13 R_M "marks" "[Z" ∈ jT := jT_in 613 (by decide +kernel) (by decide +kernel)
theorem fk_M_kinds : Cond.fieldLink R_M 17 R_M "kinds" "[I" ∈ jT := jT_in 614 (by decide +kernel) (by decide +kernel)
theorem fk_M_sizes : Cond.fieldLink R_M 20 R_M "sizes" "[I" ∈ jT := jT_in 615 (by decide +kernel) (by decide +kernel)
theorem fk_M_programs : Cond.fieldLink R_M 23 R_M "programs" "[I" ∈ jT := jT_in 616 (by decide +kernel) (by decide +kernel)
theorem fk_M_places : Cond.fieldLink R_M 26 R_M "places" "[I" ∈ jT := jT_in 617 (by decide +kernel) (by decide +kernel)
theorem fk_M_values : Cond.fieldLink R_M 29 R_M "values" "[I" ∈ jT := jT_in 618 (by decide +kernel) (by decide +kernel)
theorem fk_M_results : Cond.fieldLink R_M 32 R_M "results" "[I" ∈ jT := jT_in 619 (by decide +kernel) (by decide +kernel)
theorem fk_M_told : Cond.fieldLink R_M 35 R_M "told" "[Z" ∈ jT := jT_in 620 (by decide +kernel) (by decide +kernel)
theorem fk_M_done : Cond.fieldLink R_M 38 R_M "done" "[Z" ∈ jT := jT_in 621 (by decide +kernel) (by decide +kernel)
theorem fk_M_from : Cond.fieldLink R_M 41 R_M "from" "[I" ∈ jT := jT_in 622 (by decide +kernel) (by decide +kernel)
theorem fk_M_waiting : Cond.fieldLink R_M 44 R_M "waiting" "[I" ∈ jT := jT_in 623 (by decide +kernel) (by decide +kernel)
theorem fk_M_waitPlace : Cond.fieldLink R_M 47 R_M "waitPlace" "[I" ∈ jT := jT_in 624 (by decide +kernel) (by decide +kernel)
theorem fk_M_waitSize : Cond.fieldLink R_M 50 R_M "waitSize" "[I" ∈ jT := jT_in 625 (by decide +kernel) (by decide +kernel)
theorem fk_M_waitValue : Cond.fieldLink R_M 53 R_M "waitValue" "[I" ∈ jT := jT_in 626 (by decide +kernel) (by decide +kernel)
theorem fk_M_buffered : Cond.fieldLink R_M 81 R_M "buffered" "I" ∈ jT := jT_in 627 (by decide +kernel) (by decide +kernel)
theorem lk_L_57 : Cond.methodLink R_L 57 y_M_thrown ∈ jT := jT_in 675 (by decide +kernel) (by decide +kernel)
theorem lk_L_56 : Cond.methodLink R_L 56 y_M_op ∈ jT := jT_in 679 (by decide +kernel) (by decide +kernel)
theorem lk_M_66 : Cond.methodLink R_M 66 y_M_isSize ∈ jT := jT_in 683 (by decide +kernel) (by decide +kernel)
theorem lk_L_64 : Cond.methodLink R_L 64 y_M_address ∈ jT := jT_in 686 (by decide +kernel) (by decide +kernel)
theorem lk_M_88 : Cond.methodLink R_M 88 y_M_isOp ∈ jT := jT_in 690 (by decide +kernel) (by decide +kernel)
theorem lk_M_91 : Cond.methodLink R_M 91 y_M_canBe ∈ jT := jT_in 694 (by decide +kernel) (by decide +kernel)
theorem lk_M_84 : Cond.methodLink R_M 84 y_M_waits ∈ jT := jT_in 698 (by decide +kernel) (by decide +kernel)
theorem lk_M_94 : Cond.methodLink R_M 94 y_M_isDone ∈ jT := jT_in 702 (by decide +kernel) (by decide +kernel)
theorem lk_M_97 : Cond.methodLink R_M 97 y_M_tookOlder ∈ jT := jT_in 706 (by decide +kernel) (by decide +kernel)
theorem lk_M_78 : Cond.methodLink R_M 78 y_M_has ∈ jT := jT_in 710 (by decide +kernel) (by decide +kernel)
theorem lk_M_74 : Cond.methodLink R_M 74 y_M_covers ∈ jT := jT_in 714 (by decide +kernel) (by decide +kernel)
theorem lk_M_100 : Cond.methodLink R_M 100 y_M_undo ∈ jT := jT_in 717 (by decide +kernel) (by decide +kernel)
theorem lk_L_67 : Cond.methodLink R_L 67 y_M_number ∈ jT := jT_in 721 (by decide +kernel) (by decide +kernel)
theorem lk_L_71 : Cond.methodLink R_L 71 y_M_tried ∈ jT := jT_in 725 (by decide +kernel) (by decide +kernel)
theorem lk_M_110 : Cond.methodLink R_M 110 y_M_isHeld ∈ jT := jT_in 729 (by decide +kernel) (by decide +kernel)
theorem lk_M_113 : Cond.methodLink R_M 113 y_M_hasUnknown ∈ jT := jT_in 733 (by decide +kernel) (by decide +kernel)
theorem lk_M_116 : Cond.methodLink R_M 116 y_M_storeOf ∈ jT := jT_in 737 (by decide +kernel) (by decide +kernel)
theorem lk_M_120 : Cond.methodLink R_M 120 y_M_taken ∈ jT := jT_in 741 (by decide +kernel) (by decide +kernel)
theorem lk_M_123 : Cond.methodLink R_M 123 y_M_bufferOf ∈ jT := jT_in 745 (by decide +kernel) (by decide +kernel)
theorem lk_M_70 : Cond.methodLink R_M 70 y_M_byteOf ∈ jT := jT_in 749 (by decide +kernel) (by decide +kernel)
theorem lk_L_74 : Cond.methodLink R_L 74 y_M_loaded ∈ jT := jT_in 752 (by decide +kernel) (by decide +kernel)
theorem lk_L_77 : Cond.methodLink R_L 77 y_M_source ∈ jT := jT_in 756 (by decide +kernel) (by decide +kernel)
theorem lk_L_81 : Cond.methodLink R_L 81 y_M_leave ∈ jT := jT_in 760 (by decide +kernel) (by decide +kernel)
theorem lk_M_132 : Cond.methodLink R_M 132 y_M_mayLeave ∈ jT := jT_in 764 (by decide +kernel) (by decide +kernel)
theorem lk_M_136 : Cond.methodLink R_M 136 y_M_intoBuffer ∈ jT := jT_in 768 (by decide +kernel) (by decide +kernel)
theorem lk_M_140 : Cond.methodLink R_M 140 y_M_write ∈ jT := jT_in 772 (by decide +kernel) (by decide +kernel)
theorem lk_L_85 : Cond.methodLink R_L 85 y_M_drain ∈ jT := jT_in 776 (by decide +kernel) (by decide +kernel)
theorem lk_L_88 : Cond.methodLink R_L 88 y_M_other ∈ jT := jT_in 780 (by decide +kernel) (by decide +kernel)
theorem lk_M_144 : Cond.methodLink R_M 144 y_M_tookFromMemory ∈ jT := jT_in 784 (by decide +kernel) (by decide +kernel)
theorem lk_L_91 : Cond.methodLink R_L 91 y_M_memory ∈ jT := jT_in 788 (by decide +kernel) (by decide +kernel)
theorem lk_L_94 : Cond.methodLink R_L 94 y_M_forget ∈ jT := jT_in 792 (by decide +kernel) (by decide +kernel)
theorem lk_L_99 : Cond.methodLink R_L 99 y_M_marked ∈ jT := jT_in 796 (by decide +kernel) (by decide +kernel)
theorem lk_L_103 : Cond.methodLink R_L 103 y_M_count ∈ jT := jT_in 800 (by decide +kernel) (by decide +kernel)
theorem yk_C_leave : jY jT y_C_leave b_C_leave 2 (some .int) 0 := ⟨jT_in 163 (by decide +kernel) (by decide +kernel), jT_in 161 (by decide +kernel) (by decide +kernel), jT_in 162 (by decide +kernel) (by decide +kernel), jT_in 36 (by decide +kernel) (by decide +kernel), ⟨by decide +kernel, by decide +kernel⟩, by decide +kernel⟩
theorem yk_C_waitingOps : jY jT y_C_waitingOps b_C_waitingOps 1 (some .int) 0 := ⟨jT_in 167 (by decide +kernel) (by decide +kernel), jT_in 166 (by decide +kernel) (by decide +kernel), jT_in 0 (by decide +kernel) (by decide +kernel), jT_in 36 (by decide +kernel) (by decide +kernel), ⟨by decide +kernel, by decide +kernel⟩, by decide +kernel⟩
theorem yk_C_mayLeave : jY jT y_C_mayLeave b_C_mayLeave 2 (some .boolean) 1 := ⟨jT_in 171 (by decide +kernel) (by decide +kernel), jT_in 170 (by decide +kernel) (by decide +kernel), jT_in 1 (by decide +kernel) (by decide +kernel), jT_in 36 (by decide +kernel) (by decide +kernel), ⟨by decide +kernel, by decide +kernel⟩, by decide +kernel⟩
theorem yk_O_kindOf : jY jT y_O_kindOf b_O_kindOf 2 (some .int) 1 := ⟨jT_in 175 (by decide +kernel) (by decide +kernel), jT_in 173 (by decide +kernel) (by decide +kernel), jT_in 174 (by decide +kernel) (by decide +kernel), jT_in 37 (by decide +kernel) (by decide +kernel), ⟨by decide +kernel, by decide +kernel⟩, by decide +kernel⟩
theorem yk_O_isDone : jY jT y_O_isDone b_O_isDone 2 (some .boolean) 1 := ⟨jT_in 179 (by decide +kernel) (by decide +kernel), jT_in 177 (by decide +kernel) (by decide +kernel), jT_in 178 (by decide +kernel) (by decide +kernel), jT_in 37 (by decide +kernel) (by decide +kernel), ⟨by decide +kernel, by decide +kernel⟩, by decide +kernel⟩
theorem yk_O_isTold : jY jT y_O_isTold b_O_isTold 2 (some .boolean) 1 := ⟨jT_in 183 (by decide +kernel) (by decide +kernel), jT_in 181 (by decide +kernel) (by decide +kernel), jT_in 182 (by decide +kernel) (by decide +kernel), jT_in 37 (by decide +kernel) (by decide +kernel), ⟨by decide +kernel, by decide +kernel⟩, by decide +kernel⟩
theorem yk_O_hasAddress : jY jT y_O_hasAddress b_O_hasAddress 2 (some .boolean) 1 := ⟨jT_in 187 (by decide +kernel) (by decide +kernel), jT_in 185 (by decide +kernel) (by decide +kernel), jT_in 186 (by decide +kernel) (by decide +kernel), jT_in 37 (by decide +kernel) (by decide +kernel), ⟨by decide +kernel, by decide +kernel⟩, by decide +kernel⟩
theorem yk_O_hasNumber : jY jT y_O_hasNumber b_O_hasNumber 2 (some .boolean) 1 := ⟨jT_in 191 (by decide +kernel) (by decide +kernel), jT_in 189 (by decide +kernel) (by decide +kernel), jT_in 190 (by decide +kernel) (by decide +kernel), jT_in 37 (by decide +kernel) (by decide +kernel), ⟨by decide +kernel, by decide +kernel⟩, by decide +kernel⟩
theorem yk_O_addressOf : jY jT y_O_addressOf b_O_addressOf 2 (some .int) 1 := ⟨jT_in 195 (by decide +kernel) (by decide +kernel), jT_in 193 (by decide +kernel) (by decide +kernel), jT_in 194 (by decide +kernel) (by decide +kernel), jT_in 37 (by decide +kernel) (by decide +kernel), ⟨by decide +kernel, by decide +kernel⟩, by decide +kernel⟩
theorem yk_C_isDevice : jYs jT y_C_isDevice b_C_isDevice 1 (some .boolean) 1 := ⟨jT_in 198 (by decide +kernel) (by decide +kernel), jT_in 197 (by decide +kernel) (by decide +kernel), jT_in 36 (by decide +kernel) (by decide +kernel), ⟨by decide +kernel, by decide +kernel⟩, by decide +kernel⟩
theorem yk_B_isEmpty : jY jT y_B_isEmpty b_B_isEmpty 1 (some .boolean) 0 := ⟨jT_in 202 (by decide +kernel) (by decide +kernel), jT_in 200 (by decide +kernel) (by decide +kernel), jT_in 201 (by decide +kernel) (by decide +kernel), jT_in 38 (by decide +kernel) (by decide +kernel), ⟨by decide +kernel, by decide +kernel⟩, by decide +kernel⟩
theorem yk_B_hasRoom : jY jT y_B_hasRoom b_B_hasRoom 1 (some .boolean) 0 := ⟨jT_in 206 (by decide +kernel) (by decide +kernel), jT_in 204 (by decide +kernel) (by decide +kernel), jT_in 205 (by decide +kernel) (by decide +kernel), jT_in 38 (by decide +kernel) (by decide +kernel), ⟨by decide +kernel, by decide +kernel⟩, by decide +kernel⟩
theorem yk_C_carryOut : jY jT y_C_carryOut b_C_carryOut 5 none 1 := ⟨jT_in 210 (by decide +kernel) (by decide +kernel), jT_in 209 (by decide +kernel) (by decide +kernel), jT_in 2 (by decide +kernel) (by decide +kernel), jT_in 36 (by decide +kernel) (by decide +kernel), ⟨by decide +kernel, by decide +kernel⟩, by decide +kernel⟩
theorem yk_C_takesNumber : jYs jT y_C_takesNumber b_C_takesNumber 1 (some .boolean) 1 := ⟨jT_in 213 (by decide +kernel) (by decide +kernel), jT_in 212 (by decide +kernel) (by decide +kernel), jT_in 36 (by decide +kernel) (by decide +kernel), ⟨by decide +kernel, by decide +kernel⟩, by decide +kernel⟩
theorem yk_O_bytesOf : jY jT y_O_bytesOf b_O_bytesOf 2 (some .int) 1 := ⟨jT_in 217 (by decide +kernel) (by decide +kernel), jT_in 215 (by decide +kernel) (by decide +kernel), jT_in 216 (by decide +kernel) (by decide +kernel), jT_in 37 (by decide +kernel) (by decide +kernel), ⟨by decide +kernel, by decide +kernel⟩, by decide +kernel⟩
theorem yk_O_numberOf : jY jT y_O_numberOf b_O_numberOf 2 (some .int) 1 := ⟨jT_in 221 (by decide +kernel) (by decide +kernel), jT_in 219 (by decide +kernel) (by decide +kernel), jT_in 220 (by decide +kernel) (by decide +kernel), jT_in 37 (by decide +kernel) (by decide +kernel), ⟨by decide +kernel, by decide +kernel⟩, by decide +kernel⟩
theorem yk_B_append : jY jT y_B_append b_B_append 5 none 4 := ⟨jT_in 225 (by decide +kernel) (by decide +kernel), jT_in 223 (by decide +kernel) (by decide +kernel), jT_in 224 (by decide +kernel) (by decide +kernel), jT_in 38 (by decide +kernel) (by decide +kernel), ⟨by decide +kernel, by decide +kernel⟩, by decide +kernel⟩
theorem yk_Y_numberAt : jY jT y_Y_numberAt b_Y_numberAt 5 (some .int) 2 := ⟨jT_in 229 (by decide +kernel) (by decide +kernel), jT_in 227 (by decide +kernel) (by decide +kernel), jT_in 228 (by decide +kernel) (by decide +kernel), jT_in 39 (by decide +kernel) (by decide +kernel), ⟨by decide +kernel, by decide +kernel⟩, by decide +kernel⟩
theorem yk_Y_byteAt : jY jT y_Y_byteAt b_Y_byteAt 2 (some .int) 1 := ⟨jT_in 233 (by decide +kernel) (by decide +kernel), jT_in 231 (by decide +kernel) (by decide +kernel), jT_in 232 (by decide +kernel) (by decide +kernel), jT_in 39 (by decide +kernel) (by decide +kernel), ⟨by decide +kernel, by decide +kernel⟩, by decide +kernel⟩
theorem yk_O_setLoaded : jY jT y_O_setLoaded b_O_setLoaded 3 none 2 := ⟨jT_in 237 (by decide +kernel) (by decide +kernel), jT_in 235 (by decide +kernel) (by decide +kernel), jT_in 236 (by decide +kernel) (by decide +kernel), jT_in 37 (by decide +kernel) (by decide +kernel), ⟨by decide +kernel, by decide +kernel⟩, by decide +kernel⟩
theorem yk_Y_write : jY jT y_Y_write b_Y_write 5 none 3 := ⟨jT_in 241 (by decide +kernel) (by decide +kernel), jT_in 239 (by decide +kernel) (by decide +kernel), jT_in 240 (by decide +kernel) (by decide +kernel), jT_in 39 (by decide +kernel) (by decide +kernel), ⟨by decide +kernel, by decide +kernel⟩, by decide +kernel⟩
theorem yk_C_byteOfNumber : jYs jT y_C_byteOfNumber b_C_byteOfNumber 3 (some .int) 3 := ⟨jT_in 244 (by decide +kernel) (by decide +kernel), jT_in 243 (by decide +kernel) (by decide +kernel), jT_in 36 (by decide +kernel) (by decide +kernel), ⟨by decide +kernel, by decide +kernel⟩, by decide +kernel⟩
theorem yk_Y_setByte : jY jT y_Y_setByte b_Y_setByte 3 none 2 := ⟨jT_in 248 (by decide +kernel) (by decide +kernel), jT_in 246 (by decide +kernel) (by decide +kernel), jT_in 247 (by decide +kernel) (by decide +kernel), jT_in 39 (by decide +kernel) (by decide +kernel), ⟨by decide +kernel, by decide +kernel⟩, by decide +kernel⟩
theorem yk_C_drain : jY jT y_C_drain b_C_drain 2 (some .int) 0 := ⟨jT_in 252 (by decide +kernel) (by decide +kernel), jT_in 250 (by decide +kernel) (by decide +kernel), jT_in 251 (by decide +kernel) (by decide +kernel), jT_in 36 (by decide +kernel) (by decide +kernel), ⟨by decide +kernel, by decide +kernel⟩, by decide +kernel⟩
theorem yk_B_oldestStore : jY jT y_B_oldestStore b_B_oldestStore 1 (some .int) 0 := ⟨jT_in 256 (by decide +kernel) (by decide +kernel), jT_in 254 (by decide +kernel) (by decide +kernel), jT_in 255 (by decide +kernel) (by decide +kernel), jT_in 38 (by decide +kernel) (by decide +kernel), ⟨by decide +kernel, by decide +kernel⟩, by decide +kernel⟩
theorem yk_B_moveOldestTo : jY jT y_B_moveOldestTo b_B_moveOldestTo 3 none 1 := ⟨jT_in 260 (by decide +kernel) (by decide +kernel), jT_in 258 (by decide +kernel) (by decide +kernel), jT_in 259 (by decide +kernel) (by decide +kernel), jT_in 38 (by decide +kernel) (by decide +kernel), ⟨by decide +kernel, by decide +kernel⟩, by decide +kernel⟩
theorem yk_C_marked : jY jT y_C_marked b_C_marked 2 (some .boolean) 1 := ⟨jT_in 265 (by decide +kernel) (by decide +kernel), jT_in 263 (by decide +kernel) (by decide +kernel), jT_in 264 (by decide +kernel) (by decide +kernel), jT_in 36 (by decide +kernel) (by decide +kernel), ⟨by decide +kernel, by decide +kernel⟩, by decide +kernel⟩
theorem yk_C_count : jY jT y_C_count b_C_count 2 (some .int) 1 := ⟨jT_in 269 (by decide +kernel) (by decide +kernel), jT_in 267 (by decide +kernel) (by decide +kernel), jT_in 268 (by decide +kernel) (by decide +kernel), jT_in 36 (by decide +kernel) (by decide +kernel), ⟨by decide +kernel, by decide +kernel⟩, by decide +kernel⟩
theorem yk_B_size : jY jT y_B_size b_B_size 1 (some .int) 0 := ⟨jT_in 273 (by decide +kernel) (by decide +kernel), jT_in 271 (by decide +kernel) (by decide +kernel), jT_in 272 (by decide +kernel) (by decide +kernel), jT_in 38 (by decide +kernel) (by decide +kernel), ⟨by decide +kernel, by decide +kernel⟩, by decide +kernel⟩
theorem yk_C_loadsDoneThatWait : jY jT y_C_loadsDoneThatWait b_C_loadsDoneThatWait 3 (some .int) 0 := ⟨jT_in 277 (by decide +kernel) (by decide +kernel), jT_in 276 (by decide +kernel) (by decide +kernel), jT_in 3 (by decide +kernel) (by decide +kernel), jT_in 36 (by decide +kernel) (by decide +kernel), ⟨by decide +kernel, by decide +kernel⟩, by decide +kernel⟩
theorem yk_G_bitCount : jYs jT y_G_bitCount b_G_bitCount 2 (some .int) 1 := ⟨jT_in 280 (by decide +kernel) (by decide +kernel), jT_in 279 (by decide +kernel) (by decide +kernel), jT_in 48 (by decide +kernel) (by decide +kernel), ⟨by decide +kernel, by decide +kernel⟩, by decide +kernel⟩
theorem yk_C_op : jY jT y_C_op b_C_op 5 (some .int) 3 := ⟨jT_in 292 (by decide +kernel) (by decide +kernel), jT_in 290 (by decide +kernel) (by decide +kernel), jT_in 291 (by decide +kernel) (by decide +kernel), jT_in 36 (by decide +kernel) (by decide +kernel), ⟨by decide +kernel, by decide +kernel⟩, by decide +kernel⟩
theorem yk_C_isKindWithBytes : jYs jT y_C_isKindWithBytes b_C_isKindWithBytes 2 (some .boolean) 2 := ⟨jT_in 295 (by decide +kernel) (by decide +kernel), jT_in 294 (by decide +kernel) (by decide +kernel), jT_in 36 (by decide +kernel) (by decide +kernel), ⟨by decide +kernel, by decide +kernel⟩, by decide +kernel⟩
theorem yk_O_begin : jY jT y_O_begin b_O_begin 6 none 4 := ⟨jT_in 383 (by decide +kernel) (by decide +kernel), jT_in 381 (by decide +kernel) (by decide +kernel), jT_in 382 (by decide +kernel) (by decide +kernel), jT_in 37 (by decide +kernel) (by decide +kernel), ⟨by decide +kernel, by decide +kernel⟩, by decide +kernel⟩
theorem yk_C_address : jY jT y_C_address b_C_address 4 (some .int) 2 := ⟨jT_in 391 (by decide +kernel) (by decide +kernel), jT_in 389 (by decide +kernel) (by decide +kernel), jT_in 390 (by decide +kernel) (by decide +kernel), jT_in 36 (by decide +kernel) (by decide +kernel), ⟨by decide +kernel, by decide +kernel⟩, by decide +kernel⟩
theorem yk_C_requireOp : jY jT y_C_requireOp b_C_requireOp 2 none 1 := ⟨jT_in 395 (by decide +kernel) (by decide +kernel), jT_in 394 (by decide +kernel) (by decide +kernel), jT_in 5 (by decide +kernel) (by decide +kernel), jT_in 36 (by decide +kernel) (by decide +kernel), ⟨by decide +kernel, by decide +kernel⟩, by decide +kernel⟩
theorem yk_C_waits : jY jT y_C_waits b_C_waits 2 (some .boolean) 1 := ⟨jT_in 415 (by decide +kernel) (by decide +kernel), jT_in 414 (by decide +kernel) (by decide +kernel), jT_in 6 (by decide +kernel) (by decide +kernel), jT_in 36 (by decide +kernel) (by decide +kernel), ⟨by decide +kernel, by decide +kernel⟩, by decide +kernel⟩
theorem yk_C_canBeAddress : jYs jT y_C_canBeAddress b_C_canBeAddress 2 (some .boolean) 2 := ⟨jT_in 420 (by decide +kernel) (by decide +kernel), jT_in 419 (by decide +kernel) (by decide +kernel), jT_in 36 (by decide +kernel) (by decide +kernel), ⟨by decide +kernel, by decide +kernel⟩, by decide +kernel⟩
theorem yk_O_setAddress : jY jT y_O_setAddress b_O_setAddress 3 none 2 := ⟨jT_in 425 (by decide +kernel) (by decide +kernel), jT_in 423 (by decide +kernel) (by decide +kernel), jT_in 424 (by decide +kernel) (by decide +kernel), jT_in 37 (by decide +kernel) (by decide +kernel), ⟨by decide +kernel, by decide +kernel⟩, by decide +kernel⟩
theorem yk_C_oldestLoadPast : jY jT y_C_oldestLoadPast b_C_oldestLoadPast 3 (some .int) 1 := ⟨jT_in 429 (by decide +kernel) (by decide +kernel), jT_in 428 (by decide +kernel) (by decide +kernel), jT_in 7 (by decide +kernel) (by decide +kernel), jT_in 36 (by decide +kernel) (by decide +kernel), ⟨by decide +kernel, by decide +kernel⟩, by decide +kernel⟩
theorem yk_C_missedByteOf : jY jT y_C_missedByteOf b_C_missedByteOf 5 (some .boolean) 2 := ⟨jT_in 433 (by decide +kernel) (by decide +kernel), jT_in 432 (by decide +kernel) (by decide +kernel), jT_in 8 (by decide +kernel) (by decide +kernel), jT_in 36 (by decide +kernel) (by decide +kernel), ⟨by decide +kernel, by decide +kernel⟩, by decide +kernel⟩
theorem yk_O_covers : jY jT y_O_covers b_O_covers 4 (some .boolean) 2 := ⟨jT_in 437 (by decide +kernel) (by decide +kernel), jT_in 435 (by decide +kernel) (by decide +kernel), jT_in 436 (by decide +kernel) (by decide +kernel), jT_in 37 (by decide +kernel) (by decide +kernel), ⟨by decide +kernel, by decide +kernel⟩, by decide +kernel⟩
theorem yk_O_sourceOf : jY jT y_O_sourceOf b_O_sourceOf 3 (some .int) 2 := ⟨jT_in 443 (by decide +kernel) (by decide +kernel), jT_in 441 (by decide +kernel) (by decide +kernel), jT_in 442 (by decide +kernel) (by decide +kernel), jT_in 37 (by decide +kernel) (by decide +kernel), ⟨by decide +kernel, by decide +kernel⟩, by decide +kernel⟩
theorem yk_O_sourceSlot : jYs jT y_O_sourceSlot b_O_sourceSlot 2 (some .int) 2 := ⟨jT_in 446 (by decide +kernel) (by decide +kernel), jT_in 445 (by decide +kernel) (by decide +kernel), jT_in 37 (by decide +kernel) (by decide +kernel), ⟨by decide +kernel, by decide +kernel⟩, by decide +kernel⟩
theorem yk_O_programOf : jY jT y_O_programOf b_O_programOf 2 (some .int) 1 := ⟨jT_in 450 (by decide +kernel) (by decide +kernel), jT_in 448 (by decide +kernel) (by decide +kernel), jT_in 449 (by decide +kernel) (by decide +kernel), jT_in 37 (by decide +kernel) (by decide +kernel), ⟨by decide +kernel, by decide +kernel⟩, by decide +kernel⟩
theorem yk_C_mark : jY jT y_C_mark b_C_mark 2 none 1 := ⟨jT_in 454 (by decide +kernel) (by decide +kernel), jT_in 453 (by decide +kernel) (by decide +kernel), jT_in 9 (by decide +kernel) (by decide +kernel), jT_in 36 (by decide +kernel) (by decide +kernel), ⟨by decide +kernel, by decide +kernel⟩, by decide +kernel⟩
theorem yk_C_undoWrong : jY jT y_C_undoWrong b_C_undoWrong 4 (some .int) 1 := ⟨jT_in 458 (by decide +kernel) (by decide +kernel), jT_in 457 (by decide +kernel) (by decide +kernel), jT_in 10 (by decide +kernel) (by decide +kernel), jT_in 36 (by decide +kernel) (by decide +kernel), ⟨by decide +kernel, by decide +kernel⟩, by decide +kernel⟩
theorem yk_O_setDone : jY jT y_O_setDone b_O_setDone 3 none 2 := ⟨jT_in 462 (by decide +kernel) (by decide +kernel), jT_in 460 (by decide +kernel) (by decide +kernel), jT_in 461 (by decide +kernel) (by decide +kernel), jT_in 37 (by decide +kernel) (by decide +kernel), ⟨by decide +kernel, by decide +kernel⟩, by decide +kernel⟩
theorem yk_C_number : jY jT y_C_number b_C_number 3 (some .int) 2 := ⟨jT_in 469 (by decide +kernel) (by decide +kernel), jT_in 467 (by decide +kernel) (by decide +kernel), jT_in 468 (by decide +kernel) (by decide +kernel), jT_in 36 (by decide +kernel) (by decide +kernel), ⟨by decide +kernel, by decide +kernel⟩, by decide +kernel⟩
theorem yk_O_setNumber : jY jT y_O_setNumber b_O_setNumber 3 none 2 := ⟨jT_in 475 (by decide +kernel) (by decide +kernel), jT_in 473 (by decide +kernel) (by decide +kernel), jT_in 474 (by decide +kernel) (by decide +kernel), jT_in 37 (by decide +kernel) (by decide +kernel), ⟨by decide +kernel, by decide +kernel⟩, by decide +kernel⟩
theorem yk_C_tried : jY jT y_C_tried b_C_tried 2 (some .int) 1 := ⟨jT_in 482 (by decide +kernel) (by decide +kernel), jT_in 480 (by decide +kernel) (by decide +kernel), jT_in 481 (by decide +kernel) (by decide +kernel), jT_in 36 (by decide +kernel) (by decide +kernel), ⟨by decide +kernel, by decide +kernel⟩, by decide +kernel⟩
theorem yk_C_isHeldBack : jY jT y_C_isHeldBack b_C_isHeldBack 4 (some .boolean) 1 := ⟨jT_in 487 (by decide +kernel) (by decide +kernel), jT_in 486 (by decide +kernel) (by decide +kernel), jT_in 11 (by decide +kernel) (by decide +kernel), jT_in 36 (by decide +kernel) (by decide +kernel), ⟨by decide +kernel, by decide +kernel⟩, by decide +kernel⟩
theorem yk_C_storeWithoutAddressBefore : jY jT y_C_storeWithoutAddressBefore b_C_storeWithoutAddressBefore 3 (some .boolean) 1 := ⟨jT_in 492 (by decide +kernel) (by decide +kernel), jT_in 491 (by decide +kernel) (by decide +kernel), jT_in 12 (by decide +kernel) (by decide +kernel), jT_in 36 (by decide +kernel) (by decide +kernel), ⟨by decide +kernel, by decide +kernel⟩, by decide +kernel⟩
theorem yk_C_storeWithoutNumberFor : jY jT y_C_storeWithoutNumberFor b_C_storeWithoutNumberFor 5 (some .boolean) 1 := ⟨jT_in 496 (by decide +kernel) (by decide +kernel), jT_in 495 (by decide +kernel) (by decide +kernel), jT_in 13 (by decide +kernel) (by decide +kernel), jT_in 36 (by decide +kernel) (by decide +kernel), ⟨by decide +kernel, by decide +kernel⟩, by decide +kernel⟩
theorem yk_C_newestStoreBefore : jY jT y_C_newestStoreBefore b_C_newestStoreBefore 4 (some .int) 2 := ⟨jT_in 500 (by decide +kernel) (by decide +kernel), jT_in 499 (by decide +kernel) (by decide +kernel), jT_in 14 (by decide +kernel) (by decide +kernel), jT_in 36 (by decide +kernel) (by decide +kernel), ⟨by decide +kernel, by decide +kernel⟩, by decide +kernel⟩
theorem yk_C_doLoad : jY jT y_C_doLoad b_C_doLoad 5 none 1 := ⟨jT_in 504 (by decide +kernel) (by decide +kernel), jT_in 503 (by decide +kernel) (by decide +kernel), jT_in 15 (by decide +kernel) (by decide +kernel), jT_in 36 (by decide +kernel) (by decide +kernel), ⟨by decide +kernel, by decide +kernel⟩, by decide +kernel⟩
theorem yk_C_takeByte : jY jT y_C_takeByte b_C_takeByte 6 (some .int) 3 := ⟨jT_in 508 (by decide +kernel) (by decide +kernel), jT_in 507 (by decide +kernel) (by decide +kernel), jT_in 16 (by decide +kernel) (by decide +kernel), jT_in 36 (by decide +kernel) (by decide +kernel), ⟨by decide +kernel, by decide +kernel⟩, by decide +kernel⟩
theorem yk_O_setSource : jY jT y_O_setSource b_O_setSource 4 none 3 := ⟨jT_in 512 (by decide +kernel) (by decide +kernel), jT_in 510 (by decide +kernel) (by decide +kernel), jT_in 511 (by decide +kernel) (by decide +kernel), jT_in 37 (by decide +kernel) (by decide +kernel), ⟨by decide +kernel, by decide +kernel⟩, by decide +kernel⟩
theorem yk_O_byteAt : jY jT y_O_byteAt b_O_byteAt 3 (some .int) 2 := ⟨jT_in 516 (by decide +kernel) (by decide +kernel), jT_in 514 (by decide +kernel) (by decide +kernel), jT_in 515 (by decide +kernel) (by decide +kernel), jT_in 37 (by decide +kernel) (by decide +kernel), ⟨by decide +kernel, by decide +kernel⟩, by decide +kernel⟩
theorem yk_B_byteAt : jY jT y_B_byteAt b_B_byteAt 4 (some .int) 1 := ⟨jT_in 522 (by decide +kernel) (by decide +kernel), jT_in 520 (by decide +kernel) (by decide +kernel), jT_in 521 (by decide +kernel) (by decide +kernel), jT_in 38 (by decide +kernel) (by decide +kernel), ⟨by decide +kernel, by decide +kernel⟩, by decide +kernel⟩
theorem yk_C_loaded : jY jT y_C_loaded b_C_loaded 2 (some .int) 1 := ⟨jT_in 532 (by decide +kernel) (by decide +kernel), jT_in 530 (by decide +kernel) (by decide +kernel), jT_in 531 (by decide +kernel) (by decide +kernel), jT_in 36 (by decide +kernel) (by decide +kernel), ⟨by decide +kernel, by decide +kernel⟩, by decide +kernel⟩
theorem yk_C_hasLoaded : jY jT y_C_hasLoaded b_C_hasLoaded 2 (some .boolean) 1 := ⟨jT_in 552 (by decide +kernel) (by decide +kernel), jT_in 551 (by decide +kernel) (by decide +kernel), jT_in 17 (by decide +kernel) (by decide +kernel), jT_in 36 (by decide +kernel) (by decide +kernel), ⟨by decide +kernel, by decide +kernel⟩, by decide +kernel⟩
theorem yk_O_loadedBy : jY jT y_O_loadedBy b_O_loadedBy 2 (some .int) 1 := ⟨jT_in 557 (by decide +kernel) (by decide +kernel), jT_in 555 (by decide +kernel) (by decide +kernel), jT_in 556 (by decide +kernel) (by decide +kernel), jT_in 37 (by decide +kernel) (by decide +kernel), ⟨by decide +kernel, by decide +kernel⟩, by decide +kernel⟩
theorem yk_C_source : jY jT y_C_source b_C_source 4 (some .int) 2 := ⟨jT_in 564 (by decide +kernel) (by decide +kernel), jT_in 562 (by decide +kernel) (by decide +kernel), jT_in 563 (by decide +kernel) (by decide +kernel), jT_in 36 (by decide +kernel) (by decide +kernel), ⟨by decide +kernel, by decide +kernel⟩, by decide +kernel⟩
theorem yk_C_other : jY jT y_C_other b_C_other 4 (some .int) 2 := ⟨jT_in 573 (by decide +kernel) (by decide +kernel), jT_in 571 (by decide +kernel) (by decide +kernel), jT_in 572 (by decide +kernel) (by decide +kernel), jT_in 36 (by decide +kernel) (by decide +kernel), ⟨by decide +kernel, by decide +kernel⟩, by decide +kernel⟩
theorem yk_C_isMemoryByte : jYs jT y_C_isMemoryByte b_C_isMemoryByte 1 (some .boolean) 1 := ⟨jT_in 576 (by decide +kernel) (by decide +kernel), jT_in 575 (by decide +kernel) (by decide +kernel), jT_in 36 (by decide +kernel) (by decide +kernel), ⟨by decide +kernel, by decide +kernel⟩, by decide +kernel⟩
theorem yk_C_oldestLoadFromMemory : jY jT y_C_oldestLoadFromMemory b_C_oldestLoadFromMemory 3 (some .int) 1 := ⟨jT_in 582 (by decide +kernel) (by decide +kernel), jT_in 581 (by decide +kernel) (by decide +kernel), jT_in 18 (by decide +kernel) (by decide +kernel), jT_in 36 (by decide +kernel) (by decide +kernel), ⟨by decide +kernel, by decide +kernel⟩, by decide +kernel⟩
theorem yk_C_memory : jY jT y_C_memory b_C_memory 2 (some .int) 1 := ⟨jT_in 589 (by decide +kernel) (by decide +kernel), jT_in 587 (by decide +kernel) (by decide +kernel), jT_in 588 (by decide +kernel) (by decide +kernel), jT_in 36 (by decide +kernel) (by decide +kernel), ⟨by decide +kernel, by decide +kernel⟩, by decide +kernel⟩
theorem yk_C_forget : jY jT y_C_forget b_C_forget 3 (some .int) 1 := ⟨jT_in 597 (by decide +kernel) (by decide +kernel), jT_in 595 (by decide +kernel) (by decide +kernel), jT_in 596 (by decide +kernel) (by decide +kernel), jT_in 36 (by decide +kernel) (by decide +kernel), ⟨by decide +kernel, by decide +kernel⟩, by decide +kernel⟩
theorem yk_M_thrown : jY jT y_M_thrown b_M_thrown 1 (some .int) 0 := ⟨jT_in 678 (by decide +kernel) (by decide +kernel), jT_in 676 (by decide +kernel) (by decide +kernel), jT_in 677 (by decide +kernel) (by decide +kernel), jT_in 40 (by decide +kernel) (by decide +kernel), ⟨by decide +kernel, by decide +kernel⟩, by decide +kernel⟩
theorem yk_M_op : jY jT y_M_op b_M_op 5 (some .int) 3 := ⟨jT_in 682 (by decide +kernel) (by decide +kernel), jT_in 680 (by decide +kernel) (by decide +kernel), jT_in 681 (by decide +kernel) (by decide +kernel), jT_in 40 (by decide +kernel) (by decide +kernel), ⟨by decide +kernel, by decide +kernel⟩, by decide +kernel⟩
theorem yk_M_isSize : jYs jT y_M_isSize b_M_isSize 2 (some .boolean) 2 := ⟨jT_in 685 (by decide +kernel) (by decide +kernel), jT_in 684 (by decide +kernel) (by decide +kernel), jT_in 40 (by decide +kernel) (by decide +kernel), ⟨by decide +kernel, by decide +kernel⟩, by decide +kernel⟩
theorem yk_M_address : jY jT y_M_address b_M_address 4 (some .int) 2 := ⟨jT_in 689 (by decide +kernel) (by decide +kernel), jT_in 687 (by decide +kernel) (by decide +kernel), jT_in 688 (by decide +kernel) (by decide +kernel), jT_in 40 (by decide +kernel) (by decide +kernel), ⟨by decide +kernel, by decide +kernel⟩, by decide +kernel⟩
theorem yk_M_isOp : jY jT y_M_isOp b_M_isOp 2 (some .boolean) 1 := ⟨jT_in 693 (by decide +kernel) (by decide +kernel), jT_in 692 (by decide +kernel) (by decide +kernel), jT_in 19 (by decide +kernel) (by decide +kernel), jT_in 40 (by decide +kernel) (by decide +kernel), ⟨by decide +kernel, by decide +kernel⟩, by decide +kernel⟩
theorem yk_M_canBe : jY jT y_M_canBe b_M_canBe 4 (some .boolean) 2 := ⟨jT_in 697 (by decide +kernel) (by decide +kernel), jT_in 696 (by decide +kernel) (by decide +kernel), jT_in 20 (by decide +kernel) (by decide +kernel), jT_in 40 (by decide +kernel) (by decide +kernel), ⟨by decide +kernel, by decide +kernel⟩, by decide +kernel⟩
theorem yk_M_waits : jY jT y_M_waits b_M_waits 2 (some .boolean) 1 := ⟨jT_in 701 (by decide +kernel) (by decide +kernel), jT_in 700 (by decide +kernel) (by decide +kernel), jT_in 21 (by decide +kernel) (by decide +kernel), jT_in 40 (by decide +kernel) (by decide +kernel), ⟨by decide +kernel, by decide +kernel⟩, by decide +kernel⟩
theorem yk_M_isDone : jY jT y_M_isDone b_M_isDone 2 (some .boolean) 1 := ⟨jT_in 705 (by decide +kernel) (by decide +kernel), jT_in 704 (by decide +kernel) (by decide +kernel), jT_in 22 (by decide +kernel) (by decide +kernel), jT_in 40 (by decide +kernel) (by decide +kernel), ⟨by decide +kernel, by decide +kernel⟩, by decide +kernel⟩
theorem yk_M_tookOlder : jY jT y_M_tookOlder b_M_tookOlder 6 (some .boolean) 2 := ⟨jT_in 709 (by decide +kernel) (by decide +kernel), jT_in 708 (by decide +kernel) (by decide +kernel), jT_in 23 (by decide +kernel) (by decide +kernel), jT_in 40 (by decide +kernel) (by decide +kernel), ⟨by decide +kernel, by decide +kernel⟩, by decide +kernel⟩
theorem yk_M_has : jY jT y_M_has b_M_has 3 (some .boolean) 2 := ⟨jT_in 713 (by decide +kernel) (by decide +kernel), jT_in 712 (by decide +kernel) (by decide +kernel), jT_in 24 (by decide +kernel) (by decide +kernel), jT_in 40 (by decide +kernel) (by decide +kernel), ⟨by decide +kernel, by decide +kernel⟩, by decide +kernel⟩
theorem yk_M_covers : jYs jT y_M_covers b_M_covers 3 (some .boolean) 3 := ⟨jT_in 716 (by decide +kernel) (by decide +kernel), jT_in 715 (by decide +kernel) (by decide +kernel), jT_in 40 (by decide +kernel) (by decide +kernel), ⟨by decide +kernel, by decide +kernel⟩, by decide +kernel⟩
theorem yk_M_undo : jY jT y_M_undo b_M_undo 4 (some .int) 1 := ⟨jT_in 720 (by decide +kernel) (by decide +kernel), jT_in 719 (by decide +kernel) (by decide +kernel), jT_in 25 (by decide +kernel) (by decide +kernel), jT_in 40 (by decide +kernel) (by decide +kernel), ⟨by decide +kernel, by decide +kernel⟩, by decide +kernel⟩
theorem yk_M_number : jY jT y_M_number b_M_number 5 (some .int) 2 := ⟨jT_in 724 (by decide +kernel) (by decide +kernel), jT_in 722 (by decide +kernel) (by decide +kernel), jT_in 723 (by decide +kernel) (by decide +kernel), jT_in 40 (by decide +kernel) (by decide +kernel), ⟨by decide +kernel, by decide +kernel⟩, by decide +kernel⟩
theorem yk_M_tried : jY jT y_M_tried b_M_tried 6 (some .int) 1 := ⟨jT_in 728 (by decide +kernel) (by decide +kernel), jT_in 726 (by decide +kernel) (by decide +kernel), jT_in 727 (by decide +kernel) (by decide +kernel), jT_in 40 (by decide +kernel) (by decide +kernel), ⟨by decide +kernel, by decide +kernel⟩, by decide +kernel⟩
theorem yk_M_isHeld : jY jT y_M_isHeld b_M_isHeld 3 (some .boolean) 1 := ⟨jT_in 732 (by decide +kernel) (by decide +kernel), jT_in 731 (by decide +kernel) (by decide +kernel), jT_in 26 (by decide +kernel) (by decide +kernel), jT_in 40 (by decide +kernel) (by decide +kernel), ⟨by decide +kernel, by decide +kernel⟩, by decide +kernel⟩
theorem yk_M_hasUnknown : jY jT y_M_hasUnknown b_M_hasUnknown 4 (some .boolean) 1 := ⟨jT_in 736 (by decide +kernel) (by decide +kernel), jT_in 735 (by decide +kernel) (by decide +kernel), jT_in 27 (by decide +kernel) (by decide +kernel), jT_in 40 (by decide +kernel) (by decide +kernel), ⟨by decide +kernel, by decide +kernel⟩, by decide +kernel⟩
theorem yk_M_storeOf : jY jT y_M_storeOf b_M_storeOf 4 (some .int) 2 := ⟨jT_in 740 (by decide +kernel) (by decide +kernel), jT_in 739 (by decide +kernel) (by decide +kernel), jT_in 28 (by decide +kernel) (by decide +kernel), jT_in 40 (by decide +kernel) (by decide +kernel), ⟨by decide +kernel, by decide +kernel⟩, by decide +kernel⟩
theorem yk_M_taken : jY jT y_M_taken b_M_taken 8 (some .int) 2 := ⟨jT_in 744 (by decide +kernel) (by decide +kernel), jT_in 743 (by decide +kernel) (by decide +kernel), jT_in 29 (by decide +kernel) (by decide +kernel), jT_in 40 (by decide +kernel) (by decide +kernel), ⟨by decide +kernel, by decide +kernel⟩, by decide +kernel⟩
theorem yk_M_bufferOf : jY jT y_M_bufferOf b_M_bufferOf 4 (some .int) 1 := ⟨jT_in 748 (by decide +kernel) (by decide +kernel), jT_in 747 (by decide +kernel) (by decide +kernel), jT_in 30 (by decide +kernel) (by decide +kernel), jT_in 40 (by decide +kernel) (by decide +kernel), ⟨by decide +kernel, by decide +kernel⟩, by decide +kernel⟩
theorem yk_M_byteOf : jYs jT y_M_byteOf b_M_byteOf 3 (some .int) 3 := ⟨jT_in 751 (by decide +kernel) (by decide +kernel), jT_in 750 (by decide +kernel) (by decide +kernel), jT_in 40 (by decide +kernel) (by decide +kernel), ⟨by decide +kernel, by decide +kernel⟩, by decide +kernel⟩
theorem yk_M_loaded : jY jT y_M_loaded b_M_loaded 4 (some .int) 1 := ⟨jT_in 755 (by decide +kernel) (by decide +kernel), jT_in 753 (by decide +kernel) (by decide +kernel), jT_in 754 (by decide +kernel) (by decide +kernel), jT_in 40 (by decide +kernel) (by decide +kernel), ⟨by decide +kernel, by decide +kernel⟩, by decide +kernel⟩
theorem yk_M_source : jY jT y_M_source b_M_source 4 (some .int) 2 := ⟨jT_in 759 (by decide +kernel) (by decide +kernel), jT_in 757 (by decide +kernel) (by decide +kernel), jT_in 758 (by decide +kernel) (by decide +kernel), jT_in 40 (by decide +kernel) (by decide +kernel), ⟨by decide +kernel, by decide +kernel⟩, by decide +kernel⟩
theorem yk_M_leave : jY jT y_M_leave b_M_leave 3 (some .int) 0 := ⟨jT_in 763 (by decide +kernel) (by decide +kernel), jT_in 761 (by decide +kernel) (by decide +kernel), jT_in 762 (by decide +kernel) (by decide +kernel), jT_in 40 (by decide +kernel) (by decide +kernel), ⟨by decide +kernel, by decide +kernel⟩, by decide +kernel⟩
theorem yk_M_mayLeave : jY jT y_M_mayLeave b_M_mayLeave 2 (some .boolean) 0 := ⟨jT_in 767 (by decide +kernel) (by decide +kernel), jT_in 766 (by decide +kernel) (by decide +kernel), jT_in 31 (by decide +kernel) (by decide +kernel), jT_in 40 (by decide +kernel) (by decide +kernel), ⟨by decide +kernel, by decide +kernel⟩, by decide +kernel⟩
theorem yk_M_intoBuffer : jY jT y_M_intoBuffer b_M_intoBuffer 3 none 1 := ⟨jT_in 771 (by decide +kernel) (by decide +kernel), jT_in 770 (by decide +kernel) (by decide +kernel), jT_in 32 (by decide +kernel) (by decide +kernel), jT_in 40 (by decide +kernel) (by decide +kernel), ⟨by decide +kernel, by decide +kernel⟩, by decide +kernel⟩
theorem yk_M_write : jY jT y_M_write b_M_write 5 none 3 := ⟨jT_in 775 (by decide +kernel) (by decide +kernel), jT_in 774 (by decide +kernel) (by decide +kernel), jT_in 33 (by decide +kernel) (by decide +kernel), jT_in 40 (by decide +kernel) (by decide +kernel), ⟨by decide +kernel, by decide +kernel⟩, by decide +kernel⟩
theorem yk_M_drain : jY jT y_M_drain b_M_drain 3 (some .int) 0 := ⟨jT_in 779 (by decide +kernel) (by decide +kernel), jT_in 777 (by decide +kernel) (by decide +kernel), jT_in 778 (by decide +kernel) (by decide +kernel), jT_in 40 (by decide +kernel) (by decide +kernel), ⟨by decide +kernel, by decide +kernel⟩, by decide +kernel⟩
theorem yk_M_other : jY jT y_M_other b_M_other 4 (some .int) 2 := ⟨jT_in 783 (by decide +kernel) (by decide +kernel), jT_in 781 (by decide +kernel) (by decide +kernel), jT_in 782 (by decide +kernel) (by decide +kernel), jT_in 40 (by decide +kernel) (by decide +kernel), ⟨by decide +kernel, by decide +kernel⟩, by decide +kernel⟩
theorem yk_M_tookFromMemory : jY jT y_M_tookFromMemory b_M_tookFromMemory 5 (some .boolean) 2 := ⟨jT_in 787 (by decide +kernel) (by decide +kernel), jT_in 786 (by decide +kernel) (by decide +kernel), jT_in 34 (by decide +kernel) (by decide +kernel), jT_in 40 (by decide +kernel) (by decide +kernel), ⟨by decide +kernel, by decide +kernel⟩, by decide +kernel⟩
theorem yk_M_memory : jY jT y_M_memory b_M_memory 2 (some .int) 1 := ⟨jT_in 791 (by decide +kernel) (by decide +kernel), jT_in 789 (by decide +kernel) (by decide +kernel), jT_in 790 (by decide +kernel) (by decide +kernel), jT_in 40 (by decide +kernel) (by decide +kernel), ⟨by decide +kernel, by decide +kernel⟩, by decide +kernel⟩
theorem yk_M_forget : jY jT y_M_forget b_M_forget 3 (some .int) 1 := ⟨jT_in 795 (by decide +kernel) (by decide +kernel), jT_in 793 (by decide +kernel) (by decide +kernel), jT_in 794 (by decide +kernel) (by decide +kernel), jT_in 40 (by decide +kernel) (by decide +kernel), ⟨by decide +kernel, by decide +kernel⟩, by decide +kernel⟩
theorem yk_M_marked : jY jT y_M_marked b_M_marked 2 (some .boolean) 1 := ⟨jT_in 799 (by decide +kernel) (by decide +kernel), jT_in 797 (by decide +kernel) (by decide +kernel), jT_in 798 (by decide +kernel) (by decide +kernel), jT_in 40 (by decide +kernel) (by decide +kernel), ⟨by decide +kernel, by decide +kernel⟩, by decide +kernel⟩
theorem yk_M_count : jY jT y_M_count b_M_count 4 (some .int) 1 := ⟨jT_in 803 (by decide +kernel) (by decide +kernel), jT_in 801 (by decide +kernel) (by decide +kernel), jT_in 802 (by decide +kernel) (by decide +kernel), jT_in 40 (by decide +kernel) (by decide +kernel), ⟨by decide +kernel, by decide +kernel⟩, by decide +kernel⟩
end
section
/-! what every contract takes along beside its world: links within the nest, texts, two statics of Throwable -/
def jNw : List Cond := [Cond.methodLinkNest R_C 9 y_O_init "LoadStoreRows", Cond.methodLinkNest R_C 18 y_B_init "LoadStoreRows", Cond.methodLinkNest R_C 25 y_Y_init "LoadStoreRows", Cond.methodLinkNest R_Y 19 y_C_byteOfNumber "LoadStoreRows", Cond.methodLinkNest R_O 64 y_C_byteOfNumber "LoadStoreRows", Cond.methodLinkNest R_B 34 y_C_byteOfNumber "LoadStoreRows"]
def jSt : List (Nat × String) := [(59, "no such kind, or not with so many bytes"), (70, "32 ops wait"), (222, "no op with that number"), (92, "no op that waits for an address"), (100, "can not be its address"), (124, "no op that waits for a number"), (132, "no load that can be tried"), (151, "64 ops or more came behind it"), (157, "nothing was loaded by it"), (162, "no load that is done and waits"), (164, "no such byte of it"), (190, "no such byte, or no byte's number"), (198, "no such byte"), (203, "it does not wait")]
def jZ (n d : String) (U : State) : Prop := ∃ (c : ClassId) (k : Class) (i : Nat) (f : Field) (a : Nat) (cell : Cell) (v : Value), U.vm.findClass Bundle.tN = some c ∧ U.fieldFound? Bundle.tN n d = some (c, k, i, f) ∧ f.isStatic = true ∧ k.statics = some a ∧ U.heap[a]? = some cell ∧ cell.vm.isStatics = true ∧ cell.cls = c ∧ f.slot < cell.slots.size ∧ k.staticTypes[f.slot]? = some f.type ∧ cell.slots[f.slot]? = some v ∧ v.isRef = true
def jE (U : State) : Prop := (∀ w ∈ jNw, va_Nw w U) ∧ (∀ q ∈ jSt, ∃ a, vk_R R_C q.1 q.2 a U) ∧ jZ "UNASSIGNED_STACK" Bundle.steD U ∧ jZ "SUPPRESSED_SENTINEL" Bundle.listD U
theorem va_at_vm {D : va_G} {cl : List vw_C} {a : Nat} {x : va_E} {H : Heap} (h : va_at D cl (a, x) H) : ∃ cell : Cell, H[a]? = some cell ∧ cell.vm = .none := by
  cases x with
  | inl y =>
    obtain ⟨cA, n, f | f | f | f | f⟩ := y
    · exact ⟨_, h, rfl⟩
    · exact ⟨_, h, rfl⟩
    · exact ⟨_, h, rfl⟩
    · exact ⟨_, h, rfl⟩
    · exact ⟨_, h, rfl⟩
  | inr o =>
    obtain ⟨r, h1, cell, h2, h3, h4, -⟩ := h
    exact ⟨cell, h2, h4⟩
theorem jZ_kept {D : va_G} {cl : List vw_C} {n d : String} {s U : State} {w : va_W} (h : jZ n d s) (hP : va_P D cl w s.heap) (hq : ∀ q : Nat, q < s.heap.size → ¬ va_A w s.heap.size q → U.heap[q]? = s.heap[q]?) (hW : s.WarmedH U.vm) : jZ n d U := by
  obtain ⟨c, k, i, f, a, cell, v, h1, h2, h3, h4, h5, h6, h7, h8, h9, h10, h11⟩ := h
  have ha : a < s.heap.size := (Array.getElem?_eq_some_iff.mp h5).1
  have hn : ¬ va_A w s.heap.size a := by
    rintro (⟨j, x, hj⟩ | hj)
    · obtain ⟨c2, g1, g2⟩ := va_at_vm (hP j _ hj)
      cases Option.some.inj (h5.symm.trans g1)
      rw [g2] at h6
      cases h6
    · omega
  have hvm := hW.alike
  obtain ⟨k', hi', he⟩ := State.fieldFound?_setVm hvm h2
  exact ⟨c, k', i, f, a, cell, v, by rw [hvm.findClass]; exact h1, hi', h3, by rw [he]; exact h4, by rw [hq a ha hn]; exact h5, h6, h7, h8, by rw [he]; exact h9, h10, h11⟩
theorem jNw_warm {s U : State} (hW : s.WarmedH U.vm) (h : ∀ w ∈ jNw, va_Nw w s) : ∀ w ∈ jNw, va_Nw w U := by
  intro w hw
  have h1 := h w hw
  simp only [jNw, List.mem_cons, List.not_mem_nil, or_false] at hw
  rcases hw with rfl | rfl | rfl | rfl | rfl | rfl <;> exact va_Nw.warmM hW h1
theorem jNw_tab : ∀ w ∈ jNw, w.onTables = true := by decide +kernel
theorem jE_loc {D : va_G} {cl : List vw_C} : jLoc D cl jE := by
  refine ⟨fun a U g mk h => ⟨fun w hw => va_Nw.same (jNw_tab w hw) (u := U) rfl (h.1 w hw), fun q hq => ?_, ?_, ?_⟩, fun s U w h hP hq hW => ⟨jNw_warm hW h.1, fun q hq => ?_, jZ_kept h.2.2.1 hP hq hW, jZ_kept h.2.2.2 hP hq hW⟩⟩
  · obtain ⟨b, hb⟩ := h.2.1 q hq
    exact ⟨b, vk_R.same (u := U) rfl hb⟩
  · exact h.2.2.1
  · exact h.2.2.2
  · obtain ⟨b, hb⟩ := h.2.1 q hq
    exact ⟨b, vk_R.warm hW hb⟩
theorem nest_Y_19 {p : Program} {s : State} {m : MethodId} {args : Array Value} {c : Code} {cc : ByteArray} {nL : Nat} {own : String} {Ts : List Cond} {D : va_G} {cl : List vw_C} {tys : List (ClassId × FieldType)} {A : Nat → Prop} {Sx : Heap → List Loc → Prop} (C : jC p s m args c cc nL own Ts D cl tys A Sx jE) : (Cond.methodLinkNest R_Y 19 y_C_byteOfNumber "LoadStoreRows").before args s = true :=
  va_Nw.use rfl ((C.ev s (fun _ _ _ => rfl) (State.WarmedH.refl s)).1 _ (by simp [jNw]))
theorem nest_O_64 {p : Program} {s : State} {m : MethodId} {args : Array Value} {c : Code} {cc : ByteArray} {nL : Nat} {own : String} {Ts : List Cond} {D : va_G} {cl : List vw_C} {tys : List (ClassId × FieldType)} {A : Nat → Prop} {Sx : Heap → List Loc → Prop} (C : jC p s m args c cc nL own Ts D cl tys A Sx jE) : (Cond.methodLinkNest R_O 64 y_C_byteOfNumber "LoadStoreRows").before args s = true :=
  va_Nw.use rfl ((C.ev s (fun _ _ _ => rfl) (State.WarmedH.refl s)).1 _ (by simp [jNw]))
theorem nest_B_34 {p : Program} {s : State} {m : MethodId} {args : Array Value} {c : Code} {cc : ByteArray} {nL : Nat} {own : String} {Ts : List Cond} {D : va_G} {cl : List vw_C} {tys : List (ClassId × FieldType)} {A : Nat → Prop} {Sx : Heap → List Loc → Prop} (C : jC p s m args c cc nL own Ts D cl tys A Sx jE) : (Cond.methodLinkNest R_B 34 y_C_byteOfNumber "LoadStoreRows").before args s = true :=
  va_Nw.use rfl ((C.ev s (fun _ _ _ => rfl) (State.WarmedH.refl s)).1 _ (by simp [jNw]))
end
section
/-! the worlds: the object and its arrays; the reference and its arrays -/
def jty (cI cZ cB cJ : ClassId) : List (ClassId × FieldType) := [(cI, .int), (cZ, .boolean), (cB, .byte), (cJ, .long)]
def wC (ad : Nat → Nat) (cI cZ cB : ClassId) (σ : S2) (β : B2) (mk : Int64) (ρ : va_W) : va_W :=
  (ad 0, .inr (0, [.ref (ad 1), .ref (ad 2), .ref (ad 3), .int (σ 0 0), .int (σ 1 0), .long mk, .int (σ 2 0), .int (σ 3 0), .int (σ 4 0), .int (σ 5 0)])) ::
  (ad 1, .inr (1, [.ref (ad 10), .ref (ad 11), .ref (ad 12), .ref (ad 13), .ref (ad 14), .ref (ad 15), .ref (ad 16), .ref (ad 17), .ref (ad 18), .ref (ad 19)])) ::
  (ad 2, .inr (2, [.ref (ad 20), .ref (ad 21), .ref (ad 22), .ref (ad 23), .int (σ 6 0)])) ::
  (ad 3, .inr (3, [.ref (ad 24)])) ::
  (ad 10, .inl (cI, 128, .inl (σ 10))) ::
  (ad 11, .inl (cI, 128, .inl (σ 11))) ::
  (ad 12, .inl (cI, 128, .inl (σ 12))) ::
  (ad 13, .inl (cI, 128, .inl (σ 13))) ::
  (ad 14, .inl (cZ, 128, .inl (fun i => bI (β 0 i)))) ::
  (ad 15, .inl (cI, 128, .inl (σ 15))) ::
  (ad 16, .inl (cZ, 128, .inl (fun i => bI (β 1 i)))) ::
  (ad 17, .inl (cZ, 128, .inl (fun i => bI (β 2 i)))) ::
  (ad 18, .inl (cI, 128, .inl (σ 18))) ::
  (ad 19, .inl (cI, 512, .inl (σ 19))) ::
  (ad 20, .inl (cI, 4, .inl (σ 20))) ::
  (ad 21, .inl (cI, 4, .inl (σ 21))) ::
  (ad 22, .inl (cI, 4, .inl (σ 22))) ::
  (ad 23, .inl (cI, 4, .inl (σ 23))) ::
  (ad 24, .inl (cB, 4096, .inl (σ 24))) :: ρ
def wM (am : Nat → Nat) (cI cZ : ClassId) (μ : S2) (ν : B2) (ρ : va_W) : va_W :=
  (am 0, .inr (4, [.int (μ 0 0), .int (μ 1 0), .int (μ 2 0), .int (μ 3 0), .int (μ 4 0), .int (μ 5 0), .int (μ 6 0), .ref (am 10), .ref (am 11), .ref (am 12), .ref (am 13), .ref (am 14), .ref (am 15), .ref (am 16), .ref (am 17), .ref (am 18), .ref (am 19), .ref (am 20), .ref (am 21), .ref (am 22), .ref (am 23), .ref (am 24), .int (μ 7 0)])) ::
  (am 10, .inl (cI, 4096, .inl (μ 10))) ::
  (am 11, .inl (cZ, 64, .inl (fun i => bI (ν 0 i)))) ::
  (am 12, .inl (cI, 128, .inl (μ 12))) ::
  (am 13, .inl (cI, 128, .inl (μ 13))) ::
  (am 14, .inl (cI, 128, .inl (μ 14))) ::
  (am 15, .inl (cI, 128, .inl (μ 15))) ::
  (am 16, .inl (cI, 128, .inl (μ 16))) ::
  (am 17, .inl (cI, 128, .inl (μ 17))) ::
  (am 18, .inl (cZ, 128, .inl (fun i => bI (ν 1 i)))) ::
  (am 19, .inl (cZ, 128, .inl (fun i => bI (ν 2 i)))) ::
  (am 20, .inl (cI, 512, .inl (μ 20))) ::
  (am 21, .inl (cI, 4, .inl (μ 21))) ::
  (am 22, .inl (cI, 4, .inl (μ 22))) ::
  (am 23, .inl (cI, 4, .inl (μ 23))) ::
  (am 24, .inl (cI, 4, .inl (μ 24))) :: ρ
abbrev kM (l : Launch) (dC : Nat → ClassId) (dI : Nat → Nat → Nat) (cI cZ cB cJ : ClassId) (y : MethodName) (bytes : ByteArray) (maxL : Nat) (ret : Option FieldType) (f n : Nat) (av : List Value) (w : va_W) (v : Option Value) (w' : va_W) : Prop :=
  jM l (dC, dI) vwCl (jty cI cZ cB cJ) jE y (Cond.code y bytes maxL ret :: jT) { frames := f, cells := 0, slots := 0, locals := n } av w v w'
abbrev kR (l : Launch) (dC : Nat → ClassId) (dI : Nat → Nat → Nat) (cI cZ cB cJ : ClassId) (y : MethodName) (bytes : ByteArray) (maxL : Nat) (ret : Option FieldType) (f n : Nat) (av : List Value) (w : va_W) (v : Option Value) : Prop :=
  jR l (dC, dI) vwCl (jty cI cZ cB cJ) jE y (Cond.code y bytes maxL ret :: jT) { frames := f, cells := 0, slots := 0, locals := n } av w v
abbrev kJ (l : Launch) (dC : Nat → ClassId) (dI : Nat → Nat → Nat) (p : Program) (e : Env) (s : State) (m : MethodId) (args : Array Value) (below : List Frame) (meth : Method) (c : Code) (A : Nat → Prop) (f n nL : Nat) (v : Option Value) (w' w : va_W) (pc : Nat) (lv : List (Nat × Value)) (st : List Value) : Prop :=
  jJ p l e { frames := f, cells := 0, slots := 0, locals := n } s m args below meth c 0 0 (MQ below (jQ (dC, dI) vwCl v w' A) args s 0 0 A) (dC, dI) vwCl A (va_S A s.heap) nL w pc lv st
section WR
variable {p : Program} {l : Launch} {e : Env} {R : Room} {s : State} {m : MethodId} {args : Array Value} {below : List Frame} {meth : Method} {c : Code} {cells slots : Nat} {Q : State → Prop}
variable {dC : Nat → ClassId} {dI : Nat → Nat → Nat} {cI cZ cB cJ : ClassId} {A : Nat → Prop} {Sx : Heap → List Loc → Prop} {nL : Nat} {cc : ByteArray} {c0 : Cond} {pc : Nat} {lv : List (Nat × Value)} {rest : List Value}
variable {ad am : Nat → Nat} {σ μ : S2} {β ν : B2} {mk : Int64} {ρ : va_W}
theorem i_C : ∀ w ∈ u_ws R_C T_C 10, w ∈ lw_tbl := by decide +kernel
theorem ig_C : ∀ w ∈ u_ws R_C T_C 10, goodWord w = true := by decide +kernel
theorem iw_C {c0 : Cond} : ∀ w ∈ u_ws R_C T_C 10, w ∈ (c0 :: jT) := fun w h => List.mem_cons_of_mem _ (List.mem_filter.mpr ⟨i_C w h, ig_C w h⟩)
theorem i_O : ∀ w ∈ u_ws R_O T_O 10, w ∈ lw_tbl := by decide +kernel
theorem ig_O : ∀ w ∈ u_ws R_O T_O 10, goodWord w = true := by decide +kernel
theorem iw_O {c0 : Cond} : ∀ w ∈ u_ws R_O T_O 10, w ∈ (c0 :: jT) := fun w h => List.mem_cons_of_mem _ (List.mem_filter.mpr ⟨i_O w h, ig_O w h⟩)
theorem i_B : ∀ w ∈ u_ws R_B T_B 5, w ∈ lw_tbl := by decide +kernel
theorem ig_B : ∀ w ∈ u_ws R_B T_B 5, goodWord w = true := by decide +kernel
theorem iw_B {c0 : Cond} : ∀ w ∈ u_ws R_B T_B 5, w ∈ (c0 :: jT) := fun w h => List.mem_cons_of_mem _ (List.mem_filter.mpr ⟨i_B w h, ig_B w h⟩)
theorem i_Y : ∀ w ∈ u_ws R_Y T_Y 1, w ∈ lw_tbl := by decide +kernel
theorem ig_Y : ∀ w ∈ u_ws R_Y T_Y 1, goodWord w = true := by decide +kernel
theorem iw_Y {c0 : Cond} : ∀ w ∈ u_ws R_Y T_Y 1, w ∈ (c0 :: jT) := fun w h => List.mem_cons_of_mem _ (List.mem_filter.mpr ⟨i_Y w h, ig_Y w h⟩)
theorem i_M : ∀ w ∈ u_ws R_M T_M 23, w ∈ lw_tbl := by decide +kernel
theorem ig_M : ∀ w ∈ u_ws R_M T_M 23, goodWord w = true := by decide +kernel
theorem iw_M {c0 : Cond} : ∀ w ∈ u_ws R_M T_M 23, w ∈ (c0 :: jT) := fun w h => List.mem_cons_of_mem _ (List.mem_filter.mpr ⟨i_M w h, ig_M w h⟩)
theorem g_C_ops (C : jC p s m args c cc nL R_C (c0 :: jT) (dC, dI) vwCl (jty cI cZ cB cJ) A Sx jE) (pn : Nat) (hpn : pc + 3 = pn) (hdg : decode cc pc = .ok (.getfield 10, 3)) (k : jJ p l e R s m args below meth c cells slots Q (dC, dI) vwCl A Sx nL (wC ad cI cZ cB σ β mk ρ) pn lv (.ref (ad 1) :: rest)) : jJ p l e R s m args below meth c cells slots Q (dC, dI) vwCl A Sx nL (wC ad cI cZ cB σ β mk ρ) pc lv (.ref (ad 0) :: rest) := by
  subst hpn
  exact fun H locs ls h1 h2 h3 h4 => va_get (D := (dC, dI)) (ci := 0) (v := .ref (ad 1)) (C := R_C) (T := T_C) (N := 10) C.x C.b C.t iw_C C.o C.k h1 0 rfl rfl 0 (by decide) (C.t _ (List.mem_cons_of_mem _ fk_C_ops)) (fun _ h9 => h9) rfl hdg (k H locs ls h1 h2 h3 h4)
theorem g_C_buffer (C : jC p s m args c cc nL R_C (c0 :: jT) (dC, dI) vwCl (jty cI cZ cB cJ) A Sx jE) (pn : Nat) (hpn : pc + 3 = pn) (hdg : decode cc pc = .ok (.getfield 19, 3)) (k : jJ p l e R s m args below meth c cells slots Q (dC, dI) vwCl A Sx nL (wC ad cI cZ cB σ β mk ρ) pn lv (.ref (ad 2) :: rest)) : jJ p l e R s m args below meth c cells slots Q (dC, dI) vwCl A Sx nL (wC ad cI cZ cB σ β mk ρ) pc lv (.ref (ad 0) :: rest) := by
  subst hpn
  exact fun H locs ls h1 h2 h3 h4 => va_get (D := (dC, dI)) (ci := 0) (v := .ref (ad 2)) (C := R_C) (T := T_C) (N := 10) C.x C.b C.t iw_C C.o C.k h1 0 rfl rfl 1 (by decide) (C.t _ (List.mem_cons_of_mem _ fk_C_buffer)) (fun _ h9 => h9) rfl hdg (k H locs ls h1 h2 h3 h4)
theorem g_C_mainMemory (C : jC p s m args c cc nL R_C (c0 :: jT) (dC, dI) vwCl (jty cI cZ cB cJ) A Sx jE) (pn : Nat) (hpn : pc + 3 = pn) (hdg : decode cc pc = .ok (.getfield 26, 3)) (k : jJ p l e R s m args below meth c cells slots Q (dC, dI) vwCl A Sx nL (wC ad cI cZ cB σ β mk ρ) pn lv (.ref (ad 3) :: rest)) : jJ p l e R s m args below meth c cells slots Q (dC, dI) vwCl A Sx nL (wC ad cI cZ cB σ β mk ρ) pc lv (.ref (ad 0) :: rest) := by
  subst hpn
  exact fun H locs ls h1 h2 h3 h4 => va_get (D := (dC, dI)) (ci := 0) (v := .ref (ad 3)) (C := R_C) (T := T_C) (N := 10) C.x C.b C.t iw_C C.o C.k h1 0 rfl rfl 2 (by decide) (C.t _ (List.mem_cons_of_mem _ fk_C_mainMemory)) (fun _ h9 => h9) rfl hdg (k H locs ls h1 h2 h3 h4)
theorem g_C_nextOp (C : jC p s m args c cc nL R_C (c0 :: jT) (dC, dI) vwCl (jty cI cZ cB cJ) A Sx jE) (pn : Nat) (hpn : pc + 3 = pn) (hdg : decode cc pc = .ok (.getfield 30, 3)) (k : jJ p l e R s m args below meth c cells slots Q (dC, dI) vwCl A Sx nL (wC ad cI cZ cB σ β mk ρ) pn lv (.int (σ 0 0) :: rest)) : jJ p l e R s m args below meth c cells slots Q (dC, dI) vwCl A Sx nL (wC ad cI cZ cB σ β mk ρ) pc lv (.ref (ad 0) :: rest) := by
  subst hpn
  exact fun H locs ls h1 h2 h3 h4 => va_get (D := (dC, dI)) (ci := 0) (v := .int (σ 0 0)) (C := R_C) (T := T_C) (N := 10) C.x C.b C.t iw_C C.o C.k h1 0 rfl rfl 3 (by decide) (C.t _ (List.mem_cons_of_mem _ fk_C_nextOp)) (fun _ h9 => h9) rfl hdg (k H locs ls h1 h2 h3 h4)
theorem p_C_nextOp (C : jC p s m args c cc nL R_C (c0 :: jT) (dC, dI) vwCl (jty cI cZ cB cJ) A (va_S A s.heap) jE) {v : Int32} (pn : Nat) (hpn : pc + 3 = pn) (hdg : decode cc pc = .ok (.putfield 30, 3)) (k : jJ p l e R s m args below meth c cells slots Q (dC, dI) vwCl A (va_S A s.heap) nL (wC ad cI cZ cB (sS σ 0 v) β mk ρ) pn lv (rest)) : jJ p l e R s m args below meth c cells slots Q (dC, dI) vwCl A (va_S A s.heap) nL (wC ad cI cZ cB σ β mk ρ) pc lv (.int v :: .ref (ad 0) :: rest) := by
  subst hpn
  exact fun H locs ls h1 h2 h3 h4 => va_put (D := (dC, dI)) (ci := 0) (v := .int v) (ty := .int) (C := R_C) (T := T_C) (N := 10) C.x C.b C.t iw_C t_C tk_C n_C C.o C.k h1 h2 h3 0 rfl rfl 3 (by decide) (C.t _ (List.mem_cons_of_mem _ fk_C_nextOp)) (fun _ h9 => h9) rfl (by decide +kernel) rfl rfl (Nat.le_of_ble_eq_true rfl) hdg (fun H1 locs1 g1 g2 g3 => k H1 locs1 ls g1 g2 g3 h4)
theorem g_C_oldestWaiting (C : jC p s m args c cc nL R_C (c0 :: jT) (dC, dI) vwCl (jty cI cZ cB cJ) A Sx jE) (pn : Nat) (hpn : pc + 3 = pn) (hdg : decode cc pc = .ok (.getfield 34, 3)) (k : jJ p l e R s m args below meth c cells slots Q (dC, dI) vwCl A Sx nL (wC ad cI cZ cB σ β mk ρ) pn lv (.int (σ 1 0) :: rest)) : jJ p l e R s m args below meth c cells slots Q (dC, dI) vwCl A Sx nL (wC ad cI cZ cB σ β mk ρ) pc lv (.ref (ad 0) :: rest) := by
  subst hpn
  exact fun H locs ls h1 h2 h3 h4 => va_get (D := (dC, dI)) (ci := 0) (v := .int (σ 1 0)) (C := R_C) (T := T_C) (N := 10) C.x C.b C.t iw_C C.o C.k h1 0 rfl rfl 4 (by decide) (C.t _ (List.mem_cons_of_mem _ fk_C_oldestWaiting)) (fun _ h9 => h9) rfl hdg (k H locs ls h1 h2 h3 h4)
theorem p_C_oldestWaiting (C : jC p s m args c cc nL R_C (c0 :: jT) (dC, dI) vwCl (jty cI cZ cB cJ) A (va_S A s.heap) jE) {v : Int32} (pn : Nat) (hpn : pc + 3 = pn) (hdg : decode cc pc = .ok (.putfield 34, 3)) (k : jJ p l e R s m args below meth c cells slots Q (dC, dI) vwCl A (va_S A s.heap) nL (wC ad cI cZ cB (sS σ 1 v) β mk ρ) pn lv (rest)) : jJ p l e R s m args below meth c cells slots Q (dC, dI) vwCl A (va_S A s.heap) nL (wC ad cI cZ cB σ β mk ρ) pc lv (.int v :: .ref (ad 0) :: rest) := by
  subst hpn
  exact fun H locs ls h1 h2 h3 h4 => va_put (D := (dC, dI)) (ci := 0) (v := .int v) (ty := .int) (C := R_C) (T := T_C) (N := 10) C.x C.b C.t iw_C t_C tk_C n_C C.o C.k h1 h2 h3 0 rfl rfl 4 (by decide) (C.t _ (List.mem_cons_of_mem _ fk_C_oldestWaiting)) (fun _ h9 => h9) rfl (by decide +kernel) rfl rfl (Nat.le_of_ble_eq_true rfl) hdg (fun H1 locs1 g1 g2 g3 => k H1 locs1 ls g1 g2 g3 h4)
theorem g_C_marks (C : jC p s m args c cc nL R_C (c0 :: jT) (dC, dI) vwCl (jty cI cZ cB cJ) A Sx jE) (pn : Nat) (hpn : pc + 3 = pn) (hdg : decode cc pc = .ok (.getfield 37, 3)) (k : jJ p l e R s m args below meth c cells slots Q (dC, dI) vwCl A Sx nL (wC ad cI cZ cB σ β mk ρ) pn lv (.long mk :: rest)) : jJ p l e R s m args below meth c cells slots Q (dC, dI) vwCl A Sx nL (wC ad cI cZ cB σ β mk ρ) pc lv (.ref (ad 0) :: rest) := by
  subst hpn
  exact fun H locs ls h1 h2 h3 h4 => va_get (D := (dC, dI)) (ci := 0) (v := .long mk) (C := R_C) (T := T_C) (N := 10) C.x C.b C.t iw_C C.o C.k h1 0 rfl rfl 5 (by decide) (C.t _ (List.mem_cons_of_mem _ fk_C_marks)) (fun _ h9 => h9) rfl hdg (k H locs ls h1 h2 h3 h4)
theorem p_C_marks (C : jC p s m args c cc nL R_C (c0 :: jT) (dC, dI) vwCl (jty cI cZ cB cJ) A (va_S A s.heap) jE) {v : Int64} (pn : Nat) (hpn : pc + 3 = pn) (hdg : decode cc pc = .ok (.putfield 37, 3)) (k : jJ p l e R s m args below meth c cells slots Q (dC, dI) vwCl A (va_S A s.heap) nL (wC ad cI cZ cB σ β v ρ) pn lv (rest)) : jJ p l e R s m args below meth c cells slots Q (dC, dI) vwCl A (va_S A s.heap) nL (wC ad cI cZ cB σ β mk ρ) pc lv (.long v :: .ref (ad 0) :: rest) := by
  subst hpn
  exact fun H locs ls h1 h2 h3 h4 => va_put (D := (dC, dI)) (ci := 0) (v := .long v) (ty := .long) (C := R_C) (T := T_C) (N := 10) C.x C.b C.t iw_C t_C tk_C n_C C.o C.k h1 h2 h3 0 rfl rfl 5 (by decide) (C.t _ (List.mem_cons_of_mem _ fk_C_marks)) (fun _ h9 => h9) rfl (by decide +kernel) rfl rfl (Nat.le_of_ble_eq_true rfl) hdg (fun H1 locs1 g1 g2 g3 => k H1 locs1 ls g1 g2 g3 h4)
theorem g_C_undoneSoFar (C : jC p s m args c cc nL R_C (c0 :: jT) (dC, dI) vwCl (jty cI cZ cB cJ) A Sx jE) (pn : Nat) (hpn : pc + 3 = pn) (hdg : decode cc pc = .ok (.getfield 41, 3)) (k : jJ p l e R s m args below meth c cells slots Q (dC, dI) vwCl A Sx nL (wC ad cI cZ cB σ β mk ρ) pn lv (.int (σ 2 0) :: rest)) : jJ p l e R s m args below meth c cells slots Q (dC, dI) vwCl A Sx nL (wC ad cI cZ cB σ β mk ρ) pc lv (.ref (ad 0) :: rest) := by
  subst hpn
  exact fun H locs ls h1 h2 h3 h4 => va_get (D := (dC, dI)) (ci := 0) (v := .int (σ 2 0)) (C := R_C) (T := T_C) (N := 10) C.x C.b C.t iw_C C.o C.k h1 0 rfl rfl 6 (by decide) (C.t _ (List.mem_cons_of_mem _ fk_C_undoneSoFar)) (fun _ h9 => h9) rfl hdg (k H locs ls h1 h2 h3 h4)
theorem p_C_undoneSoFar (C : jC p s m args c cc nL R_C (c0 :: jT) (dC, dI) vwCl (jty cI cZ cB cJ) A (va_S A s.heap) jE) {v : Int32} (pn : Nat) (hpn : pc + 3 = pn) (hdg : decode cc pc = .ok (.putfield 41, 3)) (k : jJ p l e R s m args below meth c cells slots Q (dC, dI) vwCl A (va_S A s.heap) nL (wC ad cI cZ cB (sS σ 2 v) β mk ρ) pn lv (rest)) : jJ p l e R s m args below meth c cells slots Q (dC, dI) vwCl A (va_S A s.heap) nL (wC ad cI cZ cB σ β mk ρ) pc lv (.int v :: .ref (ad 0) :: rest) := by
  subst hpn
  exact fun H locs ls h1 h2 h3 h4 => va_put (D := (dC, dI)) (ci := 0) (v := .int v) (ty := .int) (C := R_C) (T := T_C) (N := 10) C.x C.b C.t iw_C t_C tk_C n_C C.o C.k h1 h2 h3 0 rfl rfl 6 (by decide) (C.t _ (List.mem_cons_of_mem _ fk_C_undoneSoFar)) (fun _ h9 => h9) rfl (by decide +kernel) rfl rfl (Nat.le_of_ble_eq_true rfl) hdg (fun H1 locs1 g1 g2 g3 => k H1 locs1 ls g1 g2 g3 h4)
theorem g_C_wrongSoFar (C : jC p s m args c cc nL R_C (c0 :: jT) (dC, dI) vwCl (jty cI cZ cB cJ) A Sx jE) (pn : Nat) (hpn : pc + 3 = pn) (hdg : decode cc pc = .ok (.getfield 44, 3)) (k : jJ p l e R s m args below meth c cells slots Q (dC, dI) vwCl A Sx nL (wC ad cI cZ cB σ β mk ρ) pn lv (.int (σ 3 0) :: rest)) : jJ p l e R s m args below meth c cells slots Q (dC, dI) vwCl A Sx nL (wC ad cI cZ cB σ β mk ρ) pc lv (.ref (ad 0) :: rest) := by
  subst hpn
  exact fun H locs ls h1 h2 h3 h4 => va_get (D := (dC, dI)) (ci := 0) (v := .int (σ 3 0)) (C := R_C) (T := T_C) (N := 10) C.x C.b C.t iw_C C.o C.k h1 0 rfl rfl 7 (by decide) (C.t _ (List.mem_cons_of_mem _ fk_C_wrongSoFar)) (fun _ h9 => h9) rfl hdg (k H locs ls h1 h2 h3 h4)
theorem p_C_wrongSoFar (C : jC p s m args c cc nL R_C (c0 :: jT) (dC, dI) vwCl (jty cI cZ cB cJ) A (va_S A s.heap) jE) {v : Int32} (pn : Nat) (hpn : pc + 3 = pn) (hdg : decode cc pc = .ok (.putfield 44, 3)) (k : jJ p l e R s m args below meth c cells slots Q (dC, dI) vwCl A (va_S A s.heap) nL (wC ad cI cZ cB (sS σ 3 v) β mk ρ) pn lv (rest)) : jJ p l e R s m args below meth c cells slots Q (dC, dI) vwCl A (va_S A s.heap) nL (wC ad cI cZ cB σ β mk ρ) pc lv (.int v :: .ref (ad 0) :: rest) := by
  subst hpn
  exact fun H locs ls h1 h2 h3 h4 => va_put (D := (dC, dI)) (ci := 0) (v := .int v) (ty := .int) (C := R_C) (T := T_C) (N := 10) C.x C.b C.t iw_C t_C tk_C n_C C.o C.k h1 h2 h3 0 rfl rfl 7 (by decide) (C.t _ (List.mem_cons_of_mem _ fk_C_wrongSoFar)) (fun _ h9 => h9) rfl (by decide +kernel) rfl rfl (Nat.le_of_ble_eq_true rfl) hdg (fun H1 locs1 g1 g2 g3 => k H1 locs1 ls g1 g2 g3 h4)
theorem g_C_bytesFromStores (C : jC p s m args c cc nL R_C (c0 :: jT) (dC, dI) vwCl (jty cI cZ cB cJ) A Sx jE) (pn : Nat) (hpn : pc + 3 = pn) (hdg : decode cc pc = .ok (.getfield 47, 3)) (k : jJ p l e R s m args below meth c cells slots Q (dC, dI) vwCl A Sx nL (wC ad cI cZ cB σ β mk ρ) pn lv (.int (σ 4 0) :: rest)) : jJ p l e R s m args below meth c cells slots Q (dC, dI) vwCl A Sx nL (wC ad cI cZ cB σ β mk ρ) pc lv (.ref (ad 0) :: rest) := by
  subst hpn
  exact fun H locs ls h1 h2 h3 h4 => va_get (D := (dC, dI)) (ci := 0) (v := .int (σ 4 0)) (C := R_C) (T := T_C) (N := 10) C.x C.b C.t iw_C C.o C.k h1 0 rfl rfl 8 (by decide) (C.t _ (List.mem_cons_of_mem _ fk_C_bytesFromStores)) (fun _ h9 => h9) rfl hdg (k H locs ls h1 h2 h3 h4)
theorem p_C_bytesFromStores (C : jC p s m args c cc nL R_C (c0 :: jT) (dC, dI) vwCl (jty cI cZ cB cJ) A (va_S A s.heap) jE) {v : Int32} (pn : Nat) (hpn : pc + 3 = pn) (hdg : decode cc pc = .ok (.putfield 47, 3)) (k : jJ p l e R s m args below meth c cells slots Q (dC, dI) vwCl A (va_S A s.heap) nL (wC ad cI cZ cB (sS σ 4 v) β mk ρ) pn lv (rest)) : jJ p l e R s m args below meth c cells slots Q (dC, dI) vwCl A (va_S A s.heap) nL (wC ad cI cZ cB σ β mk ρ) pc lv (.int v :: .ref (ad 0) :: rest) := by
  subst hpn
  exact fun H locs ls h1 h2 h3 h4 => va_put (D := (dC, dI)) (ci := 0) (v := .int v) (ty := .int) (C := R_C) (T := T_C) (N := 10) C.x C.b C.t iw_C t_C tk_C n_C C.o C.k h1 h2 h3 0 rfl rfl 8 (by decide) (C.t _ (List.mem_cons_of_mem _ fk_C_bytesFromStores)) (fun _ h9 => h9) rfl (by decide +kernel) rfl rfl (Nat.le_of_ble_eq_true rfl) hdg (fun H1 locs1 g1 g2 g3 => k H1 locs1 ls g1 g2 g3 h4)
theorem g_C_bytesFromElsewhere (C : jC p s m args c cc nL R_C (c0 :: jT) (dC, dI) vwCl (jty cI cZ cB cJ) A Sx jE) (pn : Nat) (hpn : pc + 3 = pn) (hdg : decode cc pc = .ok (.getfield 50, 3)) (k : jJ p l e R s m args below meth c cells slots Q (dC, dI) vwCl A Sx nL (wC ad cI cZ cB σ β mk ρ) pn lv (.int (σ 5 0) :: rest)) : jJ p l e R s m args below meth c cells slots Q (dC, dI) vwCl A Sx nL (wC ad cI cZ cB σ β mk ρ) pc lv (.ref (ad 0) :: rest) := by
  subst hpn
  exact fun H locs ls h1 h2 h3 h4 => va_get (D := (dC, dI)) (ci := 0) (v := .int (σ 5 0)) (C := R_C) (T := T_C) (N := 10) C.x C.b C.t iw_C C.o C.k h1 0 rfl rfl 9 (by decide) (C.t _ (List.mem_cons_of_mem _ fk_C_bytesFromElsewhere)) (fun _ h9 => h9) rfl hdg (k H locs ls h1 h2 h3 h4)
theorem p_C_bytesFromElsewhere (C : jC p s m args c cc nL R_C (c0 :: jT) (dC, dI) vwCl (jty cI cZ cB cJ) A (va_S A s.heap) jE) {v : Int32} (pn : Nat) (hpn : pc + 3 = pn) (hdg : decode cc pc = .ok (.putfield 50, 3)) (k : jJ p l e R s m args below meth c cells slots Q (dC, dI) vwCl A (va_S A s.heap) nL (wC ad cI cZ cB (sS σ 5 v) β mk ρ) pn lv (rest)) : jJ p l e R s m args below meth c cells slots Q (dC, dI) vwCl A (va_S A s.heap) nL (wC ad cI cZ cB σ β mk ρ) pc lv (.int v :: .ref (ad 0) :: rest) := by
  subst hpn
  exact fun H locs ls h1 h2 h3 h4 => va_put (D := (dC, dI)) (ci := 0) (v := .int v) (ty := .int) (C := R_C) (T := T_C) (N := 10) C.x C.b C.t iw_C t_C tk_C n_C C.o C.k h1 h2 h3 0 rfl rfl 9 (by decide) (C.t _ (List.mem_cons_of_mem _ fk_C_bytesFromElsewhere)) (fun _ h9 => h9) rfl (by decide +kernel) rfl rfl (Nat.le_of_ble_eq_true rfl) hdg (fun H1 locs1 g1 g2 g3 => k H1 locs1 ls g1 g2 g3 h4)
theorem g_O_kinds (C : jC p s m args c cc nL R_O (c0 :: jT) (dC, dI) vwCl (jty cI cZ cB cJ) A Sx jE) (pn : Nat) (hpn : pc + 3 = pn) (hdg : decode cc pc = .ok (.getfield 11, 3)) (k : jJ p l e R s m args below meth c cells slots Q (dC, dI) vwCl A Sx nL (wC ad cI cZ cB σ β mk ρ) pn lv (.ref (ad 10) :: rest)) : jJ p l e R s m args below meth c cells slots Q (dC, dI) vwCl A Sx nL (wC ad cI cZ cB σ β mk ρ) pc lv (.ref (ad 1) :: rest) := by
  subst hpn
  exact fun H locs ls h1 h2 h3 h4 => va_get (D := (dC, dI)) (ci := 1) (v := .ref (ad 10)) (C := R_O) (T := T_O) (N := 10) C.x C.b C.t iw_O C.o C.k h1 1 rfl rfl 0 (by decide) (C.t _ (List.mem_cons_of_mem _ fk_O_kinds)) (fun _ h9 => h9) rfl hdg (k H locs ls h1 h2 h3 h4)
theorem g_O_sizes (C : jC p s m args c cc nL R_O (c0 :: jT) (dC, dI) vwCl (jty cI cZ cB cJ) A Sx jE) (pn : Nat) (hpn : pc + 3 = pn) (hdg : decode cc pc = .ok (.getfield 15, 3)) (k : jJ p l e R s m args below meth c cells slots Q (dC, dI) vwCl A Sx nL (wC ad cI cZ cB σ β mk ρ) pn lv (.ref (ad 11) :: rest)) : jJ p l e R s m args below meth c cells slots Q (dC, dI) vwCl A Sx nL (wC ad cI cZ cB σ β mk ρ) pc lv (.ref (ad 1) :: rest) := by
  subst hpn
  exact fun H locs ls h1 h2 h3 h4 => va_get (D := (dC, dI)) (ci := 1) (v := .ref (ad 11)) (C := R_O) (T := T_O) (N := 10) C.x C.b C.t iw_O C.o C.k h1 1 rfl rfl 1 (by decide) (C.t _ (List.mem_cons_of_mem _ fk_O_sizes)) (fun _ h9 => h9) rfl hdg (k H locs ls h1 h2 h3 h4)
theorem g_O_programs (C : jC p s m args c cc nL R_O (c0 :: jT) (dC, dI) vwCl (jty cI cZ cB cJ) A Sx jE) (pn : Nat) (hpn : pc + 3 = pn) (hdg : decode cc pc = .ok (.getfield 18, 3)) (k : jJ p l e R s m args below meth c cells slots Q (dC, dI) vwCl A Sx nL (wC ad cI cZ cB σ β mk ρ) pn lv (.ref (ad 12) :: rest)) : jJ p l e R s m args below meth c cells slots Q (dC, dI) vwCl A Sx nL (wC ad cI cZ cB σ β mk ρ) pc lv (.ref (ad 1) :: rest) := by
  subst hpn
  exact fun H locs ls h1 h2 h3 h4 => va_get (D := (dC, dI)) (ci := 1) (v := .ref (ad 12)) (C := R_O) (T := T_O) (N := 10) C.x C.b C.t iw_O C.o C.k h1 1 rfl rfl 2 (by decide) (C.t _ (List.mem_cons_of_mem _ fk_O_programs)) (fun _ h9 => h9) rfl hdg (k H locs ls h1 h2 h3 h4)
theorem g_O_addresses (C : jC p s m args c cc nL R_O (c0 :: jT) (dC, dI) vwCl (jty cI cZ cB cJ) A Sx jE) (pn : Nat) (hpn : pc + 3 = pn) (hdg : decode cc pc = .ok (.getfield 21, 3)) (k : jJ p l e R s m args below meth c cells slots Q (dC, dI) vwCl A Sx nL (wC ad cI cZ cB σ β mk ρ) pn lv (.ref (ad 13) :: rest)) : jJ p l e R s m args below meth c cells slots Q (dC, dI) vwCl A Sx nL (wC ad cI cZ cB σ β mk ρ) pc lv (.ref (ad 1) :: rest) := by
  subst hpn
  exact fun H locs ls h1 h2 h3 h4 => va_get (D := (dC, dI)) (ci := 1) (v := .ref (ad 13)) (C := R_O) (T := T_O) (N := 10) C.x C.b C.t iw_O C.o C.k h1 1 rfl rfl 3 (by decide) (C.t _ (List.mem_cons_of_mem _ fk_O_addresses)) (fun _ h9 => h9) rfl hdg (k H locs ls h1 h2 h3 h4)
theorem g_O_addressTold (C : jC p s m args c cc nL R_O (c0 :: jT) (dC, dI) vwCl (jty cI cZ cB cJ) A Sx jE) (pn : Nat) (hpn : pc + 3 = pn) (hdg : decode cc pc = .ok (.getfield 24, 3)) (k : jJ p l e R s m args below meth c cells slots Q (dC, dI) vwCl A Sx nL (wC ad cI cZ cB σ β mk ρ) pn lv (.ref (ad 14) :: rest)) : jJ p l e R s m args below meth c cells slots Q (dC, dI) vwCl A Sx nL (wC ad cI cZ cB σ β mk ρ) pc lv (.ref (ad 1) :: rest) := by
  subst hpn
  exact fun H locs ls h1 h2 h3 h4 => va_get (D := (dC, dI)) (ci := 1) (v := .ref (ad 14)) (C := R_O) (T := T_O) (N := 10) C.x C.b C.t iw_O C.o C.k h1 1 rfl rfl 4 (by decide) (C.t _ (List.mem_cons_of_mem _ fk_O_addressTold)) (fun _ h9 => h9) rfl hdg (k H locs ls h1 h2 h3 h4)
theorem g_O_numbers (C : jC p s m args c cc nL R_O (c0 :: jT) (dC, dI) vwCl (jty cI cZ cB cJ) A Sx jE) (pn : Nat) (hpn : pc + 3 = pn) (hdg : decode cc pc = .ok (.getfield 28, 3)) (k : jJ p l e R s m args below meth c cells slots Q (dC, dI) vwCl A Sx nL (wC ad cI cZ cB σ β mk ρ) pn lv (.ref (ad 15) :: rest)) : jJ p l e R s m args below meth c cells slots Q (dC, dI) vwCl A Sx nL (wC ad cI cZ cB σ β mk ρ) pc lv (.ref (ad 1) :: rest) := by
  subst hpn
  exact fun H locs ls h1 h2 h3 h4 => va_get (D := (dC, dI)) (ci := 1) (v := .ref (ad 15)) (C := R_O) (T := T_O) (N := 10) C.x C.b C.t iw_O C.o C.k h1 1 rfl rfl 5 (by decide) (C.t _ (List.mem_cons_of_mem _ fk_O_numbers)) (fun _ h9 => h9) rfl hdg (k H locs ls h1 h2 h3 h4)
theorem g_O_numberTold (C : jC p s m args c cc nL R_O (c0 :: jT) (dC, dI) vwCl (jty cI cZ cB cJ) A Sx jE) (pn : Nat) (hpn : pc + 3 = pn) (hdg : decode cc pc = .ok (.getfield 31, 3)) (k : jJ p l e R s m args below meth c cells slots Q (dC, dI) vwCl A Sx nL (wC ad cI cZ cB σ β mk ρ) pn lv (.ref (ad 16) :: rest)) : jJ p l e R s m args below meth c cells slots Q (dC, dI) vwCl A Sx nL (wC ad cI cZ cB σ β mk ρ) pc lv (.ref (ad 1) :: rest) := by
  subst hpn
  exact fun H locs ls h1 h2 h3 h4 => va_get (D := (dC, dI)) (ci := 1) (v := .ref (ad 16)) (C := R_O) (T := T_O) (N := 10) C.x C.b C.t iw_O C.o C.k h1 1 rfl rfl 6 (by decide) (C.t _ (List.mem_cons_of_mem _ fk_O_numberTold)) (fun _ h9 => h9) rfl hdg (k H locs ls h1 h2 h3 h4)
theorem g_O_done (C : jC p s m args c cc nL R_O (c0 :: jT) (dC, dI) vwCl (jty cI cZ cB cJ) A Sx jE) (pn : Nat) (hpn : pc + 3 = pn) (hdg : decode cc pc = .ok (.getfield 34, 3)) (k : jJ p l e R s m args below meth c cells slots Q (dC, dI) vwCl A Sx nL (wC ad cI cZ cB σ β mk ρ) pn lv (.ref (ad 17) :: rest)) : jJ p l e R s m args below meth c cells slots Q (dC, dI) vwCl A Sx nL (wC ad cI cZ cB σ β mk ρ) pc lv (.ref (ad 1) :: rest) := by
  subst hpn
  exact fun H locs ls h1 h2 h3 h4 => va_get (D := (dC, dI)) (ci := 1) (v := .ref (ad 17)) (C := R_O) (T := T_O) (N := 10) C.x C.b C.t iw_O C.o C.k h1 1 rfl rfl 7 (by decide) (C.t _ (List.mem_cons_of_mem _ fk_O_done)) (fun _ h9 => h9) rfl hdg (k H locs ls h1 h2 h3 h4)
theorem g_O_loadedNumbers (C : jC p s m args c cc nL R_O (c0 :: jT) (dC, dI) vwCl (jty cI cZ cB cJ) A Sx jE) (pn : Nat) (hpn : pc + 3 = pn) (hdg : decode cc pc = .ok (.getfield 37, 3)) (k : jJ p l e R s m args below meth c cells slots Q (dC, dI) vwCl A Sx nL (wC ad cI cZ cB σ β mk ρ) pn lv (.ref (ad 18) :: rest)) : jJ p l e R s m args below meth c cells slots Q (dC, dI) vwCl A Sx nL (wC ad cI cZ cB σ β mk ρ) pc lv (.ref (ad 1) :: rest) := by
  subst hpn
  exact fun H locs ls h1 h2 h3 h4 => va_get (D := (dC, dI)) (ci := 1) (v := .ref (ad 18)) (C := R_O) (T := T_O) (N := 10) C.x C.b C.t iw_O C.o C.k h1 1 rfl rfl 8 (by decide) (C.t _ (List.mem_cons_of_mem _ fk_O_loadedNumbers)) (fun _ h9 => h9) rfl hdg (k H locs ls h1 h2 h3 h4)
theorem g_O_sources (C : jC p s m args c cc nL R_O (c0 :: jT) (dC, dI) vwCl (jty cI cZ cB cJ) A Sx jE) (pn : Nat) (hpn : pc + 3 = pn) (hdg : decode cc pc = .ok (.getfield 40, 3)) (k : jJ p l e R s m args below meth c cells slots Q (dC, dI) vwCl A Sx nL (wC ad cI cZ cB σ β mk ρ) pn lv (.ref (ad 19) :: rest)) : jJ p l e R s m args below meth c cells slots Q (dC, dI) vwCl A Sx nL (wC ad cI cZ cB σ β mk ρ) pc lv (.ref (ad 1) :: rest) := by
  subst hpn
  exact fun H locs ls h1 h2 h3 h4 => va_get (D := (dC, dI)) (ci := 1) (v := .ref (ad 19)) (C := R_O) (T := T_O) (N := 10) C.x C.b C.t iw_O C.o C.k h1 1 rfl rfl 9 (by decide) (C.t _ (List.mem_cons_of_mem _ fk_O_sources)) (fun _ h9 => h9) rfl hdg (k H locs ls h1 h2 h3 h4)
theorem g_B_stores (C : jC p s m args c cc nL R_B (c0 :: jT) (dC, dI) vwCl (jty cI cZ cB cJ) A Sx jE) (pn : Nat) (hpn : pc + 3 = pn) (hdg : decode cc pc = .ok (.getfield 9, 3)) (k : jJ p l e R s m args below meth c cells slots Q (dC, dI) vwCl A Sx nL (wC ad cI cZ cB σ β mk ρ) pn lv (.ref (ad 20) :: rest)) : jJ p l e R s m args below meth c cells slots Q (dC, dI) vwCl A Sx nL (wC ad cI cZ cB σ β mk ρ) pc lv (.ref (ad 2) :: rest) := by
  subst hpn
  exact fun H locs ls h1 h2 h3 h4 => va_get (D := (dC, dI)) (ci := 2) (v := .ref (ad 20)) (C := R_B) (T := T_B) (N := 5) C.x C.b C.t iw_B C.o C.k h1 2 rfl rfl 0 (by decide) (C.t _ (List.mem_cons_of_mem _ fk_B_stores)) (fun _ h9 => h9) rfl hdg (k H locs ls h1 h2 h3 h4)
theorem g_B_addresses (C : jC p s m args c cc nL R_B (c0 :: jT) (dC, dI) vwCl (jty cI cZ cB cJ) A Sx jE) (pn : Nat) (hpn : pc + 3 = pn) (hdg : decode cc pc = .ok (.getfield 15, 3)) (k : jJ p l e R s m args below meth c cells slots Q (dC, dI) vwCl A Sx nL (wC ad cI cZ cB σ β mk ρ) pn lv (.ref (ad 21) :: rest)) : jJ p l e R s m args below meth c cells slots Q (dC, dI) vwCl A Sx nL (wC ad cI cZ cB σ β mk ρ) pc lv (.ref (ad 2) :: rest) := by
  subst hpn
  exact fun H locs ls h1 h2 h3 h4 => va_get (D := (dC, dI)) (ci := 2) (v := .ref (ad 21)) (C := R_B) (T := T_B) (N := 5) C.x C.b C.t iw_B C.o C.k h1 2 rfl rfl 1 (by decide) (C.t _ (List.mem_cons_of_mem _ fk_B_addresses)) (fun _ h9 => h9) rfl hdg (k H locs ls h1 h2 h3 h4)
theorem g_B_sizes (C : jC p s m args c cc nL R_B (c0 :: jT) (dC, dI) vwCl (jty cI cZ cB cJ) A Sx jE) (pn : Nat) (hpn : pc + 3 = pn) (hdg : decode cc pc = .ok (.getfield 18, 3)) (k : jJ p l e R s m args below meth c cells slots Q (dC, dI) vwCl A Sx nL (wC ad cI cZ cB σ β mk ρ) pn lv (.ref (ad 22) :: rest)) : jJ p l e R s m args below meth c cells slots Q (dC, dI) vwCl A Sx nL (wC ad cI cZ cB σ β mk ρ) pc lv (.ref (ad 2) :: rest) := by
  subst hpn
  exact fun H locs ls h1 h2 h3 h4 => va_get (D := (dC, dI)) (ci := 2) (v := .ref (ad 22)) (C := R_B) (T := T_B) (N := 5) C.x C.b C.t iw_B C.o C.k h1 2 rfl rfl 2 (by decide) (C.t _ (List.mem_cons_of_mem _ fk_B_sizes)) (fun _ h9 => h9) rfl hdg (k H locs ls h1 h2 h3 h4)
theorem g_B_numbers (C : jC p s m args c cc nL R_B (c0 :: jT) (dC, dI) vwCl (jty cI cZ cB cJ) A Sx jE) (pn : Nat) (hpn : pc + 3 = pn) (hdg : decode cc pc = .ok (.getfield 21, 3)) (k : jJ p l e R s m args below meth c cells slots Q (dC, dI) vwCl A Sx nL (wC ad cI cZ cB σ β mk ρ) pn lv (.ref (ad 23) :: rest)) : jJ p l e R s m args below meth c cells slots Q (dC, dI) vwCl A Sx nL (wC ad cI cZ cB σ β mk ρ) pc lv (.ref (ad 2) :: rest) := by
  subst hpn
  exact fun H locs ls h1 h2 h3 h4 => va_get (D := (dC, dI)) (ci := 2) (v := .ref (ad 23)) (C := R_B) (T := T_B) (N := 5) C.x C.b C.t iw_B C.o C.k h1 2 rfl rfl 3 (by decide) (C.t _ (List.mem_cons_of_mem _ fk_B_numbers)) (fun _ h9 => h9) rfl hdg (k H locs ls h1 h2 h3 h4)
theorem g_B_held (C : jC p s m args c cc nL R_B (c0 :: jT) (dC, dI) vwCl (jty cI cZ cB cJ) A Sx jE) (pn : Nat) (hpn : pc + 3 = pn) (hdg : decode cc pc = .ok (.getfield 24, 3)) (k : jJ p l e R s m args below meth c cells slots Q (dC, dI) vwCl A Sx nL (wC ad cI cZ cB σ β mk ρ) pn lv (.int (σ 6 0) :: rest)) : jJ p l e R s m args below meth c cells slots Q (dC, dI) vwCl A Sx nL (wC ad cI cZ cB σ β mk ρ) pc lv (.ref (ad 2) :: rest) := by
  subst hpn
  exact fun H locs ls h1 h2 h3 h4 => va_get (D := (dC, dI)) (ci := 2) (v := .int (σ 6 0)) (C := R_B) (T := T_B) (N := 5) C.x C.b C.t iw_B C.o C.k h1 2 rfl rfl 4 (by decide) (C.t _ (List.mem_cons_of_mem _ fk_B_held)) (fun _ h9 => h9) rfl hdg (k H locs ls h1 h2 h3 h4)
theorem p_B_held (C : jC p s m args c cc nL R_B (c0 :: jT) (dC, dI) vwCl (jty cI cZ cB cJ) A (va_S A s.heap) jE) {v : Int32} (pn : Nat) (hpn : pc + 3 = pn) (hdg : decode cc pc = .ok (.putfield 24, 3)) (k : jJ p l e R s m args below meth c cells slots Q (dC, dI) vwCl A (va_S A s.heap) nL (wC ad cI cZ cB (sS σ 6 v) β mk ρ) pn lv (rest)) : jJ p l e R s m args below meth c cells slots Q (dC, dI) vwCl A (va_S A s.heap) nL (wC ad cI cZ cB σ β mk ρ) pc lv (.int v :: .ref (ad 2) :: rest) := by
  subst hpn
  exact fun H locs ls h1 h2 h3 h4 => va_put (D := (dC, dI)) (ci := 2) (v := .int v) (ty := .int) (C := R_B) (T := T_B) (N := 5) C.x C.b C.t iw_B t_B tk_B n_B C.o C.k h1 h2 h3 2 rfl rfl 4 (by decide) (C.t _ (List.mem_cons_of_mem _ fk_B_held)) (fun _ h9 => h9) rfl (by decide +kernel) rfl rfl (Nat.le_of_ble_eq_true rfl) hdg (fun H1 locs1 g1 g2 g3 => k H1 locs1 ls g1 g2 g3 h4)
theorem g_Y_cells (C : jC p s m args c cc nL R_Y (c0 :: jT) (dC, dI) vwCl (jty cI cZ cB cJ) A Sx jE) (pn : Nat) (hpn : pc + 3 = pn) (hdg : decode cc pc = .ok (.getfield 9, 3)) (k : jJ p l e R s m args below meth c cells slots Q (dC, dI) vwCl A Sx nL (wC ad cI cZ cB σ β mk ρ) pn lv (.ref (ad 24) :: rest)) : jJ p l e R s m args below meth c cells slots Q (dC, dI) vwCl A Sx nL (wC ad cI cZ cB σ β mk ρ) pc lv (.ref (ad 3) :: rest) := by
  subst hpn
  exact fun H locs ls h1 h2 h3 h4 => va_get (D := (dC, dI)) (ci := 3) (v := .ref (ad 24)) (C := R_Y) (T := T_Y) (N := 1) C.x C.b C.t iw_Y C.o C.k h1 3 rfl rfl 0 (by decide) (C.t _ (List.mem_cons_of_mem _ fk_Y_cells)) (fun _ h9 => h9) rfl hdg (k H locs ls h1 h2 h3 h4)
theorem g_M_thrown (C : jC p s m args c cc nL R_M (c0 :: jT) (dC, dI) vwCl (jty cI cZ cB cJ) A Sx jE) (pn : Nat) (hpn : pc + 3 = pn) (hdg : decode cc pc = .ok (.getfield 56, 3)) (k : jJ p l e R s m args below meth c cells slots Q (dC, dI) vwCl A Sx nL (wM am cI cZ μ ν ρ) pn lv (.int (μ 0 0) :: rest)) : jJ p l e R s m args below meth c cells slots Q (dC, dI) vwCl A Sx nL (wM am cI cZ μ ν ρ) pc lv (.ref (am 0) :: rest) := by
  subst hpn
  exact fun H locs ls h1 h2 h3 h4 => va_get (D := (dC, dI)) (ci := 4) (v := .int (μ 0 0)) (C := R_M) (T := T_M) (N := 23) C.x C.b C.t iw_M C.o C.k h1 0 rfl rfl 0 (by decide) (C.t _ (List.mem_cons_of_mem _ fk_M_thrown)) (fun _ h9 => h9) rfl hdg (k H locs ls h1 h2 h3 h4)
theorem p_M_thrown (C : jC p s m args c cc nL R_M (c0 :: jT) (dC, dI) vwCl (jty cI cZ cB cJ) A (va_S A s.heap) jE) {v : Int32} (pn : Nat) (hpn : pc + 3 = pn) (hdg : decode cc pc = .ok (.putfield 56, 3)) (k : jJ p l e R s m args below meth c cells slots Q (dC, dI) vwCl A (va_S A s.heap) nL (wM am cI cZ (sS μ 0 v) ν ρ) pn lv (rest)) : jJ p l e R s m args below meth c cells slots Q (dC, dI) vwCl A (va_S A s.heap) nL (wM am cI cZ μ ν ρ) pc lv (.int v :: .ref (am 0) :: rest) := by
  subst hpn
  exact fun H locs ls h1 h2 h3 h4 => va_put (D := (dC, dI)) (ci := 4) (v := .int v) (ty := .int) (C := R_M) (T := T_M) (N := 23) C.x C.b C.t iw_M t_M tk_M n_M C.o C.k h1 h2 h3 0 rfl rfl 0 (by decide) (C.t _ (List.mem_cons_of_mem _ fk_M_thrown)) (fun _ h9 => h9) rfl (by decide +kernel) rfl rfl (Nat.le_of_ble_eq_true rfl) hdg (fun H1 locs1 g1 g2 g3 => k H1 locs1 ls g1 g2 g3 h4)
theorem g_M_total (C : jC p s m args c cc nL R_M (c0 :: jT) (dC, dI) vwCl (jty cI cZ cB cJ) A Sx jE) (pn : Nat) (hpn : pc + 3 = pn) (hdg : decode cc pc = .ok (.getfield 60, 3)) (k : jJ p l e R s m args below meth c cells slots Q (dC, dI) vwCl A Sx nL (wM am cI cZ μ ν ρ) pn lv (.int (μ 1 0) :: rest)) : jJ p l e R s m args below meth c cells slots Q (dC, dI) vwCl A Sx nL (wM am cI cZ μ ν ρ) pc lv (.ref (am 0) :: rest) := by
  subst hpn
  exact fun H locs ls h1 h2 h3 h4 => va_get (D := (dC, dI)) (ci := 4) (v := .int (μ 1 0)) (C := R_M) (T := T_M) (N := 23) C.x C.b C.t iw_M C.o C.k h1 0 rfl rfl 1 (by decide) (C.t _ (List.mem_cons_of_mem _ fk_M_total)) (fun _ h9 => h9) rfl hdg (k H locs ls h1 h2 h3 h4)
theorem p_M_total (C : jC p s m args c cc nL R_M (c0 :: jT) (dC, dI) vwCl (jty cI cZ cB cJ) A (va_S A s.heap) jE) {v : Int32} (pn : Nat) (hpn : pc + 3 = pn) (hdg : decode cc pc = .ok (.putfield 60, 3)) (k : jJ p l e R s m args below meth c cells slots Q (dC, dI) vwCl A (va_S A s.heap) nL (wM am cI cZ (sS μ 1 v) ν ρ) pn lv (rest)) : jJ p l e R s m args below meth c cells slots Q (dC, dI) vwCl A (va_S A s.heap) nL (wM am cI cZ μ ν ρ) pc lv (.int v :: .ref (am 0) :: rest) := by
  subst hpn
  exact fun H locs ls h1 h2 h3 h4 => va_put (D := (dC, dI)) (ci := 4) (v := .int v) (ty := .int) (C := R_M) (T := T_M) (N := 23) C.x C.b C.t iw_M t_M tk_M n_M C.o C.k h1 h2 h3 0 rfl rfl 1 (by decide) (C.t _ (List.mem_cons_of_mem _ fk_M_total)) (fun _ h9 => h9) rfl (by decide +kernel) rfl rfl (Nat.le_of_ble_eq_true rfl) hdg (fun H1 locs1 g1 g2 g3 => k H1 locs1 ls g1 g2 g3 h4)
theorem g_M_oldest (C : jC p s m args c cc nL R_M (c0 :: jT) (dC, dI) vwCl (jty cI cZ cB cJ) A Sx jE) (pn : Nat) (hpn : pc + 3 = pn) (hdg : decode cc pc = .ok (.getfield 63, 3)) (k : jJ p l e R s m args below meth c cells slots Q (dC, dI) vwCl A Sx nL (wM am cI cZ μ ν ρ) pn lv (.int (μ 2 0) :: rest)) : jJ p l e R s m args below meth c cells slots Q (dC, dI) vwCl A Sx nL (wM am cI cZ μ ν ρ) pc lv (.ref (am 0) :: rest) := by
  subst hpn
  exact fun H locs ls h1 h2 h3 h4 => va_get (D := (dC, dI)) (ci := 4) (v := .int (μ 2 0)) (C := R_M) (T := T_M) (N := 23) C.x C.b C.t iw_M C.o C.k h1 0 rfl rfl 2 (by decide) (C.t _ (List.mem_cons_of_mem _ fk_M_oldest)) (fun _ h9 => h9) rfl hdg (k H locs ls h1 h2 h3 h4)
theorem p_M_oldest (C : jC p s m args c cc nL R_M (c0 :: jT) (dC, dI) vwCl (jty cI cZ cB cJ) A (va_S A s.heap) jE) {v : Int32} (pn : Nat) (hpn : pc + 3 = pn) (hdg : decode cc pc = .ok (.putfield 63, 3)) (k : jJ p l e R s m args below meth c cells slots Q (dC, dI) vwCl A (va_S A s.heap) nL (wM am cI cZ (sS μ 2 v) ν ρ) pn lv (rest)) : jJ p l e R s m args below meth c cells slots Q (dC, dI) vwCl A (va_S A s.heap) nL (wM am cI cZ μ ν ρ) pc lv (.int v :: .ref (am 0) :: rest) := by
  subst hpn
  exact fun H locs ls h1 h2 h3 h4 => va_put (D := (dC, dI)) (ci := 4) (v := .int v) (ty := .int) (C := R_M) (T := T_M) (N := 23) C.x C.b C.t iw_M t_M tk_M n_M C.o C.k h1 h2 h3 0 rfl rfl 2 (by decide) (C.t _ (List.mem_cons_of_mem _ fk_M_oldest)) (fun _ h9 => h9) rfl (by decide +kernel) rfl rfl (Nat.le_of_ble_eq_true rfl) hdg (fun H1 locs1 g1 g2 g3 => k H1 locs1 ls g1 g2 g3 h4)
theorem g_M_undone (C : jC p s m args c cc nL R_M (c0 :: jT) (dC, dI) vwCl (jty cI cZ cB cJ) A Sx jE) (pn : Nat) (hpn : pc + 3 = pn) (hdg : decode cc pc = .ok (.getfield 107, 3)) (k : jJ p l e R s m args below meth c cells slots Q (dC, dI) vwCl A Sx nL (wM am cI cZ μ ν ρ) pn lv (.int (μ 3 0) :: rest)) : jJ p l e R s m args below meth c cells slots Q (dC, dI) vwCl A Sx nL (wM am cI cZ μ ν ρ) pc lv (.ref (am 0) :: rest) := by
  subst hpn
  exact fun H locs ls h1 h2 h3 h4 => va_get (D := (dC, dI)) (ci := 4) (v := .int (μ 3 0)) (C := R_M) (T := T_M) (N := 23) C.x C.b C.t iw_M C.o C.k h1 0 rfl rfl 3 (by decide) (C.t _ (List.mem_cons_of_mem _ fk_M_undone)) (fun _ h9 => h9) rfl hdg (k H locs ls h1 h2 h3 h4)
theorem p_M_undone (C : jC p s m args c cc nL R_M (c0 :: jT) (dC, dI) vwCl (jty cI cZ cB cJ) A (va_S A s.heap) jE) {v : Int32} (pn : Nat) (hpn : pc + 3 = pn) (hdg : decode cc pc = .ok (.putfield 107, 3)) (k : jJ p l e R s m args below meth c cells slots Q (dC, dI) vwCl A (va_S A s.heap) nL (wM am cI cZ (sS μ 3 v) ν ρ) pn lv (rest)) : jJ p l e R s m args below meth c cells slots Q (dC, dI) vwCl A (va_S A s.heap) nL (wM am cI cZ μ ν ρ) pc lv (.int v :: .ref (am 0) :: rest) := by
  subst hpn
  exact fun H locs ls h1 h2 h3 h4 => va_put (D := (dC, dI)) (ci := 4) (v := .int v) (ty := .int) (C := R_M) (T := T_M) (N := 23) C.x C.b C.t iw_M t_M tk_M n_M C.o C.k h1 h2 h3 0 rfl rfl 3 (by decide) (C.t _ (List.mem_cons_of_mem _ fk_M_undone)) (fun _ h9 => h9) rfl (by decide +kernel) rfl rfl (Nat.le_of_ble_eq_true rfl) hdg (fun H1 locs1 g1 g2 g3 => k H1 locs1 ls g1 g2 g3 h4)
theorem g_M_wrong (C : jC p s m args c cc nL R_M (c0 :: jT) (dC, dI) vwCl (jty cI cZ cB cJ) A Sx jE) (pn : Nat) (hpn : pc + 3 = pn) (hdg : decode cc pc = .ok (.getfield 104, 3)) (k : jJ p l e R s m args below meth c cells slots Q (dC, dI) vwCl A Sx nL (wM am cI cZ μ ν ρ) pn lv (.int (μ 4 0) :: rest)) : jJ p l e R s m args below meth c cells slots Q (dC, dI) vwCl A Sx nL (wM am cI cZ μ ν ρ) pc lv (.ref (am 0) :: rest) := by
  subst hpn
  exact fun H locs ls h1 h2 h3 h4 => va_get (D := (dC, dI)) (ci := 4) (v := .int (μ 4 0)) (C := R_M) (T := T_M) (N := 23) C.x C.b C.t iw_M C.o C.k h1 0 rfl rfl 4 (by decide) (C.t _ (List.mem_cons_of_mem _ fk_M_wrong)) (fun _ h9 => h9) rfl hdg (k H locs ls h1 h2 h3 h4)
theorem p_M_wrong (C : jC p s m args c cc nL R_M (c0 :: jT) (dC, dI) vwCl (jty cI cZ cB cJ) A (va_S A s.heap) jE) {v : Int32} (pn : Nat) (hpn : pc + 3 = pn) (hdg : decode cc pc = .ok (.putfield 104, 3)) (k : jJ p l e R s m args below meth c cells slots Q (dC, dI) vwCl A (va_S A s.heap) nL (wM am cI cZ (sS μ 4 v) ν ρ) pn lv (rest)) : jJ p l e R s m args below meth c cells slots Q (dC, dI) vwCl A (va_S A s.heap) nL (wM am cI cZ μ ν ρ) pc lv (.int v :: .ref (am 0) :: rest) := by
  subst hpn
  exact fun H locs ls h1 h2 h3 h4 => va_put (D := (dC, dI)) (ci := 4) (v := .int v) (ty := .int) (C := R_M) (T := T_M) (N := 23) C.x C.b C.t iw_M t_M tk_M n_M C.o C.k h1 h2 h3 0 rfl rfl 4 (by decide) (C.t _ (List.mem_cons_of_mem _ fk_M_wrong)) (fun _ h9 => h9) rfl (by decide +kernel) rfl rfl (Nat.le_of_ble_eq_true rfl) hdg (fun H1 locs1 g1 g2 g3 => k H1 locs1 ls g1 g2 g3 h4)
theorem g_M_ofStores (C : jC p s m args c cc nL R_M (c0 :: jT) (dC, dI) vwCl (jty cI cZ cB cJ) A Sx jE) (pn : Nat) (hpn : pc + 3 = pn) (hdg : decode cc pc = .ok (.getfield 126, 3)) (k : jJ p l e R s m args below meth c cells slots Q (dC, dI) vwCl A Sx nL (wM am cI cZ μ ν ρ) pn lv (.int (μ 5 0) :: rest)) : jJ p l e R s m args below meth c cells slots Q (dC, dI) vwCl A Sx nL (wM am cI cZ μ ν ρ) pc lv (.ref (am 0) :: rest) := by
  subst hpn
  exact fun H locs ls h1 h2 h3 h4 => va_get (D := (dC, dI)) (ci := 4) (v := .int (μ 5 0)) (C := R_M) (T := T_M) (N := 23) C.x C.b C.t iw_M C.o C.k h1 0 rfl rfl 5 (by decide) (C.t _ (List.mem_cons_of_mem _ fk_M_ofStores)) (fun _ h9 => h9) rfl hdg (k H locs ls h1 h2 h3 h4)
theorem p_M_ofStores (C : jC p s m args c cc nL R_M (c0 :: jT) (dC, dI) vwCl (jty cI cZ cB cJ) A (va_S A s.heap) jE) {v : Int32} (pn : Nat) (hpn : pc + 3 = pn) (hdg : decode cc pc = .ok (.putfield 126, 3)) (k : jJ p l e R s m args below meth c cells slots Q (dC, dI) vwCl A (va_S A s.heap) nL (wM am cI cZ (sS μ 5 v) ν ρ) pn lv (rest)) : jJ p l e R s m args below meth c cells slots Q (dC, dI) vwCl A (va_S A s.heap) nL (wM am cI cZ μ ν ρ) pc lv (.int v :: .ref (am 0) :: rest) := by
  subst hpn
  exact fun H locs ls h1 h2 h3 h4 => va_put (D := (dC, dI)) (ci := 4) (v := .int v) (ty := .int) (C := R_M) (T := T_M) (N := 23) C.x C.b C.t iw_M t_M tk_M n_M C.o C.k h1 h2 h3 0 rfl rfl 5 (by decide) (C.t _ (List.mem_cons_of_mem _ fk_M_ofStores)) (fun _ h9 => h9) rfl (by decide +kernel) rfl rfl (Nat.le_of_ble_eq_true rfl) hdg (fun H1 locs1 g1 g2 g3 => k H1 locs1 ls g1 g2 g3 h4)
theorem g_M_ofOthers (C : jC p s m args c cc nL R_M (c0 :: jT) (dC, dI) vwCl (jty cI cZ cB cJ) A Sx jE) (pn : Nat) (hpn : pc + 3 = pn) (hdg : decode cc pc = .ok (.getfield 129, 3)) (k : jJ p l e R s m args below meth c cells slots Q (dC, dI) vwCl A Sx nL (wM am cI cZ μ ν ρ) pn lv (.int (μ 6 0) :: rest)) : jJ p l e R s m args below meth c cells slots Q (dC, dI) vwCl A Sx nL (wM am cI cZ μ ν ρ) pc lv (.ref (am 0) :: rest) := by
  subst hpn
  exact fun H locs ls h1 h2 h3 h4 => va_get (D := (dC, dI)) (ci := 4) (v := .int (μ 6 0)) (C := R_M) (T := T_M) (N := 23) C.x C.b C.t iw_M C.o C.k h1 0 rfl rfl 6 (by decide) (C.t _ (List.mem_cons_of_mem _ fk_M_ofOthers)) (fun _ h9 => h9) rfl hdg (k H locs ls h1 h2 h3 h4)
theorem p_M_ofOthers (C : jC p s m args c cc nL R_M (c0 :: jT) (dC, dI) vwCl (jty cI cZ cB cJ) A (va_S A s.heap) jE) {v : Int32} (pn : Nat) (hpn : pc + 3 = pn) (hdg : decode cc pc = .ok (.putfield 129, 3)) (k : jJ p l e R s m args below meth c cells slots Q (dC, dI) vwCl A (va_S A s.heap) nL (wM am cI cZ (sS μ 6 v) ν ρ) pn lv (rest)) : jJ p l e R s m args below meth c cells slots Q (dC, dI) vwCl A (va_S A s.heap) nL (wM am cI cZ μ ν ρ) pc lv (.int v :: .ref (am 0) :: rest) := by
  subst hpn
  exact fun H locs ls h1 h2 h3 h4 => va_put (D := (dC, dI)) (ci := 4) (v := .int v) (ty := .int) (C := R_M) (T := T_M) (N := 23) C.x C.b C.t iw_M t_M tk_M n_M C.o C.k h1 h2 h3 0 rfl rfl 6 (by decide) (C.t _ (List.mem_cons_of_mem _ fk_M_ofOthers)) (fun _ h9 => h9) rfl (by decide +kernel) rfl rfl (Nat.le_of_ble_eq_true rfl) hdg (fun H1 locs1 g1 g2 g3 => k H1 locs1 ls g1 g2 g3 h4)
theorem g_M_bytes (C : jC p s m args c cc nL R_M (c0 :: jT) (dC, dI) vwCl (jty cI cZ cB cJ) A Sx jE) (pn : Nat) (hpn : pc + 3 = pn) (hdg : decode cc pc = .ok (.getfield 7, 3)) (k : jJ p l e R s m args below meth c cells slots Q (dC, dI) vwCl A Sx nL (wM am cI cZ μ ν ρ) pn lv (.ref (am 10) :: rest)) : jJ p l e R s m args below meth c cells slots Q (dC, dI) vwCl A Sx nL (wM am cI cZ μ ν ρ) pc lv (.ref (am 0) :: rest) := by
  subst hpn
  exact fun H locs ls h1 h2 h3 h4 => va_get (D := (dC, dI)) (ci := 4) (v := .ref (am 10)) (C := R_M) (T := T_M) (N := 23) C.x C.b C.t iw_M C.o C.k h1 0 rfl rfl 7 (by decide) (C.t _ (List.mem_cons_of_mem _ fk_M_bytes)) (fun _ h9 => h9) rfl hdg (k H locs ls h1 h2 h3 h4)
theorem g_M_marks (C : jC p s m args c cc nL R_M (c0 :: jT) (dC, dI) vwCl (jty cI cZ cB cJ) A Sx jE) (pn : Nat) (hpn : pc + 3 = pn) (hdg : decode cc pc = .ok (.getfield 13, 3)) (k : jJ p l e R s m args below meth c cells slots Q (dC, dI) vwCl A Sx nL (wM am cI cZ μ ν ρ) pn lv (.ref (am 11) :: rest)) : jJ p l e R s m args below meth c cells slots Q (dC, dI) vwCl A Sx nL (wM am cI cZ μ ν ρ) pc lv (.ref (am 0) :: rest) := by
  subst hpn
  exact fun H locs ls h1 h2 h3 h4 => va_get (D := (dC, dI)) (ci := 4) (v := .ref (am 11)) (C := R_M) (T := T_M) (N := 23) C.x C.b C.t iw_M C.o C.k h1 0 rfl rfl 8 (by decide) (C.t _ (List.mem_cons_of_mem _ fk_M_marks)) (fun _ h9 => h9) rfl hdg (k H locs ls h1 h2 h3 h4)
theorem g_M_kinds (C : jC p s m args c cc nL R_M (c0 :: jT) (dC, dI) vwCl (jty cI cZ cB cJ) A Sx jE) (pn : Nat) (hpn : pc + 3 = pn) (hdg : decode cc pc = .ok (.getfield 17, 3)) (k : jJ p l e R s m args below meth c cells slots Q (dC, dI) vwCl A Sx nL (wM am cI cZ μ ν ρ) pn lv (.ref (am 12) :: rest)) : jJ p l e R s m args below meth c cells slots Q (dC, dI) vwCl A Sx nL (wM am cI cZ μ ν ρ) pc lv (.ref (am 0) :: rest) := by
  subst hpn
  exact fun H locs ls h1 h2 h3 h4 => va_get (D := (dC, dI)) (ci := 4) (v := .ref (am 12)) (C := R_M) (T := T_M) (N := 23) C.x C.b C.t iw_M C.o C.k h1 0 rfl rfl 9 (by decide) (C.t _ (List.mem_cons_of_mem _ fk_M_kinds)) (fun _ h9 => h9) rfl hdg (k H locs ls h1 h2 h3 h4)
theorem g_M_sizes (C : jC p s m args c cc nL R_M (c0 :: jT) (dC, dI) vwCl (jty cI cZ cB cJ) A Sx jE) (pn : Nat) (hpn : pc + 3 = pn) (hdg : decode cc pc = .ok (.getfield 20, 3)) (k : jJ p l e R s m args below meth c cells slots Q (dC, dI) vwCl A Sx nL (wM am cI cZ μ ν ρ) pn lv (.ref (am 13) :: rest)) : jJ p l e R s m args below meth c cells slots Q (dC, dI) vwCl A Sx nL (wM am cI cZ μ ν ρ) pc lv (.ref (am 0) :: rest) := by
  subst hpn
  exact fun H locs ls h1 h2 h3 h4 => va_get (D := (dC, dI)) (ci := 4) (v := .ref (am 13)) (C := R_M) (T := T_M) (N := 23) C.x C.b C.t iw_M C.o C.k h1 0 rfl rfl 10 (by decide) (C.t _ (List.mem_cons_of_mem _ fk_M_sizes)) (fun _ h9 => h9) rfl hdg (k H locs ls h1 h2 h3 h4)
theorem g_M_programs (C : jC p s m args c cc nL R_M (c0 :: jT) (dC, dI) vwCl (jty cI cZ cB cJ) A Sx jE) (pn : Nat) (hpn : pc + 3 = pn) (hdg : decode cc pc = .ok (.getfield 23, 3)) (k : jJ p l e R s m args below meth c cells slots Q (dC, dI) vwCl A Sx nL (wM am cI cZ μ ν ρ) pn lv (.ref (am 14) :: rest)) : jJ p l e R s m args below meth c cells slots Q (dC, dI) vwCl A Sx nL (wM am cI cZ μ ν ρ) pc lv (.ref (am 0) :: rest) := by
  subst hpn
  exact fun H locs ls h1 h2 h3 h4 => va_get (D := (dC, dI)) (ci := 4) (v := .ref (am 14)) (C := R_M) (T := T_M) (N := 23) C.x C.b C.t iw_M C.o C.k h1 0 rfl rfl 11 (by decide) (C.t _ (List.mem_cons_of_mem _ fk_M_programs)) (fun _ h9 => h9) rfl hdg (k H locs ls h1 h2 h3 h4)
theorem g_M_places (C : jC p s m args c cc nL R_M (c0 :: jT) (dC, dI) vwCl (jty cI cZ cB cJ) A Sx jE) (pn : Nat) (hpn : pc + 3 = pn) (hdg : decode cc pc = .ok (.getfield 26, 3)) (k : jJ p l e R s m args below meth c cells slots Q (dC, dI) vwCl A Sx nL (wM am cI cZ μ ν ρ) pn lv (.ref (am 15) :: rest)) : jJ p l e R s m args below meth c cells slots Q (dC, dI) vwCl A Sx nL (wM am cI cZ μ ν ρ) pc lv (.ref (am 0) :: rest) := by
  subst hpn
  exact fun H locs ls h1 h2 h3 h4 => va_get (D := (dC, dI)) (ci := 4) (v := .ref (am 15)) (C := R_M) (T := T_M) (N := 23) C.x C.b C.t iw_M C.o C.k h1 0 rfl rfl 12 (by decide) (C.t _ (List.mem_cons_of_mem _ fk_M_places)) (fun _ h9 => h9) rfl hdg (k H locs ls h1 h2 h3 h4)
theorem g_M_values (C : jC p s m args c cc nL R_M (c0 :: jT) (dC, dI) vwCl (jty cI cZ cB cJ) A Sx jE) (pn : Nat) (hpn : pc + 3 = pn) (hdg : decode cc pc = .ok (.getfield 29, 3)) (k : jJ p l e R s m args below meth c cells slots Q (dC, dI) vwCl A Sx nL (wM am cI cZ μ ν ρ) pn lv (.ref (am 16) :: rest)) : jJ p l e R s m args below meth c cells slots Q (dC, dI) vwCl A Sx nL (wM am cI cZ μ ν ρ) pc lv (.ref (am 0) :: rest) := by
  subst hpn
  exact fun H locs ls h1 h2 h3 h4 => va_get (D := (dC, dI)) (ci := 4) (v := .ref (am 16)) (C := R_M) (T := T_M) (N := 23) C.x C.b C.t iw_M C.o C.k h1 0 rfl rfl 13 (by decide) (C.t _ (List.mem_cons_of_mem _ fk_M_values)) (fun _ h9 => h9) rfl hdg (k H locs ls h1 h2 h3 h4)
theorem g_M_results (C : jC p s m args c cc nL R_M (c0 :: jT) (dC, dI) vwCl (jty cI cZ cB cJ) A Sx jE) (pn : Nat) (hpn : pc + 3 = pn) (hdg : decode cc pc = .ok (.getfield 32, 3)) (k : jJ p l e R s m args below meth c cells slots Q (dC, dI) vwCl A Sx nL (wM am cI cZ μ ν ρ) pn lv (.ref (am 17) :: rest)) : jJ p l e R s m args below meth c cells slots Q (dC, dI) vwCl A Sx nL (wM am cI cZ μ ν ρ) pc lv (.ref (am 0) :: rest) := by
  subst hpn
  exact fun H locs ls h1 h2 h3 h4 => va_get (D := (dC, dI)) (ci := 4) (v := .ref (am 17)) (C := R_M) (T := T_M) (N := 23) C.x C.b C.t iw_M C.o C.k h1 0 rfl rfl 14 (by decide) (C.t _ (List.mem_cons_of_mem _ fk_M_results)) (fun _ h9 => h9) rfl hdg (k H locs ls h1 h2 h3 h4)
theorem g_M_told (C : jC p s m args c cc nL R_M (c0 :: jT) (dC, dI) vwCl (jty cI cZ cB cJ) A Sx jE) (pn : Nat) (hpn : pc + 3 = pn) (hdg : decode cc pc = .ok (.getfield 35, 3)) (k : jJ p l e R s m args below meth c cells slots Q (dC, dI) vwCl A Sx nL (wM am cI cZ μ ν ρ) pn lv (.ref (am 18) :: rest)) : jJ p l e R s m args below meth c cells slots Q (dC, dI) vwCl A Sx nL (wM am cI cZ μ ν ρ) pc lv (.ref (am 0) :: rest) := by
  subst hpn
  exact fun H locs ls h1 h2 h3 h4 => va_get (D := (dC, dI)) (ci := 4) (v := .ref (am 18)) (C := R_M) (T := T_M) (N := 23) C.x C.b C.t iw_M C.o C.k h1 0 rfl rfl 15 (by decide) (C.t _ (List.mem_cons_of_mem _ fk_M_told)) (fun _ h9 => h9) rfl hdg (k H locs ls h1 h2 h3 h4)
theorem g_M_done (C : jC p s m args c cc nL R_M (c0 :: jT) (dC, dI) vwCl (jty cI cZ cB cJ) A Sx jE) (pn : Nat) (hpn : pc + 3 = pn) (hdg : decode cc pc = .ok (.getfield 38, 3)) (k : jJ p l e R s m args below meth c cells slots Q (dC, dI) vwCl A Sx nL (wM am cI cZ μ ν ρ) pn lv (.ref (am 19) :: rest)) : jJ p l e R s m args below meth c cells slots Q (dC, dI) vwCl A Sx nL (wM am cI cZ μ ν ρ) pc lv (.ref (am 0) :: rest) := by
  subst hpn
  exact fun H locs ls h1 h2 h3 h4 => va_get (D := (dC, dI)) (ci := 4) (v := .ref (am 19)) (C := R_M) (T := T_M) (N := 23) C.x C.b C.t iw_M C.o C.k h1 0 rfl rfl 16 (by decide) (C.t _ (List.mem_cons_of_mem _ fk_M_done)) (fun _ h9 => h9) rfl hdg (k H locs ls h1 h2 h3 h4)
theorem g_M_from (C : jC p s m args c cc nL R_M (c0 :: jT) (dC, dI) vwCl (jty cI cZ cB cJ) A Sx jE) (pn : Nat) (hpn : pc + 3 = pn) (hdg : decode cc pc = .ok (.getfield 41, 3)) (k : jJ p l e R s m args below meth c cells slots Q (dC, dI) vwCl A Sx nL (wM am cI cZ μ ν ρ) pn lv (.ref (am 20) :: rest)) : jJ p l e R s m args below meth c cells slots Q (dC, dI) vwCl A Sx nL (wM am cI cZ μ ν ρ) pc lv (.ref (am 0) :: rest) := by
  subst hpn
  exact fun H locs ls h1 h2 h3 h4 => va_get (D := (dC, dI)) (ci := 4) (v := .ref (am 20)) (C := R_M) (T := T_M) (N := 23) C.x C.b C.t iw_M C.o C.k h1 0 rfl rfl 17 (by decide) (C.t _ (List.mem_cons_of_mem _ fk_M_from)) (fun _ h9 => h9) rfl hdg (k H locs ls h1 h2 h3 h4)
theorem g_M_waiting (C : jC p s m args c cc nL R_M (c0 :: jT) (dC, dI) vwCl (jty cI cZ cB cJ) A Sx jE) (pn : Nat) (hpn : pc + 3 = pn) (hdg : decode cc pc = .ok (.getfield 44, 3)) (k : jJ p l e R s m args below meth c cells slots Q (dC, dI) vwCl A Sx nL (wM am cI cZ μ ν ρ) pn lv (.ref (am 21) :: rest)) : jJ p l e R s m args below meth c cells slots Q (dC, dI) vwCl A Sx nL (wM am cI cZ μ ν ρ) pc lv (.ref (am 0) :: rest) := by
  subst hpn
  exact fun H locs ls h1 h2 h3 h4 => va_get (D := (dC, dI)) (ci := 4) (v := .ref (am 21)) (C := R_M) (T := T_M) (N := 23) C.x C.b C.t iw_M C.o C.k h1 0 rfl rfl 18 (by decide) (C.t _ (List.mem_cons_of_mem _ fk_M_waiting)) (fun _ h9 => h9) rfl hdg (k H locs ls h1 h2 h3 h4)
theorem g_M_waitPlace (C : jC p s m args c cc nL R_M (c0 :: jT) (dC, dI) vwCl (jty cI cZ cB cJ) A Sx jE) (pn : Nat) (hpn : pc + 3 = pn) (hdg : decode cc pc = .ok (.getfield 47, 3)) (k : jJ p l e R s m args below meth c cells slots Q (dC, dI) vwCl A Sx nL (wM am cI cZ μ ν ρ) pn lv (.ref (am 22) :: rest)) : jJ p l e R s m args below meth c cells slots Q (dC, dI) vwCl A Sx nL (wM am cI cZ μ ν ρ) pc lv (.ref (am 0) :: rest) := by
  subst hpn
  exact fun H locs ls h1 h2 h3 h4 => va_get (D := (dC, dI)) (ci := 4) (v := .ref (am 22)) (C := R_M) (T := T_M) (N := 23) C.x C.b C.t iw_M C.o C.k h1 0 rfl rfl 19 (by decide) (C.t _ (List.mem_cons_of_mem _ fk_M_waitPlace)) (fun _ h9 => h9) rfl hdg (k H locs ls h1 h2 h3 h4)
theorem g_M_waitSize (C : jC p s m args c cc nL R_M (c0 :: jT) (dC, dI) vwCl (jty cI cZ cB cJ) A Sx jE) (pn : Nat) (hpn : pc + 3 = pn) (hdg : decode cc pc = .ok (.getfield 50, 3)) (k : jJ p l e R s m args below meth c cells slots Q (dC, dI) vwCl A Sx nL (wM am cI cZ μ ν ρ) pn lv (.ref (am 23) :: rest)) : jJ p l e R s m args below meth c cells slots Q (dC, dI) vwCl A Sx nL (wM am cI cZ μ ν ρ) pc lv (.ref (am 0) :: rest) := by
  subst hpn
  exact fun H locs ls h1 h2 h3 h4 => va_get (D := (dC, dI)) (ci := 4) (v := .ref (am 23)) (C := R_M) (T := T_M) (N := 23) C.x C.b C.t iw_M C.o C.k h1 0 rfl rfl 20 (by decide) (C.t _ (List.mem_cons_of_mem _ fk_M_waitSize)) (fun _ h9 => h9) rfl hdg (k H locs ls h1 h2 h3 h4)
theorem g_M_waitValue (C : jC p s m args c cc nL R_M (c0 :: jT) (dC, dI) vwCl (jty cI cZ cB cJ) A Sx jE) (pn : Nat) (hpn : pc + 3 = pn) (hdg : decode cc pc = .ok (.getfield 53, 3)) (k : jJ p l e R s m args below meth c cells slots Q (dC, dI) vwCl A Sx nL (wM am cI cZ μ ν ρ) pn lv (.ref (am 24) :: rest)) : jJ p l e R s m args below meth c cells slots Q (dC, dI) vwCl A Sx nL (wM am cI cZ μ ν ρ) pc lv (.ref (am 0) :: rest) := by
  subst hpn
  exact fun H locs ls h1 h2 h3 h4 => va_get (D := (dC, dI)) (ci := 4) (v := .ref (am 24)) (C := R_M) (T := T_M) (N := 23) C.x C.b C.t iw_M C.o C.k h1 0 rfl rfl 21 (by decide) (C.t _ (List.mem_cons_of_mem _ fk_M_waitValue)) (fun _ h9 => h9) rfl hdg (k H locs ls h1 h2 h3 h4)
theorem g_M_buffered (C : jC p s m args c cc nL R_M (c0 :: jT) (dC, dI) vwCl (jty cI cZ cB cJ) A Sx jE) (pn : Nat) (hpn : pc + 3 = pn) (hdg : decode cc pc = .ok (.getfield 81, 3)) (k : jJ p l e R s m args below meth c cells slots Q (dC, dI) vwCl A Sx nL (wM am cI cZ μ ν ρ) pn lv (.int (μ 7 0) :: rest)) : jJ p l e R s m args below meth c cells slots Q (dC, dI) vwCl A Sx nL (wM am cI cZ μ ν ρ) pc lv (.ref (am 0) :: rest) := by
  subst hpn
  exact fun H locs ls h1 h2 h3 h4 => va_get (D := (dC, dI)) (ci := 4) (v := .int (μ 7 0)) (C := R_M) (T := T_M) (N := 23) C.x C.b C.t iw_M C.o C.k h1 0 rfl rfl 22 (by decide) (C.t _ (List.mem_cons_of_mem _ fk_M_buffered)) (fun _ h9 => h9) rfl hdg (k H locs ls h1 h2 h3 h4)
theorem p_M_buffered (C : jC p s m args c cc nL R_M (c0 :: jT) (dC, dI) vwCl (jty cI cZ cB cJ) A (va_S A s.heap) jE) {v : Int32} (pn : Nat) (hpn : pc + 3 = pn) (hdg : decode cc pc = .ok (.putfield 81, 3)) (k : jJ p l e R s m args below meth c cells slots Q (dC, dI) vwCl A (va_S A s.heap) nL (wM am cI cZ (sS μ 7 v) ν ρ) pn lv (rest)) : jJ p l e R s m args below meth c cells slots Q (dC, dI) vwCl A (va_S A s.heap) nL (wM am cI cZ μ ν ρ) pc lv (.int v :: .ref (am 0) :: rest) := by
  subst hpn
  exact fun H locs ls h1 h2 h3 h4 => va_put (D := (dC, dI)) (ci := 4) (v := .int v) (ty := .int) (C := R_M) (T := T_M) (N := 23) C.x C.b C.t iw_M t_M tk_M n_M C.o C.k h1 h2 h3 0 rfl rfl 22 (by decide) (C.t _ (List.mem_cons_of_mem _ fk_M_buffered)) (fun _ h9 => h9) rfl (by decide +kernel) rfl rfl (Nat.le_of_ble_eq_true rfl) hdg (fun H1 locs1 g1 g2 g3 => k H1 locs1 ls g1 g2 g3 h4)
theorem ld_O_kinds (C : jC p s m args c cc nL R_O (c0 :: jT) (dC, dI) vwCl (jty cI cZ cB cJ) A Sx jE) {i : Int32} (hin : vp_in i 128) (pn : Nat) (hpn : pc + 1 = pn) (hdg : decode cc pc = .ok (.iaload, 1)) (k : jJ p l e R s m args below meth c cells slots Q (dC, dI) vwCl A Sx nL (wC ad cI cZ cB σ β mk ρ) pn lv (.int (σ 10 i.toNatClampNeg) :: rest)) : jJ p l e R s m args below meth c cells slots Q (dC, dI) vwCl A Sx nL (wC ad cI cZ cB σ β mk ρ) pc lv (.int i :: .ref (ad 10) :: rest) := j_ald C 4 0 rfl rfl hin pn hpn hdg k
theorem st_O_kinds (C : jC p s m args c cc nL R_O (c0 :: jT) (dC, dI) vwCl (jty cI cZ cB cJ) A (va_S A s.heap) jE) {i x : Int32} (hin : vp_in i 128) (pn : Nat) (hpn : pc + 1 = pn) (hdg : decode cc pc = .ok (.iastore, 1)) (k : jJ p l e R s m args below meth c cells slots Q (dC, dI) vwCl A (va_S A s.heap) nL (wC ad cI cZ cB (sA σ 10 i.toNatClampNeg x) β mk ρ) pn lv (rest)) : jJ p l e R s m args below meth c cells slots Q (dC, dI) vwCl A (va_S A s.heap) nL (wC ad cI cZ cB σ β mk ρ) pc lv (.int x :: .int i :: .ref (ad 10) :: rest) := j_ast C 4 0 rfl rfl hin pn hpn hdg k
theorem ld_O_sizes (C : jC p s m args c cc nL R_O (c0 :: jT) (dC, dI) vwCl (jty cI cZ cB cJ) A Sx jE) {i : Int32} (hin : vp_in i 128) (pn : Nat) (hpn : pc + 1 = pn) (hdg : decode cc pc = .ok (.iaload, 1)) (k : jJ p l e R s m args below meth c cells slots Q (dC, dI) vwCl A Sx nL (wC ad cI cZ cB σ β mk ρ) pn lv (.int (σ 11 i.toNatClampNeg) :: rest)) : jJ p l e R s m args below meth c cells slots Q (dC, dI) vwCl A Sx nL (wC ad cI cZ cB σ β mk ρ) pc lv (.int i :: .ref (ad 11) :: rest) := j_ald C 5 0 rfl rfl hin pn hpn hdg k
theorem st_O_sizes (C : jC p s m args c cc nL R_O (c0 :: jT) (dC, dI) vwCl (jty cI cZ cB cJ) A (va_S A s.heap) jE) {i x : Int32} (hin : vp_in i 128) (pn : Nat) (hpn : pc + 1 = pn) (hdg : decode cc pc = .ok (.iastore, 1)) (k : jJ p l e R s m args below meth c cells slots Q (dC, dI) vwCl A (va_S A s.heap) nL (wC ad cI cZ cB (sA σ 11 i.toNatClampNeg x) β mk ρ) pn lv (rest)) : jJ p l e R s m args below meth c cells slots Q (dC, dI) vwCl A (va_S A s.heap) nL (wC ad cI cZ cB σ β mk ρ) pc lv (.int x :: .int i :: .ref (ad 11) :: rest) := j_ast C 5 0 rfl rfl hin pn hpn hdg k
theorem ld_O_programs (C : jC p s m args c cc nL R_O (c0 :: jT) (dC, dI) vwCl (jty cI cZ cB cJ) A Sx jE) {i : Int32} (hin : vp_in i 128) (pn : Nat) (hpn : pc + 1 = pn) (hdg : decode cc pc = .ok (.iaload, 1)) (k : jJ p l e R s m args below meth c cells slots Q (dC, dI) vwCl A Sx nL (wC ad cI cZ cB σ β mk ρ) pn lv (.int (σ 12 i.toNatClampNeg) :: rest)) : jJ p l e R s m args below meth c cells slots Q (dC, dI) vwCl A Sx nL (wC ad cI cZ cB σ β mk ρ) pc lv (.int i :: .ref (ad 12) :: rest) := j_ald C 6 0 rfl rfl hin pn hpn hdg k
theorem st_O_programs (C : jC p s m args c cc nL R_O (c0 :: jT) (dC, dI) vwCl (jty cI cZ cB cJ) A (va_S A s.heap) jE) {i x : Int32} (hin : vp_in i 128) (pn : Nat) (hpn : pc + 1 = pn) (hdg : decode cc pc = .ok (.iastore, 1)) (k : jJ p l e R s m args below meth c cells slots Q (dC, dI) vwCl A (va_S A s.heap) nL (wC ad cI cZ cB (sA σ 12 i.toNatClampNeg x) β mk ρ) pn lv (rest)) : jJ p l e R s m args below meth c cells slots Q (dC, dI) vwCl A (va_S A s.heap) nL (wC ad cI cZ cB σ β mk ρ) pc lv (.int x :: .int i :: .ref (ad 12) :: rest) := j_ast C 6 0 rfl rfl hin pn hpn hdg k
theorem ld_O_addresses (C : jC p s m args c cc nL R_O (c0 :: jT) (dC, dI) vwCl (jty cI cZ cB cJ) A Sx jE) {i : Int32} (hin : vp_in i 128) (pn : Nat) (hpn : pc + 1 = pn) (hdg : decode cc pc = .ok (.iaload, 1)) (k : jJ p l e R s m args below meth c cells slots Q (dC, dI) vwCl A Sx nL (wC ad cI cZ cB σ β mk ρ) pn lv (.int (σ 13 i.toNatClampNeg) :: rest)) : jJ p l e R s m args below meth c cells slots Q (dC, dI) vwCl A Sx nL (wC ad cI cZ cB σ β mk ρ) pc lv (.int i :: .ref (ad 13) :: rest) := j_ald C 7 0 rfl rfl hin pn hpn hdg k
theorem st_O_addresses (C : jC p s m args c cc nL R_O (c0 :: jT) (dC, dI) vwCl (jty cI cZ cB cJ) A (va_S A s.heap) jE) {i x : Int32} (hin : vp_in i 128) (pn : Nat) (hpn : pc + 1 = pn) (hdg : decode cc pc = .ok (.iastore, 1)) (k : jJ p l e R s m args below meth c cells slots Q (dC, dI) vwCl A (va_S A s.heap) nL (wC ad cI cZ cB (sA σ 13 i.toNatClampNeg x) β mk ρ) pn lv (rest)) : jJ p l e R s m args below meth c cells slots Q (dC, dI) vwCl A (va_S A s.heap) nL (wC ad cI cZ cB σ β mk ρ) pc lv (.int x :: .int i :: .ref (ad 13) :: rest) := j_ast C 7 0 rfl rfl hin pn hpn hdg k
theorem ld_O_addressTold (C : jC p s m args c cc nL R_O (c0 :: jT) (dC, dI) vwCl (jty cI cZ cB cJ) A Sx jE) {i : Int32} (hin : vp_in i 128) (pn : Nat) (hpn : pc + 1 = pn) (hdg : decode cc pc = .ok (.baload, 1)) (k : jJ p l e R s m args below meth c cells slots Q (dC, dI) vwCl A Sx nL (wC ad cI cZ cB σ β mk ρ) pn lv (.int (bI (β 0 i.toNatClampNeg)) :: rest)) : jJ p l e R s m args below meth c cells slots Q (dC, dI) vwCl A Sx nL (wC ad cI cZ cB σ β mk ρ) pc lv (.int i :: .ref (ad 14) :: rest) := j_zld (g := β 0) C 8 1 rfl rfl hin pn hpn hdg k
theorem st_O_addressTold (C : jC p s m args c cc nL R_O (c0 :: jT) (dC, dI) vwCl (jty cI cZ cB cJ) A (va_S A s.heap) jE) {i x : Int32} (hin : vp_in i 128) {b : Bool} (hb : x = bI b) (pn : Nat) (hpn : pc + 1 = pn) (hdg : decode cc pc = .ok (.bastore, 1)) (k : jJ p l e R s m args below meth c cells slots Q (dC, dI) vwCl A (va_S A s.heap) nL (wC ad cI cZ cB σ (bA β 0 i.toNatClampNeg b) mk ρ) pn lv (rest)) : jJ p l e R s m args below meth c cells slots Q (dC, dI) vwCl A (va_S A s.heap) nL (wC ad cI cZ cB σ β mk ρ) pc lv (.int x :: .int i :: .ref (ad 14) :: rest) := j_zst (g := β 0) C 8 1 rfl rfl hin hb pn hpn hdg k
theorem ld_O_numbers (C : jC p s m args c cc nL R_O (c0 :: jT) (dC, dI) vwCl (jty cI cZ cB cJ) A Sx jE) {i : Int32} (hin : vp_in i 128) (pn : Nat) (hpn : pc + 1 = pn) (hdg : decode cc pc = .ok (.iaload, 1)) (k : jJ p l e R s m args below meth c cells slots Q (dC, dI) vwCl A Sx nL (wC ad cI cZ cB σ β mk ρ) pn lv (.int (σ 15 i.toNatClampNeg) :: rest)) : jJ p l e R s m args below meth c cells slots Q (dC, dI) vwCl A Sx nL (wC ad cI cZ cB σ β mk ρ) pc lv (.int i :: .ref (ad 15) :: rest) := j_ald C 9 0 rfl rfl hin pn hpn hdg k
theorem st_O_numbers (C : jC p s m args c cc nL R_O (c0 :: jT) (dC, dI) vwCl (jty cI cZ cB cJ) A (va_S A s.heap) jE) {i x : Int32} (hin : vp_in i 128) (pn : Nat) (hpn : pc + 1 = pn) (hdg : decode cc pc = .ok (.iastore, 1)) (k : jJ p l e R s m args below meth c cells slots Q (dC, dI) vwCl A (va_S A s.heap) nL (wC ad cI cZ cB (sA σ 15 i.toNatClampNeg x) β mk ρ) pn lv (rest)) : jJ p l e R s m args below meth c cells slots Q (dC, dI) vwCl A (va_S A s.heap) nL (wC ad cI cZ cB σ β mk ρ) pc lv (.int x :: .int i :: .ref (ad 15) :: rest) := j_ast C 9 0 rfl rfl hin pn hpn hdg k
theorem ld_O_numberTold (C : jC p s m args c cc nL R_O (c0 :: jT) (dC, dI) vwCl (jty cI cZ cB cJ) A Sx jE) {i : Int32} (hin : vp_in i 128) (pn : Nat) (hpn : pc + 1 = pn) (hdg : decode cc pc = .ok (.baload, 1)) (k : jJ p l e R s m args below meth c cells slots Q (dC, dI) vwCl A Sx nL (wC ad cI cZ cB σ β mk ρ) pn lv (.int (bI (β 1 i.toNatClampNeg)) :: rest)) : jJ p l e R s m args below meth c cells slots Q (dC, dI) vwCl A Sx nL (wC ad cI cZ cB σ β mk ρ) pc lv (.int i :: .ref (ad 16) :: rest) := j_zld (g := β 1) C 10 1 rfl rfl hin pn hpn hdg k
theorem st_O_numberTold (C : jC p s m args c cc nL R_O (c0 :: jT) (dC, dI) vwCl (jty cI cZ cB cJ) A (va_S A s.heap) jE) {i x : Int32} (hin : vp_in i 128) {b : Bool} (hb : x = bI b) (pn : Nat) (hpn : pc + 1 = pn) (hdg : decode cc pc = .ok (.bastore, 1)) (k : jJ p l e R s m args below meth c cells slots Q (dC, dI) vwCl A (va_S A s.heap) nL (wC ad cI cZ cB σ (bA β 1 i.toNatClampNeg b) mk ρ) pn lv (rest)) : jJ p l e R s m args below meth c cells slots Q (dC, dI) vwCl A (va_S A s.heap) nL (wC ad cI cZ cB σ β mk ρ) pc lv (.int x :: .int i :: .ref (ad 16) :: rest) := j_zst (g := β 1) C 10 1 rfl rfl hin hb pn hpn hdg k
theorem ld_O_done (C : jC p s m args c cc nL R_O (c0 :: jT) (dC, dI) vwCl (jty cI cZ cB cJ) A Sx jE) {i : Int32} (hin : vp_in i 128) (pn : Nat) (hpn : pc + 1 = pn) (hdg : decode cc pc = .ok (.baload, 1)) (k : jJ p l e R s m args below meth c cells slots Q (dC, dI) vwCl A Sx nL (wC ad cI cZ cB σ β mk ρ) pn lv (.int (bI (β 2 i.toNatClampNeg)) :: rest)) : jJ p l e R s m args below meth c cells slots Q (dC, dI) vwCl A Sx nL (wC ad cI cZ cB σ β mk ρ) pc lv (.int i :: .ref (ad 17) :: rest) := j_zld (g := β 2) C 11 1 rfl rfl hin pn hpn hdg k
theorem st_O_done (C : jC p s m args c cc nL R_O (c0 :: jT) (dC, dI) vwCl (jty cI cZ cB cJ) A (va_S A s.heap) jE) {i x : Int32} (hin : vp_in i 128) {b : Bool} (hb : x = bI b) (pn : Nat) (hpn : pc + 1 = pn) (hdg : decode cc pc = .ok (.bastore, 1)) (k : jJ p l e R s m args below meth c cells slots Q (dC, dI) vwCl A (va_S A s.heap) nL (wC ad cI cZ cB σ (bA β 2 i.toNatClampNeg b) mk ρ) pn lv (rest)) : jJ p l e R s m args below meth c cells slots Q (dC, dI) vwCl A (va_S A s.heap) nL (wC ad cI cZ cB σ β mk ρ) pc lv (.int x :: .int i :: .ref (ad 17) :: rest) := j_zst (g := β 2) C 11 1 rfl rfl hin hb pn hpn hdg k
theorem ld_O_loadedNumbers (C : jC p s m args c cc nL R_O (c0 :: jT) (dC, dI) vwCl (jty cI cZ cB cJ) A Sx jE) {i : Int32} (hin : vp_in i 128) (pn : Nat) (hpn : pc + 1 = pn) (hdg : decode cc pc = .ok (.iaload, 1)) (k : jJ p l e R s m args below meth c cells slots Q (dC, dI) vwCl A Sx nL (wC ad cI cZ cB σ β mk ρ) pn lv (.int (σ 18 i.toNatClampNeg) :: rest)) : jJ p l e R s m args below meth c cells slots Q (dC, dI) vwCl A Sx nL (wC ad cI cZ cB σ β mk ρ) pc lv (.int i :: .ref (ad 18) :: rest) := j_ald C 12 0 rfl rfl hin pn hpn hdg k
theorem st_O_loadedNumbers (C : jC p s m args c cc nL R_O (c0 :: jT) (dC, dI) vwCl (jty cI cZ cB cJ) A (va_S A s.heap) jE) {i x : Int32} (hin : vp_in i 128) (pn : Nat) (hpn : pc + 1 = pn) (hdg : decode cc pc = .ok (.iastore, 1)) (k : jJ p l e R s m args below meth c cells slots Q (dC, dI) vwCl A (va_S A s.heap) nL (wC ad cI cZ cB (sA σ 18 i.toNatClampNeg x) β mk ρ) pn lv (rest)) : jJ p l e R s m args below meth c cells slots Q (dC, dI) vwCl A (va_S A s.heap) nL (wC ad cI cZ cB σ β mk ρ) pc lv (.int x :: .int i :: .ref (ad 18) :: rest) := j_ast C 12 0 rfl rfl hin pn hpn hdg k
theorem ld_O_sources (C : jC p s m args c cc nL R_O (c0 :: jT) (dC, dI) vwCl (jty cI cZ cB cJ) A Sx jE) {i : Int32} (hin : vp_in i 512) (pn : Nat) (hpn : pc + 1 = pn) (hdg : decode cc pc = .ok (.iaload, 1)) (k : jJ p l e R s m args below meth c cells slots Q (dC, dI) vwCl A Sx nL (wC ad cI cZ cB σ β mk ρ) pn lv (.int (σ 19 i.toNatClampNeg) :: rest)) : jJ p l e R s m args below meth c cells slots Q (dC, dI) vwCl A Sx nL (wC ad cI cZ cB σ β mk ρ) pc lv (.int i :: .ref (ad 19) :: rest) := j_ald C 13 0 rfl rfl hin pn hpn hdg k
theorem st_O_sources (C : jC p s m args c cc nL R_O (c0 :: jT) (dC, dI) vwCl (jty cI cZ cB cJ) A (va_S A s.heap) jE) {i x : Int32} (hin : vp_in i 512) (pn : Nat) (hpn : pc + 1 = pn) (hdg : decode cc pc = .ok (.iastore, 1)) (k : jJ p l e R s m args below meth c cells slots Q (dC, dI) vwCl A (va_S A s.heap) nL (wC ad cI cZ cB (sA σ 19 i.toNatClampNeg x) β mk ρ) pn lv (rest)) : jJ p l e R s m args below meth c cells slots Q (dC, dI) vwCl A (va_S A s.heap) nL (wC ad cI cZ cB σ β mk ρ) pc lv (.int x :: .int i :: .ref (ad 19) :: rest) := j_ast C 13 0 rfl rfl hin pn hpn hdg k
theorem ld_B_stores (C : jC p s m args c cc nL R_B (c0 :: jT) (dC, dI) vwCl (jty cI cZ cB cJ) A Sx jE) {i : Int32} (hin : vp_in i 4) (pn : Nat) (hpn : pc + 1 = pn) (hdg : decode cc pc = .ok (.iaload, 1)) (k : jJ p l e R s m args below meth c cells slots Q (dC, dI) vwCl A Sx nL (wC ad cI cZ cB σ β mk ρ) pn lv (.int (σ 20 i.toNatClampNeg) :: rest)) : jJ p l e R s m args below meth c cells slots Q (dC, dI) vwCl A Sx nL (wC ad cI cZ cB σ β mk ρ) pc lv (.int i :: .ref (ad 20) :: rest) := j_ald C 14 0 rfl rfl hin pn hpn hdg k
theorem st_B_stores (C : jC p s m args c cc nL R_B (c0 :: jT) (dC, dI) vwCl (jty cI cZ cB cJ) A (va_S A s.heap) jE) {i x : Int32} (hin : vp_in i 4) (pn : Nat) (hpn : pc + 1 = pn) (hdg : decode cc pc = .ok (.iastore, 1)) (k : jJ p l e R s m args below meth c cells slots Q (dC, dI) vwCl A (va_S A s.heap) nL (wC ad cI cZ cB (sA σ 20 i.toNatClampNeg x) β mk ρ) pn lv (rest)) : jJ p l e R s m args below meth c cells slots Q (dC, dI) vwCl A (va_S A s.heap) nL (wC ad cI cZ cB σ β mk ρ) pc lv (.int x :: .int i :: .ref (ad 20) :: rest) := j_ast C 14 0 rfl rfl hin pn hpn hdg k
theorem ld_B_addresses (C : jC p s m args c cc nL R_B (c0 :: jT) (dC, dI) vwCl (jty cI cZ cB cJ) A Sx jE) {i : Int32} (hin : vp_in i 4) (pn : Nat) (hpn : pc + 1 = pn) (hdg : decode cc pc = .ok (.iaload, 1)) (k : jJ p l e R s m args below meth c cells slots Q (dC, dI) vwCl A Sx nL (wC ad cI cZ cB σ β mk ρ) pn lv (.int (σ 21 i.toNatClampNeg) :: rest)) : jJ p l e R s m args below meth c cells slots Q (dC, dI) vwCl A Sx nL (wC ad cI cZ cB σ β mk ρ) pc lv (.int i :: .ref (ad 21) :: rest) := j_ald C 15 0 rfl rfl hin pn hpn hdg k
theorem st_B_addresses (C : jC p s m args c cc nL R_B (c0 :: jT) (dC, dI) vwCl (jty cI cZ cB cJ) A (va_S A s.heap) jE) {i x : Int32} (hin : vp_in i 4) (pn : Nat) (hpn : pc + 1 = pn) (hdg : decode cc pc = .ok (.iastore, 1)) (k : jJ p l e R s m args below meth c cells slots Q (dC, dI) vwCl A (va_S A s.heap) nL (wC ad cI cZ cB (sA σ 21 i.toNatClampNeg x) β mk ρ) pn lv (rest)) : jJ p l e R s m args below meth c cells slots Q (dC, dI) vwCl A (va_S A s.heap) nL (wC ad cI cZ cB σ β mk ρ) pc lv (.int x :: .int i :: .ref (ad 21) :: rest) := j_ast C 15 0 rfl rfl hin pn hpn hdg k
theorem ld_B_sizes (C : jC p s m args c cc nL R_B (c0 :: jT) (dC, dI) vwCl (jty cI cZ cB cJ) A Sx jE) {i : Int32} (hin : vp_in i 4) (pn : Nat) (hpn : pc + 1 = pn) (hdg : decode cc pc = .ok (.iaload, 1)) (k : jJ p l e R s m args below meth c cells slots Q (dC, dI) vwCl A Sx nL (wC ad cI cZ cB σ β mk ρ) pn lv (.int (σ 22 i.toNatClampNeg) :: rest)) : jJ p l e R s m args below meth c cells slots Q (dC, dI) vwCl A Sx nL (wC ad cI cZ cB σ β mk ρ) pc lv (.int i :: .ref (ad 22) :: rest) := j_ald C 16 0 rfl rfl hin pn hpn hdg k
theorem st_B_sizes (C : jC p s m args c cc nL R_B (c0 :: jT) (dC, dI) vwCl (jty cI cZ cB cJ) A (va_S A s.heap) jE) {i x : Int32} (hin : vp_in i 4) (pn : Nat) (hpn : pc + 1 = pn) (hdg : decode cc pc = .ok (.iastore, 1)) (k : jJ p l e R s m args below meth c cells slots Q (dC, dI) vwCl A (va_S A s.heap) nL (wC ad cI cZ cB (sA σ 22 i.toNatClampNeg x) β mk ρ) pn lv (rest)) : jJ p l e R s m args below meth c cells slots Q (dC, dI) vwCl A (va_S A s.heap) nL (wC ad cI cZ cB σ β mk ρ) pc lv (.int x :: .int i :: .ref (ad 22) :: rest) := j_ast C 16 0 rfl rfl hin pn hpn hdg k
theorem ld_B_numbers (C : jC p s m args c cc nL R_B (c0 :: jT) (dC, dI) vwCl (jty cI cZ cB cJ) A Sx jE) {i : Int32} (hin : vp_in i 4) (pn : Nat) (hpn : pc + 1 = pn) (hdg : decode cc pc = .ok (.iaload, 1)) (k : jJ p l e R s m args below meth c cells slots Q (dC, dI) vwCl A Sx nL (wC ad cI cZ cB σ β mk ρ) pn lv (.int (σ 23 i.toNatClampNeg) :: rest)) : jJ p l e R s m args below meth c cells slots Q (dC, dI) vwCl A Sx nL (wC ad cI cZ cB σ β mk ρ) pc lv (.int i :: .ref (ad 23) :: rest) := j_ald C 17 0 rfl rfl hin pn hpn hdg k
theorem st_B_numbers (C : jC p s m args c cc nL R_B (c0 :: jT) (dC, dI) vwCl (jty cI cZ cB cJ) A (va_S A s.heap) jE) {i x : Int32} (hin : vp_in i 4) (pn : Nat) (hpn : pc + 1 = pn) (hdg : decode cc pc = .ok (.iastore, 1)) (k : jJ p l e R s m args below meth c cells slots Q (dC, dI) vwCl A (va_S A s.heap) nL (wC ad cI cZ cB (sA σ 23 i.toNatClampNeg x) β mk ρ) pn lv (rest)) : jJ p l e R s m args below meth c cells slots Q (dC, dI) vwCl A (va_S A s.heap) nL (wC ad cI cZ cB σ β mk ρ) pc lv (.int x :: .int i :: .ref (ad 23) :: rest) := j_ast C 17 0 rfl rfl hin pn hpn hdg k
theorem ld_Y_cells (C : jC p s m args c cc nL R_Y (c0 :: jT) (dC, dI) vwCl (jty cI cZ cB cJ) A Sx jE) {i : Int32} (hin : vp_in i 4096) (pn : Nat) (hpn : pc + 1 = pn) (hdg : decode cc pc = .ok (.baload, 1)) (k : jJ p l e R s m args below meth c cells slots Q (dC, dI) vwCl A Sx nL (wC ad cI cZ cB σ β mk ρ) pn lv (.int (σ 24 i.toNatClampNeg) :: rest)) : jJ p l e R s m args below meth c cells slots Q (dC, dI) vwCl A Sx nL (wC ad cI cZ cB σ β mk ρ) pc lv (.int i :: .ref (ad 24) :: rest) := j_bld C 18 2 rfl rfl hin pn hpn hdg k
theorem st_Y_cells (C : jC p s m args c cc nL R_Y (c0 :: jT) (dC, dI) vwCl (jty cI cZ cB cJ) A (va_S A s.heap) jE) {i x : Int32} (hin : vp_in i 4096) (pn : Nat) (hpn : pc + 1 = pn) (hdg : decode cc pc = .ok (.bastore, 1)) (k : jJ p l e R s m args below meth c cells slots Q (dC, dI) vwCl A (va_S A s.heap) nL (wC ad cI cZ cB (sA σ 24 i.toNatClampNeg x.toInt8.toInt32) β mk ρ) pn lv (rest)) : jJ p l e R s m args below meth c cells slots Q (dC, dI) vwCl A (va_S A s.heap) nL (wC ad cI cZ cB σ β mk ρ) pc lv (.int x :: .int i :: .ref (ad 24) :: rest) := j_bst C 18 2 rfl rfl hin pn hpn hdg k
theorem ld_M_bytes (C : jC p s m args c cc nL R_M (c0 :: jT) (dC, dI) vwCl (jty cI cZ cB cJ) A Sx jE) {i : Int32} (hin : vp_in i 4096) (pn : Nat) (hpn : pc + 1 = pn) (hdg : decode cc pc = .ok (.iaload, 1)) (k : jJ p l e R s m args below meth c cells slots Q (dC, dI) vwCl A Sx nL (wM am cI cZ μ ν ρ) pn lv (.int (μ 10 i.toNatClampNeg) :: rest)) : jJ p l e R s m args below meth c cells slots Q (dC, dI) vwCl A Sx nL (wM am cI cZ μ ν ρ) pc lv (.int i :: .ref (am 10) :: rest) := j_ald C 1 0 rfl rfl hin pn hpn hdg k
theorem st_M_bytes (C : jC p s m args c cc nL R_M (c0 :: jT) (dC, dI) vwCl (jty cI cZ cB cJ) A (va_S A s.heap) jE) {i x : Int32} (hin : vp_in i 4096) (pn : Nat) (hpn : pc + 1 = pn) (hdg : decode cc pc = .ok (.iastore, 1)) (k : jJ p l e R s m args below meth c cells slots Q (dC, dI) vwCl A (va_S A s.heap) nL (wM am cI cZ (sA μ 10 i.toNatClampNeg x) ν ρ) pn lv (rest)) : jJ p l e R s m args below meth c cells slots Q (dC, dI) vwCl A (va_S A s.heap) nL (wM am cI cZ μ ν ρ) pc lv (.int x :: .int i :: .ref (am 10) :: rest) := j_ast C 1 0 rfl rfl hin pn hpn hdg k
theorem ld_M_marks (C : jC p s m args c cc nL R_M (c0 :: jT) (dC, dI) vwCl (jty cI cZ cB cJ) A Sx jE) {i : Int32} (hin : vp_in i 64) (pn : Nat) (hpn : pc + 1 = pn) (hdg : decode cc pc = .ok (.baload, 1)) (k : jJ p l e R s m args below meth c cells slots Q (dC, dI) vwCl A Sx nL (wM am cI cZ μ ν ρ) pn lv (.int (bI (ν 0 i.toNatClampNeg)) :: rest)) : jJ p l e R s m args below meth c cells slots Q (dC, dI) vwCl A Sx nL (wM am cI cZ μ ν ρ) pc lv (.int i :: .ref (am 11) :: rest) := j_zld (g := ν 0) C 2 1 rfl rfl hin pn hpn hdg k
theorem st_M_marks (C : jC p s m args c cc nL R_M (c0 :: jT) (dC, dI) vwCl (jty cI cZ cB cJ) A (va_S A s.heap) jE) {i x : Int32} (hin : vp_in i 64) {b : Bool} (hb : x = bI b) (pn : Nat) (hpn : pc + 1 = pn) (hdg : decode cc pc = .ok (.bastore, 1)) (k : jJ p l e R s m args below meth c cells slots Q (dC, dI) vwCl A (va_S A s.heap) nL (wM am cI cZ μ (bA ν 0 i.toNatClampNeg b) ρ) pn lv (rest)) : jJ p l e R s m args below meth c cells slots Q (dC, dI) vwCl A (va_S A s.heap) nL (wM am cI cZ μ ν ρ) pc lv (.int x :: .int i :: .ref (am 11) :: rest) := j_zst (g := ν 0) C 2 1 rfl rfl hin hb pn hpn hdg k
theorem ld_M_kinds (C : jC p s m args c cc nL R_M (c0 :: jT) (dC, dI) vwCl (jty cI cZ cB cJ) A Sx jE) {i : Int32} (hin : vp_in i 128) (pn : Nat) (hpn : pc + 1 = pn) (hdg : decode cc pc = .ok (.iaload, 1)) (k : jJ p l e R s m args below meth c cells slots Q (dC, dI) vwCl A Sx nL (wM am cI cZ μ ν ρ) pn lv (.int (μ 12 i.toNatClampNeg) :: rest)) : jJ p l e R s m args below meth c cells slots Q (dC, dI) vwCl A Sx nL (wM am cI cZ μ ν ρ) pc lv (.int i :: .ref (am 12) :: rest) := j_ald C 3 0 rfl rfl hin pn hpn hdg k
theorem st_M_kinds (C : jC p s m args c cc nL R_M (c0 :: jT) (dC, dI) vwCl (jty cI cZ cB cJ) A (va_S A s.heap) jE) {i x : Int32} (hin : vp_in i 128) (pn : Nat) (hpn : pc + 1 = pn) (hdg : decode cc pc = .ok (.iastore, 1)) (k : jJ p l e R s m args below meth c cells slots Q (dC, dI) vwCl A (va_S A s.heap) nL (wM am cI cZ (sA μ 12 i.toNatClampNeg x) ν ρ) pn lv (rest)) : jJ p l e R s m args below meth c cells slots Q (dC, dI) vwCl A (va_S A s.heap) nL (wM am cI cZ μ ν ρ) pc lv (.int x :: .int i :: .ref (am 12) :: rest) := j_ast C 3 0 rfl rfl hin pn hpn hdg k
theorem ld_M_sizes (C : jC p s m args c cc nL R_M (c0 :: jT) (dC, dI) vwCl (jty cI cZ cB cJ) A Sx jE) {i : Int32} (hin : vp_in i 128) (pn : Nat) (hpn : pc + 1 = pn) (hdg : decode cc pc = .ok (.iaload, 1)) (k : jJ p l e R s m args below meth c cells slots Q (dC, dI) vwCl A Sx nL (wM am cI cZ μ ν ρ) pn lv (.int (μ 13 i.toNatClampNeg) :: rest)) : jJ p l e R s m args below meth c cells slots Q (dC, dI) vwCl A Sx nL (wM am cI cZ μ ν ρ) pc lv (.int i :: .ref (am 13) :: rest) := j_ald C 4 0 rfl rfl hin pn hpn hdg k
theorem st_M_sizes (C : jC p s m args c cc nL R_M (c0 :: jT) (dC, dI) vwCl (jty cI cZ cB cJ) A (va_S A s.heap) jE) {i x : Int32} (hin : vp_in i 128) (pn : Nat) (hpn : pc + 1 = pn) (hdg : decode cc pc = .ok (.iastore, 1)) (k : jJ p l e R s m args below meth c cells slots Q (dC, dI) vwCl A (va_S A s.heap) nL (wM am cI cZ (sA μ 13 i.toNatClampNeg x) ν ρ) pn lv (rest)) : jJ p l e R s m args below meth c cells slots Q (dC, dI) vwCl A (va_S A s.heap) nL (wM am cI cZ μ ν ρ) pc lv (.int x :: .int i :: .ref (am 13) :: rest) := j_ast C 4 0 rfl rfl hin pn hpn hdg k
theorem ld_M_programs (C : jC p s m args c cc nL R_M (c0 :: jT) (dC, dI) vwCl (jty cI cZ cB cJ) A Sx jE) {i : Int32} (hin : vp_in i 128) (pn : Nat) (hpn : pc + 1 = pn) (hdg : decode cc pc = .ok (.iaload, 1)) (k : jJ p l e R s m args below meth c cells slots Q (dC, dI) vwCl A Sx nL (wM am cI cZ μ ν ρ) pn lv (.int (μ 14 i.toNatClampNeg) :: rest)) : jJ p l e R s m args below meth c cells slots Q (dC, dI) vwCl A Sx nL (wM am cI cZ μ ν ρ) pc lv (.int i :: .ref (am 14) :: rest) := j_ald C 5 0 rfl rfl hin pn hpn hdg k
theorem st_M_programs (C : jC p s m args c cc nL R_M (c0 :: jT) (dC, dI) vwCl (jty cI cZ cB cJ) A (va_S A s.heap) jE) {i x : Int32} (hin : vp_in i 128) (pn : Nat) (hpn : pc + 1 = pn) (hdg : decode cc pc = .ok (.iastore, 1)) (k : jJ p l e R s m args below meth c cells slots Q (dC, dI) vwCl A (va_S A s.heap) nL (wM am cI cZ (sA μ 14 i.toNatClampNeg x) ν ρ) pn lv (rest)) : jJ p l e R s m args below meth c cells slots Q (dC, dI) vwCl A (va_S A s.heap) nL (wM am cI cZ μ ν ρ) pc lv (.int x :: .int i :: .ref (am 14) :: rest) := j_ast C 5 0 rfl rfl hin pn hpn hdg k
theorem ld_M_places (C : jC p s m args c cc nL R_M (c0 :: jT) (dC, dI) vwCl (jty cI cZ cB cJ) A Sx jE) {i : Int32} (hin : vp_in i 128) (pn : Nat) (hpn : pc + 1 = pn) (hdg : decode cc pc = .ok (.iaload, 1)) (k : jJ p l e R s m args below meth c cells slots Q (dC, dI) vwCl A Sx nL (wM am cI cZ μ ν ρ) pn lv (.int (μ 15 i.toNatClampNeg) :: rest)) : jJ p l e R s m args below meth c cells slots Q (dC, dI) vwCl A Sx nL (wM am cI cZ μ ν ρ) pc lv (.int i :: .ref (am 15) :: rest) := j_ald C 6 0 rfl rfl hin pn hpn hdg k
theorem st_M_places (C : jC p s m args c cc nL R_M (c0 :: jT) (dC, dI) vwCl (jty cI cZ cB cJ) A (va_S A s.heap) jE) {i x : Int32} (hin : vp_in i 128) (pn : Nat) (hpn : pc + 1 = pn) (hdg : decode cc pc = .ok (.iastore, 1)) (k : jJ p l e R s m args below meth c cells slots Q (dC, dI) vwCl A (va_S A s.heap) nL (wM am cI cZ (sA μ 15 i.toNatClampNeg x) ν ρ) pn lv (rest)) : jJ p l e R s m args below meth c cells slots Q (dC, dI) vwCl A (va_S A s.heap) nL (wM am cI cZ μ ν ρ) pc lv (.int x :: .int i :: .ref (am 15) :: rest) := j_ast C 6 0 rfl rfl hin pn hpn hdg k
theorem ld_M_values (C : jC p s m args c cc nL R_M (c0 :: jT) (dC, dI) vwCl (jty cI cZ cB cJ) A Sx jE) {i : Int32} (hin : vp_in i 128) (pn : Nat) (hpn : pc + 1 = pn) (hdg : decode cc pc = .ok (.iaload, 1)) (k : jJ p l e R s m args below meth c cells slots Q (dC, dI) vwCl A Sx nL (wM am cI cZ μ ν ρ) pn lv (.int (μ 16 i.toNatClampNeg) :: rest)) : jJ p l e R s m args below meth c cells slots Q (dC, dI) vwCl A Sx nL (wM am cI cZ μ ν ρ) pc lv (.int i :: .ref (am 16) :: rest) := j_ald C 7 0 rfl rfl hin pn hpn hdg k
theorem st_M_values (C : jC p s m args c cc nL R_M (c0 :: jT) (dC, dI) vwCl (jty cI cZ cB cJ) A (va_S A s.heap) jE) {i x : Int32} (hin : vp_in i 128) (pn : Nat) (hpn : pc + 1 = pn) (hdg : decode cc pc = .ok (.iastore, 1)) (k : jJ p l e R s m args below meth c cells slots Q (dC, dI) vwCl A (va_S A s.heap) nL (wM am cI cZ (sA μ 16 i.toNatClampNeg x) ν ρ) pn lv (rest)) : jJ p l e R s m args below meth c cells slots Q (dC, dI) vwCl A (va_S A s.heap) nL (wM am cI cZ μ ν ρ) pc lv (.int x :: .int i :: .ref (am 16) :: rest) := j_ast C 7 0 rfl rfl hin pn hpn hdg k
theorem ld_M_results (C : jC p s m args c cc nL R_M (c0 :: jT) (dC, dI) vwCl (jty cI cZ cB cJ) A Sx jE) {i : Int32} (hin : vp_in i 128) (pn : Nat) (hpn : pc + 1 = pn) (hdg : decode cc pc = .ok (.iaload, 1)) (k : jJ p l e R s m args below meth c cells slots Q (dC, dI) vwCl A Sx nL (wM am cI cZ μ ν ρ) pn lv (.int (μ 17 i.toNatClampNeg) :: rest)) : jJ p l e R s m args below meth c cells slots Q (dC, dI) vwCl A Sx nL (wM am cI cZ μ ν ρ) pc lv (.int i :: .ref (am 17) :: rest) := j_ald C 8 0 rfl rfl hin pn hpn hdg k
theorem st_M_results (C : jC p s m args c cc nL R_M (c0 :: jT) (dC, dI) vwCl (jty cI cZ cB cJ) A (va_S A s.heap) jE) {i x : Int32} (hin : vp_in i 128) (pn : Nat) (hpn : pc + 1 = pn) (hdg : decode cc pc = .ok (.iastore, 1)) (k : jJ p l e R s m args below meth c cells slots Q (dC, dI) vwCl A (va_S A s.heap) nL (wM am cI cZ (sA μ 17 i.toNatClampNeg x) ν ρ) pn lv (rest)) : jJ p l e R s m args below meth c cells slots Q (dC, dI) vwCl A (va_S A s.heap) nL (wM am cI cZ μ ν ρ) pc lv (.int x :: .int i :: .ref (am 17) :: rest) := j_ast C 8 0 rfl rfl hin pn hpn hdg k
theorem ld_M_told (C : jC p s m args c cc nL R_M (c0 :: jT) (dC, dI) vwCl (jty cI cZ cB cJ) A Sx jE) {i : Int32} (hin : vp_in i 128) (pn : Nat) (hpn : pc + 1 = pn) (hdg : decode cc pc = .ok (.baload, 1)) (k : jJ p l e R s m args below meth c cells slots Q (dC, dI) vwCl A Sx nL (wM am cI cZ μ ν ρ) pn lv (.int (bI (ν 1 i.toNatClampNeg)) :: rest)) : jJ p l e R s m args below meth c cells slots Q (dC, dI) vwCl A Sx nL (wM am cI cZ μ ν ρ) pc lv (.int i :: .ref (am 18) :: rest) := j_zld (g := ν 1) C 9 1 rfl rfl hin pn hpn hdg k
theorem st_M_told (C : jC p s m args c cc nL R_M (c0 :: jT) (dC, dI) vwCl (jty cI cZ cB cJ) A (va_S A s.heap) jE) {i x : Int32} (hin : vp_in i 128) {b : Bool} (hb : x = bI b) (pn : Nat) (hpn : pc + 1 = pn) (hdg : decode cc pc = .ok (.bastore, 1)) (k : jJ p l e R s m args below meth c cells slots Q (dC, dI) vwCl A (va_S A s.heap) nL (wM am cI cZ μ (bA ν 1 i.toNatClampNeg b) ρ) pn lv (rest)) : jJ p l e R s m args below meth c cells slots Q (dC, dI) vwCl A (va_S A s.heap) nL (wM am cI cZ μ ν ρ) pc lv (.int x :: .int i :: .ref (am 18) :: rest) := j_zst (g := ν 1) C 9 1 rfl rfl hin hb pn hpn hdg k
theorem ld_M_done (C : jC p s m args c cc nL R_M (c0 :: jT) (dC, dI) vwCl (jty cI cZ cB cJ) A Sx jE) {i : Int32} (hin : vp_in i 128) (pn : Nat) (hpn : pc + 1 = pn) (hdg : decode cc pc = .ok (.baload, 1)) (k : jJ p l e R s m args below meth c cells slots Q (dC, dI) vwCl A Sx nL (wM am cI cZ μ ν ρ) pn lv (.int (bI (ν 2 i.toNatClampNeg)) :: rest)) : jJ p l e R s m args below meth c cells slots Q (dC, dI) vwCl A Sx nL (wM am cI cZ μ ν ρ) pc lv (.int i :: .ref (am 19) :: rest) := j_zld (g := ν 2) C 10 1 rfl rfl hin pn hpn hdg k
theorem st_M_done (C : jC p s m args c cc nL R_M (c0 :: jT) (dC, dI) vwCl (jty cI cZ cB cJ) A (va_S A s.heap) jE) {i x : Int32} (hin : vp_in i 128) {b : Bool} (hb : x = bI b) (pn : Nat) (hpn : pc + 1 = pn) (hdg : decode cc pc = .ok (.bastore, 1)) (k : jJ p l e R s m args below meth c cells slots Q (dC, dI) vwCl A (va_S A s.heap) nL (wM am cI cZ μ (bA ν 2 i.toNatClampNeg b) ρ) pn lv (rest)) : jJ p l e R s m args below meth c cells slots Q (dC, dI) vwCl A (va_S A s.heap) nL (wM am cI cZ μ ν ρ) pc lv (.int x :: .int i :: .ref (am 19) :: rest) := j_zst (g := ν 2) C 10 1 rfl rfl hin hb pn hpn hdg k
theorem ld_M_from (C : jC p s m args c cc nL R_M (c0 :: jT) (dC, dI) vwCl (jty cI cZ cB cJ) A Sx jE) {i : Int32} (hin : vp_in i 512) (pn : Nat) (hpn : pc + 1 = pn) (hdg : decode cc pc = .ok (.iaload, 1)) (k : jJ p l e R s m args below meth c cells slots Q (dC, dI) vwCl A Sx nL (wM am cI cZ μ ν ρ) pn lv (.int (μ 20 i.toNatClampNeg) :: rest)) : jJ p l e R s m args below meth c cells slots Q (dC, dI) vwCl A Sx nL (wM am cI cZ μ ν ρ) pc lv (.int i :: .ref (am 20) :: rest) := j_ald C 11 0 rfl rfl hin pn hpn hdg k
theorem st_M_from (C : jC p s m args c cc nL R_M (c0 :: jT) (dC, dI) vwCl (jty cI cZ cB cJ) A (va_S A s.heap) jE) {i x : Int32} (hin : vp_in i 512) (pn : Nat) (hpn : pc + 1 = pn) (hdg : decode cc pc = .ok (.iastore, 1)) (k : jJ p l e R s m args below meth c cells slots Q (dC, dI) vwCl A (va_S A s.heap) nL (wM am cI cZ (sA μ 20 i.toNatClampNeg x) ν ρ) pn lv (rest)) : jJ p l e R s m args below meth c cells slots Q (dC, dI) vwCl A (va_S A s.heap) nL (wM am cI cZ μ ν ρ) pc lv (.int x :: .int i :: .ref (am 20) :: rest) := j_ast C 11 0 rfl rfl hin pn hpn hdg k
theorem ld_M_waiting (C : jC p s m args c cc nL R_M (c0 :: jT) (dC, dI) vwCl (jty cI cZ cB cJ) A Sx jE) {i : Int32} (hin : vp_in i 4) (pn : Nat) (hpn : pc + 1 = pn) (hdg : decode cc pc = .ok (.iaload, 1)) (k : jJ p l e R s m args below meth c cells slots Q (dC, dI) vwCl A Sx nL (wM am cI cZ μ ν ρ) pn lv (.int (μ 21 i.toNatClampNeg) :: rest)) : jJ p l e R s m args below meth c cells slots Q (dC, dI) vwCl A Sx nL (wM am cI cZ μ ν ρ) pc lv (.int i :: .ref (am 21) :: rest) := j_ald C 12 0 rfl rfl hin pn hpn hdg k
theorem st_M_waiting (C : jC p s m args c cc nL R_M (c0 :: jT) (dC, dI) vwCl (jty cI cZ cB cJ) A (va_S A s.heap) jE) {i x : Int32} (hin : vp_in i 4) (pn : Nat) (hpn : pc + 1 = pn) (hdg : decode cc pc = .ok (.iastore, 1)) (k : jJ p l e R s m args below meth c cells slots Q (dC, dI) vwCl A (va_S A s.heap) nL (wM am cI cZ (sA μ 21 i.toNatClampNeg x) ν ρ) pn lv (rest)) : jJ p l e R s m args below meth c cells slots Q (dC, dI) vwCl A (va_S A s.heap) nL (wM am cI cZ μ ν ρ) pc lv (.int x :: .int i :: .ref (am 21) :: rest) := j_ast C 12 0 rfl rfl hin pn hpn hdg k
theorem ld_M_waitPlace (C : jC p s m args c cc nL R_M (c0 :: jT) (dC, dI) vwCl (jty cI cZ cB cJ) A Sx jE) {i : Int32} (hin : vp_in i 4) (pn : Nat) (hpn : pc + 1 = pn) (hdg : decode cc pc = .ok (.iaload, 1)) (k : jJ p l e R s m args below meth c cells slots Q (dC, dI) vwCl A Sx nL (wM am cI cZ μ ν ρ) pn lv (.int (μ 22 i.toNatClampNeg) :: rest)) : jJ p l e R s m args below meth c cells slots Q (dC, dI) vwCl A Sx nL (wM am cI cZ μ ν ρ) pc lv (.int i :: .ref (am 22) :: rest) := j_ald C 13 0 rfl rfl hin pn hpn hdg k
theorem st_M_waitPlace (C : jC p s m args c cc nL R_M (c0 :: jT) (dC, dI) vwCl (jty cI cZ cB cJ) A (va_S A s.heap) jE) {i x : Int32} (hin : vp_in i 4) (pn : Nat) (hpn : pc + 1 = pn) (hdg : decode cc pc = .ok (.iastore, 1)) (k : jJ p l e R s m args below meth c cells slots Q (dC, dI) vwCl A (va_S A s.heap) nL (wM am cI cZ (sA μ 22 i.toNatClampNeg x) ν ρ) pn lv (rest)) : jJ p l e R s m args below meth c cells slots Q (dC, dI) vwCl A (va_S A s.heap) nL (wM am cI cZ μ ν ρ) pc lv (.int x :: .int i :: .ref (am 22) :: rest) := j_ast C 13 0 rfl rfl hin pn hpn hdg k
theorem ld_M_waitSize (C : jC p s m args c cc nL R_M (c0 :: jT) (dC, dI) vwCl (jty cI cZ cB cJ) A Sx jE) {i : Int32} (hin : vp_in i 4) (pn : Nat) (hpn : pc + 1 = pn) (hdg : decode cc pc = .ok (.iaload, 1)) (k : jJ p l e R s m args below meth c cells slots Q (dC, dI) vwCl A Sx nL (wM am cI cZ μ ν ρ) pn lv (.int (μ 23 i.toNatClampNeg) :: rest)) : jJ p l e R s m args below meth c cells slots Q (dC, dI) vwCl A Sx nL (wM am cI cZ μ ν ρ) pc lv (.int i :: .ref (am 23) :: rest) := j_ald C 14 0 rfl rfl hin pn hpn hdg k
theorem st_M_waitSize (C : jC p s m args c cc nL R_M (c0 :: jT) (dC, dI) vwCl (jty cI cZ cB cJ) A (va_S A s.heap) jE) {i x : Int32} (hin : vp_in i 4) (pn : Nat) (hpn : pc + 1 = pn) (hdg : decode cc pc = .ok (.iastore, 1)) (k : jJ p l e R s m args below meth c cells slots Q (dC, dI) vwCl A (va_S A s.heap) nL (wM am cI cZ (sA μ 23 i.toNatClampNeg x) ν ρ) pn lv (rest)) : jJ p l e R s m args below meth c cells slots Q (dC, dI) vwCl A (va_S A s.heap) nL (wM am cI cZ μ ν ρ) pc lv (.int x :: .int i :: .ref (am 23) :: rest) := j_ast C 14 0 rfl rfl hin pn hpn hdg k
theorem ld_M_waitValue (C : jC p s m args c cc nL R_M (c0 :: jT) (dC, dI) vwCl (jty cI cZ cB cJ) A Sx jE) {i : Int32} (hin : vp_in i 4) (pn : Nat) (hpn : pc + 1 = pn) (hdg : decode cc pc = .ok (.iaload, 1)) (k : jJ p l e R s m args below meth c cells slots Q (dC, dI) vwCl A Sx nL (wM am cI cZ μ ν ρ) pn lv (.int (μ 24 i.toNatClampNeg) :: rest)) : jJ p l e R s m args below meth c cells slots Q (dC, dI) vwCl A Sx nL (wM am cI cZ μ ν ρ) pc lv (.int i :: .ref (am 24) :: rest) := j_ald C 15 0 rfl rfl hin pn hpn hdg k
theorem st_M_waitValue (C : jC p s m args c cc nL R_M (c0 :: jT) (dC, dI) vwCl (jty cI cZ cB cJ) A (va_S A s.heap) jE) {i x : Int32} (hin : vp_in i 4) (pn : Nat) (hpn : pc + 1 = pn) (hdg : decode cc pc = .ok (.iastore, 1)) (k : jJ p l e R s m args below meth c cells slots Q (dC, dI) vwCl A (va_S A s.heap) nL (wM am cI cZ (sA μ 24 i.toNatClampNeg x) ν ρ) pn lv (rest)) : jJ p l e R s m args below meth c cells slots Q (dC, dI) vwCl A (va_S A s.heap) nL (wM am cI cZ μ ν ρ) pc lv (.int x :: .int i :: .ref (am 24) :: rest) := j_ast C 15 0 rfl rfl hin pn hpn hdg k
end WR
end
section
theorem d_C_init_0 : decode b_C_init 0 = .ok (.aload_n 0, 1) := by decide +kernel
theorem d_C_init_1 : decode b_C_init 1 = .ok (.invokespecial 1, 3) := by decide +kernel
theorem d_C_init_4 : decode b_C_init 4 = .ok (.aload_n 0, 1) := by decide +kernel
theorem d_C_init_5 : decode b_C_init 5 = .ok (.new 7, 3) := by decide +kernel
theorem d_C_init_8 : decode b_C_init 8 = .ok (.dup, 1) := by decide +kernel
theorem d_C_init_9 : decode b_C_init 9 = .ok (.invokespecial 9, 3) := by decide +kernel
theorem d_C_init_12 : decode b_C_init 12 = .ok (.putfield 10, 3) := by decide +kernel
theorem d_C_init_15 : decode b_C_init 15 = .ok (.aload_n 0, 1) := by decide +kernel
theorem d_C_init_16 : decode b_C_init 16 = .ok (.new 16, 3) := by decide +kernel
theorem d_C_init_19 : decode b_C_init 19 = .ok (.dup, 1) := by decide +kernel
theorem d_C_init_20 : decode b_C_init 20 = .ok (.invokespecial 18, 3) := by decide +kernel
theorem d_C_init_23 : decode b_C_init 23 = .ok (.putfield 19, 3) := by decide +kernel
theorem d_C_init_26 : decode b_C_init 26 = .ok (.aload_n 0, 1) := by decide +kernel
theorem d_C_init_27 : decode b_C_init 27 = .ok (.new 23, 3) := by decide +kernel
theorem d_C_init_30 : decode b_C_init 30 = .ok (.dup, 1) := by decide +kernel
theorem d_C_init_31 : decode b_C_init 31 = .ok (.invokespecial 25, 3) := by decide +kernel
theorem d_C_init_34 : decode b_C_init 34 = .ok (.putfield 26, 3) := by decide +kernel
theorem d_C_init_37 : decode b_C_init 37 = .ok (.aload_n 0, 1) := by decide +kernel
theorem d_C_init_38 : decode b_C_init 38 = .ok (.iconst 0, 1) := by decide +kernel
theorem d_C_init_39 : decode b_C_init 39 = .ok (.putfield 30, 3) := by decide +kernel
theorem d_C_init_42 : decode b_C_init 42 = .ok (.aload_n 0, 1) := by decide +kernel
theorem d_C_init_43 : decode b_C_init 43 = .ok (.iconst 0, 1) := by decide +kernel
theorem d_C_init_44 : decode b_C_init 44 = .ok (.putfield 34, 3) := by decide +kernel
theorem d_C_init_47 : decode b_C_init 47 = .ok (.aload_n 0, 1) := by decide +kernel
theorem d_C_init_48 : decode b_C_init 48 = .ok (.lconst 0, 1) := by decide +kernel
theorem d_C_init_49 : decode b_C_init 49 = .ok (.putfield 37, 3) := by decide +kernel
theorem d_C_init_52 : decode b_C_init 52 = .ok (.aload_n 0, 1) := by decide +kernel
theorem d_C_init_53 : decode b_C_init 53 = .ok (.iconst 0, 1) := by decide +kernel
theorem d_C_init_54 : decode b_C_init 54 = .ok (.putfield 41, 3) := by decide +kernel
theorem d_C_init_57 : decode b_C_init 57 = .ok (.aload_n 0, 1) := by decide +kernel
theorem d_C_init_58 : decode b_C_init 58 = .ok (.iconst 0, 1) := by decide +kernel
theorem d_C_init_59 : decode b_C_init 59 = .ok (.putfield 44, 3) := by decide +kernel
theorem d_C_init_62 : decode b_C_init 62 = .ok (.aload_n 0, 1) := by decide +kernel
theorem d_C_init_63 : decode b_C_init 63 = .ok (.iconst 0, 1) := by decide +kernel
theorem d_C_init_64 : decode b_C_init 64 = .ok (.putfield 47, 3) := by decide +kernel
theorem d_C_init_67 : decode b_C_init 67 = .ok (.aload_n 0, 1) := by decide +kernel
theorem d_C_init_68 : decode b_C_init 68 = .ok (.iconst 0, 1) := by decide +kernel
theorem d_C_init_69 : decode b_C_init 69 = .ok (.putfield 50, 3) := by decide +kernel
theorem d_C_init_72 : decode b_C_init 72 = .ok (.return_, 1) := by decide +kernel
theorem d_O_init_0 : decode b_O_init 0 = .ok (.aload_n 0, 1) := by decide +kernel
theorem d_O_init_1 : decode b_O_init 1 = .ok (.invokespecial 5, 3) := by decide +kernel
theorem d_O_init_4 : decode b_O_init 4 = .ok (.aload_n 0, 1) := by decide +kernel
theorem d_O_init_5 : decode b_O_init 5 = .ok (.sipush 128, 3) := by decide +kernel
theorem d_O_init_8 : decode b_O_init 8 = .ok (.newarray .int, 2) := by decide +kernel
theorem d_O_init_10 : decode b_O_init 10 = .ok (.putfield 11, 3) := by decide +kernel
theorem d_O_init_13 : decode b_O_init 13 = .ok (.aload_n 0, 1) := by decide +kernel
theorem d_O_init_14 : decode b_O_init 14 = .ok (.sipush 128, 3) := by decide +kernel
theorem d_O_init_17 : decode b_O_init 17 = .ok (.newarray .int, 2) := by decide +kernel
theorem d_O_init_19 : decode b_O_init 19 = .ok (.putfield 15, 3) := by decide +kernel
theorem d_O_init_22 : decode b_O_init 22 = .ok (.aload_n 0, 1) := by decide +kernel
theorem d_O_init_23 : decode b_O_init 23 = .ok (.sipush 128, 3) := by decide +kernel
theorem d_O_init_26 : decode b_O_init 26 = .ok (.newarray .int, 2) := by decide +kernel
theorem d_O_init_28 : decode b_O_init 28 = .ok (.putfield 18, 3) := by decide +kernel
theorem d_O_init_31 : decode b_O_init 31 = .ok (.aload_n 0, 1) := by decide +kernel
theorem d_O_init_32 : decode b_O_init 32 = .ok (.sipush 128, 3) := by decide +kernel
theorem d_O_init_35 : decode b_O_init 35 = .ok (.newarray .int, 2) := by decide +kernel
theorem d_O_init_37 : decode b_O_init 37 = .ok (.putfield 21, 3) := by decide +kernel
theorem d_O_init_40 : decode b_O_init 40 = .ok (.aload_n 0, 1) := by decide +kernel
theorem d_O_init_41 : decode b_O_init 41 = .ok (.sipush 128, 3) := by decide +kernel
theorem d_O_init_44 : decode b_O_init 44 = .ok (.newarray .boolean, 2) := by decide +kernel
theorem d_O_init_46 : decode b_O_init 46 = .ok (.putfield 24, 3) := by decide +kernel
theorem d_O_init_49 : decode b_O_init 49 = .ok (.aload_n 0, 1) := by decide +kernel
theorem d_O_init_50 : decode b_O_init 50 = .ok (.sipush 128, 3) := by decide +kernel
theorem d_O_init_53 : decode b_O_init 53 = .ok (.newarray .int, 2) := by decide +kernel
theorem d_O_init_55 : decode b_O_init 55 = .ok (.putfield 28, 3) := by decide +kernel
theorem d_O_init_58 : decode b_O_init 58 = .ok (.aload_n 0, 1) := by decide +kernel
theorem d_O_init_59 : decode b_O_init 59 = .ok (.sipush 128, 3) := by decide +kernel
theorem d_O_init_62 : decode b_O_init 62 = .ok (.newarray .boolean, 2) := by decide +kernel
theorem d_O_init_64 : decode b_O_init 64 = .ok (.putfield 31, 3) := by decide +kernel
theorem d_O_init_67 : decode b_O_init 67 = .ok (.aload_n 0, 1) := by decide +kernel
theorem d_O_init_68 : decode b_O_init 68 = .ok (.sipush 128, 3) := by decide +kernel
theorem d_O_init_71 : decode b_O_init 71 = .ok (.newarray .boolean, 2) := by decide +kernel
theorem d_O_init_73 : decode b_O_init 73 = .ok (.putfield 34, 3) := by decide +kernel
theorem d_O_init_76 : decode b_O_init 76 = .ok (.aload_n 0, 1) := by decide +kernel
theorem d_O_init_77 : decode b_O_init 77 = .ok (.sipush 128, 3) := by decide +kernel
theorem d_O_init_80 : decode b_O_init 80 = .ok (.newarray .int, 2) := by decide +kernel
theorem d_O_init_82 : decode b_O_init 82 = .ok (.putfield 37, 3) := by decide +kernel
theorem d_O_init_85 : decode b_O_init 85 = .ok (.aload_n 0, 1) := by decide +kernel
theorem d_O_init_86 : decode b_O_init 86 = .ok (.sipush 512, 3) := by decide +kernel
theorem d_O_init_89 : decode b_O_init 89 = .ok (.newarray .int, 2) := by decide +kernel
theorem d_O_init_91 : decode b_O_init 91 = .ok (.putfield 40, 3) := by decide +kernel
theorem d_O_init_94 : decode b_O_init 94 = .ok (.return_, 1) := by decide +kernel
theorem d_B_init_0 : decode b_B_init 0 = .ok (.aload_n 0, 1) := by decide +kernel
theorem d_B_init_1 : decode b_B_init 1 = .ok (.invokespecial 3, 3) := by decide +kernel
theorem d_B_init_4 : decode b_B_init 4 = .ok (.aload_n 0, 1) := by decide +kernel
theorem d_B_init_5 : decode b_B_init 5 = .ok (.iconst 4, 1) := by decide +kernel
theorem d_B_init_6 : decode b_B_init 6 = .ok (.newarray .int, 2) := by decide +kernel
theorem d_B_init_8 : decode b_B_init 8 = .ok (.putfield 9, 3) := by decide +kernel
theorem d_B_init_11 : decode b_B_init 11 = .ok (.aload_n 0, 1) := by decide +kernel
theorem d_B_init_12 : decode b_B_init 12 = .ok (.iconst 4, 1) := by decide +kernel
theorem d_B_init_13 : decode b_B_init 13 = .ok (.newarray .int, 2) := by decide +kernel
theorem d_B_init_15 : decode b_B_init 15 = .ok (.putfield 15, 3) := by decide +kernel
theorem d_B_init_18 : decode b_B_init 18 = .ok (.aload_n 0, 1) := by decide +kernel
theorem d_B_init_19 : decode b_B_init 19 = .ok (.iconst 4, 1) := by decide +kernel
theorem d_B_init_20 : decode b_B_init 20 = .ok (.newarray .int, 2) := by decide +kernel
theorem d_B_init_22 : decode b_B_init 22 = .ok (.putfield 18, 3) := by decide +kernel
theorem d_B_init_25 : decode b_B_init 25 = .ok (.aload_n 0, 1) := by decide +kernel
theorem d_B_init_26 : decode b_B_init 26 = .ok (.iconst 4, 1) := by decide +kernel
theorem d_B_init_27 : decode b_B_init 27 = .ok (.newarray .int, 2) := by decide +kernel
theorem d_B_init_29 : decode b_B_init 29 = .ok (.putfield 21, 3) := by decide +kernel
theorem d_B_init_32 : decode b_B_init 32 = .ok (.aload_n 0, 1) := by decide +kernel
theorem d_B_init_33 : decode b_B_init 33 = .ok (.iconst 0, 1) := by decide +kernel
theorem d_B_init_34 : decode b_B_init 34 = .ok (.putfield 24, 3) := by decide +kernel
theorem d_B_init_37 : decode b_B_init 37 = .ok (.return_, 1) := by decide +kernel
theorem d_Y_init_0 : decode b_Y_init 0 = .ok (.aload_n 0, 1) := by decide +kernel
theorem d_Y_init_1 : decode b_Y_init 1 = .ok (.invokespecial 3, 3) := by decide +kernel
theorem d_Y_init_4 : decode b_Y_init 4 = .ok (.aload_n 0, 1) := by decide +kernel
theorem d_Y_init_5 : decode b_Y_init 5 = .ok (.sipush 4096, 3) := by decide +kernel
theorem d_Y_init_8 : decode b_Y_init 8 = .ok (.newarray .byte, 2) := by decide +kernel
theorem d_Y_init_10 : decode b_Y_init 10 = .ok (.putfield 9, 3) := by decide +kernel
theorem d_Y_init_13 : decode b_Y_init 13 = .ok (.return_, 1) := by decide +kernel
theorem d_C_leave_0 : decode b_C_leave 0 = .ok (.aload_n 0, 1) := by decide +kernel
theorem d_C_leave_1 : decode b_C_leave 1 = .ok (.invokevirtual 64, 3) := by decide +kernel
theorem d_C_leave_4 : decode b_C_leave 4 = .ok (.ifCond .le 14, 3) := by decide +kernel
theorem d_C_leave_7 : decode b_C_leave 7 = .ok (.aload_n 0, 1) := by decide +kernel
theorem d_C_leave_8 : decode b_C_leave 8 = .ok (.aload_n 0, 1) := by decide +kernel
theorem d_C_leave_9 : decode b_C_leave 9 = .ok (.getfield 34, 3) := by decide +kernel
theorem d_C_leave_12 : decode b_C_leave 12 = .ok (.invokevirtual 170, 3) := by decide +kernel
theorem d_C_leave_15 : decode b_C_leave 15 = .ok (.ifCond .ne 5, 3) := by decide +kernel
theorem d_C_leave_18 : decode b_C_leave 18 = .ok (.iconst (-1), 1) := by decide +kernel
theorem d_C_leave_19 : decode b_C_leave 19 = .ok (.ireturn, 1) := by decide +kernel
theorem d_C_leave_20 : decode b_C_leave 20 = .ok (.aload_n 0, 1) := by decide +kernel
theorem d_C_leave_21 : decode b_C_leave 21 = .ok (.getfield 34, 3) := by decide +kernel
theorem d_C_leave_24 : decode b_C_leave 24 = .ok (.istore_n 1, 1) := by decide +kernel
theorem d_C_leave_25 : decode b_C_leave 25 = .ok (.aload_n 0, 1) := by decide +kernel
theorem d_C_leave_26 : decode b_C_leave 26 = .ok (.iload_n 1, 1) := by decide +kernel
theorem d_C_leave_27 : decode b_C_leave 27 = .ok (.invokevirtual 173, 3) := by decide +kernel
theorem d_C_leave_30 : decode b_C_leave 30 = .ok (.aload_n 0, 1) := by decide +kernel
theorem d_C_leave_31 : decode b_C_leave 31 = .ok (.iload_n 1, 1) := by decide +kernel
theorem d_C_leave_32 : decode b_C_leave 32 = .ok (.iconst 1, 1) := by decide +kernel
theorem d_C_leave_33 : decode b_C_leave 33 = .ok (.iadd, 1) := by decide +kernel
theorem d_C_leave_34 : decode b_C_leave 34 = .ok (.putfield 34, 3) := by decide +kernel
theorem d_C_leave_37 : decode b_C_leave 37 = .ok (.iload_n 1, 1) := by decide +kernel
theorem d_C_leave_38 : decode b_C_leave 38 = .ok (.ireturn, 1) := by decide +kernel
theorem d_C_waitingOps_0 : decode b_C_waitingOps 0 = .ok (.aload_n 0, 1) := by decide +kernel
theorem d_C_waitingOps_1 : decode b_C_waitingOps 1 = .ok (.getfield 30, 3) := by decide +kernel
theorem d_C_waitingOps_4 : decode b_C_waitingOps 4 = .ok (.aload_n 0, 1) := by decide +kernel
theorem d_C_waitingOps_5 : decode b_C_waitingOps 5 = .ok (.getfield 34, 3) := by decide +kernel
theorem d_C_waitingOps_8 : decode b_C_waitingOps 8 = .ok (.isub, 1) := by decide +kernel
theorem d_C_waitingOps_9 : decode b_C_waitingOps 9 = .ok (.ireturn, 1) := by decide +kernel
theorem d_C_mayLeave_0 : decode b_C_mayLeave 0 = .ok (.aload_n 0, 1) := by decide +kernel
theorem d_C_mayLeave_1 : decode b_C_mayLeave 1 = .ok (.getfield 10, 3) := by decide +kernel
theorem d_C_mayLeave_4 : decode b_C_mayLeave 4 = .ok (.iload_n 1, 1) := by decide +kernel
theorem d_C_mayLeave_5 : decode b_C_mayLeave 5 = .ok (.invokevirtual 85, 3) := by decide +kernel
theorem d_C_mayLeave_8 : decode b_C_mayLeave 8 = .ok (.tableswitch 99 0 2 #[28, 37, 91], 28) := by decide +kernel
theorem d_C_mayLeave_36 : decode b_C_mayLeave 36 = .ok (.aload_n 0, 1) := by decide +kernel
theorem d_C_mayLeave_37 : decode b_C_mayLeave 37 = .ok (.getfield 10, 3) := by decide +kernel
theorem d_C_mayLeave_40 : decode b_C_mayLeave 40 = .ok (.iload_n 1, 1) := by decide +kernel
theorem d_C_mayLeave_41 : decode b_C_mayLeave 41 = .ok (.invokevirtual 129, 3) := by decide +kernel
theorem d_C_mayLeave_44 : decode b_C_mayLeave 44 = .ok (.ireturn, 1) := by decide +kernel
theorem d_C_mayLeave_45 : decode b_C_mayLeave 45 = .ok (.aload_n 0, 1) := by decide +kernel
theorem d_C_mayLeave_46 : decode b_C_mayLeave 46 = .ok (.getfield 10, 3) := by decide +kernel
theorem d_C_mayLeave_49 : decode b_C_mayLeave 49 = .ok (.iload_n 1, 1) := by decide +kernel
theorem d_C_mayLeave_50 : decode b_C_mayLeave 50 = .ok (.invokevirtual 255, 3) := by decide +kernel
theorem d_C_mayLeave_53 : decode b_C_mayLeave 53 = .ok (.ifCond .eq 44, 3) := by decide +kernel
theorem d_C_mayLeave_56 : decode b_C_mayLeave 56 = .ok (.aload_n 0, 1) := by decide +kernel
theorem d_C_mayLeave_57 : decode b_C_mayLeave 57 = .ok (.getfield 10, 3) := by decide +kernel
theorem d_C_mayLeave_60 : decode b_C_mayLeave 60 = .ok (.iload_n 1, 1) := by decide +kernel
theorem d_C_mayLeave_61 : decode b_C_mayLeave 61 = .ok (.invokevirtual 225, 3) := by decide +kernel
theorem d_C_mayLeave_64 : decode b_C_mayLeave 64 = .ok (.invokestatic 217, 3) := by decide +kernel
theorem d_C_mayLeave_67 : decode b_C_mayLeave 67 = .ok (.ifCond .eq 16, 3) := by decide +kernel
theorem d_C_mayLeave_70 : decode b_C_mayLeave 70 = .ok (.aload_n 0, 1) := by decide +kernel
theorem d_C_mayLeave_71 : decode b_C_mayLeave 71 = .ok (.getfield 19, 3) := by decide +kernel
theorem d_C_mayLeave_74 : decode b_C_mayLeave 74 = .ok (.invokevirtual 176, 3) := by decide +kernel
theorem d_C_mayLeave_77 : decode b_C_mayLeave 77 = .ok (.ifCond .eq 20, 3) := by decide +kernel
theorem d_C_mayLeave_80 : decode b_C_mayLeave 80 = .ok (.goto 13, 3) := by decide +kernel
theorem d_C_mayLeave_83 : decode b_C_mayLeave 83 = .ok (.aload_n 0, 1) := by decide +kernel
theorem d_C_mayLeave_84 : decode b_C_mayLeave 84 = .ok (.getfield 19, 3) := by decide +kernel
theorem d_C_mayLeave_87 : decode b_C_mayLeave 87 = .ok (.invokevirtual 258, 3) := by decide +kernel
theorem d_C_mayLeave_90 : decode b_C_mayLeave 90 = .ok (.ifCond .eq 7, 3) := by decide +kernel
theorem d_C_mayLeave_93 : decode b_C_mayLeave 93 = .ok (.iconst 1, 1) := by decide +kernel
theorem d_C_mayLeave_94 : decode b_C_mayLeave 94 = .ok (.goto 4, 3) := by decide +kernel
theorem d_C_mayLeave_97 : decode b_C_mayLeave 97 = .ok (.iconst 0, 1) := by decide +kernel
theorem d_C_mayLeave_98 : decode b_C_mayLeave 98 = .ok (.ireturn, 1) := by decide +kernel
theorem d_C_mayLeave_99 : decode b_C_mayLeave 99 = .ok (.aload_n 0, 1) := by decide +kernel
theorem d_C_mayLeave_100 : decode b_C_mayLeave 100 = .ok (.getfield 19, 3) := by decide +kernel
theorem d_C_mayLeave_103 : decode b_C_mayLeave 103 = .ok (.invokevirtual 176, 3) := by decide +kernel
theorem d_C_mayLeave_106 : decode b_C_mayLeave 106 = .ok (.ireturn, 1) := by decide +kernel
theorem d_C_mayLeave_107 : decode b_C_mayLeave 107 = .ok (.aload_n 0, 1) := by decide +kernel
theorem d_C_mayLeave_108 : decode b_C_mayLeave 108 = .ok (.getfield 10, 3) := by decide +kernel
theorem d_C_mayLeave_111 : decode b_C_mayLeave 111 = .ok (.iload_n 1, 1) := by decide +kernel
theorem d_C_mayLeave_112 : decode b_C_mayLeave 112 = .ok (.invokevirtual 255, 3) := by decide +kernel
theorem d_C_mayLeave_115 : decode b_C_mayLeave 115 = .ok (.ifCond .eq 17, 3) := by decide +kernel
theorem d_C_mayLeave_118 : decode b_C_mayLeave 118 = .ok (.aload_n 0, 1) := by decide +kernel
theorem d_C_mayLeave_119 : decode b_C_mayLeave 119 = .ok (.getfield 19, 3) := by decide +kernel
theorem d_C_mayLeave_122 : decode b_C_mayLeave 122 = .ok (.invokevirtual 176, 3) := by decide +kernel
theorem d_C_mayLeave_125 : decode b_C_mayLeave 125 = .ok (.ifCond .eq 7, 3) := by decide +kernel
theorem d_C_mayLeave_128 : decode b_C_mayLeave 128 = .ok (.iconst 1, 1) := by decide +kernel
theorem d_C_mayLeave_129 : decode b_C_mayLeave 129 = .ok (.goto 4, 3) := by decide +kernel
theorem d_C_mayLeave_132 : decode b_C_mayLeave 132 = .ok (.iconst 0, 1) := by decide +kernel
theorem d_C_mayLeave_133 : decode b_C_mayLeave 133 = .ok (.ireturn, 1) := by decide +kernel
theorem d_O_kindOf_0 : decode b_O_kindOf 0 = .ok (.aload_n 0, 1) := by decide +kernel
theorem d_O_kindOf_1 : decode b_O_kindOf 1 = .ok (.getfield 11, 3) := by decide +kernel
theorem d_O_kindOf_4 : decode b_O_kindOf 4 = .ok (.iload_n 1, 1) := by decide +kernel
theorem d_O_kindOf_5 : decode b_O_kindOf 5 = .ok (.bipush 127, 2) := by decide +kernel
theorem d_O_kindOf_7 : decode b_O_kindOf 7 = .ok (.iand, 1) := by decide +kernel
theorem d_O_kindOf_8 : decode b_O_kindOf 8 = .ok (.iaload, 1) := by decide +kernel
theorem d_O_kindOf_9 : decode b_O_kindOf 9 = .ok (.ireturn, 1) := by decide +kernel
theorem d_O_isDone_0 : decode b_O_isDone 0 = .ok (.aload_n 0, 1) := by decide +kernel
theorem d_O_isDone_1 : decode b_O_isDone 1 = .ok (.getfield 34, 3) := by decide +kernel
theorem d_O_isDone_4 : decode b_O_isDone 4 = .ok (.iload_n 1, 1) := by decide +kernel
theorem d_O_isDone_5 : decode b_O_isDone 5 = .ok (.bipush 127, 2) := by decide +kernel
theorem d_O_isDone_7 : decode b_O_isDone 7 = .ok (.iand, 1) := by decide +kernel
theorem d_O_isDone_8 : decode b_O_isDone 8 = .ok (.baload, 1) := by decide +kernel
theorem d_O_isDone_9 : decode b_O_isDone 9 = .ok (.ireturn, 1) := by decide +kernel
theorem d_O_isTold_0 : decode b_O_isTold 0 = .ok (.aload_n 0, 1) := by decide +kernel
theorem d_O_isTold_1 : decode b_O_isTold 1 = .ok (.iload_n 1, 1) := by decide +kernel
theorem d_O_isTold_2 : decode b_O_isTold 2 = .ok (.invokevirtual 43, 3) := by decide +kernel
theorem d_O_isTold_5 : decode b_O_isTold 5 = .ok (.ifCond .eq 15, 3) := by decide +kernel
theorem d_O_isTold_8 : decode b_O_isTold 8 = .ok (.aload_n 0, 1) := by decide +kernel
theorem d_O_isTold_9 : decode b_O_isTold 9 = .ok (.iload_n 1, 1) := by decide +kernel
theorem d_O_isTold_10 : decode b_O_isTold 10 = .ok (.invokevirtual 47, 3) := by decide +kernel
theorem d_O_isTold_13 : decode b_O_isTold 13 = .ok (.ifCond .eq 7, 3) := by decide +kernel
theorem d_O_isTold_16 : decode b_O_isTold 16 = .ok (.iconst 1, 1) := by decide +kernel
theorem d_O_isTold_17 : decode b_O_isTold 17 = .ok (.goto 4, 3) := by decide +kernel
theorem d_O_isTold_20 : decode b_O_isTold 20 = .ok (.iconst 0, 1) := by decide +kernel
theorem d_O_isTold_21 : decode b_O_isTold 21 = .ok (.ireturn, 1) := by decide +kernel
theorem d_O_hasAddress_0 : decode b_O_hasAddress 0 = .ok (.aload_n 0, 1) := by decide +kernel
theorem d_O_hasAddress_1 : decode b_O_hasAddress 1 = .ok (.getfield 24, 3) := by decide +kernel
theorem d_O_hasAddress_4 : decode b_O_hasAddress 4 = .ok (.iload_n 1, 1) := by decide +kernel
theorem d_O_hasAddress_5 : decode b_O_hasAddress 5 = .ok (.bipush 127, 2) := by decide +kernel
theorem d_O_hasAddress_7 : decode b_O_hasAddress 7 = .ok (.iand, 1) := by decide +kernel
theorem d_O_hasAddress_8 : decode b_O_hasAddress 8 = .ok (.baload, 1) := by decide +kernel
theorem d_O_hasAddress_9 : decode b_O_hasAddress 9 = .ok (.ireturn, 1) := by decide +kernel
theorem d_O_hasNumber_0 : decode b_O_hasNumber 0 = .ok (.aload_n 0, 1) := by decide +kernel
theorem d_O_hasNumber_1 : decode b_O_hasNumber 1 = .ok (.getfield 31, 3) := by decide +kernel
theorem d_O_hasNumber_4 : decode b_O_hasNumber 4 = .ok (.iload_n 1, 1) := by decide +kernel
theorem d_O_hasNumber_5 : decode b_O_hasNumber 5 = .ok (.bipush 127, 2) := by decide +kernel
theorem d_O_hasNumber_7 : decode b_O_hasNumber 7 = .ok (.iand, 1) := by decide +kernel
theorem d_O_hasNumber_8 : decode b_O_hasNumber 8 = .ok (.baload, 1) := by decide +kernel
theorem d_O_hasNumber_9 : decode b_O_hasNumber 9 = .ok (.ireturn, 1) := by decide +kernel
theorem d_O_addressOf_0 : decode b_O_addressOf 0 = .ok (.aload_n 0, 1) := by decide +kernel
theorem d_O_addressOf_1 : decode b_O_addressOf 1 = .ok (.getfield 21, 3) := by decide +kernel
theorem d_O_addressOf_4 : decode b_O_addressOf 4 = .ok (.iload_n 1, 1) := by decide +kernel
theorem d_O_addressOf_5 : decode b_O_addressOf 5 = .ok (.bipush 127, 2) := by decide +kernel
theorem d_O_addressOf_7 : decode b_O_addressOf 7 = .ok (.iand, 1) := by decide +kernel
theorem d_O_addressOf_8 : decode b_O_addressOf 8 = .ok (.iaload, 1) := by decide +kernel
theorem d_O_addressOf_9 : decode b_O_addressOf 9 = .ok (.ireturn, 1) := by decide +kernel
theorem d_C_isDevice_0 : decode b_C_isDevice 0 = .ok (.iload_n 0, 1) := by decide +kernel
theorem d_C_isDevice_1 : decode b_C_isDevice 1 = .ok (.sipush 3072, 3) := by decide +kernel
theorem d_C_isDevice_4 : decode b_C_isDevice 4 = .ok (.if_icmp .lt 7, 3) := by decide +kernel
theorem d_C_isDevice_7 : decode b_C_isDevice 7 = .ok (.iconst 1, 1) := by decide +kernel
theorem d_C_isDevice_8 : decode b_C_isDevice 8 = .ok (.goto 4, 3) := by decide +kernel
theorem d_C_isDevice_11 : decode b_C_isDevice 11 = .ok (.iconst 0, 1) := by decide +kernel
theorem d_C_isDevice_12 : decode b_C_isDevice 12 = .ok (.ireturn, 1) := by decide +kernel
theorem d_B_isEmpty_0 : decode b_B_isEmpty 0 = .ok (.aload_n 0, 1) := by decide +kernel
theorem d_B_isEmpty_1 : decode b_B_isEmpty 1 = .ok (.getfield 24, 3) := by decide +kernel
theorem d_B_isEmpty_4 : decode b_B_isEmpty 4 = .ok (.ifCond .ne 7, 3) := by decide +kernel
theorem d_B_isEmpty_7 : decode b_B_isEmpty 7 = .ok (.iconst 1, 1) := by decide +kernel
theorem d_B_isEmpty_8 : decode b_B_isEmpty 8 = .ok (.goto 4, 3) := by decide +kernel
theorem d_B_isEmpty_11 : decode b_B_isEmpty 11 = .ok (.iconst 0, 1) := by decide +kernel
theorem d_B_isEmpty_12 : decode b_B_isEmpty 12 = .ok (.ireturn, 1) := by decide +kernel
theorem d_B_hasRoom_0 : decode b_B_hasRoom 0 = .ok (.aload_n 0, 1) := by decide +kernel
theorem d_B_hasRoom_1 : decode b_B_hasRoom 1 = .ok (.getfield 24, 3) := by decide +kernel
theorem d_B_hasRoom_4 : decode b_B_hasRoom 4 = .ok (.iconst 4, 1) := by decide +kernel
theorem d_B_hasRoom_5 : decode b_B_hasRoom 5 = .ok (.if_icmp .ge 7, 3) := by decide +kernel
theorem d_B_hasRoom_8 : decode b_B_hasRoom 8 = .ok (.iconst 1, 1) := by decide +kernel
theorem d_B_hasRoom_9 : decode b_B_hasRoom 9 = .ok (.goto 4, 3) := by decide +kernel
theorem d_B_hasRoom_12 : decode b_B_hasRoom 12 = .ok (.iconst 0, 1) := by decide +kernel
theorem d_B_hasRoom_13 : decode b_B_hasRoom 13 = .ok (.ireturn, 1) := by decide +kernel
theorem d_C_carryOut_0 : decode b_C_carryOut 0 = .ok (.aload_n 0, 1) := by decide +kernel
theorem d_C_carryOut_1 : decode b_C_carryOut 1 = .ok (.getfield 10, 3) := by decide +kernel
theorem d_C_carryOut_4 : decode b_C_carryOut 4 = .ok (.iload_n 1, 1) := by decide +kernel
theorem d_C_carryOut_5 : decode b_C_carryOut 5 = .ok (.invokevirtual 85, 3) := by decide +kernel
theorem d_C_carryOut_8 : decode b_C_carryOut 8 = .ok (.istore_n 2, 1) := by decide +kernel
theorem d_C_carryOut_9 : decode b_C_carryOut 9 = .ok (.iload_n 2, 1) := by decide +kernel
theorem d_C_carryOut_10 : decode b_C_carryOut 10 = .ok (.invokestatic 118, 3) := by decide +kernel
theorem d_C_carryOut_13 : decode b_C_carryOut 13 = .ok (.ifCond .ne 4, 3) := by decide +kernel
theorem d_C_carryOut_16 : decode b_C_carryOut 16 = .ok (.return_, 1) := by decide +kernel
theorem d_C_carryOut_17 : decode b_C_carryOut 17 = .ok (.aload_n 0, 1) := by decide +kernel
theorem d_C_carryOut_18 : decode b_C_carryOut 18 = .ok (.getfield 10, 3) := by decide +kernel
theorem d_C_carryOut_21 : decode b_C_carryOut 21 = .ok (.iload_n 1, 1) := by decide +kernel
theorem d_C_carryOut_22 : decode b_C_carryOut 22 = .ok (.invokevirtual 225, 3) := by decide +kernel
theorem d_C_carryOut_25 : decode b_C_carryOut 25 = .ok (.istore_n 3, 1) := by decide +kernel
theorem d_C_carryOut_26 : decode b_C_carryOut 26 = .ok (.aload_n 0, 1) := by decide +kernel
theorem d_C_carryOut_27 : decode b_C_carryOut 27 = .ok (.getfield 10, 3) := by decide +kernel
theorem d_C_carryOut_30 : decode b_C_carryOut 30 = .ok (.iload_n 1, 1) := by decide +kernel
theorem d_C_carryOut_31 : decode b_C_carryOut 31 = .ok (.invokevirtual 94, 3) := by decide +kernel
theorem d_C_carryOut_34 : decode b_C_carryOut 34 = .ok (.istore 4, 2) := by decide +kernel
theorem d_C_carryOut_36 : decode b_C_carryOut 36 = .ok (.iload_n 2, 1) := by decide +kernel
theorem d_C_carryOut_37 : decode b_C_carryOut 37 = .ok (.iconst 1, 1) := by decide +kernel
theorem d_C_carryOut_38 : decode b_C_carryOut 38 = .ok (.if_icmp .ne 30, 3) := by decide +kernel
theorem d_C_carryOut_41 : decode b_C_carryOut 41 = .ok (.iload_n 3, 1) := by decide +kernel
theorem d_C_carryOut_42 : decode b_C_carryOut 42 = .ok (.invokestatic 217, 3) := by decide +kernel
theorem d_C_carryOut_45 : decode b_C_carryOut 45 = .ok (.ifCond .ne 23, 3) := by decide +kernel
theorem d_C_carryOut_48 : decode b_C_carryOut 48 = .ok (.aload_n 0, 1) := by decide +kernel
theorem d_C_carryOut_49 : decode b_C_carryOut 49 = .ok (.getfield 19, 3) := by decide +kernel
theorem d_C_carryOut_52 : decode b_C_carryOut 52 = .ok (.iload_n 1, 1) := by decide +kernel
theorem d_C_carryOut_53 : decode b_C_carryOut 53 = .ok (.iload_n 3, 1) := by decide +kernel
theorem d_C_carryOut_54 : decode b_C_carryOut 54 = .ok (.iload 4, 2) := by decide +kernel
theorem d_C_carryOut_56 : decode b_C_carryOut 56 = .ok (.aload_n 0, 1) := by decide +kernel
theorem d_C_carryOut_57 : decode b_C_carryOut 57 = .ok (.getfield 10, 3) := by decide +kernel
theorem d_C_carryOut_60 : decode b_C_carryOut 60 = .ok (.iload_n 1, 1) := by decide +kernel
theorem d_C_carryOut_61 : decode b_C_carryOut 61 = .ok (.invokevirtual 261, 3) := by decide +kernel
theorem d_C_carryOut_64 : decode b_C_carryOut 64 = .ok (.invokevirtual 264, 3) := by decide +kernel
theorem d_C_carryOut_67 : decode b_C_carryOut 67 = .ok (.return_, 1) := by decide +kernel
theorem d_C_carryOut_68 : decode b_C_carryOut 68 = .ok (.iload_n 2, 1) := by decide +kernel
theorem d_C_carryOut_69 : decode b_C_carryOut 69 = .ok (.iconst 3, 1) := by decide +kernel
theorem d_C_carryOut_70 : decode b_C_carryOut 70 = .ok (.if_icmp .ne 21, 3) := by decide +kernel
theorem d_C_carryOut_73 : decode b_C_carryOut 73 = .ok (.aload_n 0, 1) := by decide +kernel
theorem d_C_carryOut_74 : decode b_C_carryOut 74 = .ok (.getfield 10, 3) := by decide +kernel
theorem d_C_carryOut_77 : decode b_C_carryOut 77 = .ok (.iload_n 1, 1) := by decide +kernel
theorem d_C_carryOut_78 : decode b_C_carryOut 78 = .ok (.aload_n 0, 1) := by decide +kernel
theorem d_C_carryOut_79 : decode b_C_carryOut 79 = .ok (.getfield 26, 3) := by decide +kernel
theorem d_C_carryOut_82 : decode b_C_carryOut 82 = .ok (.iload_n 3, 1) := by decide +kernel
theorem d_C_carryOut_83 : decode b_C_carryOut 83 = .ok (.iload 4, 2) := by decide +kernel
theorem d_C_carryOut_85 : decode b_C_carryOut 85 = .ok (.invokevirtual 267, 3) := by decide +kernel
theorem d_C_carryOut_88 : decode b_C_carryOut 88 = .ok (.invokevirtual 238, 3) := by decide +kernel
theorem d_C_carryOut_91 : decode b_C_carryOut 91 = .ok (.aload_n 0, 1) := by decide +kernel
theorem d_C_carryOut_92 : decode b_C_carryOut 92 = .ok (.getfield 26, 3) := by decide +kernel
theorem d_C_carryOut_95 : decode b_C_carryOut 95 = .ok (.iload_n 3, 1) := by decide +kernel
theorem d_C_carryOut_96 : decode b_C_carryOut 96 = .ok (.iload 4, 2) := by decide +kernel
theorem d_C_carryOut_98 : decode b_C_carryOut 98 = .ok (.aload_n 0, 1) := by decide +kernel
theorem d_C_carryOut_99 : decode b_C_carryOut 99 = .ok (.getfield 10, 3) := by decide +kernel
theorem d_C_carryOut_102 : decode b_C_carryOut 102 = .ok (.iload_n 1, 1) := by decide +kernel
theorem d_C_carryOut_103 : decode b_C_carryOut 103 = .ok (.invokevirtual 261, 3) := by decide +kernel
theorem d_C_carryOut_106 : decode b_C_carryOut 106 = .ok (.invokevirtual 270, 3) := by decide +kernel
theorem d_C_carryOut_109 : decode b_C_carryOut 109 = .ok (.return_, 1) := by decide +kernel
theorem d_C_takesNumber_0 : decode b_C_takesNumber 0 = .ok (.iload_n 0, 1) := by decide +kernel
theorem d_C_takesNumber_1 : decode b_C_takesNumber 1 = .ok (.iconst 1, 1) := by decide +kernel
theorem d_C_takesNumber_2 : decode b_C_takesNumber 2 = .ok (.if_icmp .eq 8, 3) := by decide +kernel
theorem d_C_takesNumber_5 : decode b_C_takesNumber 5 = .ok (.iload_n 0, 1) := by decide +kernel
theorem d_C_takesNumber_6 : decode b_C_takesNumber 6 = .ok (.iconst 3, 1) := by decide +kernel
theorem d_C_takesNumber_7 : decode b_C_takesNumber 7 = .ok (.if_icmp .ne 7, 3) := by decide +kernel
theorem d_C_takesNumber_10 : decode b_C_takesNumber 10 = .ok (.iconst 1, 1) := by decide +kernel
theorem d_C_takesNumber_11 : decode b_C_takesNumber 11 = .ok (.goto 4, 3) := by decide +kernel
theorem d_C_takesNumber_14 : decode b_C_takesNumber 14 = .ok (.iconst 0, 1) := by decide +kernel
theorem d_C_takesNumber_15 : decode b_C_takesNumber 15 = .ok (.ireturn, 1) := by decide +kernel
theorem d_O_bytesOf_0 : decode b_O_bytesOf 0 = .ok (.aload_n 0, 1) := by decide +kernel
theorem d_O_bytesOf_1 : decode b_O_bytesOf 1 = .ok (.getfield 15, 3) := by decide +kernel
theorem d_O_bytesOf_4 : decode b_O_bytesOf 4 = .ok (.iload_n 1, 1) := by decide +kernel
theorem d_O_bytesOf_5 : decode b_O_bytesOf 5 = .ok (.bipush 127, 2) := by decide +kernel
theorem d_O_bytesOf_7 : decode b_O_bytesOf 7 = .ok (.iand, 1) := by decide +kernel
theorem d_O_bytesOf_8 : decode b_O_bytesOf 8 = .ok (.iaload, 1) := by decide +kernel
theorem d_O_bytesOf_9 : decode b_O_bytesOf 9 = .ok (.ireturn, 1) := by decide +kernel
theorem d_O_numberOf_0 : decode b_O_numberOf 0 = .ok (.aload_n 0, 1) := by decide +kernel
theorem d_O_numberOf_1 : decode b_O_numberOf 1 = .ok (.getfield 28, 3) := by decide +kernel
theorem d_O_numberOf_4 : decode b_O_numberOf 4 = .ok (.iload_n 1, 1) := by decide +kernel
theorem d_O_numberOf_5 : decode b_O_numberOf 5 = .ok (.bipush 127, 2) := by decide +kernel
theorem d_O_numberOf_7 : decode b_O_numberOf 7 = .ok (.iand, 1) := by decide +kernel
theorem d_O_numberOf_8 : decode b_O_numberOf 8 = .ok (.iaload, 1) := by decide +kernel
theorem d_O_numberOf_9 : decode b_O_numberOf 9 = .ok (.ireturn, 1) := by decide +kernel
theorem d_B_append_0 : decode b_B_append 0 = .ok (.aload_n 0, 1) := by decide +kernel
theorem d_B_append_1 : decode b_B_append 1 = .ok (.getfield 24, 3) := by decide +kernel
theorem d_B_append_4 : decode b_B_append 4 = .ok (.ifCond .lt 11, 3) := by decide +kernel
theorem d_B_append_7 : decode b_B_append 7 = .ok (.aload_n 0, 1) := by decide +kernel
theorem d_B_append_8 : decode b_B_append 8 = .ok (.getfield 24, 3) := by decide +kernel
theorem d_B_append_11 : decode b_B_append 11 = .ok (.iconst 4, 1) := by decide +kernel
theorem d_B_append_12 : decode b_B_append 12 = .ok (.if_icmp .lt 4, 3) := by decide +kernel
theorem d_B_append_15 : decode b_B_append 15 = .ok (.return_, 1) := by decide +kernel
theorem d_B_append_16 : decode b_B_append 16 = .ok (.aload_n 0, 1) := by decide +kernel
theorem d_B_append_17 : decode b_B_append 17 = .ok (.getfield 9, 3) := by decide +kernel
theorem d_B_append_20 : decode b_B_append 20 = .ok (.aload_n 0, 1) := by decide +kernel
theorem d_B_append_21 : decode b_B_append 21 = .ok (.getfield 24, 3) := by decide +kernel
theorem d_B_append_24 : decode b_B_append 24 = .ok (.iload_n 1, 1) := by decide +kernel
theorem d_B_append_25 : decode b_B_append 25 = .ok (.iastore, 1) := by decide +kernel
theorem d_B_append_26 : decode b_B_append 26 = .ok (.aload_n 0, 1) := by decide +kernel
theorem d_B_append_27 : decode b_B_append 27 = .ok (.getfield 15, 3) := by decide +kernel
theorem d_B_append_30 : decode b_B_append 30 = .ok (.aload_n 0, 1) := by decide +kernel
theorem d_B_append_31 : decode b_B_append 31 = .ok (.getfield 24, 3) := by decide +kernel
theorem d_B_append_34 : decode b_B_append 34 = .ok (.iload_n 2, 1) := by decide +kernel
theorem d_B_append_35 : decode b_B_append 35 = .ok (.iastore, 1) := by decide +kernel
theorem d_B_append_36 : decode b_B_append 36 = .ok (.aload_n 0, 1) := by decide +kernel
theorem d_B_append_37 : decode b_B_append 37 = .ok (.getfield 18, 3) := by decide +kernel
theorem d_B_append_40 : decode b_B_append 40 = .ok (.aload_n 0, 1) := by decide +kernel
theorem d_B_append_41 : decode b_B_append 41 = .ok (.getfield 24, 3) := by decide +kernel
theorem d_B_append_44 : decode b_B_append 44 = .ok (.iload_n 3, 1) := by decide +kernel
theorem d_B_append_45 : decode b_B_append 45 = .ok (.iastore, 1) := by decide +kernel
theorem d_B_append_46 : decode b_B_append 46 = .ok (.aload_n 0, 1) := by decide +kernel
theorem d_B_append_47 : decode b_B_append 47 = .ok (.getfield 21, 3) := by decide +kernel
theorem d_B_append_50 : decode b_B_append 50 = .ok (.aload_n 0, 1) := by decide +kernel
theorem d_B_append_51 : decode b_B_append 51 = .ok (.getfield 24, 3) := by decide +kernel
theorem d_B_append_54 : decode b_B_append 54 = .ok (.iload 4, 2) := by decide +kernel
theorem d_B_append_56 : decode b_B_append 56 = .ok (.iastore, 1) := by decide +kernel
theorem d_B_append_57 : decode b_B_append 57 = .ok (.aload_n 0, 1) := by decide +kernel
theorem d_B_append_58 : decode b_B_append 58 = .ok (.dup, 1) := by decide +kernel
theorem d_B_append_59 : decode b_B_append 59 = .ok (.getfield 24, 3) := by decide +kernel
theorem d_B_append_62 : decode b_B_append 62 = .ok (.iconst 1, 1) := by decide +kernel
theorem d_B_append_63 : decode b_B_append 63 = .ok (.iadd, 1) := by decide +kernel
theorem d_B_append_64 : decode b_B_append 64 = .ok (.putfield 24, 3) := by decide +kernel
theorem d_B_append_67 : decode b_B_append 67 = .ok (.return_, 1) := by decide +kernel
theorem d_Y_numberAt_0 : decode b_Y_numberAt 0 = .ok (.iconst 0, 1) := by decide +kernel
theorem d_Y_numberAt_1 : decode b_Y_numberAt 1 = .ok (.istore_n 3, 1) := by decide +kernel
theorem d_Y_numberAt_2 : decode b_Y_numberAt 2 = .ok (.iconst 0, 1) := by decide +kernel
theorem d_Y_numberAt_3 : decode b_Y_numberAt 3 = .ok (.istore 4, 2) := by decide +kernel
theorem d_Y_numberAt_5 : decode b_Y_numberAt 5 = .ok (.iload 4, 2) := by decide +kernel
theorem d_Y_numberAt_7 : decode b_Y_numberAt 7 = .ok (.iload_n 2, 1) := by decide +kernel
theorem d_Y_numberAt_8 : decode b_Y_numberAt 8 = .ok (.if_icmp .ge 23, 3) := by decide +kernel
theorem d_Y_numberAt_11 : decode b_Y_numberAt 11 = .ok (.iload_n 3, 1) := by decide +kernel
theorem d_Y_numberAt_12 : decode b_Y_numberAt 12 = .ok (.bipush 8, 2) := by decide +kernel
theorem d_Y_numberAt_14 : decode b_Y_numberAt 14 = .ok (.ishl, 1) := by decide +kernel
theorem d_Y_numberAt_15 : decode b_Y_numberAt 15 = .ok (.aload_n 0, 1) := by decide +kernel
theorem d_Y_numberAt_16 : decode b_Y_numberAt 16 = .ok (.iload_n 1, 1) := by decide +kernel
theorem d_Y_numberAt_17 : decode b_Y_numberAt 17 = .ok (.iload 4, 2) := by decide +kernel
theorem d_Y_numberAt_19 : decode b_Y_numberAt 19 = .ok (.iadd, 1) := by decide +kernel
theorem d_Y_numberAt_20 : decode b_Y_numberAt 20 = .ok (.invokevirtual 15, 3) := by decide +kernel
theorem d_Y_numberAt_23 : decode b_Y_numberAt 23 = .ok (.ior, 1) := by decide +kernel
theorem d_Y_numberAt_24 : decode b_Y_numberAt 24 = .ok (.istore_n 3, 1) := by decide +kernel
theorem d_Y_numberAt_25 : decode b_Y_numberAt 25 = .ok (.iinc 4 1, 3) := by decide +kernel
theorem d_Y_numberAt_28 : decode b_Y_numberAt 28 = .ok (.goto (-23), 3) := by decide +kernel
end
section
theorem d_Y_numberAt_31 : decode b_Y_numberAt 31 = .ok (.iload_n 3, 1) := by decide +kernel
theorem d_Y_numberAt_32 : decode b_Y_numberAt 32 = .ok (.ireturn, 1) := by decide +kernel
theorem d_Y_byteAt_0 : decode b_Y_byteAt 0 = .ok (.aload_n 0, 1) := by decide +kernel
theorem d_Y_byteAt_1 : decode b_Y_byteAt 1 = .ok (.getfield 9, 3) := by decide +kernel
theorem d_Y_byteAt_4 : decode b_Y_byteAt 4 = .ok (.iload_n 1, 1) := by decide +kernel
theorem d_Y_byteAt_5 : decode b_Y_byteAt 5 = .ok (.sipush 4095, 3) := by decide +kernel
theorem d_Y_byteAt_8 : decode b_Y_byteAt 8 = .ok (.iand, 1) := by decide +kernel
theorem d_Y_byteAt_9 : decode b_Y_byteAt 9 = .ok (.baload, 1) := by decide +kernel
theorem d_Y_byteAt_10 : decode b_Y_byteAt 10 = .ok (.sipush 255, 3) := by decide +kernel
theorem d_Y_byteAt_13 : decode b_Y_byteAt 13 = .ok (.iand, 1) := by decide +kernel
theorem d_Y_byteAt_14 : decode b_Y_byteAt 14 = .ok (.ireturn, 1) := by decide +kernel
theorem d_O_setLoaded_0 : decode b_O_setLoaded 0 = .ok (.aload_n 0, 1) := by decide +kernel
theorem d_O_setLoaded_1 : decode b_O_setLoaded 1 = .ok (.getfield 37, 3) := by decide +kernel
theorem d_O_setLoaded_4 : decode b_O_setLoaded 4 = .ok (.iload_n 1, 1) := by decide +kernel
theorem d_O_setLoaded_5 : decode b_O_setLoaded 5 = .ok (.bipush 127, 2) := by decide +kernel
theorem d_O_setLoaded_7 : decode b_O_setLoaded 7 = .ok (.iand, 1) := by decide +kernel
theorem d_O_setLoaded_8 : decode b_O_setLoaded 8 = .ok (.iload_n 2, 1) := by decide +kernel
theorem d_O_setLoaded_9 : decode b_O_setLoaded 9 = .ok (.iastore, 1) := by decide +kernel
theorem d_O_setLoaded_10 : decode b_O_setLoaded 10 = .ok (.return_, 1) := by decide +kernel
theorem d_Y_write_0 : decode b_Y_write 0 = .ok (.iconst 0, 1) := by decide +kernel
theorem d_Y_write_1 : decode b_Y_write 1 = .ok (.istore 4, 2) := by decide +kernel
theorem d_Y_write_3 : decode b_Y_write 3 = .ok (.iload 4, 2) := by decide +kernel
theorem d_Y_write_5 : decode b_Y_write 5 = .ok (.iload_n 2, 1) := by decide +kernel
theorem d_Y_write_6 : decode b_Y_write 6 = .ok (.if_icmp .ge 24, 3) := by decide +kernel
theorem d_Y_write_9 : decode b_Y_write 9 = .ok (.aload_n 0, 1) := by decide +kernel
theorem d_Y_write_10 : decode b_Y_write 10 = .ok (.iload_n 1, 1) := by decide +kernel
theorem d_Y_write_11 : decode b_Y_write 11 = .ok (.iload 4, 2) := by decide +kernel
theorem d_Y_write_13 : decode b_Y_write 13 = .ok (.iadd, 1) := by decide +kernel
theorem d_Y_write_14 : decode b_Y_write 14 = .ok (.iload_n 3, 1) := by decide +kernel
theorem d_Y_write_15 : decode b_Y_write 15 = .ok (.iload_n 2, 1) := by decide +kernel
theorem d_Y_write_16 : decode b_Y_write 16 = .ok (.iload 4, 2) := by decide +kernel
theorem d_Y_write_18 : decode b_Y_write 18 = .ok (.invokestatic 19, 3) := by decide +kernel
theorem d_Y_write_21 : decode b_Y_write 21 = .ok (.invokevirtual 23, 3) := by decide +kernel
theorem d_Y_write_24 : decode b_Y_write 24 = .ok (.iinc 4 1, 3) := by decide +kernel
theorem d_Y_write_27 : decode b_Y_write 27 = .ok (.goto (-24), 3) := by decide +kernel
theorem d_Y_write_30 : decode b_Y_write 30 = .ok (.return_, 1) := by decide +kernel
theorem d_C_byteOfNumber_0 : decode b_C_byteOfNumber 0 = .ok (.iload_n 0, 1) := by decide +kernel
theorem d_C_byteOfNumber_1 : decode b_C_byteOfNumber 1 = .ok (.bipush 8, 2) := by decide +kernel
theorem d_C_byteOfNumber_3 : decode b_C_byteOfNumber 3 = .ok (.iload_n 1, 1) := by decide +kernel
theorem d_C_byteOfNumber_4 : decode b_C_byteOfNumber 4 = .ok (.iconst 1, 1) := by decide +kernel
theorem d_C_byteOfNumber_5 : decode b_C_byteOfNumber 5 = .ok (.isub, 1) := by decide +kernel
theorem d_C_byteOfNumber_6 : decode b_C_byteOfNumber 6 = .ok (.iload_n 2, 1) := by decide +kernel
theorem d_C_byteOfNumber_7 : decode b_C_byteOfNumber 7 = .ok (.isub, 1) := by decide +kernel
theorem d_C_byteOfNumber_8 : decode b_C_byteOfNumber 8 = .ok (.imul, 1) := by decide +kernel
theorem d_C_byteOfNumber_9 : decode b_C_byteOfNumber 9 = .ok (.iushr, 1) := by decide +kernel
theorem d_C_byteOfNumber_10 : decode b_C_byteOfNumber 10 = .ok (.sipush 255, 3) := by decide +kernel
theorem d_C_byteOfNumber_13 : decode b_C_byteOfNumber 13 = .ok (.iand, 1) := by decide +kernel
theorem d_C_byteOfNumber_14 : decode b_C_byteOfNumber 14 = .ok (.ireturn, 1) := by decide +kernel
theorem d_Y_setByte_0 : decode b_Y_setByte 0 = .ok (.aload_n 0, 1) := by decide +kernel
theorem d_Y_setByte_1 : decode b_Y_setByte 1 = .ok (.getfield 9, 3) := by decide +kernel
theorem d_Y_setByte_4 : decode b_Y_setByte 4 = .ok (.iload_n 1, 1) := by decide +kernel
theorem d_Y_setByte_5 : decode b_Y_setByte 5 = .ok (.sipush 4095, 3) := by decide +kernel
theorem d_Y_setByte_8 : decode b_Y_setByte 8 = .ok (.iand, 1) := by decide +kernel
theorem d_Y_setByte_9 : decode b_Y_setByte 9 = .ok (.iload_n 2, 1) := by decide +kernel
theorem d_Y_setByte_10 : decode b_Y_setByte 10 = .ok (.i2b, 1) := by decide +kernel
theorem d_Y_setByte_11 : decode b_Y_setByte 11 = .ok (.bastore, 1) := by decide +kernel
theorem d_Y_setByte_12 : decode b_Y_setByte 12 = .ok (.return_, 1) := by decide +kernel
theorem d_C_drain_0 : decode b_C_drain 0 = .ok (.aload_n 0, 1) := by decide +kernel
theorem d_C_drain_1 : decode b_C_drain 1 = .ok (.getfield 19, 3) := by decide +kernel
theorem d_C_drain_4 : decode b_C_drain 4 = .ok (.invokevirtual 176, 3) := by decide +kernel
theorem d_C_drain_7 : decode b_C_drain 7 = .ok (.ifCond .eq 5, 3) := by decide +kernel
theorem d_C_drain_10 : decode b_C_drain 10 = .ok (.iconst (-1), 1) := by decide +kernel
theorem d_C_drain_11 : decode b_C_drain 11 = .ok (.ireturn, 1) := by decide +kernel
theorem d_C_drain_12 : decode b_C_drain 12 = .ok (.aload_n 0, 1) := by decide +kernel
theorem d_C_drain_13 : decode b_C_drain 13 = .ok (.getfield 19, 3) := by decide +kernel
theorem d_C_drain_16 : decode b_C_drain 16 = .ok (.invokevirtual 180, 3) := by decide +kernel
theorem d_C_drain_19 : decode b_C_drain 19 = .ok (.istore_n 1, 1) := by decide +kernel
theorem d_C_drain_20 : decode b_C_drain 20 = .ok (.aload_n 0, 1) := by decide +kernel
theorem d_C_drain_21 : decode b_C_drain 21 = .ok (.getfield 19, 3) := by decide +kernel
theorem d_C_drain_24 : decode b_C_drain 24 = .ok (.aload_n 0, 1) := by decide +kernel
theorem d_C_drain_25 : decode b_C_drain 25 = .ok (.getfield 26, 3) := by decide +kernel
theorem d_C_drain_28 : decode b_C_drain 28 = .ok (.invokevirtual 183, 3) := by decide +kernel
theorem d_C_drain_31 : decode b_C_drain 31 = .ok (.iload_n 1, 1) := by decide +kernel
theorem d_C_drain_32 : decode b_C_drain 32 = .ok (.ireturn, 1) := by decide +kernel
theorem d_B_oldestStore_0 : decode b_B_oldestStore 0 = .ok (.aload_n 0, 1) := by decide +kernel
theorem d_B_oldestStore_1 : decode b_B_oldestStore 1 = .ok (.getfield 24, 3) := by decide +kernel
theorem d_B_oldestStore_4 : decode b_B_oldestStore 4 = .ok (.ifCond .ne 7, 3) := by decide +kernel
theorem d_B_oldestStore_7 : decode b_B_oldestStore 7 = .ok (.iconst (-1), 1) := by decide +kernel
theorem d_B_oldestStore_8 : decode b_B_oldestStore 8 = .ok (.goto 9, 3) := by decide +kernel
theorem d_B_oldestStore_11 : decode b_B_oldestStore 11 = .ok (.aload_n 0, 1) := by decide +kernel
theorem d_B_oldestStore_12 : decode b_B_oldestStore 12 = .ok (.getfield 9, 3) := by decide +kernel
theorem d_B_oldestStore_15 : decode b_B_oldestStore 15 = .ok (.iconst 0, 1) := by decide +kernel
theorem d_B_oldestStore_16 : decode b_B_oldestStore 16 = .ok (.iaload, 1) := by decide +kernel
theorem d_B_oldestStore_17 : decode b_B_oldestStore 17 = .ok (.ireturn, 1) := by decide +kernel
theorem d_B_moveOldestTo_0 : decode b_B_moveOldestTo 0 = .ok (.aload_n 0, 1) := by decide +kernel
theorem d_B_moveOldestTo_1 : decode b_B_moveOldestTo 1 = .ok (.getfield 24, 3) := by decide +kernel
theorem d_B_moveOldestTo_4 : decode b_B_moveOldestTo 4 = .ok (.ifCond .gt 4, 3) := by decide +kernel
theorem d_B_moveOldestTo_7 : decode b_B_moveOldestTo 7 = .ok (.return_, 1) := by decide +kernel
theorem d_B_moveOldestTo_8 : decode b_B_moveOldestTo 8 = .ok (.aload_n 1, 1) := by decide +kernel
theorem d_B_moveOldestTo_9 : decode b_B_moveOldestTo 9 = .ok (.aload_n 0, 1) := by decide +kernel
theorem d_B_moveOldestTo_10 : decode b_B_moveOldestTo 10 = .ok (.getfield 15, 3) := by decide +kernel
theorem d_B_moveOldestTo_13 : decode b_B_moveOldestTo 13 = .ok (.iconst 0, 1) := by decide +kernel
theorem d_B_moveOldestTo_14 : decode b_B_moveOldestTo 14 = .ok (.iaload, 1) := by decide +kernel
theorem d_B_moveOldestTo_15 : decode b_B_moveOldestTo 15 = .ok (.aload_n 0, 1) := by decide +kernel
theorem d_B_moveOldestTo_16 : decode b_B_moveOldestTo 16 = .ok (.getfield 18, 3) := by decide +kernel
theorem d_B_moveOldestTo_19 : decode b_B_moveOldestTo 19 = .ok (.iconst 0, 1) := by decide +kernel
theorem d_B_moveOldestTo_20 : decode b_B_moveOldestTo 20 = .ok (.iaload, 1) := by decide +kernel
theorem d_B_moveOldestTo_21 : decode b_B_moveOldestTo 21 = .ok (.aload_n 0, 1) := by decide +kernel
theorem d_B_moveOldestTo_22 : decode b_B_moveOldestTo 22 = .ok (.getfield 21, 3) := by decide +kernel
theorem d_B_moveOldestTo_25 : decode b_B_moveOldestTo 25 = .ok (.iconst 0, 1) := by decide +kernel
theorem d_B_moveOldestTo_26 : decode b_B_moveOldestTo 26 = .ok (.iaload, 1) := by decide +kernel
theorem d_B_moveOldestTo_27 : decode b_B_moveOldestTo 27 = .ok (.invokevirtual 28, 3) := by decide +kernel
theorem d_B_moveOldestTo_30 : decode b_B_moveOldestTo 30 = .ok (.iconst 1, 1) := by decide +kernel
theorem d_B_moveOldestTo_31 : decode b_B_moveOldestTo 31 = .ok (.istore_n 2, 1) := by decide +kernel
theorem d_B_moveOldestTo_32 : decode b_B_moveOldestTo 32 = .ok (.iload_n 2, 1) := by decide +kernel
theorem d_B_moveOldestTo_33 : decode b_B_moveOldestTo 33 = .ok (.iconst 4, 1) := by decide +kernel
theorem d_B_moveOldestTo_34 : decode b_B_moveOldestTo 34 = .ok (.if_icmp .ge 65, 3) := by decide +kernel
theorem d_B_moveOldestTo_37 : decode b_B_moveOldestTo 37 = .ok (.aload_n 0, 1) := by decide +kernel
theorem d_B_moveOldestTo_38 : decode b_B_moveOldestTo 38 = .ok (.getfield 9, 3) := by decide +kernel
theorem d_B_moveOldestTo_41 : decode b_B_moveOldestTo 41 = .ok (.iload_n 2, 1) := by decide +kernel
theorem d_B_moveOldestTo_42 : decode b_B_moveOldestTo 42 = .ok (.iconst 1, 1) := by decide +kernel
theorem d_B_moveOldestTo_43 : decode b_B_moveOldestTo 43 = .ok (.isub, 1) := by decide +kernel
theorem d_B_moveOldestTo_44 : decode b_B_moveOldestTo 44 = .ok (.aload_n 0, 1) := by decide +kernel
theorem d_B_moveOldestTo_45 : decode b_B_moveOldestTo 45 = .ok (.getfield 9, 3) := by decide +kernel
theorem d_B_moveOldestTo_48 : decode b_B_moveOldestTo 48 = .ok (.iload_n 2, 1) := by decide +kernel
theorem d_B_moveOldestTo_49 : decode b_B_moveOldestTo 49 = .ok (.iaload, 1) := by decide +kernel
theorem d_B_moveOldestTo_50 : decode b_B_moveOldestTo 50 = .ok (.iastore, 1) := by decide +kernel
theorem d_B_moveOldestTo_51 : decode b_B_moveOldestTo 51 = .ok (.aload_n 0, 1) := by decide +kernel
theorem d_B_moveOldestTo_52 : decode b_B_moveOldestTo 52 = .ok (.getfield 15, 3) := by decide +kernel
theorem d_B_moveOldestTo_55 : decode b_B_moveOldestTo 55 = .ok (.iload_n 2, 1) := by decide +kernel
theorem d_B_moveOldestTo_56 : decode b_B_moveOldestTo 56 = .ok (.iconst 1, 1) := by decide +kernel
theorem d_B_moveOldestTo_57 : decode b_B_moveOldestTo 57 = .ok (.isub, 1) := by decide +kernel
theorem d_B_moveOldestTo_58 : decode b_B_moveOldestTo 58 = .ok (.aload_n 0, 1) := by decide +kernel
theorem d_B_moveOldestTo_59 : decode b_B_moveOldestTo 59 = .ok (.getfield 15, 3) := by decide +kernel
theorem d_B_moveOldestTo_62 : decode b_B_moveOldestTo 62 = .ok (.iload_n 2, 1) := by decide +kernel
theorem d_B_moveOldestTo_63 : decode b_B_moveOldestTo 63 = .ok (.iaload, 1) := by decide +kernel
theorem d_B_moveOldestTo_64 : decode b_B_moveOldestTo 64 = .ok (.iastore, 1) := by decide +kernel
theorem d_B_moveOldestTo_65 : decode b_B_moveOldestTo 65 = .ok (.aload_n 0, 1) := by decide +kernel
theorem d_B_moveOldestTo_66 : decode b_B_moveOldestTo 66 = .ok (.getfield 18, 3) := by decide +kernel
theorem d_B_moveOldestTo_69 : decode b_B_moveOldestTo 69 = .ok (.iload_n 2, 1) := by decide +kernel
theorem d_B_moveOldestTo_70 : decode b_B_moveOldestTo 70 = .ok (.iconst 1, 1) := by decide +kernel
theorem d_B_moveOldestTo_71 : decode b_B_moveOldestTo 71 = .ok (.isub, 1) := by decide +kernel
theorem d_B_moveOldestTo_72 : decode b_B_moveOldestTo 72 = .ok (.aload_n 0, 1) := by decide +kernel
theorem d_B_moveOldestTo_73 : decode b_B_moveOldestTo 73 = .ok (.getfield 18, 3) := by decide +kernel
theorem d_B_moveOldestTo_76 : decode b_B_moveOldestTo 76 = .ok (.iload_n 2, 1) := by decide +kernel
theorem d_B_moveOldestTo_77 : decode b_B_moveOldestTo 77 = .ok (.iaload, 1) := by decide +kernel
theorem d_B_moveOldestTo_78 : decode b_B_moveOldestTo 78 = .ok (.iastore, 1) := by decide +kernel
theorem d_B_moveOldestTo_79 : decode b_B_moveOldestTo 79 = .ok (.aload_n 0, 1) := by decide +kernel
theorem d_B_moveOldestTo_80 : decode b_B_moveOldestTo 80 = .ok (.getfield 21, 3) := by decide +kernel
theorem d_B_moveOldestTo_83 : decode b_B_moveOldestTo 83 = .ok (.iload_n 2, 1) := by decide +kernel
theorem d_B_moveOldestTo_84 : decode b_B_moveOldestTo 84 = .ok (.iconst 1, 1) := by decide +kernel
theorem d_B_moveOldestTo_85 : decode b_B_moveOldestTo 85 = .ok (.isub, 1) := by decide +kernel
theorem d_B_moveOldestTo_86 : decode b_B_moveOldestTo 86 = .ok (.aload_n 0, 1) := by decide +kernel
theorem d_B_moveOldestTo_87 : decode b_B_moveOldestTo 87 = .ok (.getfield 21, 3) := by decide +kernel
theorem d_B_moveOldestTo_90 : decode b_B_moveOldestTo 90 = .ok (.iload_n 2, 1) := by decide +kernel
theorem d_B_moveOldestTo_91 : decode b_B_moveOldestTo 91 = .ok (.iaload, 1) := by decide +kernel
theorem d_B_moveOldestTo_92 : decode b_B_moveOldestTo 92 = .ok (.iastore, 1) := by decide +kernel
theorem d_B_moveOldestTo_93 : decode b_B_moveOldestTo 93 = .ok (.iinc 2 1, 3) := by decide +kernel
theorem d_B_moveOldestTo_96 : decode b_B_moveOldestTo 96 = .ok (.goto (-64), 3) := by decide +kernel
theorem d_B_moveOldestTo_99 : decode b_B_moveOldestTo 99 = .ok (.aload_n 0, 1) := by decide +kernel
theorem d_B_moveOldestTo_100 : decode b_B_moveOldestTo 100 = .ok (.dup, 1) := by decide +kernel
theorem d_B_moveOldestTo_101 : decode b_B_moveOldestTo 101 = .ok (.getfield 24, 3) := by decide +kernel
theorem d_B_moveOldestTo_104 : decode b_B_moveOldestTo 104 = .ok (.iconst 1, 1) := by decide +kernel
theorem d_B_moveOldestTo_105 : decode b_B_moveOldestTo 105 = .ok (.isub, 1) := by decide +kernel
theorem d_B_moveOldestTo_106 : decode b_B_moveOldestTo 106 = .ok (.putfield 24, 3) := by decide +kernel
theorem d_B_moveOldestTo_109 : decode b_B_moveOldestTo 109 = .ok (.return_, 1) := by decide +kernel
theorem d_C_marked_0 : decode b_C_marked 0 = .ok (.aload_n 0, 1) := by decide +kernel
theorem d_C_marked_1 : decode b_C_marked 1 = .ok (.getfield 37, 3) := by decide +kernel
theorem d_C_marked_4 : decode b_C_marked 4 = .ok (.iload_n 1, 1) := by decide +kernel
theorem d_C_marked_5 : decode b_C_marked 5 = .ok (.bipush 63, 2) := by decide +kernel
theorem d_C_marked_7 : decode b_C_marked 7 = .ok (.iand, 1) := by decide +kernel
theorem d_C_marked_8 : decode b_C_marked 8 = .ok (.lushr, 1) := by decide +kernel
theorem d_C_marked_9 : decode b_C_marked 9 = .ok (.lconst 1, 1) := by decide +kernel
theorem d_C_marked_10 : decode b_C_marked 10 = .ok (.land, 1) := by decide +kernel
theorem d_C_marked_11 : decode b_C_marked 11 = .ok (.lconst 0, 1) := by decide +kernel
theorem d_C_marked_12 : decode b_C_marked 12 = .ok (.lcmp, 1) := by decide +kernel
theorem d_C_marked_13 : decode b_C_marked 13 = .ok (.ifCond .eq 7, 3) := by decide +kernel
theorem d_C_marked_16 : decode b_C_marked 16 = .ok (.iconst 1, 1) := by decide +kernel
theorem d_C_marked_17 : decode b_C_marked 17 = .ok (.goto 4, 3) := by decide +kernel
theorem d_C_marked_20 : decode b_C_marked 20 = .ok (.iconst 0, 1) := by decide +kernel
theorem d_C_marked_21 : decode b_C_marked 21 = .ok (.ireturn, 1) := by decide +kernel
theorem d_C_count_0 : decode b_C_count 0 = .ok (.iload_n 1, 1) := by decide +kernel
theorem d_C_count_1 : decode b_C_count 1 = .ok (.tableswitch 122 0 9 #[55, 60, 65, 73, 78, 83, 88, 93, 98, 106], 55) := by decide +kernel
theorem d_C_count_56 : decode b_C_count 56 = .ok (.aload_n 0, 1) := by decide +kernel
theorem d_C_count_57 : decode b_C_count 57 = .ok (.getfield 30, 3) := by decide +kernel
theorem d_C_count_60 : decode b_C_count 60 = .ok (.ireturn, 1) := by decide +kernel
theorem d_C_count_61 : decode b_C_count 61 = .ok (.aload_n 0, 1) := by decide +kernel
theorem d_C_count_62 : decode b_C_count 62 = .ok (.invokevirtual 64, 3) := by decide +kernel
theorem d_C_count_65 : decode b_C_count 65 = .ok (.ireturn, 1) := by decide +kernel
theorem d_C_count_66 : decode b_C_count 66 = .ok (.aload_n 0, 1) := by decide +kernel
theorem d_C_count_67 : decode b_C_count 67 = .ok (.getfield 19, 3) := by decide +kernel
theorem d_C_count_70 : decode b_C_count 70 = .ok (.invokevirtual 205, 3) := by decide +kernel
theorem d_C_count_73 : decode b_C_count 73 = .ok (.ireturn, 1) := by decide +kernel
theorem d_C_count_74 : decode b_C_count 74 = .ok (.aload_n 0, 1) := by decide +kernel
theorem d_C_count_75 : decode b_C_count 75 = .ok (.invokevirtual 208, 3) := by decide +kernel
theorem d_C_count_78 : decode b_C_count 78 = .ok (.ireturn, 1) := by decide +kernel
theorem d_C_count_79 : decode b_C_count 79 = .ok (.aload_n 0, 1) := by decide +kernel
theorem d_C_count_80 : decode b_C_count 80 = .ok (.getfield 41, 3) := by decide +kernel
theorem d_C_count_83 : decode b_C_count 83 = .ok (.ireturn, 1) := by decide +kernel
theorem d_C_count_84 : decode b_C_count 84 = .ok (.aload_n 0, 1) := by decide +kernel
theorem d_C_count_85 : decode b_C_count 85 = .ok (.getfield 44, 3) := by decide +kernel
theorem d_C_count_88 : decode b_C_count 88 = .ok (.ireturn, 1) := by decide +kernel
theorem d_C_count_89 : decode b_C_count 89 = .ok (.aload_n 0, 1) := by decide +kernel
theorem d_C_count_90 : decode b_C_count 90 = .ok (.getfield 47, 3) := by decide +kernel
theorem d_C_count_93 : decode b_C_count 93 = .ok (.ireturn, 1) := by decide +kernel
theorem d_C_count_94 : decode b_C_count 94 = .ok (.aload_n 0, 1) := by decide +kernel
theorem d_C_count_95 : decode b_C_count 95 = .ok (.getfield 50, 3) := by decide +kernel
theorem d_C_count_98 : decode b_C_count 98 = .ok (.ireturn, 1) := by decide +kernel
theorem d_C_count_99 : decode b_C_count 99 = .ok (.aload_n 0, 1) := by decide +kernel
theorem d_C_count_100 : decode b_C_count 100 = .ok (.getfield 37, 3) := by decide +kernel
theorem d_C_count_103 : decode b_C_count 103 = .ok (.invokestatic 211, 3) := by decide +kernel
theorem d_C_count_106 : decode b_C_count 106 = .ok (.ireturn, 1) := by decide +kernel
theorem d_C_count_107 : decode b_C_count 107 = .ok (.aload_n 0, 1) := by decide +kernel
theorem d_C_count_108 : decode b_C_count 108 = .ok (.invokevirtual 64, 3) := by decide +kernel
theorem d_C_count_111 : decode b_C_count 111 = .ok (.ifCond .le 10, 3) := by decide +kernel
theorem d_C_count_114 : decode b_C_count 114 = .ok (.aload_n 0, 1) := by decide +kernel
theorem d_C_count_115 : decode b_C_count 115 = .ok (.getfield 34, 3) := by decide +kernel
theorem d_C_count_118 : decode b_C_count 118 = .ok (.goto 4, 3) := by decide +kernel
theorem d_C_count_121 : decode b_C_count 121 = .ok (.iconst (-1), 1) := by decide +kernel
theorem d_C_count_122 : decode b_C_count 122 = .ok (.ireturn, 1) := by decide +kernel
theorem d_C_count_123 : decode b_C_count 123 = .ok (.iconst (-1), 1) := by decide +kernel
theorem d_C_count_124 : decode b_C_count 124 = .ok (.ireturn, 1) := by decide +kernel
theorem d_B_size_0 : decode b_B_size 0 = .ok (.aload_n 0, 1) := by decide +kernel
theorem d_B_size_1 : decode b_B_size 1 = .ok (.getfield 24, 3) := by decide +kernel
theorem d_B_size_4 : decode b_B_size 4 = .ok (.ireturn, 1) := by decide +kernel
theorem d_C_loadsDoneThatWait_0 : decode b_C_loadsDoneThatWait 0 = .ok (.iconst 0, 1) := by decide +kernel
theorem d_C_loadsDoneThatWait_1 : decode b_C_loadsDoneThatWait 1 = .ok (.istore_n 1, 1) := by decide +kernel
theorem d_C_loadsDoneThatWait_2 : decode b_C_loadsDoneThatWait 2 = .ok (.aload_n 0, 1) := by decide +kernel
theorem d_C_loadsDoneThatWait_3 : decode b_C_loadsDoneThatWait 3 = .ok (.getfield 34, 3) := by decide +kernel
theorem d_C_loadsDoneThatWait_6 : decode b_C_loadsDoneThatWait 6 = .ok (.istore_n 2, 1) := by decide +kernel
theorem d_C_loadsDoneThatWait_7 : decode b_C_loadsDoneThatWait 7 = .ok (.iload_n 2, 1) := by decide +kernel
theorem d_C_loadsDoneThatWait_8 : decode b_C_loadsDoneThatWait 8 = .ok (.aload_n 0, 1) := by decide +kernel
theorem d_C_loadsDoneThatWait_9 : decode b_C_loadsDoneThatWait 9 = .ok (.getfield 30, 3) := by decide +kernel
theorem d_C_loadsDoneThatWait_12 : decode b_C_loadsDoneThatWait 12 = .ok (.if_icmp .ge 23, 3) := by decide +kernel
theorem d_C_loadsDoneThatWait_15 : decode b_C_loadsDoneThatWait 15 = .ok (.aload_n 0, 1) := by decide +kernel
theorem d_C_loadsDoneThatWait_16 : decode b_C_loadsDoneThatWait 16 = .ok (.getfield 10, 3) := by decide +kernel
theorem d_C_loadsDoneThatWait_19 : decode b_C_loadsDoneThatWait 19 = .ok (.iload_n 2, 1) := by decide +kernel
theorem d_C_loadsDoneThatWait_20 : decode b_C_loadsDoneThatWait 20 = .ok (.invokevirtual 129, 3) := by decide +kernel
theorem d_C_loadsDoneThatWait_23 : decode b_C_loadsDoneThatWait 23 = .ok (.ifCond .eq 6, 3) := by decide +kernel
theorem d_C_loadsDoneThatWait_26 : decode b_C_loadsDoneThatWait 26 = .ok (.iinc 1 1, 3) := by decide +kernel
theorem d_C_loadsDoneThatWait_29 : decode b_C_loadsDoneThatWait 29 = .ok (.iinc 2 1, 3) := by decide +kernel
theorem d_C_loadsDoneThatWait_32 : decode b_C_loadsDoneThatWait 32 = .ok (.goto (-25), 3) := by decide +kernel
theorem d_C_loadsDoneThatWait_35 : decode b_C_loadsDoneThatWait 35 = .ok (.iload_n 1, 1) := by decide +kernel
theorem d_C_loadsDoneThatWait_36 : decode b_C_loadsDoneThatWait 36 = .ok (.ireturn, 1) := by decide +kernel
theorem d_G_bitCount_0 : decode b_G_bitCount 0 = .ok (.lload_n 0, 1) := by decide +kernel
theorem d_G_bitCount_1 : decode b_G_bitCount 1 = .ok (.lload_n 0, 1) := by decide +kernel
theorem d_G_bitCount_2 : decode b_G_bitCount 2 = .ok (.iconst 1, 1) := by decide +kernel
theorem d_G_bitCount_3 : decode b_G_bitCount 3 = .ok (.lushr, 1) := by decide +kernel
theorem d_G_bitCount_4 : decode b_G_bitCount 4 = .ok (.ldc2_w 314, 3) := by decide +kernel
theorem d_G_bitCount_7 : decode b_G_bitCount 7 = .ok (.land, 1) := by decide +kernel
theorem d_G_bitCount_8 : decode b_G_bitCount 8 = .ok (.lsub, 1) := by decide +kernel
theorem d_G_bitCount_9 : decode b_G_bitCount 9 = .ok (.lstore_n 0, 1) := by decide +kernel
theorem d_G_bitCount_10 : decode b_G_bitCount 10 = .ok (.lload_n 0, 1) := by decide +kernel
theorem d_G_bitCount_11 : decode b_G_bitCount 11 = .ok (.ldc2_w 316, 3) := by decide +kernel
theorem d_G_bitCount_14 : decode b_G_bitCount 14 = .ok (.land, 1) := by decide +kernel
theorem d_G_bitCount_15 : decode b_G_bitCount 15 = .ok (.lload_n 0, 1) := by decide +kernel
theorem d_G_bitCount_16 : decode b_G_bitCount 16 = .ok (.iconst 2, 1) := by decide +kernel
theorem d_G_bitCount_17 : decode b_G_bitCount 17 = .ok (.lushr, 1) := by decide +kernel
theorem d_G_bitCount_18 : decode b_G_bitCount 18 = .ok (.ldc2_w 316, 3) := by decide +kernel
theorem d_G_bitCount_21 : decode b_G_bitCount 21 = .ok (.land, 1) := by decide +kernel
theorem d_G_bitCount_22 : decode b_G_bitCount 22 = .ok (.ladd, 1) := by decide +kernel
theorem d_G_bitCount_23 : decode b_G_bitCount 23 = .ok (.lstore_n 0, 1) := by decide +kernel
theorem d_G_bitCount_24 : decode b_G_bitCount 24 = .ok (.lload_n 0, 1) := by decide +kernel
theorem d_G_bitCount_25 : decode b_G_bitCount 25 = .ok (.lload_n 0, 1) := by decide +kernel
theorem d_G_bitCount_26 : decode b_G_bitCount 26 = .ok (.iconst 4, 1) := by decide +kernel
theorem d_G_bitCount_27 : decode b_G_bitCount 27 = .ok (.lushr, 1) := by decide +kernel
theorem d_G_bitCount_28 : decode b_G_bitCount 28 = .ok (.ladd, 1) := by decide +kernel
theorem d_G_bitCount_29 : decode b_G_bitCount 29 = .ok (.ldc2_w 318, 3) := by decide +kernel
theorem d_G_bitCount_32 : decode b_G_bitCount 32 = .ok (.land, 1) := by decide +kernel
theorem d_G_bitCount_33 : decode b_G_bitCount 33 = .ok (.lstore_n 0, 1) := by decide +kernel
theorem d_G_bitCount_34 : decode b_G_bitCount 34 = .ok (.lload_n 0, 1) := by decide +kernel
theorem d_G_bitCount_35 : decode b_G_bitCount 35 = .ok (.lload_n 0, 1) := by decide +kernel
theorem d_G_bitCount_36 : decode b_G_bitCount 36 = .ok (.bipush 8, 2) := by decide +kernel
theorem d_G_bitCount_38 : decode b_G_bitCount 38 = .ok (.lushr, 1) := by decide +kernel
theorem d_G_bitCount_39 : decode b_G_bitCount 39 = .ok (.ladd, 1) := by decide +kernel
theorem d_G_bitCount_40 : decode b_G_bitCount 40 = .ok (.lstore_n 0, 1) := by decide +kernel
theorem d_G_bitCount_41 : decode b_G_bitCount 41 = .ok (.lload_n 0, 1) := by decide +kernel
theorem d_G_bitCount_42 : decode b_G_bitCount 42 = .ok (.lload_n 0, 1) := by decide +kernel
theorem d_G_bitCount_43 : decode b_G_bitCount 43 = .ok (.bipush 16, 2) := by decide +kernel
theorem d_G_bitCount_45 : decode b_G_bitCount 45 = .ok (.lushr, 1) := by decide +kernel
theorem d_G_bitCount_46 : decode b_G_bitCount 46 = .ok (.ladd, 1) := by decide +kernel
theorem d_G_bitCount_47 : decode b_G_bitCount 47 = .ok (.lstore_n 0, 1) := by decide +kernel
theorem d_G_bitCount_48 : decode b_G_bitCount 48 = .ok (.lload_n 0, 1) := by decide +kernel
theorem d_G_bitCount_49 : decode b_G_bitCount 49 = .ok (.lload_n 0, 1) := by decide +kernel
theorem d_G_bitCount_50 : decode b_G_bitCount 50 = .ok (.bipush 32, 2) := by decide +kernel
theorem d_G_bitCount_52 : decode b_G_bitCount 52 = .ok (.lushr, 1) := by decide +kernel
theorem d_G_bitCount_53 : decode b_G_bitCount 53 = .ok (.ladd, 1) := by decide +kernel
theorem d_G_bitCount_54 : decode b_G_bitCount 54 = .ok (.lstore_n 0, 1) := by decide +kernel
theorem d_G_bitCount_55 : decode b_G_bitCount 55 = .ok (.lload_n 0, 1) := by decide +kernel
theorem d_G_bitCount_56 : decode b_G_bitCount 56 = .ok (.l2i, 1) := by decide +kernel
theorem d_G_bitCount_57 : decode b_G_bitCount 57 = .ok (.bipush 127, 2) := by decide +kernel
theorem d_G_bitCount_59 : decode b_G_bitCount 59 = .ok (.iand, 1) := by decide +kernel
theorem d_G_bitCount_60 : decode b_G_bitCount 60 = .ok (.ireturn, 1) := by decide +kernel
theorem d_L_op_0 : decode b_L_op 0 = .ok (.aload 4, 2) := by decide +kernel
theorem d_L_op_2 : decode b_L_op 2 = .ok (.iconst 0, 1) := by decide +kernel
theorem d_L_op_3 : decode b_L_op 3 = .ok (.aload_n 0, 1) := by decide +kernel
theorem d_L_op_4 : decode b_L_op 4 = .ok (.iload_n 1, 1) := by decide +kernel
theorem d_L_op_5 : decode b_L_op 5 = .ok (.iload_n 2, 1) := by decide +kernel
theorem d_L_op_6 : decode b_L_op 6 = .ok (.iload_n 3, 1) := by decide +kernel
theorem d_L_op_7 : decode b_L_op 7 = .ok (.invokevirtual 7, 3) := by decide +kernel
theorem d_L_op_10 : decode b_L_op 10 = .ok (.i2l, 1) := by decide +kernel
theorem d_L_op_11 : decode b_L_op 11 = .ok (.lastore, 1) := by decide +kernel
theorem d_L_op_12 : decode b_L_op 12 = .ok (.goto 11, 3) := by decide +kernel
theorem d_L_op_15 : decode b_L_op 15 = .ok (.astore 5, 2) := by decide +kernel
theorem d_L_op_17 : decode b_L_op 17 = .ok (.iconst 1, 1) := by decide +kernel
theorem d_L_op_18 : decode b_L_op 18 = .ok (.ireturn, 1) := by decide +kernel
theorem d_L_op_19 : decode b_L_op 19 = .ok (.astore 5, 2) := by decide +kernel
theorem d_L_op_21 : decode b_L_op 21 = .ok (.iconst 2, 1) := by decide +kernel
theorem d_L_op_22 : decode b_L_op 22 = .ok (.ireturn, 1) := by decide +kernel
theorem d_L_op_23 : decode b_L_op 23 = .ok (.iconst 0, 1) := by decide +kernel
theorem d_L_op_24 : decode b_L_op 24 = .ok (.ireturn, 1) := by decide +kernel
theorem d_C_op_0 : decode b_C_op 0 = .ok (.iload_n 1, 1) := by decide +kernel
theorem d_C_op_1 : decode b_C_op 1 = .ok (.iload_n 2, 1) := by decide +kernel
theorem d_C_op_2 : decode b_C_op 2 = .ok (.invokestatic 53, 3) := by decide +kernel
theorem d_C_op_5 : decode b_C_op 5 = .ok (.ifCond .ne 13, 3) := by decide +kernel
theorem d_C_op_8 : decode b_C_op 8 = .ok (.new 57, 3) := by decide +kernel
theorem d_C_op_11 : decode b_C_op 11 = .ok (.dup, 1) := by decide +kernel
theorem d_C_op_12 : decode b_C_op 12 = .ok (.ldc 59, 2) := by decide +kernel
theorem d_C_op_14 : decode b_C_op 14 = .ok (.invokespecial 61, 3) := by decide +kernel
theorem d_C_op_17 : decode b_C_op 17 = .ok (.athrow, 1) := by decide +kernel
theorem d_C_op_18 : decode b_C_op 18 = .ok (.aload_n 0, 1) := by decide +kernel
theorem d_C_op_19 : decode b_C_op 19 = .ok (.invokevirtual 64, 3) := by decide +kernel
theorem d_C_op_22 : decode b_C_op 22 = .ok (.bipush 32, 2) := by decide +kernel
theorem d_C_op_24 : decode b_C_op 24 = .ok (.if_icmp .lt 13, 3) := by decide +kernel
theorem d_C_op_27 : decode b_C_op 27 = .ok (.new 68, 3) := by decide +kernel
theorem d_C_op_30 : decode b_C_op 30 = .ok (.dup, 1) := by decide +kernel
theorem d_C_op_31 : decode b_C_op 31 = .ok (.ldc 70, 2) := by decide +kernel
theorem d_C_op_33 : decode b_C_op 33 = .ok (.invokespecial 72, 3) := by decide +kernel
theorem d_C_op_36 : decode b_C_op 36 = .ok (.athrow, 1) := by decide +kernel
theorem d_C_op_37 : decode b_C_op 37 = .ok (.aload_n 0, 1) := by decide +kernel
theorem d_C_op_38 : decode b_C_op 38 = .ok (.getfield 30, 3) := by decide +kernel
theorem d_C_op_41 : decode b_C_op 41 = .ok (.istore 4, 2) := by decide +kernel
theorem d_C_op_43 : decode b_C_op 43 = .ok (.aload_n 0, 1) := by decide +kernel
theorem d_C_op_44 : decode b_C_op 44 = .ok (.getfield 10, 3) := by decide +kernel
theorem d_C_op_47 : decode b_C_op 47 = .ok (.iload 4, 2) := by decide +kernel
theorem d_C_op_49 : decode b_C_op 49 = .ok (.iload_n 1, 1) := by decide +kernel
theorem d_C_op_50 : decode b_C_op 50 = .ok (.iload_n 2, 1) := by decide +kernel
theorem d_C_op_51 : decode b_C_op 51 = .ok (.iload_n 3, 1) := by decide +kernel
theorem d_C_op_52 : decode b_C_op 52 = .ok (.invokevirtual 73, 3) := by decide +kernel
theorem d_C_op_55 : decode b_C_op 55 = .ok (.aload_n 0, 1) := by decide +kernel
theorem d_C_op_56 : decode b_C_op 56 = .ok (.iload 4, 2) := by decide +kernel
theorem d_C_op_58 : decode b_C_op 58 = .ok (.iconst 1, 1) := by decide +kernel
theorem d_C_op_59 : decode b_C_op 59 = .ok (.iadd, 1) := by decide +kernel
theorem d_C_op_60 : decode b_C_op 60 = .ok (.putfield 30, 3) := by decide +kernel
theorem d_C_op_63 : decode b_C_op 63 = .ok (.iload 4, 2) := by decide +kernel
theorem d_C_op_65 : decode b_C_op 65 = .ok (.ireturn, 1) := by decide +kernel
theorem d_C_isKindWithBytes_0 : decode b_C_isKindWithBytes 0 = .ok (.iload_n 0, 1) := by decide +kernel
theorem d_C_isKindWithBytes_1 : decode b_C_isKindWithBytes 1 = .ok (.iconst 2, 1) := by decide +kernel
theorem d_C_isKindWithBytes_2 : decode b_C_isKindWithBytes 2 = .ok (.if_icmp .ne 13, 3) := by decide +kernel
theorem d_C_isKindWithBytes_5 : decode b_C_isKindWithBytes 5 = .ok (.iload_n 1, 1) := by decide +kernel
theorem d_C_isKindWithBytes_6 : decode b_C_isKindWithBytes 6 = .ok (.ifCond .ne 7, 3) := by decide +kernel
theorem d_C_isKindWithBytes_9 : decode b_C_isKindWithBytes 9 = .ok (.iconst 1, 1) := by decide +kernel
theorem d_C_isKindWithBytes_10 : decode b_C_isKindWithBytes 10 = .ok (.goto 4, 3) := by decide +kernel
theorem d_C_isKindWithBytes_13 : decode b_C_isKindWithBytes 13 = .ok (.iconst 0, 1) := by decide +kernel
theorem d_C_isKindWithBytes_14 : decode b_C_isKindWithBytes 14 = .ok (.ireturn, 1) := by decide +kernel
theorem d_C_isKindWithBytes_15 : decode b_C_isKindWithBytes 15 = .ok (.iload_n 0, 1) := by decide +kernel
theorem d_C_isKindWithBytes_16 : decode b_C_isKindWithBytes 16 = .ok (.ifCond .lt 27, 3) := by decide +kernel
theorem d_C_isKindWithBytes_19 : decode b_C_isKindWithBytes 19 = .ok (.iload_n 0, 1) := by decide +kernel
theorem d_C_isKindWithBytes_20 : decode b_C_isKindWithBytes 20 = .ok (.iconst 3, 1) := by decide +kernel
theorem d_C_isKindWithBytes_21 : decode b_C_isKindWithBytes 21 = .ok (.if_icmp .gt 22, 3) := by decide +kernel
theorem d_C_isKindWithBytes_24 : decode b_C_isKindWithBytes 24 = .ok (.iload_n 1, 1) := by decide +kernel
theorem d_C_isKindWithBytes_25 : decode b_C_isKindWithBytes 25 = .ok (.iconst 1, 1) := by decide +kernel
theorem d_C_isKindWithBytes_26 : decode b_C_isKindWithBytes 26 = .ok (.if_icmp .eq 13, 3) := by decide +kernel
theorem d_C_isKindWithBytes_29 : decode b_C_isKindWithBytes 29 = .ok (.iload_n 1, 1) := by decide +kernel
theorem d_C_isKindWithBytes_30 : decode b_C_isKindWithBytes 30 = .ok (.iconst 2, 1) := by decide +kernel
theorem d_C_isKindWithBytes_31 : decode b_C_isKindWithBytes 31 = .ok (.if_icmp .eq 8, 3) := by decide +kernel
theorem d_C_isKindWithBytes_34 : decode b_C_isKindWithBytes 34 = .ok (.iload_n 1, 1) := by decide +kernel
theorem d_C_isKindWithBytes_35 : decode b_C_isKindWithBytes 35 = .ok (.iconst 4, 1) := by decide +kernel
theorem d_C_isKindWithBytes_36 : decode b_C_isKindWithBytes 36 = .ok (.if_icmp .ne 7, 3) := by decide +kernel
theorem d_C_isKindWithBytes_39 : decode b_C_isKindWithBytes 39 = .ok (.iconst 1, 1) := by decide +kernel
theorem d_C_isKindWithBytes_40 : decode b_C_isKindWithBytes 40 = .ok (.goto 4, 3) := by decide +kernel
theorem d_C_isKindWithBytes_43 : decode b_C_isKindWithBytes 43 = .ok (.iconst 0, 1) := by decide +kernel
theorem d_C_isKindWithBytes_44 : decode b_C_isKindWithBytes 44 = .ok (.ireturn, 1) := by decide +kernel
theorem d_O_begin_0 : decode b_O_begin 0 = .ok (.iload_n 1, 1) := by decide +kernel
theorem d_O_begin_1 : decode b_O_begin 1 = .ok (.bipush 127, 2) := by decide +kernel
theorem d_O_begin_3 : decode b_O_begin 3 = .ok (.iand, 1) := by decide +kernel
theorem d_O_begin_4 : decode b_O_begin 4 = .ok (.istore 5, 2) := by decide +kernel
theorem d_O_begin_6 : decode b_O_begin 6 = .ok (.aload_n 0, 1) := by decide +kernel
theorem d_O_begin_7 : decode b_O_begin 7 = .ok (.getfield 11, 3) := by decide +kernel
theorem d_O_begin_10 : decode b_O_begin 10 = .ok (.iload 5, 2) := by decide +kernel
theorem d_O_begin_12 : decode b_O_begin 12 = .ok (.iload_n 2, 1) := by decide +kernel
theorem d_O_begin_13 : decode b_O_begin 13 = .ok (.iastore, 1) := by decide +kernel
theorem d_O_begin_14 : decode b_O_begin 14 = .ok (.aload_n 0, 1) := by decide +kernel
theorem d_O_begin_15 : decode b_O_begin 15 = .ok (.getfield 15, 3) := by decide +kernel
theorem d_O_begin_18 : decode b_O_begin 18 = .ok (.iload 5, 2) := by decide +kernel
theorem d_O_begin_20 : decode b_O_begin 20 = .ok (.iload_n 3, 1) := by decide +kernel
theorem d_O_begin_21 : decode b_O_begin 21 = .ok (.iastore, 1) := by decide +kernel
theorem d_O_begin_22 : decode b_O_begin 22 = .ok (.aload_n 0, 1) := by decide +kernel
theorem d_O_begin_23 : decode b_O_begin 23 = .ok (.getfield 18, 3) := by decide +kernel
theorem d_O_begin_26 : decode b_O_begin 26 = .ok (.iload 5, 2) := by decide +kernel
theorem d_O_begin_28 : decode b_O_begin 28 = .ok (.iload 4, 2) := by decide +kernel
theorem d_O_begin_30 : decode b_O_begin 30 = .ok (.iastore, 1) := by decide +kernel
theorem d_O_begin_31 : decode b_O_begin 31 = .ok (.aload_n 0, 1) := by decide +kernel
theorem d_O_begin_32 : decode b_O_begin 32 = .ok (.getfield 24, 3) := by decide +kernel
theorem d_O_begin_35 : decode b_O_begin 35 = .ok (.iload 5, 2) := by decide +kernel
theorem d_O_begin_37 : decode b_O_begin 37 = .ok (.iconst 0, 1) := by decide +kernel
theorem d_O_begin_38 : decode b_O_begin 38 = .ok (.bastore, 1) := by decide +kernel
theorem d_O_begin_39 : decode b_O_begin 39 = .ok (.aload_n 0, 1) := by decide +kernel
theorem d_O_begin_40 : decode b_O_begin 40 = .ok (.getfield 31, 3) := by decide +kernel
theorem d_O_begin_43 : decode b_O_begin 43 = .ok (.iload 5, 2) := by decide +kernel
theorem d_O_begin_45 : decode b_O_begin 45 = .ok (.iconst 0, 1) := by decide +kernel
theorem d_O_begin_46 : decode b_O_begin 46 = .ok (.bastore, 1) := by decide +kernel
theorem d_O_begin_47 : decode b_O_begin 47 = .ok (.aload_n 0, 1) := by decide +kernel
theorem d_O_begin_48 : decode b_O_begin 48 = .ok (.getfield 34, 3) := by decide +kernel
theorem d_O_begin_51 : decode b_O_begin 51 = .ok (.iload 5, 2) := by decide +kernel
theorem d_O_begin_53 : decode b_O_begin 53 = .ok (.iconst 0, 1) := by decide +kernel
theorem d_O_begin_54 : decode b_O_begin 54 = .ok (.bastore, 1) := by decide +kernel
theorem d_O_begin_55 : decode b_O_begin 55 = .ok (.return_, 1) := by decide +kernel
theorem d_L_address_0 : decode b_L_address 0 = .ok (.aload_n 3, 1) := by decide +kernel
theorem d_L_address_1 : decode b_L_address 1 = .ok (.iconst 0, 1) := by decide +kernel
end
section
theorem d_L_address_2 : decode b_L_address 2 = .ok (.aload_n 0, 1) := by decide +kernel
theorem d_L_address_3 : decode b_L_address 3 = .ok (.iload_n 1, 1) := by decide +kernel
theorem d_L_address_4 : decode b_L_address 4 = .ok (.iload_n 2, 1) := by decide +kernel
theorem d_L_address_5 : decode b_L_address 5 = .ok (.invokevirtual 17, 3) := by decide +kernel
theorem d_L_address_8 : decode b_L_address 8 = .ok (.i2l, 1) := by decide +kernel
theorem d_L_address_9 : decode b_L_address 9 = .ok (.lastore, 1) := by decide +kernel
theorem d_L_address_10 : decode b_L_address 10 = .ok (.goto 11, 3) := by decide +kernel
theorem d_L_address_13 : decode b_L_address 13 = .ok (.astore 4, 2) := by decide +kernel
theorem d_L_address_15 : decode b_L_address 15 = .ok (.iconst 1, 1) := by decide +kernel
theorem d_L_address_16 : decode b_L_address 16 = .ok (.ireturn, 1) := by decide +kernel
theorem d_L_address_17 : decode b_L_address 17 = .ok (.astore 4, 2) := by decide +kernel
theorem d_L_address_19 : decode b_L_address 19 = .ok (.iconst 2, 1) := by decide +kernel
theorem d_L_address_20 : decode b_L_address 20 = .ok (.ireturn, 1) := by decide +kernel
theorem d_L_address_21 : decode b_L_address 21 = .ok (.iconst 0, 1) := by decide +kernel
theorem d_L_address_22 : decode b_L_address 22 = .ok (.ireturn, 1) := by decide +kernel
theorem d_C_address_0 : decode b_C_address 0 = .ok (.aload_n 0, 1) := by decide +kernel
theorem d_C_address_1 : decode b_C_address 1 = .ok (.iload_n 1, 1) := by decide +kernel
theorem d_C_address_2 : decode b_C_address 2 = .ok (.invokevirtual 77, 3) := by decide +kernel
theorem d_C_address_5 : decode b_C_address 5 = .ok (.aload_n 0, 1) := by decide +kernel
theorem d_C_address_6 : decode b_C_address 6 = .ok (.iload_n 1, 1) := by decide +kernel
theorem d_C_address_7 : decode b_C_address 7 = .ok (.invokevirtual 81, 3) := by decide +kernel
theorem d_C_address_10 : decode b_C_address 10 = .ok (.ifCond .eq 26, 3) := by decide +kernel
theorem d_C_address_13 : decode b_C_address 13 = .ok (.aload_n 0, 1) := by decide +kernel
theorem d_C_address_14 : decode b_C_address 14 = .ok (.getfield 10, 3) := by decide +kernel
theorem d_C_address_17 : decode b_C_address 17 = .ok (.iload_n 1, 1) := by decide +kernel
theorem d_C_address_18 : decode b_C_address 18 = .ok (.invokevirtual 85, 3) := by decide +kernel
theorem d_C_address_21 : decode b_C_address 21 = .ok (.iconst 2, 1) := by decide +kernel
theorem d_C_address_22 : decode b_C_address 22 = .ok (.if_icmp .eq 14, 3) := by decide +kernel
theorem d_C_address_25 : decode b_C_address 25 = .ok (.aload_n 0, 1) := by decide +kernel
theorem d_C_address_26 : decode b_C_address 26 = .ok (.getfield 10, 3) := by decide +kernel
theorem d_C_address_29 : decode b_C_address 29 = .ok (.iload_n 1, 1) := by decide +kernel
theorem d_C_address_30 : decode b_C_address 30 = .ok (.invokevirtual 89, 3) := by decide +kernel
theorem d_C_address_33 : decode b_C_address 33 = .ok (.ifCond .eq 13, 3) := by decide +kernel
theorem d_C_address_36 : decode b_C_address 36 = .ok (.new 57, 3) := by decide +kernel
theorem d_C_address_39 : decode b_C_address 39 = .ok (.dup, 1) := by decide +kernel
theorem d_C_address_40 : decode b_C_address 40 = .ok (.ldc 92, 2) := by decide +kernel
theorem d_C_address_42 : decode b_C_address 42 = .ok (.invokespecial 61, 3) := by decide +kernel
theorem d_C_address_45 : decode b_C_address 45 = .ok (.athrow, 1) := by decide +kernel
theorem d_C_address_46 : decode b_C_address 46 = .ok (.iload_n 2, 1) := by decide +kernel
theorem d_C_address_47 : decode b_C_address 47 = .ok (.aload_n 0, 1) := by decide +kernel
theorem d_C_address_48 : decode b_C_address 48 = .ok (.getfield 10, 3) := by decide +kernel
theorem d_C_address_51 : decode b_C_address 51 = .ok (.iload_n 1, 1) := by decide +kernel
theorem d_C_address_52 : decode b_C_address 52 = .ok (.invokevirtual 94, 3) := by decide +kernel
theorem d_C_address_55 : decode b_C_address 55 = .ok (.invokestatic 97, 3) := by decide +kernel
theorem d_C_address_58 : decode b_C_address 58 = .ok (.ifCond .ne 13, 3) := by decide +kernel
theorem d_C_address_61 : decode b_C_address 61 = .ok (.new 57, 3) := by decide +kernel
theorem d_C_address_64 : decode b_C_address 64 = .ok (.dup, 1) := by decide +kernel
theorem d_C_address_65 : decode b_C_address 65 = .ok (.ldc 100, 2) := by decide +kernel
theorem d_C_address_67 : decode b_C_address 67 = .ok (.invokespecial 61, 3) := by decide +kernel
theorem d_C_address_70 : decode b_C_address 70 = .ok (.athrow, 1) := by decide +kernel
theorem d_C_address_71 : decode b_C_address 71 = .ok (.aload_n 0, 1) := by decide +kernel
theorem d_C_address_72 : decode b_C_address 72 = .ok (.getfield 10, 3) := by decide +kernel
theorem d_C_address_75 : decode b_C_address 75 = .ok (.iload_n 1, 1) := by decide +kernel
theorem d_C_address_76 : decode b_C_address 76 = .ok (.iload_n 2, 1) := by decide +kernel
theorem d_C_address_77 : decode b_C_address 77 = .ok (.invokevirtual 102, 3) := by decide +kernel
theorem d_C_address_80 : decode b_C_address 80 = .ok (.aload_n 0, 1) := by decide +kernel
theorem d_C_address_81 : decode b_C_address 81 = .ok (.getfield 10, 3) := by decide +kernel
theorem d_C_address_84 : decode b_C_address 84 = .ok (.iload_n 1, 1) := by decide +kernel
theorem d_C_address_85 : decode b_C_address 85 = .ok (.invokevirtual 85, 3) := by decide +kernel
theorem d_C_address_88 : decode b_C_address 88 = .ok (.iconst 1, 1) := by decide +kernel
theorem d_C_address_89 : decode b_C_address 89 = .ok (.if_icmp .eq 5, 3) := by decide +kernel
theorem d_C_address_92 : decode b_C_address 92 = .ok (.iconst 0, 1) := by decide +kernel
theorem d_C_address_93 : decode b_C_address 93 = .ok (.ireturn, 1) := by decide +kernel
theorem d_C_address_94 : decode b_C_address 94 = .ok (.aload_n 0, 1) := by decide +kernel
theorem d_C_address_95 : decode b_C_address 95 = .ok (.iload_n 1, 1) := by decide +kernel
theorem d_C_address_96 : decode b_C_address 96 = .ok (.invokevirtual 106, 3) := by decide +kernel
theorem d_C_address_99 : decode b_C_address 99 = .ok (.istore_n 3, 1) := by decide +kernel
theorem d_C_address_100 : decode b_C_address 100 = .ok (.iload_n 3, 1) := by decide +kernel
theorem d_C_address_101 : decode b_C_address 101 = .ok (.iconst (-1), 1) := by decide +kernel
theorem d_C_address_102 : decode b_C_address 102 = .ok (.if_icmp .ne 5, 3) := by decide +kernel
theorem d_C_address_105 : decode b_C_address 105 = .ok (.iconst 0, 1) := by decide +kernel
theorem d_C_address_106 : decode b_C_address 106 = .ok (.ireturn, 1) := by decide +kernel
theorem d_C_address_107 : decode b_C_address 107 = .ok (.aload_n 0, 1) := by decide +kernel
theorem d_C_address_108 : decode b_C_address 108 = .ok (.aload_n 0, 1) := by decide +kernel
theorem d_C_address_109 : decode b_C_address 109 = .ok (.getfield 10, 3) := by decide +kernel
theorem d_C_address_112 : decode b_C_address 112 = .ok (.iload_n 3, 1) := by decide +kernel
theorem d_C_address_113 : decode b_C_address 113 = .ok (.invokevirtual 109, 3) := by decide +kernel
theorem d_C_address_116 : decode b_C_address 116 = .ok (.invokevirtual 112, 3) := by decide +kernel
theorem d_C_address_119 : decode b_C_address 119 = .ok (.aload_n 0, 1) := by decide +kernel
theorem d_C_address_120 : decode b_C_address 120 = .ok (.iload_n 3, 1) := by decide +kernel
theorem d_C_address_121 : decode b_C_address 121 = .ok (.invokevirtual 115, 3) := by decide +kernel
theorem d_C_address_124 : decode b_C_address 124 = .ok (.ireturn, 1) := by decide +kernel
theorem d_C_requireOp_0 : decode b_C_requireOp 0 = .ok (.iload_n 1, 1) := by decide +kernel
theorem d_C_requireOp_1 : decode b_C_requireOp 1 = .ok (.ifCond .lt 11, 3) := by decide +kernel
theorem d_C_requireOp_4 : decode b_C_requireOp 4 = .ok (.iload_n 1, 1) := by decide +kernel
theorem d_C_requireOp_5 : decode b_C_requireOp 5 = .ok (.aload_n 0, 1) := by decide +kernel
theorem d_C_requireOp_6 : decode b_C_requireOp 6 = .ok (.getfield 30, 3) := by decide +kernel
theorem d_C_requireOp_9 : decode b_C_requireOp 9 = .ok (.if_icmp .lt 13, 3) := by decide +kernel
theorem d_C_requireOp_12 : decode b_C_requireOp 12 = .ok (.new 220, 3) := by decide +kernel
theorem d_C_requireOp_15 : decode b_C_requireOp 15 = .ok (.dup, 1) := by decide +kernel
theorem d_C_requireOp_16 : decode b_C_requireOp 16 = .ok (.ldc 222, 2) := by decide +kernel
theorem d_C_requireOp_18 : decode b_C_requireOp 18 = .ok (.invokespecial 224, 3) := by decide +kernel
theorem d_C_requireOp_21 : decode b_C_requireOp 21 = .ok (.athrow, 1) := by decide +kernel
theorem d_C_requireOp_22 : decode b_C_requireOp 22 = .ok (.return_, 1) := by decide +kernel
theorem d_C_waits_0 : decode b_C_waits 0 = .ok (.iload_n 1, 1) := by decide +kernel
theorem d_C_waits_1 : decode b_C_waits 1 = .ok (.aload_n 0, 1) := by decide +kernel
theorem d_C_waits_2 : decode b_C_waits 2 = .ok (.getfield 34, 3) := by decide +kernel
theorem d_C_waits_5 : decode b_C_waits 5 = .ok (.if_icmp .lt 15, 3) := by decide +kernel
theorem d_C_waits_8 : decode b_C_waits 8 = .ok (.iload_n 1, 1) := by decide +kernel
theorem d_C_waits_9 : decode b_C_waits 9 = .ok (.aload_n 0, 1) := by decide +kernel
theorem d_C_waits_10 : decode b_C_waits 10 = .ok (.getfield 30, 3) := by decide +kernel
theorem d_C_waits_13 : decode b_C_waits 13 = .ok (.if_icmp .ge 7, 3) := by decide +kernel
theorem d_C_waits_16 : decode b_C_waits 16 = .ok (.iconst 1, 1) := by decide +kernel
theorem d_C_waits_17 : decode b_C_waits 17 = .ok (.goto 4, 3) := by decide +kernel
theorem d_C_waits_20 : decode b_C_waits 20 = .ok (.iconst 0, 1) := by decide +kernel
theorem d_C_waits_21 : decode b_C_waits 21 = .ok (.ireturn, 1) := by decide +kernel
theorem d_C_canBeAddress_0 : decode b_C_canBeAddress 0 = .ok (.iload_n 0, 1) := by decide +kernel
theorem d_C_canBeAddress_1 : decode b_C_canBeAddress 1 = .ok (.ifCond .lt 12, 3) := by decide +kernel
theorem d_C_canBeAddress_4 : decode b_C_canBeAddress 4 = .ok (.iload_n 0, 1) := by decide +kernel
theorem d_C_canBeAddress_5 : decode b_C_canBeAddress 5 = .ok (.sipush 4096, 3) := by decide +kernel
theorem d_C_canBeAddress_8 : decode b_C_canBeAddress 8 = .ok (.iload_n 1, 1) := by decide +kernel
theorem d_C_canBeAddress_9 : decode b_C_canBeAddress 9 = .ok (.isub, 1) := by decide +kernel
theorem d_C_canBeAddress_10 : decode b_C_canBeAddress 10 = .ok (.if_icmp .le 5, 3) := by decide +kernel
theorem d_C_canBeAddress_13 : decode b_C_canBeAddress 13 = .ok (.iconst 0, 1) := by decide +kernel
theorem d_C_canBeAddress_14 : decode b_C_canBeAddress 14 = .ok (.ireturn, 1) := by decide +kernel
theorem d_C_canBeAddress_15 : decode b_C_canBeAddress 15 = .ok (.iload_n 0, 1) := by decide +kernel
theorem d_C_canBeAddress_16 : decode b_C_canBeAddress 16 = .ok (.invokestatic 217, 3) := by decide +kernel
theorem d_C_canBeAddress_19 : decode b_C_canBeAddress 19 = .ok (.ifCond .ne 12, 3) := by decide +kernel
theorem d_C_canBeAddress_22 : decode b_C_canBeAddress 22 = .ok (.iload_n 0, 1) := by decide +kernel
theorem d_C_canBeAddress_23 : decode b_C_canBeAddress 23 = .ok (.iload_n 1, 1) := by decide +kernel
theorem d_C_canBeAddress_24 : decode b_C_canBeAddress 24 = .ok (.iadd, 1) := by decide +kernel
theorem d_C_canBeAddress_25 : decode b_C_canBeAddress 25 = .ok (.sipush 3072, 3) := by decide +kernel
theorem d_C_canBeAddress_28 : decode b_C_canBeAddress 28 = .ok (.if_icmp .gt 7, 3) := by decide +kernel
theorem d_C_canBeAddress_31 : decode b_C_canBeAddress 31 = .ok (.iconst 1, 1) := by decide +kernel
theorem d_C_canBeAddress_32 : decode b_C_canBeAddress 32 = .ok (.goto 4, 3) := by decide +kernel
theorem d_C_canBeAddress_35 : decode b_C_canBeAddress 35 = .ok (.iconst 0, 1) := by decide +kernel
theorem d_C_canBeAddress_36 : decode b_C_canBeAddress 36 = .ok (.ireturn, 1) := by decide +kernel
theorem d_O_setAddress_0 : decode b_O_setAddress 0 = .ok (.aload_n 0, 1) := by decide +kernel
theorem d_O_setAddress_1 : decode b_O_setAddress 1 = .ok (.getfield 21, 3) := by decide +kernel
theorem d_O_setAddress_4 : decode b_O_setAddress 4 = .ok (.iload_n 1, 1) := by decide +kernel
theorem d_O_setAddress_5 : decode b_O_setAddress 5 = .ok (.bipush 127, 2) := by decide +kernel
theorem d_O_setAddress_7 : decode b_O_setAddress 7 = .ok (.iand, 1) := by decide +kernel
theorem d_O_setAddress_8 : decode b_O_setAddress 8 = .ok (.iload_n 2, 1) := by decide +kernel
theorem d_O_setAddress_9 : decode b_O_setAddress 9 = .ok (.iastore, 1) := by decide +kernel
theorem d_O_setAddress_10 : decode b_O_setAddress 10 = .ok (.aload_n 0, 1) := by decide +kernel
theorem d_O_setAddress_11 : decode b_O_setAddress 11 = .ok (.getfield 24, 3) := by decide +kernel
theorem d_O_setAddress_14 : decode b_O_setAddress 14 = .ok (.iload_n 1, 1) := by decide +kernel
theorem d_O_setAddress_15 : decode b_O_setAddress 15 = .ok (.bipush 127, 2) := by decide +kernel
theorem d_O_setAddress_17 : decode b_O_setAddress 17 = .ok (.iand, 1) := by decide +kernel
theorem d_O_setAddress_18 : decode b_O_setAddress 18 = .ok (.iconst 1, 1) := by decide +kernel
theorem d_O_setAddress_19 : decode b_O_setAddress 19 = .ok (.bastore, 1) := by decide +kernel
theorem d_O_setAddress_20 : decode b_O_setAddress 20 = .ok (.return_, 1) := by decide +kernel
theorem d_C_oldestLoadPast_0 : decode b_C_oldestLoadPast 0 = .ok (.iload_n 1, 1) := by decide +kernel
theorem d_C_oldestLoadPast_1 : decode b_C_oldestLoadPast 1 = .ok (.iconst 1, 1) := by decide +kernel
theorem d_C_oldestLoadPast_2 : decode b_C_oldestLoadPast 2 = .ok (.iadd, 1) := by decide +kernel
theorem d_C_oldestLoadPast_3 : decode b_C_oldestLoadPast 3 = .ok (.istore_n 2, 1) := by decide +kernel
theorem d_C_oldestLoadPast_4 : decode b_C_oldestLoadPast 4 = .ok (.iload_n 2, 1) := by decide +kernel
theorem d_C_oldestLoadPast_5 : decode b_C_oldestLoadPast 5 = .ok (.aload_n 0, 1) := by decide +kernel
theorem d_C_oldestLoadPast_6 : decode b_C_oldestLoadPast 6 = .ok (.getfield 30, 3) := by decide +kernel
theorem d_C_oldestLoadPast_9 : decode b_C_oldestLoadPast 9 = .ok (.if_icmp .ge 31, 3) := by decide +kernel
theorem d_C_oldestLoadPast_12 : decode b_C_oldestLoadPast 12 = .ok (.aload_n 0, 1) := by decide +kernel
theorem d_C_oldestLoadPast_13 : decode b_C_oldestLoadPast 13 = .ok (.getfield 10, 3) := by decide +kernel
theorem d_C_oldestLoadPast_16 : decode b_C_oldestLoadPast 16 = .ok (.iload_n 2, 1) := by decide +kernel
theorem d_C_oldestLoadPast_17 : decode b_C_oldestLoadPast 17 = .ok (.invokevirtual 129, 3) := by decide +kernel
theorem d_C_oldestLoadPast_20 : decode b_C_oldestLoadPast 20 = .ok (.ifCond .eq 14, 3) := by decide +kernel
theorem d_C_oldestLoadPast_23 : decode b_C_oldestLoadPast 23 = .ok (.aload_n 0, 1) := by decide +kernel
theorem d_C_oldestLoadPast_24 : decode b_C_oldestLoadPast 24 = .ok (.iload_n 2, 1) := by decide +kernel
theorem d_C_oldestLoadPast_25 : decode b_C_oldestLoadPast 25 = .ok (.iload_n 1, 1) := by decide +kernel
theorem d_C_oldestLoadPast_26 : decode b_C_oldestLoadPast 26 = .ok (.invokevirtual 252, 3) := by decide +kernel
theorem d_C_oldestLoadPast_29 : decode b_C_oldestLoadPast 29 = .ok (.ifCond .eq 5, 3) := by decide +kernel
theorem d_C_oldestLoadPast_32 : decode b_C_oldestLoadPast 32 = .ok (.iload_n 2, 1) := by decide +kernel
theorem d_C_oldestLoadPast_33 : decode b_C_oldestLoadPast 33 = .ok (.ireturn, 1) := by decide +kernel
theorem d_C_oldestLoadPast_34 : decode b_C_oldestLoadPast 34 = .ok (.iinc 2 1, 3) := by decide +kernel
theorem d_C_oldestLoadPast_37 : decode b_C_oldestLoadPast 37 = .ok (.goto (-33), 3) := by decide +kernel
theorem d_C_oldestLoadPast_40 : decode b_C_oldestLoadPast 40 = .ok (.iconst (-1), 1) := by decide +kernel
theorem d_C_oldestLoadPast_41 : decode b_C_oldestLoadPast 41 = .ok (.ireturn, 1) := by decide +kernel
theorem d_C_missedByteOf_0 : decode b_C_missedByteOf 0 = .ok (.aload_n 0, 1) := by decide +kernel
theorem d_C_missedByteOf_1 : decode b_C_missedByteOf 1 = .ok (.getfield 10, 3) := by decide +kernel
theorem d_C_missedByteOf_4 : decode b_C_missedByteOf 4 = .ok (.iload_n 1, 1) := by decide +kernel
theorem d_C_missedByteOf_5 : decode b_C_missedByteOf 5 = .ok (.invokevirtual 225, 3) := by decide +kernel
theorem d_C_missedByteOf_8 : decode b_C_missedByteOf 8 = .ok (.istore_n 3, 1) := by decide +kernel
theorem d_C_missedByteOf_9 : decode b_C_missedByteOf 9 = .ok (.iconst 0, 1) := by decide +kernel
theorem d_C_missedByteOf_10 : decode b_C_missedByteOf 10 = .ok (.istore 4, 2) := by decide +kernel
theorem d_C_missedByteOf_12 : decode b_C_missedByteOf 12 = .ok (.iload 4, 2) := by decide +kernel
theorem d_C_missedByteOf_14 : decode b_C_missedByteOf 14 = .ok (.aload_n 0, 1) := by decide +kernel
theorem d_C_missedByteOf_15 : decode b_C_missedByteOf 15 = .ok (.getfield 10, 3) := by decide +kernel
theorem d_C_missedByteOf_18 : decode b_C_missedByteOf 18 = .ok (.iload_n 1, 1) := by decide +kernel
theorem d_C_missedByteOf_19 : decode b_C_missedByteOf 19 = .ok (.invokevirtual 94, 3) := by decide +kernel
theorem d_C_missedByteOf_22 : decode b_C_missedByteOf 22 = .ok (.if_icmp .ge 40, 3) := by decide +kernel
theorem d_C_missedByteOf_25 : decode b_C_missedByteOf 25 = .ok (.aload_n 0, 1) := by decide +kernel
theorem d_C_missedByteOf_26 : decode b_C_missedByteOf 26 = .ok (.getfield 10, 3) := by decide +kernel
theorem d_C_missedByteOf_29 : decode b_C_missedByteOf 29 = .ok (.iload_n 2, 1) := by decide +kernel
theorem d_C_missedByteOf_30 : decode b_C_missedByteOf 30 = .ok (.iload_n 3, 1) := by decide +kernel
theorem d_C_missedByteOf_31 : decode b_C_missedByteOf 31 = .ok (.iload 4, 2) := by decide +kernel
theorem d_C_missedByteOf_33 : decode b_C_missedByteOf 33 = .ok (.iadd, 1) := by decide +kernel
theorem d_C_missedByteOf_34 : decode b_C_missedByteOf 34 = .ok (.invokevirtual 231, 3) := by decide +kernel
theorem d_C_missedByteOf_37 : decode b_C_missedByteOf 37 = .ok (.ifCond .eq 19, 3) := by decide +kernel
theorem d_C_missedByteOf_40 : decode b_C_missedByteOf 40 = .ok (.aload_n 0, 1) := by decide +kernel
theorem d_C_missedByteOf_41 : decode b_C_missedByteOf 41 = .ok (.getfield 10, 3) := by decide +kernel
theorem d_C_missedByteOf_44 : decode b_C_missedByteOf 44 = .ok (.iload_n 1, 1) := by decide +kernel
theorem d_C_missedByteOf_45 : decode b_C_missedByteOf 45 = .ok (.iload 4, 2) := by decide +kernel
theorem d_C_missedByteOf_47 : decode b_C_missedByteOf 47 = .ok (.invokevirtual 166, 3) := by decide +kernel
theorem d_C_missedByteOf_50 : decode b_C_missedByteOf 50 = .ok (.iload_n 2, 1) := by decide +kernel
theorem d_C_missedByteOf_51 : decode b_C_missedByteOf 51 = .ok (.if_icmp .ge 5, 3) := by decide +kernel
theorem d_C_missedByteOf_54 : decode b_C_missedByteOf 54 = .ok (.iconst 1, 1) := by decide +kernel
theorem d_C_missedByteOf_55 : decode b_C_missedByteOf 55 = .ok (.ireturn, 1) := by decide +kernel
theorem d_C_missedByteOf_56 : decode b_C_missedByteOf 56 = .ok (.iinc 4 1, 3) := by decide +kernel
theorem d_C_missedByteOf_59 : decode b_C_missedByteOf 59 = .ok (.goto (-47), 3) := by decide +kernel
theorem d_C_missedByteOf_62 : decode b_C_missedByteOf 62 = .ok (.iconst 0, 1) := by decide +kernel
theorem d_C_missedByteOf_63 : decode b_C_missedByteOf 63 = .ok (.ireturn, 1) := by decide +kernel
theorem d_O_covers_0 : decode b_O_covers 0 = .ok (.aload_n 0, 1) := by decide +kernel
theorem d_O_covers_1 : decode b_O_covers 1 = .ok (.iload_n 1, 1) := by decide +kernel
theorem d_O_covers_2 : decode b_O_covers 2 = .ok (.invokevirtual 54, 3) := by decide +kernel
theorem d_O_covers_5 : decode b_O_covers 5 = .ok (.istore_n 3, 1) := by decide +kernel
theorem d_O_covers_6 : decode b_O_covers 6 = .ok (.aload_n 0, 1) := by decide +kernel
theorem d_O_covers_7 : decode b_O_covers 7 = .ok (.iload_n 1, 1) := by decide +kernel
theorem d_O_covers_8 : decode b_O_covers 8 = .ok (.invokevirtual 43, 3) := by decide +kernel
theorem d_O_covers_11 : decode b_O_covers 11 = .ok (.ifCond .eq 23, 3) := by decide +kernel
theorem d_O_covers_14 : decode b_O_covers 14 = .ok (.iload_n 2, 1) := by decide +kernel
theorem d_O_covers_15 : decode b_O_covers 15 = .ok (.iload_n 3, 1) := by decide +kernel
theorem d_O_covers_16 : decode b_O_covers 16 = .ok (.if_icmp .lt 18, 3) := by decide +kernel
theorem d_O_covers_19 : decode b_O_covers 19 = .ok (.iload_n 2, 1) := by decide +kernel
theorem d_O_covers_20 : decode b_O_covers 20 = .ok (.iload_n 3, 1) := by decide +kernel
theorem d_O_covers_21 : decode b_O_covers 21 = .ok (.aload_n 0, 1) := by decide +kernel
theorem d_O_covers_22 : decode b_O_covers 22 = .ok (.iload_n 1, 1) := by decide +kernel
theorem d_O_covers_23 : decode b_O_covers 23 = .ok (.invokevirtual 58, 3) := by decide +kernel
theorem d_O_covers_26 : decode b_O_covers 26 = .ok (.iadd, 1) := by decide +kernel
theorem d_O_covers_27 : decode b_O_covers 27 = .ok (.if_icmp .ge 7, 3) := by decide +kernel
theorem d_O_covers_30 : decode b_O_covers 30 = .ok (.iconst 1, 1) := by decide +kernel
theorem d_O_covers_31 : decode b_O_covers 31 = .ok (.goto 4, 3) := by decide +kernel
theorem d_O_covers_34 : decode b_O_covers 34 = .ok (.iconst 0, 1) := by decide +kernel
theorem d_O_covers_35 : decode b_O_covers 35 = .ok (.ireturn, 1) := by decide +kernel
theorem d_O_sourceOf_0 : decode b_O_sourceOf 0 = .ok (.aload_n 0, 1) := by decide +kernel
theorem d_O_sourceOf_1 : decode b_O_sourceOf 1 = .ok (.getfield 40, 3) := by decide +kernel
theorem d_O_sourceOf_4 : decode b_O_sourceOf 4 = .ok (.iload_n 1, 1) := by decide +kernel
theorem d_O_sourceOf_5 : decode b_O_sourceOf 5 = .ok (.iload_n 2, 1) := by decide +kernel
theorem d_O_sourceOf_6 : decode b_O_sourceOf 6 = .ok (.invokestatic 50, 3) := by decide +kernel
theorem d_O_sourceOf_9 : decode b_O_sourceOf 9 = .ok (.iaload, 1) := by decide +kernel
theorem d_O_sourceOf_10 : decode b_O_sourceOf 10 = .ok (.ireturn, 1) := by decide +kernel
theorem d_O_sourceSlot_0 : decode b_O_sourceSlot 0 = .ok (.iload_n 0, 1) := by decide +kernel
theorem d_O_sourceSlot_1 : decode b_O_sourceSlot 1 = .ok (.bipush 127, 2) := by decide +kernel
theorem d_O_sourceSlot_3 : decode b_O_sourceSlot 3 = .ok (.iand, 1) := by decide +kernel
theorem d_O_sourceSlot_4 : decode b_O_sourceSlot 4 = .ok (.iconst 4, 1) := by decide +kernel
theorem d_O_sourceSlot_5 : decode b_O_sourceSlot 5 = .ok (.imul, 1) := by decide +kernel
theorem d_O_sourceSlot_6 : decode b_O_sourceSlot 6 = .ok (.iload_n 1, 1) := by decide +kernel
theorem d_O_sourceSlot_7 : decode b_O_sourceSlot 7 = .ok (.iconst 3, 1) := by decide +kernel
theorem d_O_sourceSlot_8 : decode b_O_sourceSlot 8 = .ok (.iand, 1) := by decide +kernel
theorem d_O_sourceSlot_9 : decode b_O_sourceSlot 9 = .ok (.iadd, 1) := by decide +kernel
theorem d_O_sourceSlot_10 : decode b_O_sourceSlot 10 = .ok (.ireturn, 1) := by decide +kernel
theorem d_O_programOf_0 : decode b_O_programOf 0 = .ok (.aload_n 0, 1) := by decide +kernel
theorem d_O_programOf_1 : decode b_O_programOf 1 = .ok (.getfield 18, 3) := by decide +kernel
theorem d_O_programOf_4 : decode b_O_programOf 4 = .ok (.iload_n 1, 1) := by decide +kernel
theorem d_O_programOf_5 : decode b_O_programOf 5 = .ok (.bipush 127, 2) := by decide +kernel
theorem d_O_programOf_7 : decode b_O_programOf 7 = .ok (.iand, 1) := by decide +kernel
theorem d_O_programOf_8 : decode b_O_programOf 8 = .ok (.iaload, 1) := by decide +kernel
theorem d_O_programOf_9 : decode b_O_programOf 9 = .ok (.ireturn, 1) := by decide +kernel
theorem d_C_mark_0 : decode b_C_mark 0 = .ok (.aload_n 0, 1) := by decide +kernel
theorem d_C_mark_1 : decode b_C_mark 1 = .ok (.aload_n 0, 1) := by decide +kernel
theorem d_C_mark_2 : decode b_C_mark 2 = .ok (.getfield 37, 3) := by decide +kernel
theorem d_C_mark_5 : decode b_C_mark 5 = .ok (.lconst 1, 1) := by decide +kernel
theorem d_C_mark_6 : decode b_C_mark 6 = .ok (.iload_n 1, 1) := by decide +kernel
theorem d_C_mark_7 : decode b_C_mark 7 = .ok (.bipush 63, 2) := by decide +kernel
theorem d_C_mark_9 : decode b_C_mark 9 = .ok (.iand, 1) := by decide +kernel
theorem d_C_mark_10 : decode b_C_mark 10 = .ok (.lshl, 1) := by decide +kernel
theorem d_C_mark_11 : decode b_C_mark 11 = .ok (.lor, 1) := by decide +kernel
theorem d_C_mark_12 : decode b_C_mark 12 = .ok (.putfield 37, 3) := by decide +kernel
theorem d_C_mark_15 : decode b_C_mark 15 = .ok (.return_, 1) := by decide +kernel
theorem d_C_undoWrong_0 : decode b_C_undoWrong 0 = .ok (.iconst 0, 1) := by decide +kernel
theorem d_C_undoWrong_1 : decode b_C_undoWrong 1 = .ok (.istore_n 2, 1) := by decide +kernel
theorem d_C_undoWrong_2 : decode b_C_undoWrong 2 = .ok (.iload_n 1, 1) := by decide +kernel
theorem d_C_undoWrong_3 : decode b_C_undoWrong 3 = .ok (.istore_n 3, 1) := by decide +kernel
theorem d_C_undoWrong_4 : decode b_C_undoWrong 4 = .ok (.iload_n 3, 1) := by decide +kernel
theorem d_C_undoWrong_5 : decode b_C_undoWrong 5 = .ok (.aload_n 0, 1) := by decide +kernel
theorem d_C_undoWrong_6 : decode b_C_undoWrong 6 = .ok (.getfield 30, 3) := by decide +kernel
theorem d_C_undoWrong_9 : decode b_C_undoWrong 9 = .ok (.if_icmp .ge 32, 3) := by decide +kernel
theorem d_C_undoWrong_12 : decode b_C_undoWrong 12 = .ok (.aload_n 0, 1) := by decide +kernel
theorem d_C_undoWrong_13 : decode b_C_undoWrong 13 = .ok (.getfield 10, 3) := by decide +kernel
theorem d_C_undoWrong_16 : decode b_C_undoWrong 16 = .ok (.iload_n 3, 1) := by decide +kernel
theorem d_C_undoWrong_17 : decode b_C_undoWrong 17 = .ok (.invokevirtual 129, 3) := by decide +kernel
theorem d_C_undoWrong_20 : decode b_C_undoWrong 20 = .ok (.ifCond .eq 15, 3) := by decide +kernel
theorem d_C_undoWrong_23 : decode b_C_undoWrong 23 = .ok (.aload_n 0, 1) := by decide +kernel
theorem d_C_undoWrong_24 : decode b_C_undoWrong 24 = .ok (.getfield 10, 3) := by decide +kernel
theorem d_C_undoWrong_27 : decode b_C_undoWrong 27 = .ok (.iload_n 3, 1) := by decide +kernel
theorem d_C_undoWrong_28 : decode b_C_undoWrong 28 = .ok (.iconst 0, 1) := by decide +kernel
theorem d_C_undoWrong_29 : decode b_C_undoWrong 29 = .ok (.invokevirtual 241, 3) := by decide +kernel
theorem d_C_undoWrong_32 : decode b_C_undoWrong 32 = .ok (.iinc 2 1, 3) := by decide +kernel
theorem d_C_undoWrong_35 : decode b_C_undoWrong 35 = .ok (.iinc 3 1, 3) := by decide +kernel
theorem d_C_undoWrong_38 : decode b_C_undoWrong 38 = .ok (.goto (-34), 3) := by decide +kernel
theorem d_C_undoWrong_41 : decode b_C_undoWrong 41 = .ok (.aload_n 0, 1) := by decide +kernel
theorem d_C_undoWrong_42 : decode b_C_undoWrong 42 = .ok (.dup, 1) := by decide +kernel
theorem d_C_undoWrong_43 : decode b_C_undoWrong 43 = .ok (.getfield 41, 3) := by decide +kernel
theorem d_C_undoWrong_46 : decode b_C_undoWrong 46 = .ok (.iload_n 2, 1) := by decide +kernel
theorem d_C_undoWrong_47 : decode b_C_undoWrong 47 = .ok (.iadd, 1) := by decide +kernel
theorem d_C_undoWrong_48 : decode b_C_undoWrong 48 = .ok (.putfield 41, 3) := by decide +kernel
theorem d_C_undoWrong_51 : decode b_C_undoWrong 51 = .ok (.aload_n 0, 1) := by decide +kernel
theorem d_C_undoWrong_52 : decode b_C_undoWrong 52 = .ok (.dup, 1) := by decide +kernel
theorem d_C_undoWrong_53 : decode b_C_undoWrong 53 = .ok (.getfield 44, 3) := by decide +kernel
theorem d_C_undoWrong_56 : decode b_C_undoWrong 56 = .ok (.iconst 1, 1) := by decide +kernel
theorem d_C_undoWrong_57 : decode b_C_undoWrong 57 = .ok (.iadd, 1) := by decide +kernel
theorem d_C_undoWrong_58 : decode b_C_undoWrong 58 = .ok (.putfield 44, 3) := by decide +kernel
theorem d_C_undoWrong_61 : decode b_C_undoWrong 61 = .ok (.iload_n 2, 1) := by decide +kernel
theorem d_C_undoWrong_62 : decode b_C_undoWrong 62 = .ok (.ireturn, 1) := by decide +kernel
theorem d_O_setDone_0 : decode b_O_setDone 0 = .ok (.aload_n 0, 1) := by decide +kernel
theorem d_O_setDone_1 : decode b_O_setDone 1 = .ok (.getfield 34, 3) := by decide +kernel
theorem d_O_setDone_4 : decode b_O_setDone 4 = .ok (.iload_n 1, 1) := by decide +kernel
theorem d_O_setDone_5 : decode b_O_setDone 5 = .ok (.bipush 127, 2) := by decide +kernel
theorem d_O_setDone_7 : decode b_O_setDone 7 = .ok (.iand, 1) := by decide +kernel
theorem d_O_setDone_8 : decode b_O_setDone 8 = .ok (.iload_n 2, 1) := by decide +kernel
theorem d_O_setDone_9 : decode b_O_setDone 9 = .ok (.bastore, 1) := by decide +kernel
theorem d_O_setDone_10 : decode b_O_setDone 10 = .ok (.return_, 1) := by decide +kernel
theorem d_L_number_0 : decode b_L_number 0 = .ok (.aload_n 3, 1) := by decide +kernel
theorem d_L_number_1 : decode b_L_number 1 = .ok (.iconst 0, 1) := by decide +kernel
theorem d_L_number_2 : decode b_L_number 2 = .ok (.aload_n 0, 1) := by decide +kernel
theorem d_L_number_3 : decode b_L_number 3 = .ok (.iload_n 1, 1) := by decide +kernel
theorem d_L_number_4 : decode b_L_number 4 = .ok (.iload_n 2, 1) := by decide +kernel
theorem d_L_number_5 : decode b_L_number 5 = .ok (.invokevirtual 23, 3) := by decide +kernel
theorem d_L_number_8 : decode b_L_number 8 = .ok (.i2l, 1) := by decide +kernel
theorem d_L_number_9 : decode b_L_number 9 = .ok (.lastore, 1) := by decide +kernel
theorem d_L_number_10 : decode b_L_number 10 = .ok (.goto 11, 3) := by decide +kernel
theorem d_L_number_13 : decode b_L_number 13 = .ok (.astore 4, 2) := by decide +kernel
theorem d_L_number_15 : decode b_L_number 15 = .ok (.iconst 1, 1) := by decide +kernel
theorem d_L_number_16 : decode b_L_number 16 = .ok (.ireturn, 1) := by decide +kernel
theorem d_L_number_17 : decode b_L_number 17 = .ok (.astore 4, 2) := by decide +kernel
theorem d_L_number_19 : decode b_L_number 19 = .ok (.iconst 2, 1) := by decide +kernel
theorem d_L_number_20 : decode b_L_number 20 = .ok (.ireturn, 1) := by decide +kernel
theorem d_L_number_21 : decode b_L_number 21 = .ok (.iconst 0, 1) := by decide +kernel
theorem d_L_number_22 : decode b_L_number 22 = .ok (.ireturn, 1) := by decide +kernel
theorem d_C_number_0 : decode b_C_number 0 = .ok (.aload_n 0, 1) := by decide +kernel
theorem d_C_number_1 : decode b_C_number 1 = .ok (.iload_n 1, 1) := by decide +kernel
theorem d_C_number_2 : decode b_C_number 2 = .ok (.invokevirtual 77, 3) := by decide +kernel
theorem d_C_number_5 : decode b_C_number 5 = .ok (.aload_n 0, 1) := by decide +kernel
theorem d_C_number_6 : decode b_C_number 6 = .ok (.iload_n 1, 1) := by decide +kernel
theorem d_C_number_7 : decode b_C_number 7 = .ok (.invokevirtual 81, 3) := by decide +kernel
theorem d_C_number_10 : decode b_C_number 10 = .ok (.ifCond .eq 28, 3) := by decide +kernel
theorem d_C_number_13 : decode b_C_number 13 = .ok (.aload_n 0, 1) := by decide +kernel
theorem d_C_number_14 : decode b_C_number 14 = .ok (.getfield 10, 3) := by decide +kernel
theorem d_C_number_17 : decode b_C_number 17 = .ok (.iload_n 1, 1) := by decide +kernel
theorem d_C_number_18 : decode b_C_number 18 = .ok (.invokevirtual 85, 3) := by decide +kernel
theorem d_C_number_21 : decode b_C_number 21 = .ok (.invokestatic 118, 3) := by decide +kernel
theorem d_C_number_24 : decode b_C_number 24 = .ok (.ifCond .eq 14, 3) := by decide +kernel
theorem d_C_number_27 : decode b_C_number 27 = .ok (.aload_n 0, 1) := by decide +kernel
theorem d_C_number_28 : decode b_C_number 28 = .ok (.getfield 10, 3) := by decide +kernel
theorem d_C_number_31 : decode b_C_number 31 = .ok (.iload_n 1, 1) := by decide +kernel
theorem d_C_number_32 : decode b_C_number 32 = .ok (.invokevirtual 121, 3) := by decide +kernel
theorem d_C_number_35 : decode b_C_number 35 = .ok (.ifCond .eq 13, 3) := by decide +kernel
theorem d_C_number_38 : decode b_C_number 38 = .ok (.new 57, 3) := by decide +kernel
theorem d_C_number_41 : decode b_C_number 41 = .ok (.dup, 1) := by decide +kernel
theorem d_C_number_42 : decode b_C_number 42 = .ok (.ldc 124, 2) := by decide +kernel
theorem d_C_number_44 : decode b_C_number 44 = .ok (.invokespecial 61, 3) := by decide +kernel
theorem d_C_number_47 : decode b_C_number 47 = .ok (.athrow, 1) := by decide +kernel
theorem d_C_number_48 : decode b_C_number 48 = .ok (.aload_n 0, 1) := by decide +kernel
theorem d_C_number_49 : decode b_C_number 49 = .ok (.getfield 10, 3) := by decide +kernel
theorem d_C_number_52 : decode b_C_number 52 = .ok (.iload_n 1, 1) := by decide +kernel
theorem d_C_number_53 : decode b_C_number 53 = .ok (.iload_n 2, 1) := by decide +kernel
theorem d_C_number_54 : decode b_C_number 54 = .ok (.invokevirtual 126, 3) := by decide +kernel
theorem d_C_number_57 : decode b_C_number 57 = .ok (.aload_n 0, 1) := by decide +kernel
theorem d_C_number_58 : decode b_C_number 58 = .ok (.getfield 10, 3) := by decide +kernel
theorem d_C_number_61 : decode b_C_number 61 = .ok (.iload_n 1, 1) := by decide +kernel
theorem d_C_number_62 : decode b_C_number 62 = .ok (.invokevirtual 94, 3) := by decide +kernel
theorem d_C_number_65 : decode b_C_number 65 = .ok (.ireturn, 1) := by decide +kernel
theorem d_O_setNumber_0 : decode b_O_setNumber 0 = .ok (.aload_n 0, 1) := by decide +kernel
theorem d_O_setNumber_1 : decode b_O_setNumber 1 = .ok (.getfield 28, 3) := by decide +kernel
theorem d_O_setNumber_4 : decode b_O_setNumber 4 = .ok (.iload_n 1, 1) := by decide +kernel
theorem d_O_setNumber_5 : decode b_O_setNumber 5 = .ok (.bipush 127, 2) := by decide +kernel
theorem d_O_setNumber_7 : decode b_O_setNumber 7 = .ok (.iand, 1) := by decide +kernel
theorem d_O_setNumber_8 : decode b_O_setNumber 8 = .ok (.iload_n 2, 1) := by decide +kernel
theorem d_O_setNumber_9 : decode b_O_setNumber 9 = .ok (.iastore, 1) := by decide +kernel
theorem d_O_setNumber_10 : decode b_O_setNumber 10 = .ok (.aload_n 0, 1) := by decide +kernel
theorem d_O_setNumber_11 : decode b_O_setNumber 11 = .ok (.getfield 31, 3) := by decide +kernel
theorem d_O_setNumber_14 : decode b_O_setNumber 14 = .ok (.iload_n 1, 1) := by decide +kernel
theorem d_O_setNumber_15 : decode b_O_setNumber 15 = .ok (.bipush 127, 2) := by decide +kernel
theorem d_O_setNumber_17 : decode b_O_setNumber 17 = .ok (.iand, 1) := by decide +kernel
theorem d_O_setNumber_18 : decode b_O_setNumber 18 = .ok (.iconst 1, 1) := by decide +kernel
theorem d_O_setNumber_19 : decode b_O_setNumber 19 = .ok (.bastore, 1) := by decide +kernel
theorem d_O_setNumber_20 : decode b_O_setNumber 20 = .ok (.return_, 1) := by decide +kernel
theorem d_L_tried_0 : decode b_L_tried 0 = .ok (.aload_n 2, 1) := by decide +kernel
theorem d_L_tried_1 : decode b_L_tried 1 = .ok (.iconst 0, 1) := by decide +kernel
theorem d_L_tried_2 : decode b_L_tried 2 = .ok (.aload_n 0, 1) := by decide +kernel
theorem d_L_tried_3 : decode b_L_tried 3 = .ok (.iload_n 1, 1) := by decide +kernel
theorem d_L_tried_4 : decode b_L_tried 4 = .ok (.invokevirtual 26, 3) := by decide +kernel
theorem d_L_tried_7 : decode b_L_tried 7 = .ok (.i2l, 1) := by decide +kernel
theorem d_L_tried_8 : decode b_L_tried 8 = .ok (.lastore, 1) := by decide +kernel
theorem d_L_tried_9 : decode b_L_tried 9 = .ok (.goto 9, 3) := by decide +kernel
theorem d_L_tried_12 : decode b_L_tried 12 = .ok (.astore_n 3, 1) := by decide +kernel
theorem d_L_tried_13 : decode b_L_tried 13 = .ok (.iconst 1, 1) := by decide +kernel
theorem d_L_tried_14 : decode b_L_tried 14 = .ok (.ireturn, 1) := by decide +kernel
theorem d_L_tried_15 : decode b_L_tried 15 = .ok (.astore_n 3, 1) := by decide +kernel
theorem d_L_tried_16 : decode b_L_tried 16 = .ok (.iconst 2, 1) := by decide +kernel
theorem d_L_tried_17 : decode b_L_tried 17 = .ok (.ireturn, 1) := by decide +kernel
theorem d_L_tried_18 : decode b_L_tried 18 = .ok (.iconst 0, 1) := by decide +kernel
theorem d_L_tried_19 : decode b_L_tried 19 = .ok (.ireturn, 1) := by decide +kernel
theorem d_C_tried_0 : decode b_C_tried 0 = .ok (.aload_n 0, 1) := by decide +kernel
theorem d_C_tried_1 : decode b_C_tried 1 = .ok (.iload_n 1, 1) := by decide +kernel
theorem d_C_tried_2 : decode b_C_tried 2 = .ok (.invokevirtual 77, 3) := by decide +kernel
theorem d_C_tried_5 : decode b_C_tried 5 = .ok (.aload_n 0, 1) := by decide +kernel
theorem d_C_tried_6 : decode b_C_tried 6 = .ok (.iload_n 1, 1) := by decide +kernel
theorem d_C_tried_7 : decode b_C_tried 7 = .ok (.invokevirtual 81, 3) := by decide +kernel
theorem d_C_tried_10 : decode b_C_tried 10 = .ok (.ifCond .eq 36, 3) := by decide +kernel
theorem d_C_tried_13 : decode b_C_tried 13 = .ok (.aload_n 0, 1) := by decide +kernel
theorem d_C_tried_14 : decode b_C_tried 14 = .ok (.getfield 10, 3) := by decide +kernel
theorem d_C_tried_17 : decode b_C_tried 17 = .ok (.iload_n 1, 1) := by decide +kernel
theorem d_C_tried_18 : decode b_C_tried 18 = .ok (.invokevirtual 85, 3) := by decide +kernel
theorem d_C_tried_21 : decode b_C_tried 21 = .ok (.ifCond .ne 25, 3) := by decide +kernel
theorem d_C_tried_24 : decode b_C_tried 24 = .ok (.aload_n 0, 1) := by decide +kernel
theorem d_C_tried_25 : decode b_C_tried 25 = .ok (.getfield 10, 3) := by decide +kernel
theorem d_C_tried_28 : decode b_C_tried 28 = .ok (.iload_n 1, 1) := by decide +kernel
theorem d_C_tried_29 : decode b_C_tried 29 = .ok (.invokevirtual 89, 3) := by decide +kernel
theorem d_C_tried_32 : decode b_C_tried 32 = .ok (.ifCond .eq 14, 3) := by decide +kernel
theorem d_C_tried_35 : decode b_C_tried 35 = .ok (.aload_n 0, 1) := by decide +kernel
theorem d_C_tried_36 : decode b_C_tried 36 = .ok (.getfield 10, 3) := by decide +kernel
end
section
theorem d_C_tried_39 : decode b_C_tried 39 = .ok (.iload_n 1, 1) := by decide +kernel
theorem d_C_tried_40 : decode b_C_tried 40 = .ok (.invokevirtual 129, 3) := by decide +kernel
theorem d_C_tried_43 : decode b_C_tried 43 = .ok (.ifCond .eq 13, 3) := by decide +kernel
theorem d_C_tried_46 : decode b_C_tried 46 = .ok (.new 57, 3) := by decide +kernel
theorem d_C_tried_49 : decode b_C_tried 49 = .ok (.dup, 1) := by decide +kernel
theorem d_C_tried_50 : decode b_C_tried 50 = .ok (.ldc 132, 2) := by decide +kernel
theorem d_C_tried_52 : decode b_C_tried 52 = .ok (.invokespecial 61, 3) := by decide +kernel
theorem d_C_tried_55 : decode b_C_tried 55 = .ok (.athrow, 1) := by decide +kernel
theorem d_C_tried_56 : decode b_C_tried 56 = .ok (.aload_n 0, 1) := by decide +kernel
theorem d_C_tried_57 : decode b_C_tried 57 = .ok (.iload_n 1, 1) := by decide +kernel
theorem d_C_tried_58 : decode b_C_tried 58 = .ok (.invokevirtual 134, 3) := by decide +kernel
theorem d_C_tried_61 : decode b_C_tried 61 = .ok (.ifCond .eq 5, 3) := by decide +kernel
theorem d_C_tried_64 : decode b_C_tried 64 = .ok (.iconst 2, 1) := by decide +kernel
theorem d_C_tried_65 : decode b_C_tried 65 = .ok (.ireturn, 1) := by decide +kernel
theorem d_C_tried_66 : decode b_C_tried 66 = .ok (.aload_n 0, 1) := by decide +kernel
theorem d_C_tried_67 : decode b_C_tried 67 = .ok (.aload_n 0, 1) := by decide +kernel
theorem d_C_tried_68 : decode b_C_tried 68 = .ok (.getfield 10, 3) := by decide +kernel
theorem d_C_tried_71 : decode b_C_tried 71 = .ok (.iload_n 1, 1) := by decide +kernel
theorem d_C_tried_72 : decode b_C_tried 72 = .ok (.invokevirtual 109, 3) := by decide +kernel
theorem d_C_tried_75 : decode b_C_tried 75 = .ok (.invokevirtual 137, 3) := by decide +kernel
theorem d_C_tried_78 : decode b_C_tried 78 = .ok (.ifCond .eq 13, 3) := by decide +kernel
theorem d_C_tried_81 : decode b_C_tried 81 = .ok (.aload_n 0, 1) := by decide +kernel
theorem d_C_tried_82 : decode b_C_tried 82 = .ok (.iload_n 1, 1) := by decide +kernel
theorem d_C_tried_83 : decode b_C_tried 83 = .ok (.invokevirtual 140, 3) := by decide +kernel
theorem d_C_tried_86 : decode b_C_tried 86 = .ok (.ifCond .eq 5, 3) := by decide +kernel
theorem d_C_tried_89 : decode b_C_tried 89 = .ok (.iconst 3, 1) := by decide +kernel
theorem d_C_tried_90 : decode b_C_tried 90 = .ok (.ireturn, 1) := by decide +kernel
theorem d_C_tried_91 : decode b_C_tried 91 = .ok (.aload_n 0, 1) := by decide +kernel
theorem d_C_tried_92 : decode b_C_tried 92 = .ok (.iload_n 1, 1) := by decide +kernel
theorem d_C_tried_93 : decode b_C_tried 93 = .ok (.invokevirtual 143, 3) := by decide +kernel
theorem d_C_tried_96 : decode b_C_tried 96 = .ok (.ifCond .eq 5, 3) := by decide +kernel
theorem d_C_tried_99 : decode b_C_tried 99 = .ok (.iconst 4, 1) := by decide +kernel
theorem d_C_tried_100 : decode b_C_tried 100 = .ok (.ireturn, 1) := by decide +kernel
theorem d_C_tried_101 : decode b_C_tried 101 = .ok (.aload_n 0, 1) := by decide +kernel
theorem d_C_tried_102 : decode b_C_tried 102 = .ok (.iload_n 1, 1) := by decide +kernel
theorem d_C_tried_103 : decode b_C_tried 103 = .ok (.invokevirtual 146, 3) := by decide +kernel
theorem d_C_tried_106 : decode b_C_tried 106 = .ok (.iconst 1, 1) := by decide +kernel
theorem d_C_tried_107 : decode b_C_tried 107 = .ok (.ireturn, 1) := by decide +kernel
theorem d_C_isHeldBack_0 : decode b_C_isHeldBack 0 = .ok (.aload_n 0, 1) := by decide +kernel
theorem d_C_isHeldBack_1 : decode b_C_isHeldBack 1 = .ok (.getfield 10, 3) := by decide +kernel
theorem d_C_isHeldBack_4 : decode b_C_isHeldBack 4 = .ok (.iload_n 1, 1) := by decide +kernel
theorem d_C_isHeldBack_5 : decode b_C_isHeldBack 5 = .ok (.invokevirtual 225, 3) := by decide +kernel
theorem d_C_isHeldBack_8 : decode b_C_isHeldBack 8 = .ok (.invokestatic 217, 3) := by decide +kernel
theorem d_C_isHeldBack_11 : decode b_C_isHeldBack 11 = .ok (.ifCond .eq 23, 3) := by decide +kernel
theorem d_C_isHeldBack_14 : decode b_C_isHeldBack 14 = .ok (.iload_n 1, 1) := by decide +kernel
theorem d_C_isHeldBack_15 : decode b_C_isHeldBack 15 = .ok (.aload_n 0, 1) := by decide +kernel
theorem d_C_isHeldBack_16 : decode b_C_isHeldBack 16 = .ok (.getfield 34, 3) := by decide +kernel
theorem d_C_isHeldBack_19 : decode b_C_isHeldBack 19 = .ok (.if_icmp .ne 13, 3) := by decide +kernel
theorem d_C_isHeldBack_22 : decode b_C_isHeldBack 22 = .ok (.aload_n 0, 1) := by decide +kernel
theorem d_C_isHeldBack_23 : decode b_C_isHeldBack 23 = .ok (.getfield 19, 3) := by decide +kernel
theorem d_C_isHeldBack_26 : decode b_C_isHeldBack 26 = .ok (.invokevirtual 176, 3) := by decide +kernel
theorem d_C_isHeldBack_29 : decode b_C_isHeldBack 29 = .ok (.ifCond .ne 5, 3) := by decide +kernel
theorem d_C_isHeldBack_32 : decode b_C_isHeldBack 32 = .ok (.iconst 1, 1) := by decide +kernel
theorem d_C_isHeldBack_33 : decode b_C_isHeldBack 33 = .ok (.ireturn, 1) := by decide +kernel
theorem d_C_isHeldBack_34 : decode b_C_isHeldBack 34 = .ok (.aload_n 0, 1) := by decide +kernel
theorem d_C_isHeldBack_35 : decode b_C_isHeldBack 35 = .ok (.getfield 34, 3) := by decide +kernel
theorem d_C_isHeldBack_38 : decode b_C_isHeldBack 38 = .ok (.istore_n 2, 1) := by decide +kernel
theorem d_C_isHeldBack_39 : decode b_C_isHeldBack 39 = .ok (.iload_n 2, 1) := by decide +kernel
theorem d_C_isHeldBack_40 : decode b_C_isHeldBack 40 = .ok (.iload_n 1, 1) := by decide +kernel
theorem d_C_isHeldBack_41 : decode b_C_isHeldBack 41 = .ok (.if_icmp .ge 30, 3) := by decide +kernel
theorem d_C_isHeldBack_44 : decode b_C_isHeldBack 44 = .ok (.aload_n 0, 1) := by decide +kernel
theorem d_C_isHeldBack_45 : decode b_C_isHeldBack 45 = .ok (.getfield 10, 3) := by decide +kernel
theorem d_C_isHeldBack_48 : decode b_C_isHeldBack 48 = .ok (.iload_n 2, 1) := by decide +kernel
theorem d_C_isHeldBack_49 : decode b_C_isHeldBack 49 = .ok (.invokevirtual 85, 3) := by decide +kernel
theorem d_C_isHeldBack_52 : decode b_C_isHeldBack 52 = .ok (.istore_n 3, 1) := by decide +kernel
theorem d_C_isHeldBack_53 : decode b_C_isHeldBack 53 = .ok (.iload_n 3, 1) := by decide +kernel
theorem d_C_isHeldBack_54 : decode b_C_isHeldBack 54 = .ok (.iconst 2, 1) := by decide +kernel
theorem d_C_isHeldBack_55 : decode b_C_isHeldBack 55 = .ok (.if_icmp .eq 8, 3) := by decide +kernel
theorem d_C_isHeldBack_58 : decode b_C_isHeldBack 58 = .ok (.iload_n 3, 1) := by decide +kernel
theorem d_C_isHeldBack_59 : decode b_C_isHeldBack 59 = .ok (.iconst 3, 1) := by decide +kernel
theorem d_C_isHeldBack_60 : decode b_C_isHeldBack 60 = .ok (.if_icmp .ne 5, 3) := by decide +kernel
theorem d_C_isHeldBack_63 : decode b_C_isHeldBack 63 = .ok (.iconst 1, 1) := by decide +kernel
theorem d_C_isHeldBack_64 : decode b_C_isHeldBack 64 = .ok (.ireturn, 1) := by decide +kernel
theorem d_C_isHeldBack_65 : decode b_C_isHeldBack 65 = .ok (.iinc 2 1, 3) := by decide +kernel
theorem d_C_isHeldBack_68 : decode b_C_isHeldBack 68 = .ok (.goto (-29), 3) := by decide +kernel
theorem d_C_isHeldBack_71 : decode b_C_isHeldBack 71 = .ok (.iconst 0, 1) := by decide +kernel
theorem d_C_isHeldBack_72 : decode b_C_isHeldBack 72 = .ok (.ireturn, 1) := by decide +kernel
theorem d_C_storeWithoutAddressBefore_0 : decode b_C_storeWithoutAddressBefore 0 = .ok (.aload_n 0, 1) := by decide +kernel
theorem d_C_storeWithoutAddressBefore_1 : decode b_C_storeWithoutAddressBefore 1 = .ok (.getfield 34, 3) := by decide +kernel
theorem d_C_storeWithoutAddressBefore_4 : decode b_C_storeWithoutAddressBefore 4 = .ok (.istore_n 2, 1) := by decide +kernel
theorem d_C_storeWithoutAddressBefore_5 : decode b_C_storeWithoutAddressBefore 5 = .ok (.iload_n 2, 1) := by decide +kernel
theorem d_C_storeWithoutAddressBefore_6 : decode b_C_storeWithoutAddressBefore 6 = .ok (.iload_n 1, 1) := by decide +kernel
theorem d_C_storeWithoutAddressBefore_7 : decode b_C_storeWithoutAddressBefore 7 = .ok (.if_icmp .ge 34, 3) := by decide +kernel
theorem d_C_storeWithoutAddressBefore_10 : decode b_C_storeWithoutAddressBefore 10 = .ok (.aload_n 0, 1) := by decide +kernel
theorem d_C_storeWithoutAddressBefore_11 : decode b_C_storeWithoutAddressBefore 11 = .ok (.getfield 10, 3) := by decide +kernel
theorem d_C_storeWithoutAddressBefore_14 : decode b_C_storeWithoutAddressBefore 14 = .ok (.iload_n 2, 1) := by decide +kernel
theorem d_C_storeWithoutAddressBefore_15 : decode b_C_storeWithoutAddressBefore 15 = .ok (.invokevirtual 85, 3) := by decide +kernel
theorem d_C_storeWithoutAddressBefore_18 : decode b_C_storeWithoutAddressBefore 18 = .ok (.iconst 1, 1) := by decide +kernel
theorem d_C_storeWithoutAddressBefore_19 : decode b_C_storeWithoutAddressBefore 19 = .ok (.if_icmp .ne 16, 3) := by decide +kernel
theorem d_C_storeWithoutAddressBefore_22 : decode b_C_storeWithoutAddressBefore 22 = .ok (.aload_n 0, 1) := by decide +kernel
theorem d_C_storeWithoutAddressBefore_23 : decode b_C_storeWithoutAddressBefore 23 = .ok (.getfield 10, 3) := by decide +kernel
theorem d_C_storeWithoutAddressBefore_26 : decode b_C_storeWithoutAddressBefore 26 = .ok (.iload_n 2, 1) := by decide +kernel
theorem d_C_storeWithoutAddressBefore_27 : decode b_C_storeWithoutAddressBefore 27 = .ok (.invokevirtual 89, 3) := by decide +kernel
theorem d_C_storeWithoutAddressBefore_30 : decode b_C_storeWithoutAddressBefore 30 = .ok (.ifCond .ne 5, 3) := by decide +kernel
theorem d_C_storeWithoutAddressBefore_33 : decode b_C_storeWithoutAddressBefore 33 = .ok (.iconst 1, 1) := by decide +kernel
theorem d_C_storeWithoutAddressBefore_34 : decode b_C_storeWithoutAddressBefore 34 = .ok (.ireturn, 1) := by decide +kernel
theorem d_C_storeWithoutAddressBefore_35 : decode b_C_storeWithoutAddressBefore 35 = .ok (.iinc 2 1, 3) := by decide +kernel
theorem d_C_storeWithoutAddressBefore_38 : decode b_C_storeWithoutAddressBefore 38 = .ok (.goto (-33), 3) := by decide +kernel
theorem d_C_storeWithoutAddressBefore_41 : decode b_C_storeWithoutAddressBefore 41 = .ok (.iconst 0, 1) := by decide +kernel
theorem d_C_storeWithoutAddressBefore_42 : decode b_C_storeWithoutAddressBefore 42 = .ok (.ireturn, 1) := by decide +kernel
theorem d_C_storeWithoutNumberFor_0 : decode b_C_storeWithoutNumberFor 0 = .ok (.aload_n 0, 1) := by decide +kernel
theorem d_C_storeWithoutNumberFor_1 : decode b_C_storeWithoutNumberFor 1 = .ok (.getfield 10, 3) := by decide +kernel
theorem d_C_storeWithoutNumberFor_4 : decode b_C_storeWithoutNumberFor 4 = .ok (.iload_n 1, 1) := by decide +kernel
theorem d_C_storeWithoutNumberFor_5 : decode b_C_storeWithoutNumberFor 5 = .ok (.invokevirtual 225, 3) := by decide +kernel
theorem d_C_storeWithoutNumberFor_8 : decode b_C_storeWithoutNumberFor 8 = .ok (.istore_n 2, 1) := by decide +kernel
theorem d_C_storeWithoutNumberFor_9 : decode b_C_storeWithoutNumberFor 9 = .ok (.iconst 0, 1) := by decide +kernel
theorem d_C_storeWithoutNumberFor_10 : decode b_C_storeWithoutNumberFor 10 = .ok (.istore_n 3, 1) := by decide +kernel
theorem d_C_storeWithoutNumberFor_11 : decode b_C_storeWithoutNumberFor 11 = .ok (.iload_n 3, 1) := by decide +kernel
theorem d_C_storeWithoutNumberFor_12 : decode b_C_storeWithoutNumberFor 12 = .ok (.aload_n 0, 1) := by decide +kernel
theorem d_C_storeWithoutNumberFor_13 : decode b_C_storeWithoutNumberFor 13 = .ok (.getfield 10, 3) := by decide +kernel
theorem d_C_storeWithoutNumberFor_16 : decode b_C_storeWithoutNumberFor 16 = .ok (.iload_n 1, 1) := by decide +kernel
theorem d_C_storeWithoutNumberFor_17 : decode b_C_storeWithoutNumberFor 17 = .ok (.invokevirtual 94, 3) := by decide +kernel
theorem d_C_storeWithoutNumberFor_20 : decode b_C_storeWithoutNumberFor 20 = .ok (.if_icmp .ge 39, 3) := by decide +kernel
theorem d_C_storeWithoutNumberFor_23 : decode b_C_storeWithoutNumberFor 23 = .ok (.aload_n 0, 1) := by decide +kernel
theorem d_C_storeWithoutNumberFor_24 : decode b_C_storeWithoutNumberFor 24 = .ok (.iload_n 1, 1) := by decide +kernel
theorem d_C_storeWithoutNumberFor_25 : decode b_C_storeWithoutNumberFor 25 = .ok (.iload_n 2, 1) := by decide +kernel
theorem d_C_storeWithoutNumberFor_26 : decode b_C_storeWithoutNumberFor 26 = .ok (.iload_n 3, 1) := by decide +kernel
theorem d_C_storeWithoutNumberFor_27 : decode b_C_storeWithoutNumberFor 27 = .ok (.iadd, 1) := by decide +kernel
theorem d_C_storeWithoutNumberFor_28 : decode b_C_storeWithoutNumberFor 28 = .ok (.invokevirtual 228, 3) := by decide +kernel
theorem d_C_storeWithoutNumberFor_31 : decode b_C_storeWithoutNumberFor 31 = .ok (.istore 4, 2) := by decide +kernel
theorem d_C_storeWithoutNumberFor_33 : decode b_C_storeWithoutNumberFor 33 = .ok (.iload 4, 2) := by decide +kernel
theorem d_C_storeWithoutNumberFor_35 : decode b_C_storeWithoutNumberFor 35 = .ok (.iconst (-1), 1) := by decide +kernel
theorem d_C_storeWithoutNumberFor_36 : decode b_C_storeWithoutNumberFor 36 = .ok (.if_icmp .eq 17, 3) := by decide +kernel
theorem d_C_storeWithoutNumberFor_39 : decode b_C_storeWithoutNumberFor 39 = .ok (.aload_n 0, 1) := by decide +kernel
theorem d_C_storeWithoutNumberFor_40 : decode b_C_storeWithoutNumberFor 40 = .ok (.getfield 10, 3) := by decide +kernel
theorem d_C_storeWithoutNumberFor_43 : decode b_C_storeWithoutNumberFor 43 = .ok (.iload 4, 2) := by decide +kernel
theorem d_C_storeWithoutNumberFor_45 : decode b_C_storeWithoutNumberFor 45 = .ok (.invokevirtual 121, 3) := by decide +kernel
theorem d_C_storeWithoutNumberFor_48 : decode b_C_storeWithoutNumberFor 48 = .ok (.ifCond .ne 5, 3) := by decide +kernel
theorem d_C_storeWithoutNumberFor_51 : decode b_C_storeWithoutNumberFor 51 = .ok (.iconst 1, 1) := by decide +kernel
theorem d_C_storeWithoutNumberFor_52 : decode b_C_storeWithoutNumberFor 52 = .ok (.ireturn, 1) := by decide +kernel
theorem d_C_storeWithoutNumberFor_53 : decode b_C_storeWithoutNumberFor 53 = .ok (.iinc 3 1, 3) := by decide +kernel
theorem d_C_storeWithoutNumberFor_56 : decode b_C_storeWithoutNumberFor 56 = .ok (.goto (-45), 3) := by decide +kernel
theorem d_C_storeWithoutNumberFor_59 : decode b_C_storeWithoutNumberFor 59 = .ok (.iconst 0, 1) := by decide +kernel
theorem d_C_storeWithoutNumberFor_60 : decode b_C_storeWithoutNumberFor 60 = .ok (.ireturn, 1) := by decide +kernel
theorem d_C_newestStoreBefore_0 : decode b_C_newestStoreBefore 0 = .ok (.iload_n 1, 1) := by decide +kernel
theorem d_C_newestStoreBefore_1 : decode b_C_newestStoreBefore 1 = .ok (.iconst 1, 1) := by decide +kernel
theorem d_C_newestStoreBefore_2 : decode b_C_newestStoreBefore 2 = .ok (.isub, 1) := by decide +kernel
theorem d_C_newestStoreBefore_3 : decode b_C_newestStoreBefore 3 = .ok (.istore_n 3, 1) := by decide +kernel
theorem d_C_newestStoreBefore_4 : decode b_C_newestStoreBefore 4 = .ok (.iload_n 3, 1) := by decide +kernel
theorem d_C_newestStoreBefore_5 : decode b_C_newestStoreBefore 5 = .ok (.aload_n 0, 1) := by decide +kernel
theorem d_C_newestStoreBefore_6 : decode b_C_newestStoreBefore 6 = .ok (.getfield 34, 3) := by decide +kernel
theorem d_C_newestStoreBefore_9 : decode b_C_newestStoreBefore 9 = .ok (.if_icmp .lt 35, 3) := by decide +kernel
theorem d_C_newestStoreBefore_12 : decode b_C_newestStoreBefore 12 = .ok (.aload_n 0, 1) := by decide +kernel
theorem d_C_newestStoreBefore_13 : decode b_C_newestStoreBefore 13 = .ok (.getfield 10, 3) := by decide +kernel
theorem d_C_newestStoreBefore_16 : decode b_C_newestStoreBefore 16 = .ok (.iload_n 3, 1) := by decide +kernel
theorem d_C_newestStoreBefore_17 : decode b_C_newestStoreBefore 17 = .ok (.invokevirtual 85, 3) := by decide +kernel
theorem d_C_newestStoreBefore_20 : decode b_C_newestStoreBefore 20 = .ok (.iconst 1, 1) := by decide +kernel
theorem d_C_newestStoreBefore_21 : decode b_C_newestStoreBefore 21 = .ok (.if_icmp .ne 17, 3) := by decide +kernel
theorem d_C_newestStoreBefore_24 : decode b_C_newestStoreBefore 24 = .ok (.aload_n 0, 1) := by decide +kernel
theorem d_C_newestStoreBefore_25 : decode b_C_newestStoreBefore 25 = .ok (.getfield 10, 3) := by decide +kernel
theorem d_C_newestStoreBefore_28 : decode b_C_newestStoreBefore 28 = .ok (.iload_n 3, 1) := by decide +kernel
theorem d_C_newestStoreBefore_29 : decode b_C_newestStoreBefore 29 = .ok (.iload_n 2, 1) := by decide +kernel
theorem d_C_newestStoreBefore_30 : decode b_C_newestStoreBefore 30 = .ok (.invokevirtual 231, 3) := by decide +kernel
theorem d_C_newestStoreBefore_33 : decode b_C_newestStoreBefore 33 = .ok (.ifCond .eq 5, 3) := by decide +kernel
theorem d_C_newestStoreBefore_36 : decode b_C_newestStoreBefore 36 = .ok (.iload_n 3, 1) := by decide +kernel
theorem d_C_newestStoreBefore_37 : decode b_C_newestStoreBefore 37 = .ok (.ireturn, 1) := by decide +kernel
theorem d_C_newestStoreBefore_38 : decode b_C_newestStoreBefore 38 = .ok (.iinc 3 (-1), 3) := by decide +kernel
theorem d_C_newestStoreBefore_41 : decode b_C_newestStoreBefore 41 = .ok (.goto (-37), 3) := by decide +kernel
theorem d_C_newestStoreBefore_44 : decode b_C_newestStoreBefore 44 = .ok (.iconst (-1), 1) := by decide +kernel
theorem d_C_newestStoreBefore_45 : decode b_C_newestStoreBefore 45 = .ok (.ireturn, 1) := by decide +kernel
theorem d_C_doLoad_0 : decode b_C_doLoad 0 = .ok (.aload_n 0, 1) := by decide +kernel
theorem d_C_doLoad_1 : decode b_C_doLoad 1 = .ok (.getfield 10, 3) := by decide +kernel
theorem d_C_doLoad_4 : decode b_C_doLoad 4 = .ok (.iload_n 1, 1) := by decide +kernel
theorem d_C_doLoad_5 : decode b_C_doLoad 5 = .ok (.invokevirtual 225, 3) := by decide +kernel
theorem d_C_doLoad_8 : decode b_C_doLoad 8 = .ok (.istore_n 2, 1) := by decide +kernel
theorem d_C_doLoad_9 : decode b_C_doLoad 9 = .ok (.iconst 0, 1) := by decide +kernel
theorem d_C_doLoad_10 : decode b_C_doLoad 10 = .ok (.istore_n 3, 1) := by decide +kernel
theorem d_C_doLoad_11 : decode b_C_doLoad 11 = .ok (.iconst 0, 1) := by decide +kernel
theorem d_C_doLoad_12 : decode b_C_doLoad 12 = .ok (.istore 4, 2) := by decide +kernel
theorem d_C_doLoad_14 : decode b_C_doLoad 14 = .ok (.iload 4, 2) := by decide +kernel
theorem d_C_doLoad_16 : decode b_C_doLoad 16 = .ok (.aload_n 0, 1) := by decide +kernel
theorem d_C_doLoad_17 : decode b_C_doLoad 17 = .ok (.getfield 10, 3) := by decide +kernel
theorem d_C_doLoad_20 : decode b_C_doLoad 20 = .ok (.iload_n 1, 1) := by decide +kernel
theorem d_C_doLoad_21 : decode b_C_doLoad 21 = .ok (.invokevirtual 94, 3) := by decide +kernel
theorem d_C_doLoad_24 : decode b_C_doLoad 24 = .ok (.if_icmp .ge 26, 3) := by decide +kernel
theorem d_C_doLoad_27 : decode b_C_doLoad 27 = .ok (.iload_n 3, 1) := by decide +kernel
theorem d_C_doLoad_28 : decode b_C_doLoad 28 = .ok (.bipush 8, 2) := by decide +kernel
theorem d_C_doLoad_30 : decode b_C_doLoad 30 = .ok (.ishl, 1) := by decide +kernel
theorem d_C_doLoad_31 : decode b_C_doLoad 31 = .ok (.aload_n 0, 1) := by decide +kernel
theorem d_C_doLoad_32 : decode b_C_doLoad 32 = .ok (.iload_n 1, 1) := by decide +kernel
theorem d_C_doLoad_33 : decode b_C_doLoad 33 = .ok (.iload 4, 2) := by decide +kernel
theorem d_C_doLoad_35 : decode b_C_doLoad 35 = .ok (.iload_n 2, 1) := by decide +kernel
theorem d_C_doLoad_36 : decode b_C_doLoad 36 = .ok (.iload 4, 2) := by decide +kernel
theorem d_C_doLoad_38 : decode b_C_doLoad 38 = .ok (.iadd, 1) := by decide +kernel
theorem d_C_doLoad_39 : decode b_C_doLoad 39 = .ok (.invokevirtual 234, 3) := by decide +kernel
theorem d_C_doLoad_42 : decode b_C_doLoad 42 = .ok (.ior, 1) := by decide +kernel
theorem d_C_doLoad_43 : decode b_C_doLoad 43 = .ok (.istore_n 3, 1) := by decide +kernel
theorem d_C_doLoad_44 : decode b_C_doLoad 44 = .ok (.iinc 4 1, 3) := by decide +kernel
theorem d_C_doLoad_47 : decode b_C_doLoad 47 = .ok (.goto (-33), 3) := by decide +kernel
theorem d_C_doLoad_50 : decode b_C_doLoad 50 = .ok (.aload_n 0, 1) := by decide +kernel
theorem d_C_doLoad_51 : decode b_C_doLoad 51 = .ok (.getfield 10, 3) := by decide +kernel
theorem d_C_doLoad_54 : decode b_C_doLoad 54 = .ok (.iload_n 1, 1) := by decide +kernel
theorem d_C_doLoad_55 : decode b_C_doLoad 55 = .ok (.iload_n 3, 1) := by decide +kernel
theorem d_C_doLoad_56 : decode b_C_doLoad 56 = .ok (.invokevirtual 238, 3) := by decide +kernel
theorem d_C_doLoad_59 : decode b_C_doLoad 59 = .ok (.aload_n 0, 1) := by decide +kernel
theorem d_C_doLoad_60 : decode b_C_doLoad 60 = .ok (.getfield 10, 3) := by decide +kernel
theorem d_C_doLoad_63 : decode b_C_doLoad 63 = .ok (.iload_n 1, 1) := by decide +kernel
theorem d_C_doLoad_64 : decode b_C_doLoad 64 = .ok (.iconst 1, 1) := by decide +kernel
theorem d_C_doLoad_65 : decode b_C_doLoad 65 = .ok (.invokevirtual 241, 3) := by decide +kernel
theorem d_C_doLoad_68 : decode b_C_doLoad 68 = .ok (.return_, 1) := by decide +kernel
theorem d_C_takeByte_0 : decode b_C_takeByte 0 = .ok (.aload_n 0, 1) := by decide +kernel
theorem d_C_takeByte_1 : decode b_C_takeByte 1 = .ok (.iload_n 1, 1) := by decide +kernel
theorem d_C_takeByte_2 : decode b_C_takeByte 2 = .ok (.iload_n 3, 1) := by decide +kernel
theorem d_C_takeByte_3 : decode b_C_takeByte 3 = .ok (.invokevirtual 228, 3) := by decide +kernel
theorem d_C_takeByte_6 : decode b_C_takeByte 6 = .ok (.istore 4, 2) := by decide +kernel
theorem d_C_takeByte_8 : decode b_C_takeByte 8 = .ok (.iload 4, 2) := by decide +kernel
theorem d_C_takeByte_10 : decode b_C_takeByte 10 = .ok (.iconst (-1), 1) := by decide +kernel
theorem d_C_takeByte_11 : decode b_C_takeByte 11 = .ok (.if_icmp .eq 35, 3) := by decide +kernel
theorem d_C_takeByte_14 : decode b_C_takeByte 14 = .ok (.aload_n 0, 1) := by decide +kernel
theorem d_C_takeByte_15 : decode b_C_takeByte 15 = .ok (.getfield 10, 3) := by decide +kernel
theorem d_C_takeByte_18 : decode b_C_takeByte 18 = .ok (.iload_n 1, 1) := by decide +kernel
theorem d_C_takeByte_19 : decode b_C_takeByte 19 = .ok (.iload_n 2, 1) := by decide +kernel
theorem d_C_takeByte_20 : decode b_C_takeByte 20 = .ok (.iload 4, 2) := by decide +kernel
theorem d_C_takeByte_22 : decode b_C_takeByte 22 = .ok (.invokevirtual 245, 3) := by decide +kernel
theorem d_C_takeByte_25 : decode b_C_takeByte 25 = .ok (.aload_n 0, 1) := by decide +kernel
theorem d_C_takeByte_26 : decode b_C_takeByte 26 = .ok (.dup, 1) := by decide +kernel
theorem d_C_takeByte_27 : decode b_C_takeByte 27 = .ok (.getfield 47, 3) := by decide +kernel
theorem d_C_takeByte_30 : decode b_C_takeByte 30 = .ok (.iconst 1, 1) := by decide +kernel
theorem d_C_takeByte_31 : decode b_C_takeByte 31 = .ok (.iadd, 1) := by decide +kernel
theorem d_C_takeByte_32 : decode b_C_takeByte 32 = .ok (.putfield 47, 3) := by decide +kernel
theorem d_C_takeByte_35 : decode b_C_takeByte 35 = .ok (.aload_n 0, 1) := by decide +kernel
theorem d_C_takeByte_36 : decode b_C_takeByte 36 = .ok (.getfield 10, 3) := by decide +kernel
theorem d_C_takeByte_39 : decode b_C_takeByte 39 = .ok (.iload 4, 2) := by decide +kernel
theorem d_C_takeByte_41 : decode b_C_takeByte 41 = .ok (.iload_n 3, 1) := by decide +kernel
theorem d_C_takeByte_42 : decode b_C_takeByte 42 = .ok (.invokevirtual 249, 3) := by decide +kernel
theorem d_C_takeByte_45 : decode b_C_takeByte 45 = .ok (.ireturn, 1) := by decide +kernel
theorem d_C_takeByte_46 : decode b_C_takeByte 46 = .ok (.aload_n 0, 1) := by decide +kernel
theorem d_C_takeByte_47 : decode b_C_takeByte 47 = .ok (.dup, 1) := by decide +kernel
theorem d_C_takeByte_48 : decode b_C_takeByte 48 = .ok (.getfield 50, 3) := by decide +kernel
theorem d_C_takeByte_51 : decode b_C_takeByte 51 = .ok (.iconst 1, 1) := by decide +kernel
theorem d_C_takeByte_52 : decode b_C_takeByte 52 = .ok (.iadd, 1) := by decide +kernel
theorem d_C_takeByte_53 : decode b_C_takeByte 53 = .ok (.putfield 50, 3) := by decide +kernel
theorem d_C_takeByte_56 : decode b_C_takeByte 56 = .ok (.aload_n 0, 1) := by decide +kernel
theorem d_C_takeByte_57 : decode b_C_takeByte 57 = .ok (.getfield 19, 3) := by decide +kernel
theorem d_C_takeByte_60 : decode b_C_takeByte 60 = .ok (.iload_n 3, 1) := by decide +kernel
theorem d_C_takeByte_61 : decode b_C_takeByte 61 = .ok (.invokevirtual 251, 3) := by decide +kernel
theorem d_C_takeByte_64 : decode b_C_takeByte 64 = .ok (.istore 5, 2) := by decide +kernel
theorem d_C_takeByte_66 : decode b_C_takeByte 66 = .ok (.iload 5, 2) := by decide +kernel
theorem d_C_takeByte_68 : decode b_C_takeByte 68 = .ok (.iconst (-1), 1) := by decide +kernel
theorem d_C_takeByte_69 : decode b_C_takeByte 69 = .ok (.if_icmp .eq 17, 3) := by decide +kernel
theorem d_C_takeByte_72 : decode b_C_takeByte 72 = .ok (.aload_n 0, 1) := by decide +kernel
theorem d_C_takeByte_73 : decode b_C_takeByte 73 = .ok (.getfield 10, 3) := by decide +kernel
theorem d_C_takeByte_76 : decode b_C_takeByte 76 = .ok (.iload_n 1, 1) := by decide +kernel
theorem d_C_takeByte_77 : decode b_C_takeByte 77 = .ok (.iload_n 2, 1) := by decide +kernel
theorem d_C_takeByte_78 : decode b_C_takeByte 78 = .ok (.bipush (-2), 2) := by decide +kernel
theorem d_C_takeByte_80 : decode b_C_takeByte 80 = .ok (.invokevirtual 245, 3) := by decide +kernel
theorem d_C_takeByte_83 : decode b_C_takeByte 83 = .ok (.iload 5, 2) := by decide +kernel
theorem d_C_takeByte_85 : decode b_C_takeByte 85 = .ok (.ireturn, 1) := by decide +kernel
theorem d_C_takeByte_86 : decode b_C_takeByte 86 = .ok (.aload_n 0, 1) := by decide +kernel
theorem d_C_takeByte_87 : decode b_C_takeByte 87 = .ok (.getfield 10, 3) := by decide +kernel
theorem d_C_takeByte_90 : decode b_C_takeByte 90 = .ok (.iload_n 1, 1) := by decide +kernel
theorem d_C_takeByte_91 : decode b_C_takeByte 91 = .ok (.iload_n 2, 1) := by decide +kernel
theorem d_C_takeByte_92 : decode b_C_takeByte 92 = .ok (.iconst (-1), 1) := by decide +kernel
theorem d_C_takeByte_93 : decode b_C_takeByte 93 = .ok (.invokevirtual 245, 3) := by decide +kernel
theorem d_C_takeByte_96 : decode b_C_takeByte 96 = .ok (.aload_n 0, 1) := by decide +kernel
theorem d_C_takeByte_97 : decode b_C_takeByte 97 = .ok (.getfield 26, 3) := by decide +kernel
theorem d_C_takeByte_100 : decode b_C_takeByte 100 = .ok (.iload_n 3, 1) := by decide +kernel
theorem d_C_takeByte_101 : decode b_C_takeByte 101 = .ok (.invokevirtual 200, 3) := by decide +kernel
theorem d_C_takeByte_104 : decode b_C_takeByte 104 = .ok (.ireturn, 1) := by decide +kernel
theorem d_O_setSource_0 : decode b_O_setSource 0 = .ok (.aload_n 0, 1) := by decide +kernel
theorem d_O_setSource_1 : decode b_O_setSource 1 = .ok (.getfield 40, 3) := by decide +kernel
theorem d_O_setSource_4 : decode b_O_setSource 4 = .ok (.iload_n 1, 1) := by decide +kernel
theorem d_O_setSource_5 : decode b_O_setSource 5 = .ok (.iload_n 2, 1) := by decide +kernel
theorem d_O_setSource_6 : decode b_O_setSource 6 = .ok (.invokestatic 50, 3) := by decide +kernel
theorem d_O_setSource_9 : decode b_O_setSource 9 = .ok (.iload_n 3, 1) := by decide +kernel
theorem d_O_setSource_10 : decode b_O_setSource 10 = .ok (.iastore, 1) := by decide +kernel
theorem d_O_setSource_11 : decode b_O_setSource 11 = .ok (.return_, 1) := by decide +kernel
theorem d_O_byteAt_0 : decode b_O_byteAt 0 = .ok (.aload_n 0, 1) := by decide +kernel
theorem d_O_byteAt_1 : decode b_O_byteAt 1 = .ok (.iload_n 1, 1) := by decide +kernel
theorem d_O_byteAt_2 : decode b_O_byteAt 2 = .ok (.invokevirtual 61, 3) := by decide +kernel
theorem d_O_byteAt_5 : decode b_O_byteAt 5 = .ok (.aload_n 0, 1) := by decide +kernel
theorem d_O_byteAt_6 : decode b_O_byteAt 6 = .ok (.iload_n 1, 1) := by decide +kernel
theorem d_O_byteAt_7 : decode b_O_byteAt 7 = .ok (.invokevirtual 58, 3) := by decide +kernel
theorem d_O_byteAt_10 : decode b_O_byteAt 10 = .ok (.iload_n 2, 1) := by decide +kernel
theorem d_O_byteAt_11 : decode b_O_byteAt 11 = .ok (.aload_n 0, 1) := by decide +kernel
theorem d_O_byteAt_12 : decode b_O_byteAt 12 = .ok (.iload_n 1, 1) := by decide +kernel
theorem d_O_byteAt_13 : decode b_O_byteAt 13 = .ok (.invokevirtual 54, 3) := by decide +kernel
theorem d_O_byteAt_16 : decode b_O_byteAt 16 = .ok (.isub, 1) := by decide +kernel
theorem d_O_byteAt_17 : decode b_O_byteAt 17 = .ok (.invokestatic 64, 3) := by decide +kernel
theorem d_O_byteAt_20 : decode b_O_byteAt 20 = .ok (.ireturn, 1) := by decide +kernel
theorem d_B_byteAt_0 : decode b_B_byteAt 0 = .ok (.iconst (-1), 1) := by decide +kernel
theorem d_B_byteAt_1 : decode b_B_byteAt 1 = .ok (.istore_n 2, 1) := by decide +kernel
theorem d_B_byteAt_2 : decode b_B_byteAt 2 = .ok (.iconst 0, 1) := by decide +kernel
theorem d_B_byteAt_3 : decode b_B_byteAt 3 = .ok (.istore_n 3, 1) := by decide +kernel
theorem d_B_byteAt_4 : decode b_B_byteAt 4 = .ok (.iload_n 3, 1) := by decide +kernel
theorem d_B_byteAt_5 : decode b_B_byteAt 5 = .ok (.iconst 4, 1) := by decide +kernel
theorem d_B_byteAt_6 : decode b_B_byteAt 6 = .ok (.if_icmp .ge 68, 3) := by decide +kernel
theorem d_B_byteAt_9 : decode b_B_byteAt 9 = .ok (.iload_n 3, 1) := by decide +kernel
theorem d_B_byteAt_10 : decode b_B_byteAt 10 = .ok (.aload_n 0, 1) := by decide +kernel
theorem d_B_byteAt_11 : decode b_B_byteAt 11 = .ok (.getfield 24, 3) := by decide +kernel
theorem d_B_byteAt_14 : decode b_B_byteAt 14 = .ok (.if_icmp .ge 54, 3) := by decide +kernel
theorem d_B_byteAt_17 : decode b_B_byteAt 17 = .ok (.iload_n 1, 1) := by decide +kernel
theorem d_B_byteAt_18 : decode b_B_byteAt 18 = .ok (.aload_n 0, 1) := by decide +kernel
theorem d_B_byteAt_19 : decode b_B_byteAt 19 = .ok (.getfield 15, 3) := by decide +kernel
theorem d_B_byteAt_22 : decode b_B_byteAt 22 = .ok (.iload_n 3, 1) := by decide +kernel
theorem d_B_byteAt_23 : decode b_B_byteAt 23 = .ok (.iaload, 1) := by decide +kernel
theorem d_B_byteAt_24 : decode b_B_byteAt 24 = .ok (.if_icmp .lt 44, 3) := by decide +kernel
theorem d_B_byteAt_27 : decode b_B_byteAt 27 = .ok (.iload_n 1, 1) := by decide +kernel
theorem d_B_byteAt_28 : decode b_B_byteAt 28 = .ok (.aload_n 0, 1) := by decide +kernel
theorem d_B_byteAt_29 : decode b_B_byteAt 29 = .ok (.getfield 15, 3) := by decide +kernel
theorem d_B_byteAt_32 : decode b_B_byteAt 32 = .ok (.iload_n 3, 1) := by decide +kernel
theorem d_B_byteAt_33 : decode b_B_byteAt 33 = .ok (.iaload, 1) := by decide +kernel
theorem d_B_byteAt_34 : decode b_B_byteAt 34 = .ok (.aload_n 0, 1) := by decide +kernel
theorem d_B_byteAt_35 : decode b_B_byteAt 35 = .ok (.getfield 18, 3) := by decide +kernel
theorem d_B_byteAt_38 : decode b_B_byteAt 38 = .ok (.iload_n 3, 1) := by decide +kernel
theorem d_B_byteAt_39 : decode b_B_byteAt 39 = .ok (.iaload, 1) := by decide +kernel
theorem d_B_byteAt_40 : decode b_B_byteAt 40 = .ok (.iadd, 1) := by decide +kernel
theorem d_B_byteAt_41 : decode b_B_byteAt 41 = .ok (.if_icmp .ge 27, 3) := by decide +kernel
theorem d_B_byteAt_44 : decode b_B_byteAt 44 = .ok (.aload_n 0, 1) := by decide +kernel
theorem d_B_byteAt_45 : decode b_B_byteAt 45 = .ok (.getfield 21, 3) := by decide +kernel
theorem d_B_byteAt_48 : decode b_B_byteAt 48 = .ok (.iload_n 3, 1) := by decide +kernel
theorem d_B_byteAt_49 : decode b_B_byteAt 49 = .ok (.iaload, 1) := by decide +kernel
theorem d_B_byteAt_50 : decode b_B_byteAt 50 = .ok (.aload_n 0, 1) := by decide +kernel
theorem d_B_byteAt_51 : decode b_B_byteAt 51 = .ok (.getfield 18, 3) := by decide +kernel
theorem d_B_byteAt_54 : decode b_B_byteAt 54 = .ok (.iload_n 3, 1) := by decide +kernel
theorem d_B_byteAt_55 : decode b_B_byteAt 55 = .ok (.iaload, 1) := by decide +kernel
theorem d_B_byteAt_56 : decode b_B_byteAt 56 = .ok (.iload_n 1, 1) := by decide +kernel
theorem d_B_byteAt_57 : decode b_B_byteAt 57 = .ok (.aload_n 0, 1) := by decide +kernel
theorem d_B_byteAt_58 : decode b_B_byteAt 58 = .ok (.getfield 15, 3) := by decide +kernel
theorem d_B_byteAt_61 : decode b_B_byteAt 61 = .ok (.iload_n 3, 1) := by decide +kernel
theorem d_B_byteAt_62 : decode b_B_byteAt 62 = .ok (.iaload, 1) := by decide +kernel
theorem d_B_byteAt_63 : decode b_B_byteAt 63 = .ok (.isub, 1) := by decide +kernel
theorem d_B_byteAt_64 : decode b_B_byteAt 64 = .ok (.invokestatic 34, 3) := by decide +kernel
theorem d_B_byteAt_67 : decode b_B_byteAt 67 = .ok (.istore_n 2, 1) := by decide +kernel
theorem d_B_byteAt_68 : decode b_B_byteAt 68 = .ok (.iinc 3 1, 3) := by decide +kernel
theorem d_B_byteAt_71 : decode b_B_byteAt 71 = .ok (.goto (-67), 3) := by decide +kernel
theorem d_B_byteAt_74 : decode b_B_byteAt 74 = .ok (.iload_n 2, 1) := by decide +kernel
theorem d_B_byteAt_75 : decode b_B_byteAt 75 = .ok (.ireturn, 1) := by decide +kernel
theorem d_L_loaded_0 : decode b_L_loaded 0 = .ok (.aload_n 2, 1) := by decide +kernel
theorem d_L_loaded_1 : decode b_L_loaded 1 = .ok (.iconst 0, 1) := by decide +kernel
theorem d_L_loaded_2 : decode b_L_loaded 2 = .ok (.aload_n 0, 1) := by decide +kernel
theorem d_L_loaded_3 : decode b_L_loaded 3 = .ok (.iload_n 1, 1) := by decide +kernel
theorem d_L_loaded_4 : decode b_L_loaded 4 = .ok (.invokevirtual 30, 3) := by decide +kernel
theorem d_L_loaded_7 : decode b_L_loaded 7 = .ok (.i2l, 1) := by decide +kernel
theorem d_L_loaded_8 : decode b_L_loaded 8 = .ok (.lastore, 1) := by decide +kernel
theorem d_L_loaded_9 : decode b_L_loaded 9 = .ok (.goto 12, 3) := by decide +kernel
theorem d_L_loaded_12 : decode b_L_loaded 12 = .ok (.astore_n 3, 1) := by decide +kernel
theorem d_L_loaded_13 : decode b_L_loaded 13 = .ok (.iconst 1, 1) := by decide +kernel
theorem d_L_loaded_14 : decode b_L_loaded 14 = .ok (.ireturn, 1) := by decide +kernel
theorem d_L_loaded_15 : decode b_L_loaded 15 = .ok (.astore_n 3, 1) := by decide +kernel
theorem d_L_loaded_16 : decode b_L_loaded 16 = .ok (.iconst 2, 1) := by decide +kernel
theorem d_L_loaded_17 : decode b_L_loaded 17 = .ok (.ireturn, 1) := by decide +kernel
theorem d_L_loaded_18 : decode b_L_loaded 18 = .ok (.astore_n 3, 1) := by decide +kernel
theorem d_L_loaded_19 : decode b_L_loaded 19 = .ok (.iconst 3, 1) := by decide +kernel
theorem d_L_loaded_20 : decode b_L_loaded 20 = .ok (.ireturn, 1) := by decide +kernel
theorem d_L_loaded_21 : decode b_L_loaded 21 = .ok (.iconst 0, 1) := by decide +kernel
theorem d_L_loaded_22 : decode b_L_loaded 22 = .ok (.ireturn, 1) := by decide +kernel
theorem d_C_loaded_0 : decode b_C_loaded 0 = .ok (.aload_n 0, 1) := by decide +kernel
theorem d_C_loaded_1 : decode b_C_loaded 1 = .ok (.iload_n 1, 1) := by decide +kernel
theorem d_C_loaded_2 : decode b_C_loaded 2 = .ok (.invokevirtual 77, 3) := by decide +kernel
theorem d_C_loaded_5 : decode b_C_loaded 5 = .ok (.aload_n 0, 1) := by decide +kernel
theorem d_C_loaded_6 : decode b_C_loaded 6 = .ok (.getfield 30, 3) := by decide +kernel
theorem d_C_loaded_9 : decode b_C_loaded 9 = .ok (.iconst 1, 1) := by decide +kernel
theorem d_C_loaded_10 : decode b_C_loaded 10 = .ok (.isub, 1) := by decide +kernel
theorem d_C_loaded_11 : decode b_C_loaded 11 = .ok (.iload_n 1, 1) := by decide +kernel
theorem d_C_loaded_12 : decode b_C_loaded 12 = .ok (.isub, 1) := by decide +kernel
theorem d_C_loaded_13 : decode b_C_loaded 13 = .ok (.bipush 64, 2) := by decide +kernel
theorem d_C_loaded_15 : decode b_C_loaded 15 = .ok (.if_icmp .lt 13, 3) := by decide +kernel
theorem d_C_loaded_18 : decode b_C_loaded 18 = .ok (.new 149, 3) := by decide +kernel
theorem d_C_loaded_21 : decode b_C_loaded 21 = .ok (.dup, 1) := by decide +kernel
theorem d_C_loaded_22 : decode b_C_loaded 22 = .ok (.ldc 151, 2) := by decide +kernel
theorem d_C_loaded_24 : decode b_C_loaded 24 = .ok (.invokespecial 153, 3) := by decide +kernel
theorem d_C_loaded_27 : decode b_C_loaded 27 = .ok (.athrow, 1) := by decide +kernel
theorem d_C_loaded_28 : decode b_C_loaded 28 = .ok (.aload_n 0, 1) := by decide +kernel
theorem d_C_loaded_29 : decode b_C_loaded 29 = .ok (.iload_n 1, 1) := by decide +kernel
theorem d_C_loaded_30 : decode b_C_loaded 30 = .ok (.invokevirtual 154, 3) := by decide +kernel
theorem d_C_loaded_33 : decode b_C_loaded 33 = .ok (.ifCond .ne 13, 3) := by decide +kernel
theorem d_C_loaded_36 : decode b_C_loaded 36 = .ok (.new 57, 3) := by decide +kernel
theorem d_C_loaded_39 : decode b_C_loaded 39 = .ok (.dup, 1) := by decide +kernel
theorem d_C_loaded_40 : decode b_C_loaded 40 = .ok (.ldc 157, 2) := by decide +kernel
theorem d_C_loaded_42 : decode b_C_loaded 42 = .ok (.invokespecial 61, 3) := by decide +kernel
theorem d_C_loaded_45 : decode b_C_loaded 45 = .ok (.athrow, 1) := by decide +kernel
theorem d_C_loaded_46 : decode b_C_loaded 46 = .ok (.aload_n 0, 1) := by decide +kernel
theorem d_C_loaded_47 : decode b_C_loaded 47 = .ok (.getfield 10, 3) := by decide +kernel
theorem d_C_loaded_50 : decode b_C_loaded 50 = .ok (.iload_n 1, 1) := by decide +kernel
theorem d_C_loaded_51 : decode b_C_loaded 51 = .ok (.invokevirtual 159, 3) := by decide +kernel
theorem d_C_loaded_54 : decode b_C_loaded 54 = .ok (.ireturn, 1) := by decide +kernel
theorem d_C_hasLoaded_0 : decode b_C_hasLoaded 0 = .ok (.aload_n 0, 1) := by decide +kernel
theorem d_C_hasLoaded_1 : decode b_C_hasLoaded 1 = .ok (.getfield 10, 3) := by decide +kernel
theorem d_C_hasLoaded_4 : decode b_C_hasLoaded 4 = .ok (.iload_n 1, 1) := by decide +kernel
theorem d_C_hasLoaded_5 : decode b_C_hasLoaded 5 = .ok (.invokevirtual 85, 3) := by decide +kernel
theorem d_C_hasLoaded_8 : decode b_C_hasLoaded 8 = .ok (.iconst 3, 1) := by decide +kernel
theorem d_C_hasLoaded_9 : decode b_C_hasLoaded 9 = .ok (.if_icmp .ne 19, 3) := by decide +kernel
theorem d_C_hasLoaded_12 : decode b_C_hasLoaded 12 = .ok (.aload_n 0, 1) := by decide +kernel
theorem d_C_hasLoaded_13 : decode b_C_hasLoaded 13 = .ok (.iload_n 1, 1) := by decide +kernel
theorem d_C_hasLoaded_14 : decode b_C_hasLoaded 14 = .ok (.invokevirtual 81, 3) := by decide +kernel
theorem d_C_hasLoaded_17 : decode b_C_hasLoaded 17 = .ok (.ifCond .ne 7, 3) := by decide +kernel
theorem d_C_hasLoaded_20 : decode b_C_hasLoaded 20 = .ok (.iconst 1, 1) := by decide +kernel
theorem d_C_hasLoaded_21 : decode b_C_hasLoaded 21 = .ok (.goto 15, 3) := by decide +kernel
theorem d_C_hasLoaded_24 : decode b_C_hasLoaded 24 = .ok (.iconst 0, 1) := by decide +kernel
theorem d_C_hasLoaded_25 : decode b_C_hasLoaded 25 = .ok (.goto 11, 3) := by decide +kernel
theorem d_C_hasLoaded_28 : decode b_C_hasLoaded 28 = .ok (.aload_n 0, 1) := by decide +kernel
theorem d_C_hasLoaded_29 : decode b_C_hasLoaded 29 = .ok (.getfield 10, 3) := by decide +kernel
theorem d_C_hasLoaded_32 : decode b_C_hasLoaded 32 = .ok (.iload_n 1, 1) := by decide +kernel
theorem d_C_hasLoaded_33 : decode b_C_hasLoaded 33 = .ok (.invokevirtual 129, 3) := by decide +kernel
theorem d_C_hasLoaded_36 : decode b_C_hasLoaded 36 = .ok (.ireturn, 1) := by decide +kernel
theorem d_O_loadedBy_0 : decode b_O_loadedBy 0 = .ok (.aload_n 0, 1) := by decide +kernel
theorem d_O_loadedBy_1 : decode b_O_loadedBy 1 = .ok (.getfield 37, 3) := by decide +kernel
theorem d_O_loadedBy_4 : decode b_O_loadedBy 4 = .ok (.iload_n 1, 1) := by decide +kernel
theorem d_O_loadedBy_5 : decode b_O_loadedBy 5 = .ok (.bipush 127, 2) := by decide +kernel
end
section
theorem d_O_loadedBy_7 : decode b_O_loadedBy 7 = .ok (.iand, 1) := by decide +kernel
theorem d_O_loadedBy_8 : decode b_O_loadedBy 8 = .ok (.iaload, 1) := by decide +kernel
theorem d_O_loadedBy_9 : decode b_O_loadedBy 9 = .ok (.ireturn, 1) := by decide +kernel
theorem d_L_source_0 : decode b_L_source 0 = .ok (.aload_n 3, 1) := by decide +kernel
theorem d_L_source_1 : decode b_L_source 1 = .ok (.iconst 0, 1) := by decide +kernel
theorem d_L_source_2 : decode b_L_source 2 = .ok (.aload_n 0, 1) := by decide +kernel
theorem d_L_source_3 : decode b_L_source 3 = .ok (.iload_n 1, 1) := by decide +kernel
theorem d_L_source_4 : decode b_L_source 4 = .ok (.iload_n 2, 1) := by decide +kernel
theorem d_L_source_5 : decode b_L_source 5 = .ok (.invokevirtual 35, 3) := by decide +kernel
theorem d_L_source_8 : decode b_L_source 8 = .ok (.i2l, 1) := by decide +kernel
theorem d_L_source_9 : decode b_L_source 9 = .ok (.lastore, 1) := by decide +kernel
theorem d_L_source_10 : decode b_L_source 10 = .ok (.goto 15, 3) := by decide +kernel
theorem d_L_source_13 : decode b_L_source 13 = .ok (.astore 4, 2) := by decide +kernel
theorem d_L_source_15 : decode b_L_source 15 = .ok (.iconst 1, 1) := by decide +kernel
theorem d_L_source_16 : decode b_L_source 16 = .ok (.ireturn, 1) := by decide +kernel
theorem d_L_source_17 : decode b_L_source 17 = .ok (.astore 4, 2) := by decide +kernel
theorem d_L_source_19 : decode b_L_source 19 = .ok (.iconst 2, 1) := by decide +kernel
theorem d_L_source_20 : decode b_L_source 20 = .ok (.ireturn, 1) := by decide +kernel
theorem d_L_source_21 : decode b_L_source 21 = .ok (.astore 4, 2) := by decide +kernel
theorem d_L_source_23 : decode b_L_source 23 = .ok (.iconst 3, 1) := by decide +kernel
theorem d_L_source_24 : decode b_L_source 24 = .ok (.ireturn, 1) := by decide +kernel
theorem d_L_source_25 : decode b_L_source 25 = .ok (.iconst 0, 1) := by decide +kernel
theorem d_L_source_26 : decode b_L_source 26 = .ok (.ireturn, 1) := by decide +kernel
theorem d_C_source_0 : decode b_C_source 0 = .ok (.aload_n 0, 1) := by decide +kernel
theorem d_C_source_1 : decode b_C_source 1 = .ok (.iload_n 1, 1) := by decide +kernel
theorem d_C_source_2 : decode b_C_source 2 = .ok (.invokevirtual 77, 3) := by decide +kernel
theorem d_C_source_5 : decode b_C_source 5 = .ok (.aload_n 0, 1) := by decide +kernel
theorem d_C_source_6 : decode b_C_source 6 = .ok (.iload_n 1, 1) := by decide +kernel
theorem d_C_source_7 : decode b_C_source 7 = .ok (.invokevirtual 81, 3) := by decide +kernel
theorem d_C_source_10 : decode b_C_source 10 = .ok (.ifCond .eq 14, 3) := by decide +kernel
theorem d_C_source_13 : decode b_C_source 13 = .ok (.aload_n 0, 1) := by decide +kernel
theorem d_C_source_14 : decode b_C_source 14 = .ok (.getfield 10, 3) := by decide +kernel
theorem d_C_source_17 : decode b_C_source 17 = .ok (.iload_n 1, 1) := by decide +kernel
theorem d_C_source_18 : decode b_C_source 18 = .ok (.invokevirtual 129, 3) := by decide +kernel
theorem d_C_source_21 : decode b_C_source 21 = .ok (.ifCond .ne 13, 3) := by decide +kernel
theorem d_C_source_24 : decode b_C_source 24 = .ok (.new 57, 3) := by decide +kernel
theorem d_C_source_27 : decode b_C_source 27 = .ok (.dup, 1) := by decide +kernel
theorem d_C_source_28 : decode b_C_source 28 = .ok (.ldc 162, 2) := by decide +kernel
theorem d_C_source_30 : decode b_C_source 30 = .ok (.invokespecial 61, 3) := by decide +kernel
theorem d_C_source_33 : decode b_C_source 33 = .ok (.athrow, 1) := by decide +kernel
theorem d_C_source_34 : decode b_C_source 34 = .ok (.iload_n 2, 1) := by decide +kernel
theorem d_C_source_35 : decode b_C_source 35 = .ok (.ifCond .lt 15, 3) := by decide +kernel
theorem d_C_source_38 : decode b_C_source 38 = .ok (.iload_n 2, 1) := by decide +kernel
theorem d_C_source_39 : decode b_C_source 39 = .ok (.aload_n 0, 1) := by decide +kernel
theorem d_C_source_40 : decode b_C_source 40 = .ok (.getfield 10, 3) := by decide +kernel
theorem d_C_source_43 : decode b_C_source 43 = .ok (.iload_n 1, 1) := by decide +kernel
theorem d_C_source_44 : decode b_C_source 44 = .ok (.invokevirtual 94, 3) := by decide +kernel
theorem d_C_source_47 : decode b_C_source 47 = .ok (.if_icmp .lt 13, 3) := by decide +kernel
theorem d_C_source_50 : decode b_C_source 50 = .ok (.new 149, 3) := by decide +kernel
theorem d_C_source_53 : decode b_C_source 53 = .ok (.dup, 1) := by decide +kernel
theorem d_C_source_54 : decode b_C_source 54 = .ok (.ldc 164, 2) := by decide +kernel
theorem d_C_source_56 : decode b_C_source 56 = .ok (.invokespecial 153, 3) := by decide +kernel
theorem d_C_source_59 : decode b_C_source 59 = .ok (.athrow, 1) := by decide +kernel
theorem d_C_source_60 : decode b_C_source 60 = .ok (.aload_n 0, 1) := by decide +kernel
theorem d_C_source_61 : decode b_C_source 61 = .ok (.getfield 10, 3) := by decide +kernel
theorem d_C_source_64 : decode b_C_source 64 = .ok (.iload_n 1, 1) := by decide +kernel
theorem d_C_source_65 : decode b_C_source 65 = .ok (.iload_n 2, 1) := by decide +kernel
theorem d_C_source_66 : decode b_C_source 66 = .ok (.invokevirtual 166, 3) := by decide +kernel
theorem d_C_source_69 : decode b_C_source 69 = .ok (.istore_n 3, 1) := by decide +kernel
theorem d_C_source_70 : decode b_C_source 70 = .ok (.iload_n 3, 1) := by decide +kernel
theorem d_C_source_71 : decode b_C_source 71 = .ok (.ifCond .lt 7, 3) := by decide +kernel
theorem d_C_source_74 : decode b_C_source 74 = .ok (.iload_n 3, 1) := by decide +kernel
theorem d_C_source_75 : decode b_C_source 75 = .ok (.goto 4, 3) := by decide +kernel
theorem d_C_source_78 : decode b_C_source 78 = .ok (.iconst (-1), 1) := by decide +kernel
theorem d_C_source_79 : decode b_C_source 79 = .ok (.ireturn, 1) := by decide +kernel
theorem d_L_other_0 : decode b_L_other 0 = .ok (.aload_n 3, 1) := by decide +kernel
theorem d_L_other_1 : decode b_L_other 1 = .ok (.iconst 0, 1) := by decide +kernel
theorem d_L_other_2 : decode b_L_other 2 = .ok (.aload_n 0, 1) := by decide +kernel
theorem d_L_other_3 : decode b_L_other 3 = .ok (.iload_n 1, 1) := by decide +kernel
theorem d_L_other_4 : decode b_L_other 4 = .ok (.iload_n 2, 1) := by decide +kernel
theorem d_L_other_5 : decode b_L_other 5 = .ok (.invokevirtual 38, 3) := by decide +kernel
theorem d_L_other_8 : decode b_L_other 8 = .ok (.i2l, 1) := by decide +kernel
theorem d_L_other_9 : decode b_L_other 9 = .ok (.lastore, 1) := by decide +kernel
theorem d_L_other_10 : decode b_L_other 10 = .ok (.goto 7, 3) := by decide +kernel
theorem d_L_other_13 : decode b_L_other 13 = .ok (.astore 4, 2) := by decide +kernel
theorem d_L_other_15 : decode b_L_other 15 = .ok (.iconst 1, 1) := by decide +kernel
theorem d_L_other_16 : decode b_L_other 16 = .ok (.ireturn, 1) := by decide +kernel
theorem d_L_other_17 : decode b_L_other 17 = .ok (.iconst 0, 1) := by decide +kernel
theorem d_L_other_18 : decode b_L_other 18 = .ok (.ireturn, 1) := by decide +kernel
theorem d_C_other_0 : decode b_C_other 0 = .ok (.iload_n 1, 1) := by decide +kernel
theorem d_C_other_1 : decode b_C_other 1 = .ok (.invokestatic 187, 3) := by decide +kernel
theorem d_C_other_4 : decode b_C_other 4 = .ok (.ifCond .eq 14, 3) := by decide +kernel
theorem d_C_other_7 : decode b_C_other 7 = .ok (.iload_n 2, 1) := by decide +kernel
theorem d_C_other_8 : decode b_C_other 8 = .ok (.ifCond .lt 10, 3) := by decide +kernel
theorem d_C_other_11 : decode b_C_other 11 = .ok (.iload_n 2, 1) := by decide +kernel
theorem d_C_other_12 : decode b_C_other 12 = .ok (.sipush 255, 3) := by decide +kernel
theorem d_C_other_15 : decode b_C_other 15 = .ok (.if_icmp .le 13, 3) := by decide +kernel
theorem d_C_other_18 : decode b_C_other 18 = .ok (.new 57, 3) := by decide +kernel
theorem d_C_other_21 : decode b_C_other 21 = .ok (.dup, 1) := by decide +kernel
theorem d_C_other_22 : decode b_C_other 22 = .ok (.ldc 190, 2) := by decide +kernel
theorem d_C_other_24 : decode b_C_other 24 = .ok (.invokespecial 61, 3) := by decide +kernel
theorem d_C_other_27 : decode b_C_other 27 = .ok (.athrow, 1) := by decide +kernel
theorem d_C_other_28 : decode b_C_other 28 = .ok (.aload_n 0, 1) := by decide +kernel
theorem d_C_other_29 : decode b_C_other 29 = .ok (.getfield 26, 3) := by decide +kernel
theorem d_C_other_32 : decode b_C_other 32 = .ok (.iload_n 1, 1) := by decide +kernel
theorem d_C_other_33 : decode b_C_other 33 = .ok (.iload_n 2, 1) := by decide +kernel
theorem d_C_other_34 : decode b_C_other 34 = .ok (.invokevirtual 192, 3) := by decide +kernel
theorem d_C_other_37 : decode b_C_other 37 = .ok (.aload_n 0, 1) := by decide +kernel
theorem d_C_other_38 : decode b_C_other 38 = .ok (.iload_n 1, 1) := by decide +kernel
theorem d_C_other_39 : decode b_C_other 39 = .ok (.invokevirtual 195, 3) := by decide +kernel
theorem d_C_other_42 : decode b_C_other 42 = .ok (.istore_n 3, 1) := by decide +kernel
theorem d_C_other_43 : decode b_C_other 43 = .ok (.iload_n 3, 1) := by decide +kernel
theorem d_C_other_44 : decode b_C_other 44 = .ok (.iconst (-1), 1) := by decide +kernel
theorem d_C_other_45 : decode b_C_other 45 = .ok (.if_icmp .ne 7, 3) := by decide +kernel
theorem d_C_other_48 : decode b_C_other 48 = .ok (.iconst 0, 1) := by decide +kernel
theorem d_C_other_49 : decode b_C_other 49 = .ok (.goto 8, 3) := by decide +kernel
theorem d_C_other_52 : decode b_C_other 52 = .ok (.aload_n 0, 1) := by decide +kernel
theorem d_C_other_53 : decode b_C_other 53 = .ok (.iload_n 3, 1) := by decide +kernel
theorem d_C_other_54 : decode b_C_other 54 = .ok (.invokevirtual 115, 3) := by decide +kernel
theorem d_C_other_57 : decode b_C_other 57 = .ok (.ireturn, 1) := by decide +kernel
theorem d_C_isMemoryByte_0 : decode b_C_isMemoryByte 0 = .ok (.iload_n 0, 1) := by decide +kernel
theorem d_C_isMemoryByte_1 : decode b_C_isMemoryByte 1 = .ok (.ifCond .lt 14, 3) := by decide +kernel
theorem d_C_isMemoryByte_4 : decode b_C_isMemoryByte 4 = .ok (.iload_n 0, 1) := by decide +kernel
theorem d_C_isMemoryByte_5 : decode b_C_isMemoryByte 5 = .ok (.sipush 4096, 3) := by decide +kernel
theorem d_C_isMemoryByte_8 : decode b_C_isMemoryByte 8 = .ok (.if_icmp .ge 7, 3) := by decide +kernel
theorem d_C_isMemoryByte_11 : decode b_C_isMemoryByte 11 = .ok (.iconst 1, 1) := by decide +kernel
theorem d_C_isMemoryByte_12 : decode b_C_isMemoryByte 12 = .ok (.goto 4, 3) := by decide +kernel
theorem d_C_isMemoryByte_15 : decode b_C_isMemoryByte 15 = .ok (.iconst 0, 1) := by decide +kernel
theorem d_C_isMemoryByte_16 : decode b_C_isMemoryByte 16 = .ok (.ireturn, 1) := by decide +kernel
theorem d_C_oldestLoadFromMemory_0 : decode b_C_oldestLoadFromMemory 0 = .ok (.aload_n 0, 1) := by decide +kernel
theorem d_C_oldestLoadFromMemory_1 : decode b_C_oldestLoadFromMemory 1 = .ok (.getfield 34, 3) := by decide +kernel
theorem d_C_oldestLoadFromMemory_4 : decode b_C_oldestLoadFromMemory 4 = .ok (.istore_n 2, 1) := by decide +kernel
theorem d_C_oldestLoadFromMemory_5 : decode b_C_oldestLoadFromMemory 5 = .ok (.iload_n 2, 1) := by decide +kernel
theorem d_C_oldestLoadFromMemory_6 : decode b_C_oldestLoadFromMemory 6 = .ok (.aload_n 0, 1) := by decide +kernel
theorem d_C_oldestLoadFromMemory_7 : decode b_C_oldestLoadFromMemory 7 = .ok (.getfield 30, 3) := by decide +kernel
theorem d_C_oldestLoadFromMemory_10 : decode b_C_oldestLoadFromMemory 10 = .ok (.if_icmp .ge 56, 3) := by decide +kernel
theorem d_C_oldestLoadFromMemory_13 : decode b_C_oldestLoadFromMemory 13 = .ok (.aload_n 0, 1) := by decide +kernel
theorem d_C_oldestLoadFromMemory_14 : decode b_C_oldestLoadFromMemory 14 = .ok (.getfield 10, 3) := by decide +kernel
theorem d_C_oldestLoadFromMemory_17 : decode b_C_oldestLoadFromMemory 17 = .ok (.iload_n 2, 1) := by decide +kernel
theorem d_C_oldestLoadFromMemory_18 : decode b_C_oldestLoadFromMemory 18 = .ok (.invokevirtual 129, 3) := by decide +kernel
theorem d_C_oldestLoadFromMemory_21 : decode b_C_oldestLoadFromMemory 21 = .ok (.ifCond .eq 39, 3) := by decide +kernel
theorem d_C_oldestLoadFromMemory_24 : decode b_C_oldestLoadFromMemory 24 = .ok (.aload_n 0, 1) := by decide +kernel
theorem d_C_oldestLoadFromMemory_25 : decode b_C_oldestLoadFromMemory 25 = .ok (.getfield 10, 3) := by decide +kernel
theorem d_C_oldestLoadFromMemory_28 : decode b_C_oldestLoadFromMemory 28 = .ok (.iload_n 2, 1) := by decide +kernel
theorem d_C_oldestLoadFromMemory_29 : decode b_C_oldestLoadFromMemory 29 = .ok (.iload_n 1, 1) := by decide +kernel
theorem d_C_oldestLoadFromMemory_30 : decode b_C_oldestLoadFromMemory 30 = .ok (.invokevirtual 231, 3) := by decide +kernel
theorem d_C_oldestLoadFromMemory_33 : decode b_C_oldestLoadFromMemory 33 = .ok (.ifCond .eq 27, 3) := by decide +kernel
theorem d_C_oldestLoadFromMemory_36 : decode b_C_oldestLoadFromMemory 36 = .ok (.aload_n 0, 1) := by decide +kernel
theorem d_C_oldestLoadFromMemory_37 : decode b_C_oldestLoadFromMemory 37 = .ok (.getfield 10, 3) := by decide +kernel
theorem d_C_oldestLoadFromMemory_40 : decode b_C_oldestLoadFromMemory 40 = .ok (.iload_n 2, 1) := by decide +kernel
theorem d_C_oldestLoadFromMemory_41 : decode b_C_oldestLoadFromMemory 41 = .ok (.iload_n 1, 1) := by decide +kernel
theorem d_C_oldestLoadFromMemory_42 : decode b_C_oldestLoadFromMemory 42 = .ok (.aload_n 0, 1) := by decide +kernel
theorem d_C_oldestLoadFromMemory_43 : decode b_C_oldestLoadFromMemory 43 = .ok (.getfield 10, 3) := by decide +kernel
theorem d_C_oldestLoadFromMemory_46 : decode b_C_oldestLoadFromMemory 46 = .ok (.iload_n 2, 1) := by decide +kernel
theorem d_C_oldestLoadFromMemory_47 : decode b_C_oldestLoadFromMemory 47 = .ok (.invokevirtual 225, 3) := by decide +kernel
theorem d_C_oldestLoadFromMemory_50 : decode b_C_oldestLoadFromMemory 50 = .ok (.isub, 1) := by decide +kernel
theorem d_C_oldestLoadFromMemory_51 : decode b_C_oldestLoadFromMemory 51 = .ok (.invokevirtual 166, 3) := by decide +kernel
theorem d_C_oldestLoadFromMemory_54 : decode b_C_oldestLoadFromMemory 54 = .ok (.iconst (-1), 1) := by decide +kernel
theorem d_C_oldestLoadFromMemory_55 : decode b_C_oldestLoadFromMemory 55 = .ok (.if_icmp .ne 5, 3) := by decide +kernel
theorem d_C_oldestLoadFromMemory_58 : decode b_C_oldestLoadFromMemory 58 = .ok (.iload_n 2, 1) := by decide +kernel
theorem d_C_oldestLoadFromMemory_59 : decode b_C_oldestLoadFromMemory 59 = .ok (.ireturn, 1) := by decide +kernel
theorem d_C_oldestLoadFromMemory_60 : decode b_C_oldestLoadFromMemory 60 = .ok (.iinc 2 1, 3) := by decide +kernel
theorem d_C_oldestLoadFromMemory_63 : decode b_C_oldestLoadFromMemory 63 = .ok (.goto (-58), 3) := by decide +kernel
theorem d_C_oldestLoadFromMemory_66 : decode b_C_oldestLoadFromMemory 66 = .ok (.iconst (-1), 1) := by decide +kernel
theorem d_C_oldestLoadFromMemory_67 : decode b_C_oldestLoadFromMemory 67 = .ok (.ireturn, 1) := by decide +kernel
theorem d_L_memory_0 : decode b_L_memory 0 = .ok (.aload_n 2, 1) := by decide +kernel
theorem d_L_memory_1 : decode b_L_memory 1 = .ok (.iconst 0, 1) := by decide +kernel
theorem d_L_memory_2 : decode b_L_memory 2 = .ok (.aload_n 0, 1) := by decide +kernel
theorem d_L_memory_3 : decode b_L_memory 3 = .ok (.iload_n 1, 1) := by decide +kernel
theorem d_L_memory_4 : decode b_L_memory 4 = .ok (.invokevirtual 41, 3) := by decide +kernel
theorem d_L_memory_7 : decode b_L_memory 7 = .ok (.i2l, 1) := by decide +kernel
theorem d_L_memory_8 : decode b_L_memory 8 = .ok (.lastore, 1) := by decide +kernel
theorem d_L_memory_9 : decode b_L_memory 9 = .ok (.goto 6, 3) := by decide +kernel
theorem d_L_memory_12 : decode b_L_memory 12 = .ok (.astore_n 3, 1) := by decide +kernel
theorem d_L_memory_13 : decode b_L_memory 13 = .ok (.iconst 1, 1) := by decide +kernel
theorem d_L_memory_14 : decode b_L_memory 14 = .ok (.ireturn, 1) := by decide +kernel
theorem d_L_memory_15 : decode b_L_memory 15 = .ok (.iconst 0, 1) := by decide +kernel
theorem d_L_memory_16 : decode b_L_memory 16 = .ok (.ireturn, 1) := by decide +kernel
theorem d_C_memory_0 : decode b_C_memory 0 = .ok (.iload_n 1, 1) := by decide +kernel
theorem d_C_memory_1 : decode b_C_memory 1 = .ok (.invokestatic 187, 3) := by decide +kernel
theorem d_C_memory_4 : decode b_C_memory 4 = .ok (.ifCond .ne 13, 3) := by decide +kernel
theorem d_C_memory_7 : decode b_C_memory 7 = .ok (.new 57, 3) := by decide +kernel
theorem d_C_memory_10 : decode b_C_memory 10 = .ok (.dup, 1) := by decide +kernel
theorem d_C_memory_11 : decode b_C_memory 11 = .ok (.ldc 198, 2) := by decide +kernel
theorem d_C_memory_13 : decode b_C_memory 13 = .ok (.invokespecial 61, 3) := by decide +kernel
theorem d_C_memory_16 : decode b_C_memory 16 = .ok (.athrow, 1) := by decide +kernel
theorem d_C_memory_17 : decode b_C_memory 17 = .ok (.aload_n 0, 1) := by decide +kernel
theorem d_C_memory_18 : decode b_C_memory 18 = .ok (.getfield 26, 3) := by decide +kernel
theorem d_C_memory_21 : decode b_C_memory 21 = .ok (.iload_n 1, 1) := by decide +kernel
theorem d_C_memory_22 : decode b_C_memory 22 = .ok (.invokevirtual 200, 3) := by decide +kernel
theorem d_C_memory_25 : decode b_C_memory 25 = .ok (.ireturn, 1) := by decide +kernel
theorem d_L_forget_0 : decode b_L_forget 0 = .ok (.aload_n 2, 1) := by decide +kernel
theorem d_L_forget_1 : decode b_L_forget 1 = .ok (.iconst 0, 1) := by decide +kernel
theorem d_L_forget_2 : decode b_L_forget 2 = .ok (.aload_n 0, 1) := by decide +kernel
theorem d_L_forget_3 : decode b_L_forget 3 = .ok (.iload_n 1, 1) := by decide +kernel
theorem d_L_forget_4 : decode b_L_forget 4 = .ok (.invokevirtual 44, 3) := by decide +kernel
theorem d_L_forget_7 : decode b_L_forget 7 = .ok (.i2l, 1) := by decide +kernel
theorem d_L_forget_8 : decode b_L_forget 8 = .ok (.lastore, 1) := by decide +kernel
theorem d_L_forget_9 : decode b_L_forget 9 = .ok (.goto 9, 3) := by decide +kernel
theorem d_L_forget_12 : decode b_L_forget 12 = .ok (.astore_n 3, 1) := by decide +kernel
theorem d_L_forget_13 : decode b_L_forget 13 = .ok (.iconst 1, 1) := by decide +kernel
theorem d_L_forget_14 : decode b_L_forget 14 = .ok (.ireturn, 1) := by decide +kernel
theorem d_L_forget_15 : decode b_L_forget 15 = .ok (.astore_n 3, 1) := by decide +kernel
theorem d_L_forget_16 : decode b_L_forget 16 = .ok (.iconst 2, 1) := by decide +kernel
theorem d_L_forget_17 : decode b_L_forget 17 = .ok (.ireturn, 1) := by decide +kernel
theorem d_L_forget_18 : decode b_L_forget 18 = .ok (.iconst 0, 1) := by decide +kernel
theorem d_L_forget_19 : decode b_L_forget 19 = .ok (.ireturn, 1) := by decide +kernel
theorem d_C_forget_0 : decode b_C_forget 0 = .ok (.aload_n 0, 1) := by decide +kernel
theorem d_C_forget_1 : decode b_C_forget 1 = .ok (.iload_n 1, 1) := by decide +kernel
theorem d_C_forget_2 : decode b_C_forget 2 = .ok (.invokevirtual 77, 3) := by decide +kernel
theorem d_C_forget_5 : decode b_C_forget 5 = .ok (.aload_n 0, 1) := by decide +kernel
theorem d_C_forget_6 : decode b_C_forget 6 = .ok (.iload_n 1, 1) := by decide +kernel
theorem d_C_forget_7 : decode b_C_forget 7 = .ok (.invokevirtual 81, 3) := by decide +kernel
theorem d_C_forget_10 : decode b_C_forget 10 = .ok (.ifCond .ne 13, 3) := by decide +kernel
theorem d_C_forget_13 : decode b_C_forget 13 = .ok (.new 57, 3) := by decide +kernel
theorem d_C_forget_16 : decode b_C_forget 16 = .ok (.dup, 1) := by decide +kernel
theorem d_C_forget_17 : decode b_C_forget 17 = .ok (.ldc 203, 2) := by decide +kernel
theorem d_C_forget_19 : decode b_C_forget 19 = .ok (.invokespecial 61, 3) := by decide +kernel
theorem d_C_forget_22 : decode b_C_forget 22 = .ok (.athrow, 1) := by decide +kernel
theorem d_C_forget_23 : decode b_C_forget 23 = .ok (.aload_n 0, 1) := by decide +kernel
theorem d_C_forget_24 : decode b_C_forget 24 = .ok (.getfield 30, 3) := by decide +kernel
theorem d_C_forget_27 : decode b_C_forget 27 = .ok (.iload_n 1, 1) := by decide +kernel
theorem d_C_forget_28 : decode b_C_forget 28 = .ok (.isub, 1) := by decide +kernel
theorem d_C_forget_29 : decode b_C_forget 29 = .ok (.istore_n 2, 1) := by decide +kernel
theorem d_C_forget_30 : decode b_C_forget 30 = .ok (.aload_n 0, 1) := by decide +kernel
theorem d_C_forget_31 : decode b_C_forget 31 = .ok (.iload_n 1, 1) := by decide +kernel
theorem d_C_forget_32 : decode b_C_forget 32 = .ok (.putfield 30, 3) := by decide +kernel
theorem d_C_forget_35 : decode b_C_forget 35 = .ok (.iload_n 2, 1) := by decide +kernel
theorem d_C_forget_36 : decode b_C_forget 36 = .ok (.ireturn, 1) := by decide +kernel
theorem d_M_init_0 : decode b_M_init 0 = .ok (.aload_n 0, 1) := by decide +kernel
theorem d_M_init_1 : decode b_M_init 1 = .ok (.invokespecial 1, 3) := by decide +kernel
theorem d_M_init_4 : decode b_M_init 4 = .ok (.aload_n 0, 1) := by decide +kernel
theorem d_M_init_5 : decode b_M_init 5 = .ok (.sipush 4096, 3) := by decide +kernel
theorem d_M_init_8 : decode b_M_init 8 = .ok (.newarray .int, 2) := by decide +kernel
theorem d_M_init_10 : decode b_M_init 10 = .ok (.putfield 7, 3) := by decide +kernel
theorem d_M_init_13 : decode b_M_init 13 = .ok (.aload_n 0, 1) := by decide +kernel
theorem d_M_init_14 : decode b_M_init 14 = .ok (.bipush 64, 2) := by decide +kernel
theorem d_M_init_16 : decode b_M_init 16 = .ok (.newarray .boolean, 2) := by decide +kernel
theorem d_M_init_18 : decode b_M_init 18 = .ok (.putfield 13, 3) := by decide +kernel
theorem d_M_init_21 : decode b_M_init 21 = .ok (.aload_n 0, 1) := by decide +kernel
theorem d_M_init_22 : decode b_M_init 22 = .ok (.sipush 128, 3) := by decide +kernel
theorem d_M_init_25 : decode b_M_init 25 = .ok (.newarray .int, 2) := by decide +kernel
theorem d_M_init_27 : decode b_M_init 27 = .ok (.putfield 17, 3) := by decide +kernel
theorem d_M_init_30 : decode b_M_init 30 = .ok (.aload_n 0, 1) := by decide +kernel
theorem d_M_init_31 : decode b_M_init 31 = .ok (.sipush 128, 3) := by decide +kernel
theorem d_M_init_34 : decode b_M_init 34 = .ok (.newarray .int, 2) := by decide +kernel
theorem d_M_init_36 : decode b_M_init 36 = .ok (.putfield 20, 3) := by decide +kernel
theorem d_M_init_39 : decode b_M_init 39 = .ok (.aload_n 0, 1) := by decide +kernel
theorem d_M_init_40 : decode b_M_init 40 = .ok (.sipush 128, 3) := by decide +kernel
theorem d_M_init_43 : decode b_M_init 43 = .ok (.newarray .int, 2) := by decide +kernel
theorem d_M_init_45 : decode b_M_init 45 = .ok (.putfield 23, 3) := by decide +kernel
theorem d_M_init_48 : decode b_M_init 48 = .ok (.aload_n 0, 1) := by decide +kernel
theorem d_M_init_49 : decode b_M_init 49 = .ok (.sipush 128, 3) := by decide +kernel
theorem d_M_init_52 : decode b_M_init 52 = .ok (.newarray .int, 2) := by decide +kernel
theorem d_M_init_54 : decode b_M_init 54 = .ok (.putfield 26, 3) := by decide +kernel
theorem d_M_init_57 : decode b_M_init 57 = .ok (.aload_n 0, 1) := by decide +kernel
theorem d_M_init_58 : decode b_M_init 58 = .ok (.sipush 128, 3) := by decide +kernel
theorem d_M_init_61 : decode b_M_init 61 = .ok (.newarray .int, 2) := by decide +kernel
theorem d_M_init_63 : decode b_M_init 63 = .ok (.putfield 29, 3) := by decide +kernel
theorem d_M_init_66 : decode b_M_init 66 = .ok (.aload_n 0, 1) := by decide +kernel
theorem d_M_init_67 : decode b_M_init 67 = .ok (.sipush 128, 3) := by decide +kernel
theorem d_M_init_70 : decode b_M_init 70 = .ok (.newarray .int, 2) := by decide +kernel
theorem d_M_init_72 : decode b_M_init 72 = .ok (.putfield 32, 3) := by decide +kernel
theorem d_M_init_75 : decode b_M_init 75 = .ok (.aload_n 0, 1) := by decide +kernel
theorem d_M_init_76 : decode b_M_init 76 = .ok (.sipush 128, 3) := by decide +kernel
theorem d_M_init_79 : decode b_M_init 79 = .ok (.newarray .boolean, 2) := by decide +kernel
theorem d_M_init_81 : decode b_M_init 81 = .ok (.putfield 35, 3) := by decide +kernel
theorem d_M_init_84 : decode b_M_init 84 = .ok (.aload_n 0, 1) := by decide +kernel
theorem d_M_init_85 : decode b_M_init 85 = .ok (.sipush 128, 3) := by decide +kernel
theorem d_M_init_88 : decode b_M_init 88 = .ok (.newarray .boolean, 2) := by decide +kernel
theorem d_M_init_90 : decode b_M_init 90 = .ok (.putfield 38, 3) := by decide +kernel
theorem d_M_init_93 : decode b_M_init 93 = .ok (.aload_n 0, 1) := by decide +kernel
theorem d_M_init_94 : decode b_M_init 94 = .ok (.sipush 512, 3) := by decide +kernel
theorem d_M_init_97 : decode b_M_init 97 = .ok (.newarray .int, 2) := by decide +kernel
theorem d_M_init_99 : decode b_M_init 99 = .ok (.putfield 41, 3) := by decide +kernel
theorem d_M_init_102 : decode b_M_init 102 = .ok (.aload_n 0, 1) := by decide +kernel
theorem d_M_init_103 : decode b_M_init 103 = .ok (.iconst 4, 1) := by decide +kernel
theorem d_M_init_104 : decode b_M_init 104 = .ok (.newarray .int, 2) := by decide +kernel
theorem d_M_init_106 : decode b_M_init 106 = .ok (.putfield 44, 3) := by decide +kernel
theorem d_M_init_109 : decode b_M_init 109 = .ok (.aload_n 0, 1) := by decide +kernel
theorem d_M_init_110 : decode b_M_init 110 = .ok (.iconst 4, 1) := by decide +kernel
theorem d_M_init_111 : decode b_M_init 111 = .ok (.newarray .int, 2) := by decide +kernel
theorem d_M_init_113 : decode b_M_init 113 = .ok (.putfield 47, 3) := by decide +kernel
theorem d_M_init_116 : decode b_M_init 116 = .ok (.aload_n 0, 1) := by decide +kernel
theorem d_M_init_117 : decode b_M_init 117 = .ok (.iconst 4, 1) := by decide +kernel
theorem d_M_init_118 : decode b_M_init 118 = .ok (.newarray .int, 2) := by decide +kernel
theorem d_M_init_120 : decode b_M_init 120 = .ok (.putfield 50, 3) := by decide +kernel
theorem d_M_init_123 : decode b_M_init 123 = .ok (.aload_n 0, 1) := by decide +kernel
theorem d_M_init_124 : decode b_M_init 124 = .ok (.iconst 4, 1) := by decide +kernel
theorem d_M_init_125 : decode b_M_init 125 = .ok (.newarray .int, 2) := by decide +kernel
theorem d_M_init_127 : decode b_M_init 127 = .ok (.putfield 53, 3) := by decide +kernel
theorem d_M_init_130 : decode b_M_init 130 = .ok (.return_, 1) := by decide +kernel
theorem d_M_thrown_0 : decode b_M_thrown 0 = .ok (.aload_n 0, 1) := by decide +kernel
theorem d_M_thrown_1 : decode b_M_thrown 1 = .ok (.getfield 56, 3) := by decide +kernel
theorem d_M_thrown_4 : decode b_M_thrown 4 = .ok (.ireturn, 1) := by decide +kernel
theorem d_M_op_0 : decode b_M_op 0 = .ok (.aload_n 0, 1) := by decide +kernel
theorem d_M_op_1 : decode b_M_op 1 = .ok (.iload_n 1, 1) := by decide +kernel
theorem d_M_op_2 : decode b_M_op 2 = .ok (.ifCond .lt 16, 3) := by decide +kernel
theorem d_M_op_5 : decode b_M_op 5 = .ok (.iload_n 1, 1) := by decide +kernel
theorem d_M_op_6 : decode b_M_op 6 = .ok (.iconst 3, 1) := by decide +kernel
theorem d_M_op_7 : decode b_M_op 7 = .ok (.if_icmp .gt 11, 3) := by decide +kernel
theorem d_M_op_10 : decode b_M_op 10 = .ok (.iload_n 1, 1) := by decide +kernel
theorem d_M_op_11 : decode b_M_op 11 = .ok (.iload_n 2, 1) := by decide +kernel
theorem d_M_op_12 : decode b_M_op 12 = .ok (.invokestatic 66, 3) := by decide +kernel
theorem d_M_op_15 : decode b_M_op 15 = .ok (.ifCond .ne 7, 3) := by decide +kernel
theorem d_M_op_18 : decode b_M_op 18 = .ok (.iconst 1, 1) := by decide +kernel
theorem d_M_op_19 : decode b_M_op 19 = .ok (.goto 22, 3) := by decide +kernel
theorem d_M_op_22 : decode b_M_op 22 = .ok (.aload_n 0, 1) := by decide +kernel
theorem d_M_op_23 : decode b_M_op 23 = .ok (.getfield 60, 3) := by decide +kernel
theorem d_M_op_26 : decode b_M_op 26 = .ok (.aload_n 0, 1) := by decide +kernel
theorem d_M_op_27 : decode b_M_op 27 = .ok (.getfield 63, 3) := by decide +kernel
theorem d_M_op_30 : decode b_M_op 30 = .ok (.isub, 1) := by decide +kernel
theorem d_M_op_31 : decode b_M_op 31 = .ok (.bipush 32, 2) := by decide +kernel
theorem d_M_op_33 : decode b_M_op 33 = .ok (.if_icmp .ne 7, 3) := by decide +kernel
theorem d_M_op_36 : decode b_M_op 36 = .ok (.iconst 2, 1) := by decide +kernel
theorem d_M_op_37 : decode b_M_op 37 = .ok (.goto 4, 3) := by decide +kernel
theorem d_M_op_40 : decode b_M_op 40 = .ok (.iconst 0, 1) := by decide +kernel
theorem d_M_op_41 : decode b_M_op 41 = .ok (.putfield 56, 3) := by decide +kernel
theorem d_M_op_44 : decode b_M_op 44 = .ok (.aload_n 0, 1) := by decide +kernel
theorem d_M_op_45 : decode b_M_op 45 = .ok (.getfield 56, 3) := by decide +kernel
theorem d_M_op_48 : decode b_M_op 48 = .ok (.ifCond .le 5, 3) := by decide +kernel
theorem d_M_op_51 : decode b_M_op 51 = .ok (.iconst 0, 1) := by decide +kernel
theorem d_M_op_52 : decode b_M_op 52 = .ok (.ireturn, 1) := by decide +kernel
theorem d_M_op_53 : decode b_M_op 53 = .ok (.aload_n 0, 1) := by decide +kernel
theorem d_M_op_54 : decode b_M_op 54 = .ok (.getfield 60, 3) := by decide +kernel
theorem d_M_op_57 : decode b_M_op 57 = .ok (.bipush 127, 2) := by decide +kernel
theorem d_M_op_59 : decode b_M_op 59 = .ok (.iand, 1) := by decide +kernel
theorem d_M_op_60 : decode b_M_op 60 = .ok (.istore 4, 2) := by decide +kernel
theorem d_M_op_62 : decode b_M_op 62 = .ok (.aload_n 0, 1) := by decide +kernel
theorem d_M_op_63 : decode b_M_op 63 = .ok (.getfield 17, 3) := by decide +kernel
theorem d_M_op_66 : decode b_M_op 66 = .ok (.iload 4, 2) := by decide +kernel
theorem d_M_op_68 : decode b_M_op 68 = .ok (.iload_n 1, 1) := by decide +kernel
theorem d_M_op_69 : decode b_M_op 69 = .ok (.iastore, 1) := by decide +kernel
theorem d_M_op_70 : decode b_M_op 70 = .ok (.aload_n 0, 1) := by decide +kernel
theorem d_M_op_71 : decode b_M_op 71 = .ok (.getfield 20, 3) := by decide +kernel
theorem d_M_op_74 : decode b_M_op 74 = .ok (.iload 4, 2) := by decide +kernel
theorem d_M_op_76 : decode b_M_op 76 = .ok (.iload_n 2, 1) := by decide +kernel
theorem d_M_op_77 : decode b_M_op 77 = .ok (.iastore, 1) := by decide +kernel
theorem d_M_op_78 : decode b_M_op 78 = .ok (.aload_n 0, 1) := by decide +kernel
theorem d_M_op_79 : decode b_M_op 79 = .ok (.getfield 23, 3) := by decide +kernel
theorem d_M_op_82 : decode b_M_op 82 = .ok (.iload 4, 2) := by decide +kernel
theorem d_M_op_84 : decode b_M_op 84 = .ok (.iload_n 3, 1) := by decide +kernel
theorem d_M_op_85 : decode b_M_op 85 = .ok (.bipush 63, 2) := by decide +kernel
theorem d_M_op_87 : decode b_M_op 87 = .ok (.iand, 1) := by decide +kernel
theorem d_M_op_88 : decode b_M_op 88 = .ok (.iastore, 1) := by decide +kernel
theorem d_M_op_89 : decode b_M_op 89 = .ok (.aload_n 0, 1) := by decide +kernel
theorem d_M_op_90 : decode b_M_op 90 = .ok (.getfield 26, 3) := by decide +kernel
theorem d_M_op_93 : decode b_M_op 93 = .ok (.iload 4, 2) := by decide +kernel
theorem d_M_op_95 : decode b_M_op 95 = .ok (.iconst (-1), 1) := by decide +kernel
theorem d_M_op_96 : decode b_M_op 96 = .ok (.iastore, 1) := by decide +kernel
theorem d_M_op_97 : decode b_M_op 97 = .ok (.aload_n 0, 1) := by decide +kernel
theorem d_M_op_98 : decode b_M_op 98 = .ok (.getfield 35, 3) := by decide +kernel
theorem d_M_op_101 : decode b_M_op 101 = .ok (.iload 4, 2) := by decide +kernel
theorem d_M_op_103 : decode b_M_op 103 = .ok (.iconst 0, 1) := by decide +kernel
theorem d_M_op_104 : decode b_M_op 104 = .ok (.bastore, 1) := by decide +kernel
theorem d_M_op_105 : decode b_M_op 105 = .ok (.aload_n 0, 1) := by decide +kernel
theorem d_M_op_106 : decode b_M_op 106 = .ok (.getfield 38, 3) := by decide +kernel
theorem d_M_op_109 : decode b_M_op 109 = .ok (.iload 4, 2) := by decide +kernel
theorem d_M_op_111 : decode b_M_op 111 = .ok (.iconst 0, 1) := by decide +kernel
theorem d_M_op_112 : decode b_M_op 112 = .ok (.bastore, 1) := by decide +kernel
theorem d_M_op_113 : decode b_M_op 113 = .ok (.aload_n 0, 1) := by decide +kernel
theorem d_M_op_114 : decode b_M_op 114 = .ok (.dup, 1) := by decide +kernel
theorem d_M_op_115 : decode b_M_op 115 = .ok (.getfield 60, 3) := by decide +kernel
theorem d_M_op_118 : decode b_M_op 118 = .ok (.iconst 1, 1) := by decide +kernel
theorem d_M_op_119 : decode b_M_op 119 = .ok (.iadd, 1) := by decide +kernel
theorem d_M_op_120 : decode b_M_op 120 = .ok (.putfield 60, 3) := by decide +kernel
theorem d_M_op_123 : decode b_M_op 123 = .ok (.aload_n 0, 1) := by decide +kernel
theorem d_M_op_124 : decode b_M_op 124 = .ok (.getfield 60, 3) := by decide +kernel
theorem d_M_op_127 : decode b_M_op 127 = .ok (.iconst 1, 1) := by decide +kernel
theorem d_M_op_128 : decode b_M_op 128 = .ok (.isub, 1) := by decide +kernel
theorem d_M_op_129 : decode b_M_op 129 = .ok (.ireturn, 1) := by decide +kernel
theorem d_M_isSize_0 : decode b_M_isSize 0 = .ok (.iload_n 0, 1) := by decide +kernel
theorem d_M_isSize_1 : decode b_M_isSize 1 = .ok (.iconst 2, 1) := by decide +kernel
theorem d_M_isSize_2 : decode b_M_isSize 2 = .ok (.if_icmp .ne 15, 3) := by decide +kernel
theorem d_M_isSize_5 : decode b_M_isSize 5 = .ok (.iload_n 1, 1) := by decide +kernel
theorem d_M_isSize_6 : decode b_M_isSize 6 = .ok (.ifCond .ne 7, 3) := by decide +kernel
theorem d_M_isSize_9 : decode b_M_isSize 9 = .ok (.iconst 1, 1) := by decide +kernel
theorem d_M_isSize_10 : decode b_M_isSize 10 = .ok (.goto 27, 3) := by decide +kernel
theorem d_M_isSize_13 : decode b_M_isSize 13 = .ok (.iconst 0, 1) := by decide +kernel
theorem d_M_isSize_14 : decode b_M_isSize 14 = .ok (.goto 23, 3) := by decide +kernel
theorem d_M_isSize_17 : decode b_M_isSize 17 = .ok (.iload_n 1, 1) := by decide +kernel
theorem d_M_isSize_18 : decode b_M_isSize 18 = .ok (.iconst 1, 1) := by decide +kernel
theorem d_M_isSize_19 : decode b_M_isSize 19 = .ok (.if_icmp .eq 13, 3) := by decide +kernel
theorem d_M_isSize_22 : decode b_M_isSize 22 = .ok (.iload_n 1, 1) := by decide +kernel
theorem d_M_isSize_23 : decode b_M_isSize 23 = .ok (.iconst 2, 1) := by decide +kernel
theorem d_M_isSize_24 : decode b_M_isSize 24 = .ok (.if_icmp .eq 8, 3) := by decide +kernel
theorem d_M_isSize_27 : decode b_M_isSize 27 = .ok (.iload_n 1, 1) := by decide +kernel
theorem d_M_isSize_28 : decode b_M_isSize 28 = .ok (.iconst 4, 1) := by decide +kernel
theorem d_M_isSize_29 : decode b_M_isSize 29 = .ok (.if_icmp .ne 7, 3) := by decide +kernel
theorem d_M_isSize_32 : decode b_M_isSize 32 = .ok (.iconst 1, 1) := by decide +kernel
theorem d_M_isSize_33 : decode b_M_isSize 33 = .ok (.goto 4, 3) := by decide +kernel
theorem d_M_isSize_36 : decode b_M_isSize 36 = .ok (.iconst 0, 1) := by decide +kernel
theorem d_M_isSize_37 : decode b_M_isSize 37 = .ok (.ireturn, 1) := by decide +kernel
theorem d_M_address_0 : decode b_M_address 0 = .ok (.aload_n 0, 1) := by decide +kernel
theorem d_M_address_1 : decode b_M_address 1 = .ok (.aload_n 0, 1) := by decide +kernel
theorem d_M_address_2 : decode b_M_address 2 = .ok (.iload_n 1, 1) := by decide +kernel
theorem d_M_address_3 : decode b_M_address 3 = .ok (.invokevirtual 88, 3) := by decide +kernel
theorem d_M_address_6 : decode b_M_address 6 = .ok (.ifCond .ne 7, 3) := by decide +kernel
theorem d_M_address_9 : decode b_M_address 9 = .ok (.iconst 1, 1) := by decide +kernel
theorem d_M_address_10 : decode b_M_address 10 = .ok (.goto 17, 3) := by decide +kernel
theorem d_M_address_13 : decode b_M_address 13 = .ok (.aload_n 0, 1) := by decide +kernel
theorem d_M_address_14 : decode b_M_address 14 = .ok (.iload_n 1, 1) := by decide +kernel
theorem d_M_address_15 : decode b_M_address 15 = .ok (.iload_n 2, 1) := by decide +kernel
theorem d_M_address_16 : decode b_M_address 16 = .ok (.invokevirtual 91, 3) := by decide +kernel
theorem d_M_address_19 : decode b_M_address 19 = .ok (.ifCond .ne 7, 3) := by decide +kernel
theorem d_M_address_22 : decode b_M_address 22 = .ok (.iconst 2, 1) := by decide +kernel
theorem d_M_address_23 : decode b_M_address 23 = .ok (.goto 4, 3) := by decide +kernel
theorem d_M_address_26 : decode b_M_address 26 = .ok (.iconst 0, 1) := by decide +kernel
theorem d_M_address_27 : decode b_M_address 27 = .ok (.putfield 56, 3) := by decide +kernel
theorem d_M_address_30 : decode b_M_address 30 = .ok (.aload_n 0, 1) := by decide +kernel
end
section
theorem d_M_address_31 : decode b_M_address 31 = .ok (.getfield 56, 3) := by decide +kernel
theorem d_M_address_34 : decode b_M_address 34 = .ok (.ifCond .le 5, 3) := by decide +kernel
theorem d_M_address_37 : decode b_M_address 37 = .ok (.iconst 0, 1) := by decide +kernel
theorem d_M_address_38 : decode b_M_address 38 = .ok (.ireturn, 1) := by decide +kernel
theorem d_M_address_39 : decode b_M_address 39 = .ok (.aload_n 0, 1) := by decide +kernel
theorem d_M_address_40 : decode b_M_address 40 = .ok (.getfield 26, 3) := by decide +kernel
theorem d_M_address_43 : decode b_M_address 43 = .ok (.iload_n 1, 1) := by decide +kernel
theorem d_M_address_44 : decode b_M_address 44 = .ok (.bipush 127, 2) := by decide +kernel
theorem d_M_address_46 : decode b_M_address 46 = .ok (.iand, 1) := by decide +kernel
theorem d_M_address_47 : decode b_M_address 47 = .ok (.iload_n 2, 1) := by decide +kernel
theorem d_M_address_48 : decode b_M_address 48 = .ok (.iastore, 1) := by decide +kernel
theorem d_M_address_49 : decode b_M_address 49 = .ok (.aload_n 0, 1) := by decide +kernel
theorem d_M_address_50 : decode b_M_address 50 = .ok (.getfield 17, 3) := by decide +kernel
theorem d_M_address_53 : decode b_M_address 53 = .ok (.iload_n 1, 1) := by decide +kernel
theorem d_M_address_54 : decode b_M_address 54 = .ok (.bipush 127, 2) := by decide +kernel
theorem d_M_address_56 : decode b_M_address 56 = .ok (.iand, 1) := by decide +kernel
theorem d_M_address_57 : decode b_M_address 57 = .ok (.iaload, 1) := by decide +kernel
theorem d_M_address_58 : decode b_M_address 58 = .ok (.iconst 1, 1) := by decide +kernel
theorem d_M_address_59 : decode b_M_address 59 = .ok (.if_icmp .eq 5, 3) := by decide +kernel
theorem d_M_address_62 : decode b_M_address 62 = .ok (.iconst 0, 1) := by decide +kernel
theorem d_M_address_63 : decode b_M_address 63 = .ok (.ireturn, 1) := by decide +kernel
theorem d_M_address_64 : decode b_M_address 64 = .ok (.iload_n 1, 1) := by decide +kernel
theorem d_M_address_65 : decode b_M_address 65 = .ok (.iconst 1, 1) := by decide +kernel
theorem d_M_address_66 : decode b_M_address 66 = .ok (.iadd, 1) := by decide +kernel
theorem d_M_address_67 : decode b_M_address 67 = .ok (.istore_n 3, 1) := by decide +kernel
theorem d_M_address_68 : decode b_M_address 68 = .ok (.iload_n 3, 1) := by decide +kernel
theorem d_M_address_69 : decode b_M_address 69 = .ok (.aload_n 0, 1) := by decide +kernel
theorem d_M_address_70 : decode b_M_address 70 = .ok (.getfield 60, 3) := by decide +kernel
theorem d_M_address_73 : decode b_M_address 73 = .ok (.if_icmp .ge 50, 3) := by decide +kernel
theorem d_M_address_76 : decode b_M_address 76 = .ok (.aload_n 0, 1) := by decide +kernel
theorem d_M_address_77 : decode b_M_address 77 = .ok (.iload_n 3, 1) := by decide +kernel
theorem d_M_address_78 : decode b_M_address 78 = .ok (.invokevirtual 94, 3) := by decide +kernel
theorem d_M_address_81 : decode b_M_address 81 = .ok (.ifCond .eq 36, 3) := by decide +kernel
theorem d_M_address_84 : decode b_M_address 84 = .ok (.aload_n 0, 1) := by decide +kernel
theorem d_M_address_85 : decode b_M_address 85 = .ok (.iload_n 3, 1) := by decide +kernel
theorem d_M_address_86 : decode b_M_address 86 = .ok (.iload_n 1, 1) := by decide +kernel
theorem d_M_address_87 : decode b_M_address 87 = .ok (.invokevirtual 97, 3) := by decide +kernel
theorem d_M_address_90 : decode b_M_address 90 = .ok (.ifCond .ne 6, 3) := by decide +kernel
theorem d_M_address_93 : decode b_M_address 93 = .ok (.goto 24, 3) := by decide +kernel
theorem d_M_address_96 : decode b_M_address 96 = .ok (.aload_n 0, 1) := by decide +kernel
theorem d_M_address_97 : decode b_M_address 97 = .ok (.getfield 13, 3) := by decide +kernel
theorem d_M_address_100 : decode b_M_address 100 = .ok (.aload_n 0, 1) := by decide +kernel
theorem d_M_address_101 : decode b_M_address 101 = .ok (.getfield 23, 3) := by decide +kernel
theorem d_M_address_104 : decode b_M_address 104 = .ok (.iload_n 3, 1) := by decide +kernel
theorem d_M_address_105 : decode b_M_address 105 = .ok (.bipush 127, 2) := by decide +kernel
theorem d_M_address_107 : decode b_M_address 107 = .ok (.iand, 1) := by decide +kernel
theorem d_M_address_108 : decode b_M_address 108 = .ok (.iaload, 1) := by decide +kernel
theorem d_M_address_109 : decode b_M_address 109 = .ok (.iconst 1, 1) := by decide +kernel
theorem d_M_address_110 : decode b_M_address 110 = .ok (.bastore, 1) := by decide +kernel
theorem d_M_address_111 : decode b_M_address 111 = .ok (.aload_n 0, 1) := by decide +kernel
theorem d_M_address_112 : decode b_M_address 112 = .ok (.iload_n 3, 1) := by decide +kernel
theorem d_M_address_113 : decode b_M_address 113 = .ok (.invokevirtual 100, 3) := by decide +kernel
theorem d_M_address_116 : decode b_M_address 116 = .ok (.ireturn, 1) := by decide +kernel
theorem d_M_address_117 : decode b_M_address 117 = .ok (.iinc 3 1, 3) := by decide +kernel
theorem d_M_address_120 : decode b_M_address 120 = .ok (.goto (-52), 3) := by decide +kernel
theorem d_M_address_123 : decode b_M_address 123 = .ok (.iconst 0, 1) := by decide +kernel
theorem d_M_address_124 : decode b_M_address 124 = .ok (.ireturn, 1) := by decide +kernel
theorem d_M_isOp_0 : decode b_M_isOp 0 = .ok (.iload_n 1, 1) := by decide +kernel
theorem d_M_isOp_1 : decode b_M_isOp 1 = .ok (.ifCond .lt 15, 3) := by decide +kernel
theorem d_M_isOp_4 : decode b_M_isOp 4 = .ok (.iload_n 1, 1) := by decide +kernel
theorem d_M_isOp_5 : decode b_M_isOp 5 = .ok (.aload_n 0, 1) := by decide +kernel
theorem d_M_isOp_6 : decode b_M_isOp 6 = .ok (.getfield 60, 3) := by decide +kernel
theorem d_M_isOp_9 : decode b_M_isOp 9 = .ok (.if_icmp .ge 7, 3) := by decide +kernel
theorem d_M_isOp_12 : decode b_M_isOp 12 = .ok (.iconst 1, 1) := by decide +kernel
theorem d_M_isOp_13 : decode b_M_isOp 13 = .ok (.goto 4, 3) := by decide +kernel
theorem d_M_isOp_16 : decode b_M_isOp 16 = .ok (.iconst 0, 1) := by decide +kernel
theorem d_M_isOp_17 : decode b_M_isOp 17 = .ok (.ireturn, 1) := by decide +kernel
theorem d_M_canBe_0 : decode b_M_canBe 0 = .ok (.iload_n 1, 1) := by decide +kernel
theorem d_M_canBe_1 : decode b_M_canBe 1 = .ok (.bipush 127, 2) := by decide +kernel
theorem d_M_canBe_3 : decode b_M_canBe 3 = .ok (.iand, 1) := by decide +kernel
theorem d_M_canBe_4 : decode b_M_canBe 4 = .ok (.istore_n 3, 1) := by decide +kernel
theorem d_M_canBe_5 : decode b_M_canBe 5 = .ok (.aload_n 0, 1) := by decide +kernel
theorem d_M_canBe_6 : decode b_M_canBe 6 = .ok (.iload_n 1, 1) := by decide +kernel
theorem d_M_canBe_7 : decode b_M_canBe 7 = .ok (.invokevirtual 84, 3) := by decide +kernel
theorem d_M_canBe_10 : decode b_M_canBe 10 = .ok (.ifCond .eq 41, 3) := by decide +kernel
theorem d_M_canBe_13 : decode b_M_canBe 13 = .ok (.aload_n 0, 1) := by decide +kernel
theorem d_M_canBe_14 : decode b_M_canBe 14 = .ok (.getfield 17, 3) := by decide +kernel
theorem d_M_canBe_17 : decode b_M_canBe 17 = .ok (.iload_n 3, 1) := by decide +kernel
theorem d_M_canBe_18 : decode b_M_canBe 18 = .ok (.iaload, 1) := by decide +kernel
theorem d_M_canBe_19 : decode b_M_canBe 19 = .ok (.iconst 2, 1) := by decide +kernel
theorem d_M_canBe_20 : decode b_M_canBe 20 = .ok (.if_icmp .eq 31, 3) := by decide +kernel
theorem d_M_canBe_23 : decode b_M_canBe 23 = .ok (.aload_n 0, 1) := by decide +kernel
theorem d_M_canBe_24 : decode b_M_canBe 24 = .ok (.getfield 26, 3) := by decide +kernel
theorem d_M_canBe_27 : decode b_M_canBe 27 = .ok (.iload_n 3, 1) := by decide +kernel
theorem d_M_canBe_28 : decode b_M_canBe 28 = .ok (.iaload, 1) := by decide +kernel
theorem d_M_canBe_29 : decode b_M_canBe 29 = .ok (.iconst (-1), 1) := by decide +kernel
theorem d_M_canBe_30 : decode b_M_canBe 30 = .ok (.if_icmp .ne 21, 3) := by decide +kernel
theorem d_M_canBe_33 : decode b_M_canBe 33 = .ok (.iload_n 2, 1) := by decide +kernel
theorem d_M_canBe_34 : decode b_M_canBe 34 = .ok (.ifCond .lt 17, 3) := by decide +kernel
theorem d_M_canBe_37 : decode b_M_canBe 37 = .ok (.iload_n 2, 1) := by decide +kernel
theorem d_M_canBe_38 : decode b_M_canBe 38 = .ok (.sipush 4096, 3) := by decide +kernel
theorem d_M_canBe_41 : decode b_M_canBe 41 = .ok (.aload_n 0, 1) := by decide +kernel
theorem d_M_canBe_42 : decode b_M_canBe 42 = .ok (.getfield 20, 3) := by decide +kernel
theorem d_M_canBe_45 : decode b_M_canBe 45 = .ok (.iload_n 3, 1) := by decide +kernel
theorem d_M_canBe_46 : decode b_M_canBe 46 = .ok (.iaload, 1) := by decide +kernel
theorem d_M_canBe_47 : decode b_M_canBe 47 = .ok (.isub, 1) := by decide +kernel
theorem d_M_canBe_48 : decode b_M_canBe 48 = .ok (.if_icmp .le 5, 3) := by decide +kernel
theorem d_M_canBe_51 : decode b_M_canBe 51 = .ok (.iconst 0, 1) := by decide +kernel
theorem d_M_canBe_52 : decode b_M_canBe 52 = .ok (.ireturn, 1) := by decide +kernel
theorem d_M_canBe_53 : decode b_M_canBe 53 = .ok (.iload_n 2, 1) := by decide +kernel
theorem d_M_canBe_54 : decode b_M_canBe 54 = .ok (.sipush 3072, 3) := by decide +kernel
theorem d_M_canBe_57 : decode b_M_canBe 57 = .ok (.if_icmp .ge 17, 3) := by decide +kernel
theorem d_M_canBe_60 : decode b_M_canBe 60 = .ok (.iload_n 2, 1) := by decide +kernel
theorem d_M_canBe_61 : decode b_M_canBe 61 = .ok (.aload_n 0, 1) := by decide +kernel
theorem d_M_canBe_62 : decode b_M_canBe 62 = .ok (.getfield 20, 3) := by decide +kernel
theorem d_M_canBe_65 : decode b_M_canBe 65 = .ok (.iload_n 3, 1) := by decide +kernel
theorem d_M_canBe_66 : decode b_M_canBe 66 = .ok (.iaload, 1) := by decide +kernel
theorem d_M_canBe_67 : decode b_M_canBe 67 = .ok (.iadd, 1) := by decide +kernel
theorem d_M_canBe_68 : decode b_M_canBe 68 = .ok (.sipush 3072, 3) := by decide +kernel
theorem d_M_canBe_71 : decode b_M_canBe 71 = .ok (.if_icmp .gt 7, 3) := by decide +kernel
theorem d_M_canBe_74 : decode b_M_canBe 74 = .ok (.iconst 1, 1) := by decide +kernel
theorem d_M_canBe_75 : decode b_M_canBe 75 = .ok (.goto 4, 3) := by decide +kernel
theorem d_M_canBe_78 : decode b_M_canBe 78 = .ok (.iconst 0, 1) := by decide +kernel
theorem d_M_canBe_79 : decode b_M_canBe 79 = .ok (.ireturn, 1) := by decide +kernel
theorem d_M_waits_0 : decode b_M_waits 0 = .ok (.iload_n 1, 1) := by decide +kernel
theorem d_M_waits_1 : decode b_M_waits 1 = .ok (.aload_n 0, 1) := by decide +kernel
theorem d_M_waits_2 : decode b_M_waits 2 = .ok (.getfield 63, 3) := by decide +kernel
theorem d_M_waits_5 : decode b_M_waits 5 = .ok (.if_icmp .lt 15, 3) := by decide +kernel
theorem d_M_waits_8 : decode b_M_waits 8 = .ok (.iload_n 1, 1) := by decide +kernel
theorem d_M_waits_9 : decode b_M_waits 9 = .ok (.aload_n 0, 1) := by decide +kernel
theorem d_M_waits_10 : decode b_M_waits 10 = .ok (.getfield 60, 3) := by decide +kernel
theorem d_M_waits_13 : decode b_M_waits 13 = .ok (.if_icmp .ge 7, 3) := by decide +kernel
theorem d_M_waits_16 : decode b_M_waits 16 = .ok (.iconst 1, 1) := by decide +kernel
theorem d_M_waits_17 : decode b_M_waits 17 = .ok (.goto 4, 3) := by decide +kernel
theorem d_M_waits_20 : decode b_M_waits 20 = .ok (.iconst 0, 1) := by decide +kernel
theorem d_M_waits_21 : decode b_M_waits 21 = .ok (.ireturn, 1) := by decide +kernel
theorem d_M_isDone_0 : decode b_M_isDone 0 = .ok (.aload_n 0, 1) := by decide +kernel
theorem d_M_isDone_1 : decode b_M_isDone 1 = .ok (.getfield 17, 3) := by decide +kernel
theorem d_M_isDone_4 : decode b_M_isDone 4 = .ok (.iload_n 1, 1) := by decide +kernel
theorem d_M_isDone_5 : decode b_M_isDone 5 = .ok (.bipush 127, 2) := by decide +kernel
theorem d_M_isDone_7 : decode b_M_isDone 7 = .ok (.iand, 1) := by decide +kernel
theorem d_M_isDone_8 : decode b_M_isDone 8 = .ok (.iaload, 1) := by decide +kernel
theorem d_M_isDone_9 : decode b_M_isDone 9 = .ok (.ifCond .ne 19, 3) := by decide +kernel
theorem d_M_isDone_12 : decode b_M_isDone 12 = .ok (.aload_n 0, 1) := by decide +kernel
theorem d_M_isDone_13 : decode b_M_isDone 13 = .ok (.getfield 38, 3) := by decide +kernel
theorem d_M_isDone_16 : decode b_M_isDone 16 = .ok (.iload_n 1, 1) := by decide +kernel
theorem d_M_isDone_17 : decode b_M_isDone 17 = .ok (.bipush 127, 2) := by decide +kernel
theorem d_M_isDone_19 : decode b_M_isDone 19 = .ok (.iand, 1) := by decide +kernel
theorem d_M_isDone_20 : decode b_M_isDone 20 = .ok (.baload, 1) := by decide +kernel
theorem d_M_isDone_21 : decode b_M_isDone 21 = .ok (.ifCond .eq 7, 3) := by decide +kernel
theorem d_M_isDone_24 : decode b_M_isDone 24 = .ok (.iconst 1, 1) := by decide +kernel
theorem d_M_isDone_25 : decode b_M_isDone 25 = .ok (.goto 4, 3) := by decide +kernel
theorem d_M_isDone_28 : decode b_M_isDone 28 = .ok (.iconst 0, 1) := by decide +kernel
theorem d_M_isDone_29 : decode b_M_isDone 29 = .ok (.ireturn, 1) := by decide +kernel
theorem d_M_tookOlder_0 : decode b_M_tookOlder 0 = .ok (.iload_n 1, 1) := by decide +kernel
theorem d_M_tookOlder_1 : decode b_M_tookOlder 1 = .ok (.bipush 127, 2) := by decide +kernel
theorem d_M_tookOlder_3 : decode b_M_tookOlder 3 = .ok (.iand, 1) := by decide +kernel
theorem d_M_tookOlder_4 : decode b_M_tookOlder 4 = .ok (.istore_n 3, 1) := by decide +kernel
theorem d_M_tookOlder_5 : decode b_M_tookOlder 5 = .ok (.iconst 0, 1) := by decide +kernel
theorem d_M_tookOlder_6 : decode b_M_tookOlder 6 = .ok (.istore 4, 2) := by decide +kernel
theorem d_M_tookOlder_8 : decode b_M_tookOlder 8 = .ok (.iconst 0, 1) := by decide +kernel
theorem d_M_tookOlder_9 : decode b_M_tookOlder 9 = .ok (.istore 5, 2) := by decide +kernel
theorem d_M_tookOlder_11 : decode b_M_tookOlder 11 = .ok (.iload 5, 2) := by decide +kernel
theorem d_M_tookOlder_13 : decode b_M_tookOlder 13 = .ok (.aload_n 0, 1) := by decide +kernel
theorem d_M_tookOlder_14 : decode b_M_tookOlder 14 = .ok (.getfield 20, 3) := by decide +kernel
theorem d_M_tookOlder_17 : decode b_M_tookOlder 17 = .ok (.iload_n 3, 1) := by decide +kernel
theorem d_M_tookOlder_18 : decode b_M_tookOlder 18 = .ok (.iaload, 1) := by decide +kernel
theorem d_M_tookOlder_19 : decode b_M_tookOlder 19 = .ok (.if_icmp .ge 56, 3) := by decide +kernel
theorem d_M_tookOlder_22 : decode b_M_tookOlder 22 = .ok (.iload 4, 2) := by decide +kernel
theorem d_M_tookOlder_24 : decode b_M_tookOlder 24 = .ok (.ifCond .ne 38, 3) := by decide +kernel
theorem d_M_tookOlder_27 : decode b_M_tookOlder 27 = .ok (.aload_n 0, 1) := by decide +kernel
theorem d_M_tookOlder_28 : decode b_M_tookOlder 28 = .ok (.iload_n 2, 1) := by decide +kernel
theorem d_M_tookOlder_29 : decode b_M_tookOlder 29 = .ok (.bipush 127, 2) := by decide +kernel
theorem d_M_tookOlder_31 : decode b_M_tookOlder 31 = .ok (.iand, 1) := by decide +kernel
theorem d_M_tookOlder_32 : decode b_M_tookOlder 32 = .ok (.aload_n 0, 1) := by decide +kernel
theorem d_M_tookOlder_33 : decode b_M_tookOlder 33 = .ok (.getfield 26, 3) := by decide +kernel
theorem d_M_tookOlder_36 : decode b_M_tookOlder 36 = .ok (.iload_n 3, 1) := by decide +kernel
theorem d_M_tookOlder_37 : decode b_M_tookOlder 37 = .ok (.iaload, 1) := by decide +kernel
theorem d_M_tookOlder_38 : decode b_M_tookOlder 38 = .ok (.iload 5, 2) := by decide +kernel
theorem d_M_tookOlder_40 : decode b_M_tookOlder 40 = .ok (.iadd, 1) := by decide +kernel
theorem d_M_tookOlder_41 : decode b_M_tookOlder 41 = .ok (.invokevirtual 78, 3) := by decide +kernel
theorem d_M_tookOlder_44 : decode b_M_tookOlder 44 = .ok (.ifCond .eq 22, 3) := by decide +kernel
theorem d_M_tookOlder_47 : decode b_M_tookOlder 47 = .ok (.aload_n 0, 1) := by decide +kernel
theorem d_M_tookOlder_48 : decode b_M_tookOlder 48 = .ok (.getfield 41, 3) := by decide +kernel
theorem d_M_tookOlder_51 : decode b_M_tookOlder 51 = .ok (.iconst 4, 1) := by decide +kernel
theorem d_M_tookOlder_52 : decode b_M_tookOlder 52 = .ok (.iload_n 3, 1) := by decide +kernel
theorem d_M_tookOlder_53 : decode b_M_tookOlder 53 = .ok (.imul, 1) := by decide +kernel
theorem d_M_tookOlder_54 : decode b_M_tookOlder 54 = .ok (.iload 5, 2) := by decide +kernel
theorem d_M_tookOlder_56 : decode b_M_tookOlder 56 = .ok (.iadd, 1) := by decide +kernel
theorem d_M_tookOlder_57 : decode b_M_tookOlder 57 = .ok (.iaload, 1) := by decide +kernel
theorem d_M_tookOlder_58 : decode b_M_tookOlder 58 = .ok (.iload_n 2, 1) := by decide +kernel
theorem d_M_tookOlder_59 : decode b_M_tookOlder 59 = .ok (.if_icmp .ge 7, 3) := by decide +kernel
theorem d_M_tookOlder_62 : decode b_M_tookOlder 62 = .ok (.iconst 1, 1) := by decide +kernel
theorem d_M_tookOlder_63 : decode b_M_tookOlder 63 = .ok (.goto 4, 3) := by decide +kernel
theorem d_M_tookOlder_66 : decode b_M_tookOlder 66 = .ok (.iconst 0, 1) := by decide +kernel
theorem d_M_tookOlder_67 : decode b_M_tookOlder 67 = .ok (.istore 4, 2) := by decide +kernel
theorem d_M_tookOlder_69 : decode b_M_tookOlder 69 = .ok (.iinc 5 1, 3) := by decide +kernel
theorem d_M_tookOlder_72 : decode b_M_tookOlder 72 = .ok (.goto (-61), 3) := by decide +kernel
theorem d_M_tookOlder_75 : decode b_M_tookOlder 75 = .ok (.iload 4, 2) := by decide +kernel
theorem d_M_tookOlder_77 : decode b_M_tookOlder 77 = .ok (.ireturn, 1) := by decide +kernel
theorem d_M_has_0 : decode b_M_has 0 = .ok (.aload_n 0, 1) := by decide +kernel
theorem d_M_has_1 : decode b_M_has 1 = .ok (.getfield 26, 3) := by decide +kernel
theorem d_M_has_4 : decode b_M_has 4 = .ok (.iload_n 1, 1) := by decide +kernel
theorem d_M_has_5 : decode b_M_has 5 = .ok (.iaload, 1) := by decide +kernel
theorem d_M_has_6 : decode b_M_has 6 = .ok (.ifCond .lt 26, 3) := by decide +kernel
theorem d_M_has_9 : decode b_M_has 9 = .ok (.aload_n 0, 1) := by decide +kernel
theorem d_M_has_10 : decode b_M_has 10 = .ok (.getfield 26, 3) := by decide +kernel
theorem d_M_has_13 : decode b_M_has 13 = .ok (.iload_n 1, 1) := by decide +kernel
theorem d_M_has_14 : decode b_M_has 14 = .ok (.iaload, 1) := by decide +kernel
theorem d_M_has_15 : decode b_M_has 15 = .ok (.aload_n 0, 1) := by decide +kernel
theorem d_M_has_16 : decode b_M_has 16 = .ok (.getfield 20, 3) := by decide +kernel
theorem d_M_has_19 : decode b_M_has 19 = .ok (.iload_n 1, 1) := by decide +kernel
theorem d_M_has_20 : decode b_M_has 20 = .ok (.iaload, 1) := by decide +kernel
theorem d_M_has_21 : decode b_M_has 21 = .ok (.iload_n 2, 1) := by decide +kernel
theorem d_M_has_22 : decode b_M_has 22 = .ok (.invokestatic 74, 3) := by decide +kernel
theorem d_M_has_25 : decode b_M_has 25 = .ok (.ifCond .eq 7, 3) := by decide +kernel
theorem d_M_has_28 : decode b_M_has 28 = .ok (.iconst 1, 1) := by decide +kernel
theorem d_M_has_29 : decode b_M_has 29 = .ok (.goto 4, 3) := by decide +kernel
theorem d_M_has_32 : decode b_M_has 32 = .ok (.iconst 0, 1) := by decide +kernel
theorem d_M_has_33 : decode b_M_has 33 = .ok (.ireturn, 1) := by decide +kernel
theorem d_M_covers_0 : decode b_M_covers 0 = .ok (.iload_n 2, 1) := by decide +kernel
theorem d_M_covers_1 : decode b_M_covers 1 = .ok (.iload_n 0, 1) := by decide +kernel
theorem d_M_covers_2 : decode b_M_covers 2 = .ok (.if_icmp .lt 14, 3) := by decide +kernel
theorem d_M_covers_5 : decode b_M_covers 5 = .ok (.iload_n 2, 1) := by decide +kernel
theorem d_M_covers_6 : decode b_M_covers 6 = .ok (.iload_n 0, 1) := by decide +kernel
theorem d_M_covers_7 : decode b_M_covers 7 = .ok (.iload_n 1, 1) := by decide +kernel
theorem d_M_covers_8 : decode b_M_covers 8 = .ok (.iadd, 1) := by decide +kernel
theorem d_M_covers_9 : decode b_M_covers 9 = .ok (.if_icmp .ge 7, 3) := by decide +kernel
theorem d_M_covers_12 : decode b_M_covers 12 = .ok (.iconst 1, 1) := by decide +kernel
theorem d_M_covers_13 : decode b_M_covers 13 = .ok (.goto 4, 3) := by decide +kernel
theorem d_M_covers_16 : decode b_M_covers 16 = .ok (.iconst 0, 1) := by decide +kernel
theorem d_M_covers_17 : decode b_M_covers 17 = .ok (.ireturn, 1) := by decide +kernel
theorem d_M_undo_0 : decode b_M_undo 0 = .ok (.iconst 0, 1) := by decide +kernel
theorem d_M_undo_1 : decode b_M_undo 1 = .ok (.istore_n 2, 1) := by decide +kernel
theorem d_M_undo_2 : decode b_M_undo 2 = .ok (.iload_n 1, 1) := by decide +kernel
theorem d_M_undo_3 : decode b_M_undo 3 = .ok (.istore_n 3, 1) := by decide +kernel
theorem d_M_undo_4 : decode b_M_undo 4 = .ok (.iload_n 3, 1) := by decide +kernel
theorem d_M_undo_5 : decode b_M_undo 5 = .ok (.aload_n 0, 1) := by decide +kernel
theorem d_M_undo_6 : decode b_M_undo 6 = .ok (.getfield 60, 3) := by decide +kernel
theorem d_M_undo_9 : decode b_M_undo 9 = .ok (.if_icmp .ge 33, 3) := by decide +kernel
theorem d_M_undo_12 : decode b_M_undo 12 = .ok (.aload_n 0, 1) := by decide +kernel
theorem d_M_undo_13 : decode b_M_undo 13 = .ok (.iload_n 3, 1) := by decide +kernel
theorem d_M_undo_14 : decode b_M_undo 14 = .ok (.invokevirtual 94, 3) := by decide +kernel
theorem d_M_undo_17 : decode b_M_undo 17 = .ok (.ifCond .ne 6, 3) := by decide +kernel
theorem d_M_undo_20 : decode b_M_undo 20 = .ok (.goto 16, 3) := by decide +kernel
theorem d_M_undo_23 : decode b_M_undo 23 = .ok (.aload_n 0, 1) := by decide +kernel
theorem d_M_undo_24 : decode b_M_undo 24 = .ok (.getfield 38, 3) := by decide +kernel
theorem d_M_undo_27 : decode b_M_undo 27 = .ok (.iload_n 3, 1) := by decide +kernel
theorem d_M_undo_28 : decode b_M_undo 28 = .ok (.bipush 127, 2) := by decide +kernel
theorem d_M_undo_30 : decode b_M_undo 30 = .ok (.iand, 1) := by decide +kernel
theorem d_M_undo_31 : decode b_M_undo 31 = .ok (.iconst 0, 1) := by decide +kernel
theorem d_M_undo_32 : decode b_M_undo 32 = .ok (.bastore, 1) := by decide +kernel
theorem d_M_undo_33 : decode b_M_undo 33 = .ok (.iinc 2 1, 3) := by decide +kernel
theorem d_M_undo_36 : decode b_M_undo 36 = .ok (.iinc 3 1, 3) := by decide +kernel
theorem d_M_undo_39 : decode b_M_undo 39 = .ok (.goto (-35), 3) := by decide +kernel
theorem d_M_undo_42 : decode b_M_undo 42 = .ok (.aload_n 0, 1) := by decide +kernel
theorem d_M_undo_43 : decode b_M_undo 43 = .ok (.dup, 1) := by decide +kernel
theorem d_M_undo_44 : decode b_M_undo 44 = .ok (.getfield 104, 3) := by decide +kernel
theorem d_M_undo_47 : decode b_M_undo 47 = .ok (.iconst 1, 1) := by decide +kernel
theorem d_M_undo_48 : decode b_M_undo 48 = .ok (.iadd, 1) := by decide +kernel
theorem d_M_undo_49 : decode b_M_undo 49 = .ok (.putfield 104, 3) := by decide +kernel
theorem d_M_undo_52 : decode b_M_undo 52 = .ok (.aload_n 0, 1) := by decide +kernel
theorem d_M_undo_53 : decode b_M_undo 53 = .ok (.dup, 1) := by decide +kernel
theorem d_M_undo_54 : decode b_M_undo 54 = .ok (.getfield 107, 3) := by decide +kernel
theorem d_M_undo_57 : decode b_M_undo 57 = .ok (.iload_n 2, 1) := by decide +kernel
theorem d_M_undo_58 : decode b_M_undo 58 = .ok (.iadd, 1) := by decide +kernel
theorem d_M_undo_59 : decode b_M_undo 59 = .ok (.putfield 107, 3) := by decide +kernel
theorem d_M_undo_62 : decode b_M_undo 62 = .ok (.iload_n 2, 1) := by decide +kernel
theorem d_M_undo_63 : decode b_M_undo 63 = .ok (.ireturn, 1) := by decide +kernel
theorem d_M_number_0 : decode b_M_number 0 = .ok (.iload_n 1, 1) := by decide +kernel
theorem d_M_number_1 : decode b_M_number 1 = .ok (.bipush 127, 2) := by decide +kernel
theorem d_M_number_3 : decode b_M_number 3 = .ok (.iand, 1) := by decide +kernel
theorem d_M_number_4 : decode b_M_number 4 = .ok (.istore_n 3, 1) := by decide +kernel
theorem d_M_number_5 : decode b_M_number 5 = .ok (.aload_n 0, 1) := by decide +kernel
theorem d_M_number_6 : decode b_M_number 6 = .ok (.iload_n 1, 1) := by decide +kernel
theorem d_M_number_7 : decode b_M_number 7 = .ok (.invokevirtual 84, 3) := by decide +kernel
theorem d_M_number_10 : decode b_M_number 10 = .ok (.ifCond .eq 36, 3) := by decide +kernel
theorem d_M_number_13 : decode b_M_number 13 = .ok (.aload_n 0, 1) := by decide +kernel
theorem d_M_number_14 : decode b_M_number 14 = .ok (.getfield 17, 3) := by decide +kernel
theorem d_M_number_17 : decode b_M_number 17 = .ok (.iload_n 3, 1) := by decide +kernel
theorem d_M_number_18 : decode b_M_number 18 = .ok (.iaload, 1) := by decide +kernel
theorem d_M_number_19 : decode b_M_number 19 = .ok (.iconst 1, 1) := by decide +kernel
theorem d_M_number_20 : decode b_M_number 20 = .ok (.if_icmp .eq 13, 3) := by decide +kernel
theorem d_M_number_23 : decode b_M_number 23 = .ok (.aload_n 0, 1) := by decide +kernel
theorem d_M_number_24 : decode b_M_number 24 = .ok (.getfield 17, 3) := by decide +kernel
theorem d_M_number_27 : decode b_M_number 27 = .ok (.iload_n 3, 1) := by decide +kernel
theorem d_M_number_28 : decode b_M_number 28 = .ok (.iaload, 1) := by decide +kernel
theorem d_M_number_29 : decode b_M_number 29 = .ok (.iconst 3, 1) := by decide +kernel
theorem d_M_number_30 : decode b_M_number 30 = .ok (.if_icmp .ne 16, 3) := by decide +kernel
theorem d_M_number_33 : decode b_M_number 33 = .ok (.aload_n 0, 1) := by decide +kernel
theorem d_M_number_34 : decode b_M_number 34 = .ok (.getfield 35, 3) := by decide +kernel
theorem d_M_number_37 : decode b_M_number 37 = .ok (.iload_n 3, 1) := by decide +kernel
theorem d_M_number_38 : decode b_M_number 38 = .ok (.baload, 1) := by decide +kernel
theorem d_M_number_39 : decode b_M_number 39 = .ok (.ifCond .ne 7, 3) := by decide +kernel
theorem d_M_number_42 : decode b_M_number 42 = .ok (.iconst 1, 1) := by decide +kernel
theorem d_M_number_43 : decode b_M_number 43 = .ok (.goto 4, 3) := by decide +kernel
theorem d_M_number_46 : decode b_M_number 46 = .ok (.iconst 0, 1) := by decide +kernel
theorem d_M_number_47 : decode b_M_number 47 = .ok (.istore 4, 2) := by decide +kernel
theorem d_M_number_49 : decode b_M_number 49 = .ok (.aload_n 0, 1) := by decide +kernel
theorem d_M_number_50 : decode b_M_number 50 = .ok (.aload_n 0, 1) := by decide +kernel
theorem d_M_number_51 : decode b_M_number 51 = .ok (.iload_n 1, 1) := by decide +kernel
theorem d_M_number_52 : decode b_M_number 52 = .ok (.invokevirtual 88, 3) := by decide +kernel
theorem d_M_number_55 : decode b_M_number 55 = .ok (.ifCond .ne 7, 3) := by decide +kernel
theorem d_M_number_58 : decode b_M_number 58 = .ok (.iconst 1, 1) := by decide +kernel
theorem d_M_number_59 : decode b_M_number 59 = .ok (.goto 13, 3) := by decide +kernel
theorem d_M_number_62 : decode b_M_number 62 = .ok (.iload 4, 2) := by decide +kernel
theorem d_M_number_64 : decode b_M_number 64 = .ok (.ifCond .ne 7, 3) := by decide +kernel
theorem d_M_number_67 : decode b_M_number 67 = .ok (.iconst 2, 1) := by decide +kernel
theorem d_M_number_68 : decode b_M_number 68 = .ok (.goto 4, 3) := by decide +kernel
theorem d_M_number_71 : decode b_M_number 71 = .ok (.iconst 0, 1) := by decide +kernel
theorem d_M_number_72 : decode b_M_number 72 = .ok (.putfield 56, 3) := by decide +kernel
theorem d_M_number_75 : decode b_M_number 75 = .ok (.aload_n 0, 1) := by decide +kernel
theorem d_M_number_76 : decode b_M_number 76 = .ok (.getfield 56, 3) := by decide +kernel
theorem d_M_number_79 : decode b_M_number 79 = .ok (.ifCond .le 5, 3) := by decide +kernel
theorem d_M_number_82 : decode b_M_number 82 = .ok (.iconst 0, 1) := by decide +kernel
theorem d_M_number_83 : decode b_M_number 83 = .ok (.ireturn, 1) := by decide +kernel
theorem d_M_number_84 : decode b_M_number 84 = .ok (.aload_n 0, 1) := by decide +kernel
theorem d_M_number_85 : decode b_M_number 85 = .ok (.getfield 29, 3) := by decide +kernel
theorem d_M_number_88 : decode b_M_number 88 = .ok (.iload_n 3, 1) := by decide +kernel
theorem d_M_number_89 : decode b_M_number 89 = .ok (.iload_n 2, 1) := by decide +kernel
theorem d_M_number_90 : decode b_M_number 90 = .ok (.iastore, 1) := by decide +kernel
theorem d_M_number_91 : decode b_M_number 91 = .ok (.aload_n 0, 1) := by decide +kernel
theorem d_M_number_92 : decode b_M_number 92 = .ok (.getfield 35, 3) := by decide +kernel
theorem d_M_number_95 : decode b_M_number 95 = .ok (.iload_n 3, 1) := by decide +kernel
theorem d_M_number_96 : decode b_M_number 96 = .ok (.iconst 1, 1) := by decide +kernel
theorem d_M_number_97 : decode b_M_number 97 = .ok (.bastore, 1) := by decide +kernel
theorem d_M_number_98 : decode b_M_number 98 = .ok (.aload_n 0, 1) := by decide +kernel
theorem d_M_number_99 : decode b_M_number 99 = .ok (.getfield 20, 3) := by decide +kernel
theorem d_M_number_102 : decode b_M_number 102 = .ok (.iload_n 3, 1) := by decide +kernel
theorem d_M_number_103 : decode b_M_number 103 = .ok (.iaload, 1) := by decide +kernel
theorem d_M_number_104 : decode b_M_number 104 = .ok (.ireturn, 1) := by decide +kernel
theorem d_M_tried_0 : decode b_M_tried 0 = .ok (.iload_n 1, 1) := by decide +kernel
theorem d_M_tried_1 : decode b_M_tried 1 = .ok (.bipush 127, 2) := by decide +kernel
theorem d_M_tried_3 : decode b_M_tried 3 = .ok (.iand, 1) := by decide +kernel
theorem d_M_tried_4 : decode b_M_tried 4 = .ok (.istore_n 2, 1) := by decide +kernel
theorem d_M_tried_5 : decode b_M_tried 5 = .ok (.aload_n 0, 1) := by decide +kernel
theorem d_M_tried_6 : decode b_M_tried 6 = .ok (.iload_n 1, 1) := by decide +kernel
theorem d_M_tried_7 : decode b_M_tried 7 = .ok (.invokevirtual 84, 3) := by decide +kernel
theorem d_M_tried_10 : decode b_M_tried 10 = .ok (.ifCond .eq 34, 3) := by decide +kernel
theorem d_M_tried_13 : decode b_M_tried 13 = .ok (.aload_n 0, 1) := by decide +kernel
theorem d_M_tried_14 : decode b_M_tried 14 = .ok (.getfield 17, 3) := by decide +kernel
theorem d_M_tried_17 : decode b_M_tried 17 = .ok (.iload_n 2, 1) := by decide +kernel
theorem d_M_tried_18 : decode b_M_tried 18 = .ok (.iaload, 1) := by decide +kernel
theorem d_M_tried_19 : decode b_M_tried 19 = .ok (.ifCond .ne 25, 3) := by decide +kernel
theorem d_M_tried_22 : decode b_M_tried 22 = .ok (.aload_n 0, 1) := by decide +kernel
theorem d_M_tried_23 : decode b_M_tried 23 = .ok (.getfield 26, 3) := by decide +kernel
theorem d_M_tried_26 : decode b_M_tried 26 = .ok (.iload_n 2, 1) := by decide +kernel
theorem d_M_tried_27 : decode b_M_tried 27 = .ok (.iaload, 1) := by decide +kernel
theorem d_M_tried_28 : decode b_M_tried 28 = .ok (.ifCond .lt 16, 3) := by decide +kernel
theorem d_M_tried_31 : decode b_M_tried 31 = .ok (.aload_n 0, 1) := by decide +kernel
theorem d_M_tried_32 : decode b_M_tried 32 = .ok (.getfield 38, 3) := by decide +kernel
theorem d_M_tried_35 : decode b_M_tried 35 = .ok (.iload_n 2, 1) := by decide +kernel
theorem d_M_tried_36 : decode b_M_tried 36 = .ok (.baload, 1) := by decide +kernel
theorem d_M_tried_37 : decode b_M_tried 37 = .ok (.ifCond .ne 7, 3) := by decide +kernel
theorem d_M_tried_40 : decode b_M_tried 40 = .ok (.iconst 1, 1) := by decide +kernel
theorem d_M_tried_41 : decode b_M_tried 41 = .ok (.goto 4, 3) := by decide +kernel
theorem d_M_tried_44 : decode b_M_tried 44 = .ok (.iconst 0, 1) := by decide +kernel
theorem d_M_tried_45 : decode b_M_tried 45 = .ok (.istore_n 3, 1) := by decide +kernel
theorem d_M_tried_46 : decode b_M_tried 46 = .ok (.aload_n 0, 1) := by decide +kernel
theorem d_M_tried_47 : decode b_M_tried 47 = .ok (.aload_n 0, 1) := by decide +kernel
theorem d_M_tried_48 : decode b_M_tried 48 = .ok (.iload_n 1, 1) := by decide +kernel
theorem d_M_tried_49 : decode b_M_tried 49 = .ok (.invokevirtual 88, 3) := by decide +kernel
theorem d_M_tried_52 : decode b_M_tried 52 = .ok (.ifCond .ne 7, 3) := by decide +kernel
theorem d_M_tried_55 : decode b_M_tried 55 = .ok (.iconst 1, 1) := by decide +kernel
theorem d_M_tried_56 : decode b_M_tried 56 = .ok (.goto 12, 3) := by decide +kernel
theorem d_M_tried_59 : decode b_M_tried 59 = .ok (.iload_n 3, 1) := by decide +kernel
theorem d_M_tried_60 : decode b_M_tried 60 = .ok (.ifCond .ne 7, 3) := by decide +kernel
theorem d_M_tried_63 : decode b_M_tried 63 = .ok (.iconst 2, 1) := by decide +kernel
theorem d_M_tried_64 : decode b_M_tried 64 = .ok (.goto 4, 3) := by decide +kernel
theorem d_M_tried_67 : decode b_M_tried 67 = .ok (.iconst 0, 1) := by decide +kernel
theorem d_M_tried_68 : decode b_M_tried 68 = .ok (.putfield 56, 3) := by decide +kernel
theorem d_M_tried_71 : decode b_M_tried 71 = .ok (.aload_n 0, 1) := by decide +kernel
theorem d_M_tried_72 : decode b_M_tried 72 = .ok (.getfield 56, 3) := by decide +kernel
theorem d_M_tried_75 : decode b_M_tried 75 = .ok (.ifCond .le 5, 3) := by decide +kernel
theorem d_M_tried_78 : decode b_M_tried 78 = .ok (.iconst 0, 1) := by decide +kernel
theorem d_M_tried_79 : decode b_M_tried 79 = .ok (.ireturn, 1) := by decide +kernel
theorem d_M_tried_80 : decode b_M_tried 80 = .ok (.aload_n 0, 1) := by decide +kernel
theorem d_M_tried_81 : decode b_M_tried 81 = .ok (.iload_n 1, 1) := by decide +kernel
theorem d_M_tried_82 : decode b_M_tried 82 = .ok (.invokevirtual 110, 3) := by decide +kernel
theorem d_M_tried_85 : decode b_M_tried 85 = .ok (.ifCond .eq 5, 3) := by decide +kernel
theorem d_M_tried_88 : decode b_M_tried 88 = .ok (.iconst 2, 1) := by decide +kernel
theorem d_M_tried_89 : decode b_M_tried 89 = .ok (.ireturn, 1) := by decide +kernel
theorem d_M_tried_90 : decode b_M_tried 90 = .ok (.aload_n 0, 1) := by decide +kernel
theorem d_M_tried_91 : decode b_M_tried 91 = .ok (.getfield 13, 3) := by decide +kernel
theorem d_M_tried_94 : decode b_M_tried 94 = .ok (.aload_n 0, 1) := by decide +kernel
theorem d_M_tried_95 : decode b_M_tried 95 = .ok (.getfield 23, 3) := by decide +kernel
theorem d_M_tried_98 : decode b_M_tried 98 = .ok (.iload_n 2, 1) := by decide +kernel
theorem d_M_tried_99 : decode b_M_tried 99 = .ok (.iaload, 1) := by decide +kernel
theorem d_M_tried_100 : decode b_M_tried 100 = .ok (.baload, 1) := by decide +kernel
theorem d_M_tried_101 : decode b_M_tried 101 = .ok (.ifCond .eq 13, 3) := by decide +kernel
theorem d_M_tried_104 : decode b_M_tried 104 = .ok (.aload_n 0, 1) := by decide +kernel
theorem d_M_tried_105 : decode b_M_tried 105 = .ok (.iload_n 1, 1) := by decide +kernel
theorem d_M_tried_106 : decode b_M_tried 106 = .ok (.invokevirtual 113, 3) := by decide +kernel
theorem d_M_tried_109 : decode b_M_tried 109 = .ok (.ifCond .eq 5, 3) := by decide +kernel
theorem d_M_tried_112 : decode b_M_tried 112 = .ok (.iconst 3, 1) := by decide +kernel
theorem d_M_tried_113 : decode b_M_tried 113 = .ok (.ireturn, 1) := by decide +kernel
theorem d_M_tried_114 : decode b_M_tried 114 = .ok (.iconst 0, 1) := by decide +kernel
theorem d_M_tried_115 : decode b_M_tried 115 = .ok (.istore 4, 2) := by decide +kernel
theorem d_M_tried_117 : decode b_M_tried 117 = .ok (.iload 4, 2) := by decide +kernel
theorem d_M_tried_119 : decode b_M_tried 119 = .ok (.aload_n 0, 1) := by decide +kernel
theorem d_M_tried_120 : decode b_M_tried 120 = .ok (.getfield 20, 3) := by decide +kernel
theorem d_M_tried_123 : decode b_M_tried 123 = .ok (.iload_n 2, 1) := by decide +kernel
theorem d_M_tried_124 : decode b_M_tried 124 = .ok (.iaload, 1) := by decide +kernel
theorem d_M_tried_125 : decode b_M_tried 125 = .ok (.if_icmp .ge 45, 3) := by decide +kernel
theorem d_M_tried_128 : decode b_M_tried 128 = .ok (.aload_n 0, 1) := by decide +kernel
theorem d_M_tried_129 : decode b_M_tried 129 = .ok (.iload_n 1, 1) := by decide +kernel
theorem d_M_tried_130 : decode b_M_tried 130 = .ok (.aload_n 0, 1) := by decide +kernel
theorem d_M_tried_131 : decode b_M_tried 131 = .ok (.getfield 26, 3) := by decide +kernel
theorem d_M_tried_134 : decode b_M_tried 134 = .ok (.iload_n 2, 1) := by decide +kernel
theorem d_M_tried_135 : decode b_M_tried 135 = .ok (.iaload, 1) := by decide +kernel
end
section
theorem d_M_tried_136 : decode b_M_tried 136 = .ok (.iload 4, 2) := by decide +kernel
theorem d_M_tried_138 : decode b_M_tried 138 = .ok (.iadd, 1) := by decide +kernel
theorem d_M_tried_139 : decode b_M_tried 139 = .ok (.invokevirtual 116, 3) := by decide +kernel
theorem d_M_tried_142 : decode b_M_tried 142 = .ok (.istore 5, 2) := by decide +kernel
theorem d_M_tried_144 : decode b_M_tried 144 = .ok (.iload 5, 2) := by decide +kernel
theorem d_M_tried_146 : decode b_M_tried 146 = .ok (.ifCond .lt 18, 3) := by decide +kernel
theorem d_M_tried_149 : decode b_M_tried 149 = .ok (.aload_n 0, 1) := by decide +kernel
theorem d_M_tried_150 : decode b_M_tried 150 = .ok (.getfield 35, 3) := by decide +kernel
theorem d_M_tried_153 : decode b_M_tried 153 = .ok (.iload 5, 2) := by decide +kernel
theorem d_M_tried_155 : decode b_M_tried 155 = .ok (.bipush 127, 2) := by decide +kernel
theorem d_M_tried_157 : decode b_M_tried 157 = .ok (.iand, 1) := by decide +kernel
theorem d_M_tried_158 : decode b_M_tried 158 = .ok (.baload, 1) := by decide +kernel
theorem d_M_tried_159 : decode b_M_tried 159 = .ok (.ifCond .ne 5, 3) := by decide +kernel
theorem d_M_tried_162 : decode b_M_tried 162 = .ok (.iconst 4, 1) := by decide +kernel
theorem d_M_tried_163 : decode b_M_tried 163 = .ok (.ireturn, 1) := by decide +kernel
theorem d_M_tried_164 : decode b_M_tried 164 = .ok (.iinc 4 1, 3) := by decide +kernel
theorem d_M_tried_167 : decode b_M_tried 167 = .ok (.goto (-50), 3) := by decide +kernel
theorem d_M_tried_170 : decode b_M_tried 170 = .ok (.aload_n 0, 1) := by decide +kernel
theorem d_M_tried_171 : decode b_M_tried 171 = .ok (.getfield 32, 3) := by decide +kernel
theorem d_M_tried_174 : decode b_M_tried 174 = .ok (.iload_n 2, 1) := by decide +kernel
theorem d_M_tried_175 : decode b_M_tried 175 = .ok (.iconst 0, 1) := by decide +kernel
theorem d_M_tried_176 : decode b_M_tried 176 = .ok (.iastore, 1) := by decide +kernel
theorem d_M_tried_177 : decode b_M_tried 177 = .ok (.iconst 0, 1) := by decide +kernel
theorem d_M_tried_178 : decode b_M_tried 178 = .ok (.istore 4, 2) := by decide +kernel
theorem d_M_tried_180 : decode b_M_tried 180 = .ok (.iload 4, 2) := by decide +kernel
theorem d_M_tried_182 : decode b_M_tried 182 = .ok (.aload_n 0, 1) := by decide +kernel
theorem d_M_tried_183 : decode b_M_tried 183 = .ok (.getfield 20, 3) := by decide +kernel
theorem d_M_tried_186 : decode b_M_tried 186 = .ok (.iload_n 2, 1) := by decide +kernel
theorem d_M_tried_187 : decode b_M_tried 187 = .ok (.iaload, 1) := by decide +kernel
theorem d_M_tried_188 : decode b_M_tried 188 = .ok (.if_icmp .ge 32, 3) := by decide +kernel
theorem d_M_tried_191 : decode b_M_tried 191 = .ok (.aload_n 0, 1) := by decide +kernel
theorem d_M_tried_192 : decode b_M_tried 192 = .ok (.getfield 32, 3) := by decide +kernel
theorem d_M_tried_195 : decode b_M_tried 195 = .ok (.iload_n 2, 1) := by decide +kernel
theorem d_M_tried_196 : decode b_M_tried 196 = .ok (.aload_n 0, 1) := by decide +kernel
theorem d_M_tried_197 : decode b_M_tried 197 = .ok (.getfield 32, 3) := by decide +kernel
theorem d_M_tried_200 : decode b_M_tried 200 = .ok (.iload_n 2, 1) := by decide +kernel
theorem d_M_tried_201 : decode b_M_tried 201 = .ok (.iaload, 1) := by decide +kernel
theorem d_M_tried_202 : decode b_M_tried 202 = .ok (.bipush 8, 2) := by decide +kernel
theorem d_M_tried_204 : decode b_M_tried 204 = .ok (.ishl, 1) := by decide +kernel
theorem d_M_tried_205 : decode b_M_tried 205 = .ok (.aload_n 0, 1) := by decide +kernel
theorem d_M_tried_206 : decode b_M_tried 206 = .ok (.iload_n 1, 1) := by decide +kernel
theorem d_M_tried_207 : decode b_M_tried 207 = .ok (.iload 4, 2) := by decide +kernel
theorem d_M_tried_209 : decode b_M_tried 209 = .ok (.invokevirtual 120, 3) := by decide +kernel
theorem d_M_tried_212 : decode b_M_tried 212 = .ok (.ior, 1) := by decide +kernel
theorem d_M_tried_213 : decode b_M_tried 213 = .ok (.iastore, 1) := by decide +kernel
theorem d_M_tried_214 : decode b_M_tried 214 = .ok (.iinc 4 1, 3) := by decide +kernel
theorem d_M_tried_217 : decode b_M_tried 217 = .ok (.goto (-37), 3) := by decide +kernel
theorem d_M_tried_220 : decode b_M_tried 220 = .ok (.aload_n 0, 1) := by decide +kernel
theorem d_M_tried_221 : decode b_M_tried 221 = .ok (.getfield 38, 3) := by decide +kernel
theorem d_M_tried_224 : decode b_M_tried 224 = .ok (.iload_n 2, 1) := by decide +kernel
theorem d_M_tried_225 : decode b_M_tried 225 = .ok (.iconst 1, 1) := by decide +kernel
theorem d_M_tried_226 : decode b_M_tried 226 = .ok (.bastore, 1) := by decide +kernel
theorem d_M_tried_227 : decode b_M_tried 227 = .ok (.iconst 1, 1) := by decide +kernel
theorem d_M_tried_228 : decode b_M_tried 228 = .ok (.ireturn, 1) := by decide +kernel
theorem d_M_isHeld_0 : decode b_M_isHeld 0 = .ok (.aload_n 0, 1) := by decide +kernel
theorem d_M_isHeld_1 : decode b_M_isHeld 1 = .ok (.getfield 63, 3) := by decide +kernel
theorem d_M_isHeld_4 : decode b_M_isHeld 4 = .ok (.istore_n 2, 1) := by decide +kernel
theorem d_M_isHeld_5 : decode b_M_isHeld 5 = .ok (.iload_n 2, 1) := by decide +kernel
theorem d_M_isHeld_6 : decode b_M_isHeld 6 = .ok (.iload_n 1, 1) := by decide +kernel
theorem d_M_isHeld_7 : decode b_M_isHeld 7 = .ok (.if_icmp .ge 37, 3) := by decide +kernel
theorem d_M_isHeld_10 : decode b_M_isHeld 10 = .ok (.aload_n 0, 1) := by decide +kernel
theorem d_M_isHeld_11 : decode b_M_isHeld 11 = .ok (.getfield 17, 3) := by decide +kernel
theorem d_M_isHeld_14 : decode b_M_isHeld 14 = .ok (.iload_n 2, 1) := by decide +kernel
theorem d_M_isHeld_15 : decode b_M_isHeld 15 = .ok (.bipush 127, 2) := by decide +kernel
theorem d_M_isHeld_17 : decode b_M_isHeld 17 = .ok (.iand, 1) := by decide +kernel
theorem d_M_isHeld_18 : decode b_M_isHeld 18 = .ok (.iaload, 1) := by decide +kernel
theorem d_M_isHeld_19 : decode b_M_isHeld 19 = .ok (.iconst 2, 1) := by decide +kernel
theorem d_M_isHeld_20 : decode b_M_isHeld 20 = .ok (.if_icmp .eq 16, 3) := by decide +kernel
theorem d_M_isHeld_23 : decode b_M_isHeld 23 = .ok (.aload_n 0, 1) := by decide +kernel
theorem d_M_isHeld_24 : decode b_M_isHeld 24 = .ok (.getfield 17, 3) := by decide +kernel
theorem d_M_isHeld_27 : decode b_M_isHeld 27 = .ok (.iload_n 2, 1) := by decide +kernel
theorem d_M_isHeld_28 : decode b_M_isHeld 28 = .ok (.bipush 127, 2) := by decide +kernel
theorem d_M_isHeld_30 : decode b_M_isHeld 30 = .ok (.iand, 1) := by decide +kernel
theorem d_M_isHeld_31 : decode b_M_isHeld 31 = .ok (.iaload, 1) := by decide +kernel
theorem d_M_isHeld_32 : decode b_M_isHeld 32 = .ok (.iconst 3, 1) := by decide +kernel
theorem d_M_isHeld_33 : decode b_M_isHeld 33 = .ok (.if_icmp .ne 5, 3) := by decide +kernel
theorem d_M_isHeld_36 : decode b_M_isHeld 36 = .ok (.iconst 1, 1) := by decide +kernel
theorem d_M_isHeld_37 : decode b_M_isHeld 37 = .ok (.ireturn, 1) := by decide +kernel
theorem d_M_isHeld_38 : decode b_M_isHeld 38 = .ok (.iinc 2 1, 3) := by decide +kernel
theorem d_M_isHeld_41 : decode b_M_isHeld 41 = .ok (.goto (-36), 3) := by decide +kernel
theorem d_M_isHeld_44 : decode b_M_isHeld 44 = .ok (.aload_n 0, 1) := by decide +kernel
theorem d_M_isHeld_45 : decode b_M_isHeld 45 = .ok (.getfield 26, 3) := by decide +kernel
theorem d_M_isHeld_48 : decode b_M_isHeld 48 = .ok (.iload_n 1, 1) := by decide +kernel
theorem d_M_isHeld_49 : decode b_M_isHeld 49 = .ok (.bipush 127, 2) := by decide +kernel
theorem d_M_isHeld_51 : decode b_M_isHeld 51 = .ok (.iand, 1) := by decide +kernel
theorem d_M_isHeld_52 : decode b_M_isHeld 52 = .ok (.iaload, 1) := by decide +kernel
theorem d_M_isHeld_53 : decode b_M_isHeld 53 = .ok (.sipush 3072, 3) := by decide +kernel
theorem d_M_isHeld_56 : decode b_M_isHeld 56 = .ok (.if_icmp .lt 22, 3) := by decide +kernel
theorem d_M_isHeld_59 : decode b_M_isHeld 59 = .ok (.iload_n 1, 1) := by decide +kernel
theorem d_M_isHeld_60 : decode b_M_isHeld 60 = .ok (.aload_n 0, 1) := by decide +kernel
theorem d_M_isHeld_61 : decode b_M_isHeld 61 = .ok (.getfield 63, 3) := by decide +kernel
theorem d_M_isHeld_64 : decode b_M_isHeld 64 = .ok (.if_icmp .ne 10, 3) := by decide +kernel
theorem d_M_isHeld_67 : decode b_M_isHeld 67 = .ok (.aload_n 0, 1) := by decide +kernel
theorem d_M_isHeld_68 : decode b_M_isHeld 68 = .ok (.getfield 81, 3) := by decide +kernel
theorem d_M_isHeld_71 : decode b_M_isHeld 71 = .ok (.ifCond .le 7, 3) := by decide +kernel
theorem d_M_isHeld_74 : decode b_M_isHeld 74 = .ok (.iconst 1, 1) := by decide +kernel
theorem d_M_isHeld_75 : decode b_M_isHeld 75 = .ok (.goto 4, 3) := by decide +kernel
theorem d_M_isHeld_78 : decode b_M_isHeld 78 = .ok (.iconst 0, 1) := by decide +kernel
theorem d_M_isHeld_79 : decode b_M_isHeld 79 = .ok (.ireturn, 1) := by decide +kernel
theorem d_M_hasUnknown_0 : decode b_M_hasUnknown 0 = .ok (.iconst 0, 1) := by decide +kernel
theorem d_M_hasUnknown_1 : decode b_M_hasUnknown 1 = .ok (.istore_n 2, 1) := by decide +kernel
theorem d_M_hasUnknown_2 : decode b_M_hasUnknown 2 = .ok (.aload_n 0, 1) := by decide +kernel
theorem d_M_hasUnknown_3 : decode b_M_hasUnknown 3 = .ok (.getfield 63, 3) := by decide +kernel
theorem d_M_hasUnknown_6 : decode b_M_hasUnknown 6 = .ok (.istore_n 3, 1) := by decide +kernel
theorem d_M_hasUnknown_7 : decode b_M_hasUnknown 7 = .ok (.iload_n 3, 1) := by decide +kernel
theorem d_M_hasUnknown_8 : decode b_M_hasUnknown 8 = .ok (.iload_n 1, 1) := by decide +kernel
theorem d_M_hasUnknown_9 : decode b_M_hasUnknown 9 = .ok (.if_icmp .ge 45, 3) := by decide +kernel
theorem d_M_hasUnknown_12 : decode b_M_hasUnknown 12 = .ok (.iload_n 2, 1) := by decide +kernel
theorem d_M_hasUnknown_13 : decode b_M_hasUnknown 13 = .ok (.ifCond .ne 29, 3) := by decide +kernel
theorem d_M_hasUnknown_16 : decode b_M_hasUnknown 16 = .ok (.aload_n 0, 1) := by decide +kernel
theorem d_M_hasUnknown_17 : decode b_M_hasUnknown 17 = .ok (.getfield 17, 3) := by decide +kernel
theorem d_M_hasUnknown_20 : decode b_M_hasUnknown 20 = .ok (.iload_n 3, 1) := by decide +kernel
theorem d_M_hasUnknown_21 : decode b_M_hasUnknown 21 = .ok (.bipush 127, 2) := by decide +kernel
theorem d_M_hasUnknown_23 : decode b_M_hasUnknown 23 = .ok (.iand, 1) := by decide +kernel
theorem d_M_hasUnknown_24 : decode b_M_hasUnknown 24 = .ok (.iaload, 1) := by decide +kernel
theorem d_M_hasUnknown_25 : decode b_M_hasUnknown 25 = .ok (.iconst 1, 1) := by decide +kernel
theorem d_M_hasUnknown_26 : decode b_M_hasUnknown 26 = .ok (.if_icmp .ne 20, 3) := by decide +kernel
theorem d_M_hasUnknown_29 : decode b_M_hasUnknown 29 = .ok (.aload_n 0, 1) := by decide +kernel
theorem d_M_hasUnknown_30 : decode b_M_hasUnknown 30 = .ok (.getfield 26, 3) := by decide +kernel
theorem d_M_hasUnknown_33 : decode b_M_hasUnknown 33 = .ok (.iload_n 3, 1) := by decide +kernel
theorem d_M_hasUnknown_34 : decode b_M_hasUnknown 34 = .ok (.bipush 127, 2) := by decide +kernel
theorem d_M_hasUnknown_36 : decode b_M_hasUnknown 36 = .ok (.iand, 1) := by decide +kernel
theorem d_M_hasUnknown_37 : decode b_M_hasUnknown 37 = .ok (.iaload, 1) := by decide +kernel
theorem d_M_hasUnknown_38 : decode b_M_hasUnknown 38 = .ok (.iconst (-1), 1) := by decide +kernel
theorem d_M_hasUnknown_39 : decode b_M_hasUnknown 39 = .ok (.if_icmp .ne 7, 3) := by decide +kernel
theorem d_M_hasUnknown_42 : decode b_M_hasUnknown 42 = .ok (.iconst 1, 1) := by decide +kernel
theorem d_M_hasUnknown_43 : decode b_M_hasUnknown 43 = .ok (.goto 4, 3) := by decide +kernel
theorem d_M_hasUnknown_46 : decode b_M_hasUnknown 46 = .ok (.iconst 0, 1) := by decide +kernel
theorem d_M_hasUnknown_47 : decode b_M_hasUnknown 47 = .ok (.istore_n 2, 1) := by decide +kernel
theorem d_M_hasUnknown_48 : decode b_M_hasUnknown 48 = .ok (.iinc 3 1, 3) := by decide +kernel
theorem d_M_hasUnknown_51 : decode b_M_hasUnknown 51 = .ok (.goto (-44), 3) := by decide +kernel
theorem d_M_hasUnknown_54 : decode b_M_hasUnknown 54 = .ok (.iload_n 2, 1) := by decide +kernel
theorem d_M_hasUnknown_55 : decode b_M_hasUnknown 55 = .ok (.ireturn, 1) := by decide +kernel
theorem d_M_storeOf_0 : decode b_M_storeOf 0 = .ok (.iload_n 1, 1) := by decide +kernel
theorem d_M_storeOf_1 : decode b_M_storeOf 1 = .ok (.iconst 1, 1) := by decide +kernel
theorem d_M_storeOf_2 : decode b_M_storeOf 2 = .ok (.isub, 1) := by decide +kernel
theorem d_M_storeOf_3 : decode b_M_storeOf 3 = .ok (.istore_n 3, 1) := by decide +kernel
theorem d_M_storeOf_4 : decode b_M_storeOf 4 = .ok (.iload_n 3, 1) := by decide +kernel
theorem d_M_storeOf_5 : decode b_M_storeOf 5 = .ok (.aload_n 0, 1) := by decide +kernel
theorem d_M_storeOf_6 : decode b_M_storeOf 6 = .ok (.getfield 63, 3) := by decide +kernel
theorem d_M_storeOf_9 : decode b_M_storeOf 9 = .ok (.if_icmp .lt 36, 3) := by decide +kernel
theorem d_M_storeOf_12 : decode b_M_storeOf 12 = .ok (.aload_n 0, 1) := by decide +kernel
theorem d_M_storeOf_13 : decode b_M_storeOf 13 = .ok (.getfield 17, 3) := by decide +kernel
theorem d_M_storeOf_16 : decode b_M_storeOf 16 = .ok (.iload_n 3, 1) := by decide +kernel
theorem d_M_storeOf_17 : decode b_M_storeOf 17 = .ok (.bipush 127, 2) := by decide +kernel
theorem d_M_storeOf_19 : decode b_M_storeOf 19 = .ok (.iand, 1) := by decide +kernel
theorem d_M_storeOf_20 : decode b_M_storeOf 20 = .ok (.iaload, 1) := by decide +kernel
theorem d_M_storeOf_21 : decode b_M_storeOf 21 = .ok (.iconst 1, 1) := by decide +kernel
theorem d_M_storeOf_22 : decode b_M_storeOf 22 = .ok (.if_icmp .ne 17, 3) := by decide +kernel
theorem d_M_storeOf_25 : decode b_M_storeOf 25 = .ok (.aload_n 0, 1) := by decide +kernel
theorem d_M_storeOf_26 : decode b_M_storeOf 26 = .ok (.iload_n 3, 1) := by decide +kernel
theorem d_M_storeOf_27 : decode b_M_storeOf 27 = .ok (.bipush 127, 2) := by decide +kernel
theorem d_M_storeOf_29 : decode b_M_storeOf 29 = .ok (.iand, 1) := by decide +kernel
theorem d_M_storeOf_30 : decode b_M_storeOf 30 = .ok (.iload_n 2, 1) := by decide +kernel
theorem d_M_storeOf_31 : decode b_M_storeOf 31 = .ok (.invokevirtual 78, 3) := by decide +kernel
theorem d_M_storeOf_34 : decode b_M_storeOf 34 = .ok (.ifCond .eq 5, 3) := by decide +kernel
theorem d_M_storeOf_37 : decode b_M_storeOf 37 = .ok (.iload_n 3, 1) := by decide +kernel
theorem d_M_storeOf_38 : decode b_M_storeOf 38 = .ok (.ireturn, 1) := by decide +kernel
theorem d_M_storeOf_39 : decode b_M_storeOf 39 = .ok (.iinc 3 (-1), 3) := by decide +kernel
theorem d_M_storeOf_42 : decode b_M_storeOf 42 = .ok (.goto (-38), 3) := by decide +kernel
theorem d_M_storeOf_45 : decode b_M_storeOf 45 = .ok (.iconst (-1), 1) := by decide +kernel
theorem d_M_storeOf_46 : decode b_M_storeOf 46 = .ok (.ireturn, 1) := by decide +kernel
theorem d_M_taken_0 : decode b_M_taken 0 = .ok (.iload_n 1, 1) := by decide +kernel
theorem d_M_taken_1 : decode b_M_taken 1 = .ok (.bipush 127, 2) := by decide +kernel
theorem d_M_taken_3 : decode b_M_taken 3 = .ok (.iand, 1) := by decide +kernel
theorem d_M_taken_4 : decode b_M_taken 4 = .ok (.istore_n 3, 1) := by decide +kernel
theorem d_M_taken_5 : decode b_M_taken 5 = .ok (.aload_n 0, 1) := by decide +kernel
theorem d_M_taken_6 : decode b_M_taken 6 = .ok (.getfield 26, 3) := by decide +kernel
theorem d_M_taken_9 : decode b_M_taken 9 = .ok (.iload_n 3, 1) := by decide +kernel
theorem d_M_taken_10 : decode b_M_taken 10 = .ok (.iaload, 1) := by decide +kernel
theorem d_M_taken_11 : decode b_M_taken 11 = .ok (.iload_n 2, 1) := by decide +kernel
theorem d_M_taken_12 : decode b_M_taken 12 = .ok (.iadd, 1) := by decide +kernel
theorem d_M_taken_13 : decode b_M_taken 13 = .ok (.istore 4, 2) := by decide +kernel
theorem d_M_taken_15 : decode b_M_taken 15 = .ok (.aload_n 0, 1) := by decide +kernel
theorem d_M_taken_16 : decode b_M_taken 16 = .ok (.iload_n 1, 1) := by decide +kernel
theorem d_M_taken_17 : decode b_M_taken 17 = .ok (.iload 4, 2) := by decide +kernel
theorem d_M_taken_19 : decode b_M_taken 19 = .ok (.invokevirtual 116, 3) := by decide +kernel
theorem d_M_taken_22 : decode b_M_taken 22 = .ok (.istore 5, 2) := by decide +kernel
theorem d_M_taken_24 : decode b_M_taken 24 = .ok (.aload_n 0, 1) := by decide +kernel
theorem d_M_taken_25 : decode b_M_taken 25 = .ok (.iload 4, 2) := by decide +kernel
theorem d_M_taken_27 : decode b_M_taken 27 = .ok (.invokevirtual 123, 3) := by decide +kernel
theorem d_M_taken_30 : decode b_M_taken 30 = .ok (.istore 6, 2) := by decide +kernel
theorem d_M_taken_32 : decode b_M_taken 32 = .ok (.aload_n 0, 1) := by decide +kernel
theorem d_M_taken_33 : decode b_M_taken 33 = .ok (.getfield 41, 3) := by decide +kernel
theorem d_M_taken_36 : decode b_M_taken 36 = .ok (.iconst 4, 1) := by decide +kernel
theorem d_M_taken_37 : decode b_M_taken 37 = .ok (.iload_n 3, 1) := by decide +kernel
theorem d_M_taken_38 : decode b_M_taken 38 = .ok (.imul, 1) := by decide +kernel
theorem d_M_taken_39 : decode b_M_taken 39 = .ok (.iload_n 2, 1) := by decide +kernel
theorem d_M_taken_40 : decode b_M_taken 40 = .ok (.iadd, 1) := by decide +kernel
theorem d_M_taken_41 : decode b_M_taken 41 = .ok (.iload 5, 2) := by decide +kernel
theorem d_M_taken_43 : decode b_M_taken 43 = .ok (.ifCond .lt 8, 3) := by decide +kernel
theorem d_M_taken_46 : decode b_M_taken 46 = .ok (.iload 5, 2) := by decide +kernel
theorem d_M_taken_48 : decode b_M_taken 48 = .ok (.goto 14, 3) := by decide +kernel
theorem d_M_taken_51 : decode b_M_taken 51 = .ok (.iload 6, 2) := by decide +kernel
theorem d_M_taken_53 : decode b_M_taken 53 = .ok (.ifCond .lt 8, 3) := by decide +kernel
theorem d_M_taken_56 : decode b_M_taken 56 = .ok (.bipush (-2), 2) := by decide +kernel
theorem d_M_taken_58 : decode b_M_taken 58 = .ok (.goto 4, 3) := by decide +kernel
theorem d_M_taken_61 : decode b_M_taken 61 = .ok (.iconst (-1), 1) := by decide +kernel
theorem d_M_taken_62 : decode b_M_taken 62 = .ok (.iastore, 1) := by decide +kernel
theorem d_M_taken_63 : decode b_M_taken 63 = .ok (.aload_n 0, 1) := by decide +kernel
theorem d_M_taken_64 : decode b_M_taken 64 = .ok (.dup, 1) := by decide +kernel
theorem d_M_taken_65 : decode b_M_taken 65 = .ok (.getfield 126, 3) := by decide +kernel
theorem d_M_taken_68 : decode b_M_taken 68 = .ok (.iload 5, 2) := by decide +kernel
theorem d_M_taken_70 : decode b_M_taken 70 = .ok (.ifCond .lt 7, 3) := by decide +kernel
theorem d_M_taken_73 : decode b_M_taken 73 = .ok (.iconst 1, 1) := by decide +kernel
theorem d_M_taken_74 : decode b_M_taken 74 = .ok (.goto 4, 3) := by decide +kernel
theorem d_M_taken_77 : decode b_M_taken 77 = .ok (.iconst 0, 1) := by decide +kernel
theorem d_M_taken_78 : decode b_M_taken 78 = .ok (.iadd, 1) := by decide +kernel
theorem d_M_taken_79 : decode b_M_taken 79 = .ok (.putfield 126, 3) := by decide +kernel
theorem d_M_taken_82 : decode b_M_taken 82 = .ok (.aload_n 0, 1) := by decide +kernel
theorem d_M_taken_83 : decode b_M_taken 83 = .ok (.dup, 1) := by decide +kernel
theorem d_M_taken_84 : decode b_M_taken 84 = .ok (.getfield 129, 3) := by decide +kernel
theorem d_M_taken_87 : decode b_M_taken 87 = .ok (.iload 5, 2) := by decide +kernel
theorem d_M_taken_89 : decode b_M_taken 89 = .ok (.ifCond .lt 7, 3) := by decide +kernel
theorem d_M_taken_92 : decode b_M_taken 92 = .ok (.iconst 0, 1) := by decide +kernel
theorem d_M_taken_93 : decode b_M_taken 93 = .ok (.goto 4, 3) := by decide +kernel
theorem d_M_taken_96 : decode b_M_taken 96 = .ok (.iconst 1, 1) := by decide +kernel
theorem d_M_taken_97 : decode b_M_taken 97 = .ok (.iadd, 1) := by decide +kernel
theorem d_M_taken_98 : decode b_M_taken 98 = .ok (.putfield 129, 3) := by decide +kernel
theorem d_M_taken_101 : decode b_M_taken 101 = .ok (.iload 5, 2) := by decide +kernel
theorem d_M_taken_103 : decode b_M_taken 103 = .ok (.bipush 127, 2) := by decide +kernel
theorem d_M_taken_105 : decode b_M_taken 105 = .ok (.iand, 1) := by decide +kernel
theorem d_M_taken_106 : decode b_M_taken 106 = .ok (.istore 7, 2) := by decide +kernel
theorem d_M_taken_108 : decode b_M_taken 108 = .ok (.iload 5, 2) := by decide +kernel
theorem d_M_taken_110 : decode b_M_taken 110 = .ok (.ifCond .lt 31, 3) := by decide +kernel
theorem d_M_taken_113 : decode b_M_taken 113 = .ok (.aload_n 0, 1) := by decide +kernel
theorem d_M_taken_114 : decode b_M_taken 114 = .ok (.getfield 29, 3) := by decide +kernel
theorem d_M_taken_117 : decode b_M_taken 117 = .ok (.iload 7, 2) := by decide +kernel
theorem d_M_taken_119 : decode b_M_taken 119 = .ok (.iaload, 1) := by decide +kernel
theorem d_M_taken_120 : decode b_M_taken 120 = .ok (.aload_n 0, 1) := by decide +kernel
theorem d_M_taken_121 : decode b_M_taken 121 = .ok (.getfield 20, 3) := by decide +kernel
theorem d_M_taken_124 : decode b_M_taken 124 = .ok (.iload 7, 2) := by decide +kernel
theorem d_M_taken_126 : decode b_M_taken 126 = .ok (.iaload, 1) := by decide +kernel
theorem d_M_taken_127 : decode b_M_taken 127 = .ok (.iload 4, 2) := by decide +kernel
theorem d_M_taken_129 : decode b_M_taken 129 = .ok (.aload_n 0, 1) := by decide +kernel
theorem d_M_taken_130 : decode b_M_taken 130 = .ok (.getfield 26, 3) := by decide +kernel
theorem d_M_taken_133 : decode b_M_taken 133 = .ok (.iload 7, 2) := by decide +kernel
theorem d_M_taken_135 : decode b_M_taken 135 = .ok (.iaload, 1) := by decide +kernel
theorem d_M_taken_136 : decode b_M_taken 136 = .ok (.isub, 1) := by decide +kernel
theorem d_M_taken_137 : decode b_M_taken 137 = .ok (.invokestatic 70, 3) := by decide +kernel
theorem d_M_taken_140 : decode b_M_taken 140 = .ok (.ireturn, 1) := by decide +kernel
theorem d_M_taken_141 : decode b_M_taken 141 = .ok (.iload 6, 2) := by decide +kernel
theorem d_M_taken_143 : decode b_M_taken 143 = .ok (.ifCond .lt 33, 3) := by decide +kernel
theorem d_M_taken_146 : decode b_M_taken 146 = .ok (.aload_n 0, 1) := by decide +kernel
theorem d_M_taken_147 : decode b_M_taken 147 = .ok (.getfield 53, 3) := by decide +kernel
theorem d_M_taken_150 : decode b_M_taken 150 = .ok (.iload 6, 2) := by decide +kernel
theorem d_M_taken_152 : decode b_M_taken 152 = .ok (.iaload, 1) := by decide +kernel
theorem d_M_taken_153 : decode b_M_taken 153 = .ok (.aload_n 0, 1) := by decide +kernel
theorem d_M_taken_154 : decode b_M_taken 154 = .ok (.getfield 50, 3) := by decide +kernel
theorem d_M_taken_157 : decode b_M_taken 157 = .ok (.iload 6, 2) := by decide +kernel
theorem d_M_taken_159 : decode b_M_taken 159 = .ok (.iaload, 1) := by decide +kernel
theorem d_M_taken_160 : decode b_M_taken 160 = .ok (.iload 4, 2) := by decide +kernel
theorem d_M_taken_162 : decode b_M_taken 162 = .ok (.aload_n 0, 1) := by decide +kernel
theorem d_M_taken_163 : decode b_M_taken 163 = .ok (.getfield 47, 3) := by decide +kernel
theorem d_M_taken_166 : decode b_M_taken 166 = .ok (.iload 6, 2) := by decide +kernel
theorem d_M_taken_168 : decode b_M_taken 168 = .ok (.iaload, 1) := by decide +kernel
theorem d_M_taken_169 : decode b_M_taken 169 = .ok (.isub, 1) := by decide +kernel
theorem d_M_taken_170 : decode b_M_taken 170 = .ok (.invokestatic 70, 3) := by decide +kernel
theorem d_M_taken_173 : decode b_M_taken 173 = .ok (.goto 10, 3) := by decide +kernel
theorem d_M_taken_176 : decode b_M_taken 176 = .ok (.aload_n 0, 1) := by decide +kernel
theorem d_M_taken_177 : decode b_M_taken 177 = .ok (.getfield 7, 3) := by decide +kernel
theorem d_M_taken_180 : decode b_M_taken 180 = .ok (.iload 4, 2) := by decide +kernel
theorem d_M_taken_182 : decode b_M_taken 182 = .ok (.iaload, 1) := by decide +kernel
theorem d_M_taken_183 : decode b_M_taken 183 = .ok (.ireturn, 1) := by decide +kernel
theorem d_M_bufferOf_0 : decode b_M_bufferOf 0 = .ok (.iconst (-1), 1) := by decide +kernel
theorem d_M_bufferOf_1 : decode b_M_bufferOf 1 = .ok (.istore_n 2, 1) := by decide +kernel
theorem d_M_bufferOf_2 : decode b_M_bufferOf 2 = .ok (.iconst 0, 1) := by decide +kernel
theorem d_M_bufferOf_3 : decode b_M_bufferOf 3 = .ok (.istore_n 3, 1) := by decide +kernel
theorem d_M_bufferOf_4 : decode b_M_bufferOf 4 = .ok (.iload_n 3, 1) := by decide +kernel
theorem d_M_bufferOf_5 : decode b_M_bufferOf 5 = .ok (.aload_n 0, 1) := by decide +kernel
theorem d_M_bufferOf_6 : decode b_M_bufferOf 6 = .ok (.getfield 81, 3) := by decide +kernel
theorem d_M_bufferOf_9 : decode b_M_bufferOf 9 = .ok (.if_icmp .ge 34, 3) := by decide +kernel
theorem d_M_bufferOf_12 : decode b_M_bufferOf 12 = .ok (.aload_n 0, 1) := by decide +kernel
theorem d_M_bufferOf_13 : decode b_M_bufferOf 13 = .ok (.getfield 47, 3) := by decide +kernel
theorem d_M_bufferOf_16 : decode b_M_bufferOf 16 = .ok (.iload_n 3, 1) := by decide +kernel
theorem d_M_bufferOf_17 : decode b_M_bufferOf 17 = .ok (.iaload, 1) := by decide +kernel
theorem d_M_bufferOf_18 : decode b_M_bufferOf 18 = .ok (.aload_n 0, 1) := by decide +kernel
theorem d_M_bufferOf_19 : decode b_M_bufferOf 19 = .ok (.getfield 50, 3) := by decide +kernel
theorem d_M_bufferOf_22 : decode b_M_bufferOf 22 = .ok (.iload_n 3, 1) := by decide +kernel
theorem d_M_bufferOf_23 : decode b_M_bufferOf 23 = .ok (.iaload, 1) := by decide +kernel
theorem d_M_bufferOf_24 : decode b_M_bufferOf 24 = .ok (.iload_n 1, 1) := by decide +kernel
theorem d_M_bufferOf_25 : decode b_M_bufferOf 25 = .ok (.invokestatic 74, 3) := by decide +kernel
theorem d_M_bufferOf_28 : decode b_M_bufferOf 28 = .ok (.ifCond .eq 7, 3) := by decide +kernel
theorem d_M_bufferOf_31 : decode b_M_bufferOf 31 = .ok (.iload_n 3, 1) := by decide +kernel
theorem d_M_bufferOf_32 : decode b_M_bufferOf 32 = .ok (.goto 4, 3) := by decide +kernel
theorem d_M_bufferOf_35 : decode b_M_bufferOf 35 = .ok (.iload_n 2, 1) := by decide +kernel
theorem d_M_bufferOf_36 : decode b_M_bufferOf 36 = .ok (.istore_n 2, 1) := by decide +kernel
theorem d_M_bufferOf_37 : decode b_M_bufferOf 37 = .ok (.iinc 3 1, 3) := by decide +kernel
theorem d_M_bufferOf_40 : decode b_M_bufferOf 40 = .ok (.goto (-36), 3) := by decide +kernel
theorem d_M_bufferOf_43 : decode b_M_bufferOf 43 = .ok (.iload_n 2, 1) := by decide +kernel
theorem d_M_bufferOf_44 : decode b_M_bufferOf 44 = .ok (.ireturn, 1) := by decide +kernel
theorem d_M_byteOf_0 : decode b_M_byteOf 0 = .ok (.iload_n 0, 1) := by decide +kernel
theorem d_M_byteOf_1 : decode b_M_byteOf 1 = .ok (.bipush 8, 2) := by decide +kernel
theorem d_M_byteOf_3 : decode b_M_byteOf 3 = .ok (.iload_n 1, 1) := by decide +kernel
theorem d_M_byteOf_4 : decode b_M_byteOf 4 = .ok (.iconst 1, 1) := by decide +kernel
theorem d_M_byteOf_5 : decode b_M_byteOf 5 = .ok (.isub, 1) := by decide +kernel
theorem d_M_byteOf_6 : decode b_M_byteOf 6 = .ok (.iload_n 2, 1) := by decide +kernel
theorem d_M_byteOf_7 : decode b_M_byteOf 7 = .ok (.isub, 1) := by decide +kernel
theorem d_M_byteOf_8 : decode b_M_byteOf 8 = .ok (.imul, 1) := by decide +kernel
theorem d_M_byteOf_9 : decode b_M_byteOf 9 = .ok (.ishr, 1) := by decide +kernel
theorem d_M_byteOf_10 : decode b_M_byteOf 10 = .ok (.sipush 255, 3) := by decide +kernel
theorem d_M_byteOf_13 : decode b_M_byteOf 13 = .ok (.iand, 1) := by decide +kernel
theorem d_M_byteOf_14 : decode b_M_byteOf 14 = .ok (.ireturn, 1) := by decide +kernel
theorem d_M_loaded_0 : decode b_M_loaded 0 = .ok (.iload_n 1, 1) := by decide +kernel
theorem d_M_loaded_1 : decode b_M_loaded 1 = .ok (.bipush 127, 2) := by decide +kernel
theorem d_M_loaded_3 : decode b_M_loaded 3 = .ok (.iand, 1) := by decide +kernel
theorem d_M_loaded_4 : decode b_M_loaded 4 = .ok (.istore_n 2, 1) := by decide +kernel
theorem d_M_loaded_5 : decode b_M_loaded 5 = .ok (.aload_n 0, 1) := by decide +kernel
theorem d_M_loaded_6 : decode b_M_loaded 6 = .ok (.getfield 17, 3) := by decide +kernel
theorem d_M_loaded_9 : decode b_M_loaded 9 = .ok (.iload_n 2, 1) := by decide +kernel
theorem d_M_loaded_10 : decode b_M_loaded 10 = .ok (.iaload, 1) := by decide +kernel
theorem d_M_loaded_11 : decode b_M_loaded 11 = .ok (.ifCond .ne 12, 3) := by decide +kernel
theorem d_M_loaded_14 : decode b_M_loaded 14 = .ok (.aload_n 0, 1) := by decide +kernel
theorem d_M_loaded_15 : decode b_M_loaded 15 = .ok (.getfield 38, 3) := by decide +kernel
theorem d_M_loaded_18 : decode b_M_loaded 18 = .ok (.iload_n 2, 1) := by decide +kernel
theorem d_M_loaded_19 : decode b_M_loaded 19 = .ok (.baload, 1) := by decide +kernel
theorem d_M_loaded_20 : decode b_M_loaded 20 = .ok (.ifCond .ne 21, 3) := by decide +kernel
theorem d_M_loaded_23 : decode b_M_loaded 23 = .ok (.aload_n 0, 1) := by decide +kernel
theorem d_M_loaded_24 : decode b_M_loaded 24 = .ok (.getfield 17, 3) := by decide +kernel
theorem d_M_loaded_27 : decode b_M_loaded 27 = .ok (.iload_n 2, 1) := by decide +kernel
theorem d_M_loaded_28 : decode b_M_loaded 28 = .ok (.iaload, 1) := by decide +kernel
theorem d_M_loaded_29 : decode b_M_loaded 29 = .ok (.iconst 3, 1) := by decide +kernel
theorem d_M_loaded_30 : decode b_M_loaded 30 = .ok (.if_icmp .ne 15, 3) := by decide +kernel
theorem d_M_loaded_33 : decode b_M_loaded 33 = .ok (.iload_n 1, 1) := by decide +kernel
theorem d_M_loaded_34 : decode b_M_loaded 34 = .ok (.aload_n 0, 1) := by decide +kernel
theorem d_M_loaded_35 : decode b_M_loaded 35 = .ok (.getfield 63, 3) := by decide +kernel
theorem d_M_loaded_38 : decode b_M_loaded 38 = .ok (.if_icmp .ge 7, 3) := by decide +kernel
theorem d_M_loaded_41 : decode b_M_loaded 41 = .ok (.iconst 1, 1) := by decide +kernel
theorem d_M_loaded_42 : decode b_M_loaded 42 = .ok (.goto 4, 3) := by decide +kernel
theorem d_M_loaded_45 : decode b_M_loaded 45 = .ok (.iconst 0, 1) := by decide +kernel
theorem d_M_loaded_46 : decode b_M_loaded 46 = .ok (.istore_n 3, 1) := by decide +kernel
theorem d_M_loaded_47 : decode b_M_loaded 47 = .ok (.aload_n 0, 1) := by decide +kernel
theorem d_M_loaded_48 : decode b_M_loaded 48 = .ok (.aload_n 0, 1) := by decide +kernel
theorem d_M_loaded_49 : decode b_M_loaded 49 = .ok (.iload_n 1, 1) := by decide +kernel
theorem d_M_loaded_50 : decode b_M_loaded 50 = .ok (.invokevirtual 88, 3) := by decide +kernel
theorem d_M_loaded_53 : decode b_M_loaded 53 = .ok (.ifCond .ne 7, 3) := by decide +kernel
theorem d_M_loaded_56 : decode b_M_loaded 56 = .ok (.iconst 1, 1) := by decide +kernel
theorem d_M_loaded_57 : decode b_M_loaded 57 = .ok (.goto 29, 3) := by decide +kernel
theorem d_M_loaded_60 : decode b_M_loaded 60 = .ok (.aload_n 0, 1) := by decide +kernel
theorem d_M_loaded_61 : decode b_M_loaded 61 = .ok (.getfield 60, 3) := by decide +kernel
theorem d_M_loaded_64 : decode b_M_loaded 64 = .ok (.iconst 1, 1) := by decide +kernel
theorem d_M_loaded_65 : decode b_M_loaded 65 = .ok (.isub, 1) := by decide +kernel
theorem d_M_loaded_66 : decode b_M_loaded 66 = .ok (.iload_n 1, 1) := by decide +kernel
theorem d_M_loaded_67 : decode b_M_loaded 67 = .ok (.isub, 1) := by decide +kernel
theorem d_M_loaded_68 : decode b_M_loaded 68 = .ok (.bipush 64, 2) := by decide +kernel
theorem d_M_loaded_70 : decode b_M_loaded 70 = .ok (.if_icmp .lt 7, 3) := by decide +kernel
theorem d_M_loaded_73 : decode b_M_loaded 73 = .ok (.iconst 3, 1) := by decide +kernel
theorem d_M_loaded_74 : decode b_M_loaded 74 = .ok (.goto 12, 3) := by decide +kernel
theorem d_M_loaded_77 : decode b_M_loaded 77 = .ok (.iload_n 3, 1) := by decide +kernel
theorem d_M_loaded_78 : decode b_M_loaded 78 = .ok (.ifCond .ne 7, 3) := by decide +kernel
theorem d_M_loaded_81 : decode b_M_loaded 81 = .ok (.iconst 2, 1) := by decide +kernel
theorem d_M_loaded_82 : decode b_M_loaded 82 = .ok (.goto 4, 3) := by decide +kernel
theorem d_M_loaded_85 : decode b_M_loaded 85 = .ok (.iconst 0, 1) := by decide +kernel
theorem d_M_loaded_86 : decode b_M_loaded 86 = .ok (.putfield 56, 3) := by decide +kernel
theorem d_M_loaded_89 : decode b_M_loaded 89 = .ok (.aload_n 0, 1) := by decide +kernel
theorem d_M_loaded_90 : decode b_M_loaded 90 = .ok (.getfield 56, 3) := by decide +kernel
theorem d_M_loaded_93 : decode b_M_loaded 93 = .ok (.ifCond .le 7, 3) := by decide +kernel
theorem d_M_loaded_96 : decode b_M_loaded 96 = .ok (.iconst 0, 1) := by decide +kernel
theorem d_M_loaded_97 : decode b_M_loaded 97 = .ok (.goto 9, 3) := by decide +kernel
theorem d_M_loaded_100 : decode b_M_loaded 100 = .ok (.aload_n 0, 1) := by decide +kernel
theorem d_M_loaded_101 : decode b_M_loaded 101 = .ok (.getfield 32, 3) := by decide +kernel
theorem d_M_loaded_104 : decode b_M_loaded 104 = .ok (.iload_n 2, 1) := by decide +kernel
theorem d_M_loaded_105 : decode b_M_loaded 105 = .ok (.iaload, 1) := by decide +kernel
theorem d_M_loaded_106 : decode b_M_loaded 106 = .ok (.ireturn, 1) := by decide +kernel
theorem d_M_source_0 : decode b_M_source 0 = .ok (.iload_n 1, 1) := by decide +kernel
theorem d_M_source_1 : decode b_M_source 1 = .ok (.bipush 127, 2) := by decide +kernel
theorem d_M_source_3 : decode b_M_source 3 = .ok (.iand, 1) := by decide +kernel
theorem d_M_source_4 : decode b_M_source 4 = .ok (.istore_n 3, 1) := by decide +kernel
theorem d_M_source_5 : decode b_M_source 5 = .ok (.aload_n 0, 1) := by decide +kernel
theorem d_M_source_6 : decode b_M_source 6 = .ok (.aload_n 0, 1) := by decide +kernel
theorem d_M_source_7 : decode b_M_source 7 = .ok (.iload_n 1, 1) := by decide +kernel
theorem d_M_source_8 : decode b_M_source 8 = .ok (.invokevirtual 88, 3) := by decide +kernel
theorem d_M_source_11 : decode b_M_source 11 = .ok (.ifCond .ne 7, 3) := by decide +kernel
theorem d_M_source_14 : decode b_M_source 14 = .ok (.iconst 1, 1) := by decide +kernel
theorem d_M_source_15 : decode b_M_source 15 = .ok (.goto 42, 3) := by decide +kernel
theorem d_M_source_18 : decode b_M_source 18 = .ok (.aload_n 0, 1) := by decide +kernel
theorem d_M_source_19 : decode b_M_source 19 = .ok (.iload_n 1, 1) := by decide +kernel
theorem d_M_source_20 : decode b_M_source 20 = .ok (.invokevirtual 84, 3) := by decide +kernel
theorem d_M_source_23 : decode b_M_source 23 = .ok (.ifCond .eq 11, 3) := by decide +kernel
theorem d_M_source_26 : decode b_M_source 26 = .ok (.aload_n 0, 1) := by decide +kernel
theorem d_M_source_27 : decode b_M_source 27 = .ok (.iload_n 1, 1) := by decide +kernel
theorem d_M_source_28 : decode b_M_source 28 = .ok (.invokevirtual 94, 3) := by decide +kernel
theorem d_M_source_31 : decode b_M_source 31 = .ok (.ifCond .ne 7, 3) := by decide +kernel
theorem d_M_source_34 : decode b_M_source 34 = .ok (.iconst 2, 1) := by decide +kernel
theorem d_M_source_35 : decode b_M_source 35 = .ok (.goto 22, 3) := by decide +kernel
theorem d_M_source_38 : decode b_M_source 38 = .ok (.iload_n 2, 1) := by decide +kernel
theorem d_M_source_39 : decode b_M_source 39 = .ok (.ifCond .lt 13, 3) := by decide +kernel
theorem d_M_source_42 : decode b_M_source 42 = .ok (.iload_n 2, 1) := by decide +kernel
theorem d_M_source_43 : decode b_M_source 43 = .ok (.aload_n 0, 1) := by decide +kernel
theorem d_M_source_44 : decode b_M_source 44 = .ok (.getfield 20, 3) := by decide +kernel
theorem d_M_source_47 : decode b_M_source 47 = .ok (.iload_n 3, 1) := by decide +kernel
theorem d_M_source_48 : decode b_M_source 48 = .ok (.iaload, 1) := by decide +kernel
theorem d_M_source_49 : decode b_M_source 49 = .ok (.if_icmp .lt 7, 3) := by decide +kernel
theorem d_M_source_52 : decode b_M_source 52 = .ok (.iconst 3, 1) := by decide +kernel
theorem d_M_source_53 : decode b_M_source 53 = .ok (.goto 4, 3) := by decide +kernel
theorem d_M_source_56 : decode b_M_source 56 = .ok (.iconst 0, 1) := by decide +kernel
theorem d_M_source_57 : decode b_M_source 57 = .ok (.putfield 56, 3) := by decide +kernel
theorem d_M_source_60 : decode b_M_source 60 = .ok (.aload_n 0, 1) := by decide +kernel
theorem d_M_source_61 : decode b_M_source 61 = .ok (.getfield 56, 3) := by decide +kernel
theorem d_M_source_64 : decode b_M_source 64 = .ok (.ifCond .le 5, 3) := by decide +kernel
end
section
theorem d_M_source_67 : decode b_M_source 67 = .ok (.iconst 0, 1) := by decide +kernel
theorem d_M_source_68 : decode b_M_source 68 = .ok (.ireturn, 1) := by decide +kernel
theorem d_M_source_69 : decode b_M_source 69 = .ok (.aload_n 0, 1) := by decide +kernel
theorem d_M_source_70 : decode b_M_source 70 = .ok (.getfield 41, 3) := by decide +kernel
theorem d_M_source_73 : decode b_M_source 73 = .ok (.iconst 4, 1) := by decide +kernel
theorem d_M_source_74 : decode b_M_source 74 = .ok (.iload_n 3, 1) := by decide +kernel
theorem d_M_source_75 : decode b_M_source 75 = .ok (.imul, 1) := by decide +kernel
theorem d_M_source_76 : decode b_M_source 76 = .ok (.iload_n 2, 1) := by decide +kernel
theorem d_M_source_77 : decode b_M_source 77 = .ok (.iadd, 1) := by decide +kernel
theorem d_M_source_78 : decode b_M_source 78 = .ok (.iaload, 1) := by decide +kernel
theorem d_M_source_79 : decode b_M_source 79 = .ok (.ifCond .lt 16, 3) := by decide +kernel
theorem d_M_source_82 : decode b_M_source 82 = .ok (.aload_n 0, 1) := by decide +kernel
theorem d_M_source_83 : decode b_M_source 83 = .ok (.getfield 41, 3) := by decide +kernel
theorem d_M_source_86 : decode b_M_source 86 = .ok (.iconst 4, 1) := by decide +kernel
theorem d_M_source_87 : decode b_M_source 87 = .ok (.iload_n 3, 1) := by decide +kernel
theorem d_M_source_88 : decode b_M_source 88 = .ok (.imul, 1) := by decide +kernel
theorem d_M_source_89 : decode b_M_source 89 = .ok (.iload_n 2, 1) := by decide +kernel
theorem d_M_source_90 : decode b_M_source 90 = .ok (.iadd, 1) := by decide +kernel
theorem d_M_source_91 : decode b_M_source 91 = .ok (.iaload, 1) := by decide +kernel
theorem d_M_source_92 : decode b_M_source 92 = .ok (.goto 4, 3) := by decide +kernel
theorem d_M_source_95 : decode b_M_source 95 = .ok (.iconst (-1), 1) := by decide +kernel
theorem d_M_source_96 : decode b_M_source 96 = .ok (.ireturn, 1) := by decide +kernel
theorem d_M_leave_0 : decode b_M_leave 0 = .ok (.aload_n 0, 1) := by decide +kernel
theorem d_M_leave_1 : decode b_M_leave 1 = .ok (.iconst 0, 1) := by decide +kernel
theorem d_M_leave_2 : decode b_M_leave 2 = .ok (.putfield 56, 3) := by decide +kernel
theorem d_M_leave_5 : decode b_M_leave 5 = .ok (.aload_n 0, 1) := by decide +kernel
theorem d_M_leave_6 : decode b_M_leave 6 = .ok (.getfield 63, 3) := by decide +kernel
theorem d_M_leave_9 : decode b_M_leave 9 = .ok (.aload_n 0, 1) := by decide +kernel
theorem d_M_leave_10 : decode b_M_leave 10 = .ok (.getfield 60, 3) := by decide +kernel
theorem d_M_leave_13 : decode b_M_leave 13 = .ok (.if_icmp .eq 10, 3) := by decide +kernel
theorem d_M_leave_16 : decode b_M_leave 16 = .ok (.aload_n 0, 1) := by decide +kernel
theorem d_M_leave_17 : decode b_M_leave 17 = .ok (.invokevirtual 132, 3) := by decide +kernel
theorem d_M_leave_20 : decode b_M_leave 20 = .ok (.ifCond .ne 5, 3) := by decide +kernel
theorem d_M_leave_23 : decode b_M_leave 23 = .ok (.iconst (-1), 1) := by decide +kernel
theorem d_M_leave_24 : decode b_M_leave 24 = .ok (.ireturn, 1) := by decide +kernel
theorem d_M_leave_25 : decode b_M_leave 25 = .ok (.aload_n 0, 1) := by decide +kernel
theorem d_M_leave_26 : decode b_M_leave 26 = .ok (.getfield 63, 3) := by decide +kernel
theorem d_M_leave_29 : decode b_M_leave 29 = .ok (.bipush 127, 2) := by decide +kernel
theorem d_M_leave_31 : decode b_M_leave 31 = .ok (.iand, 1) := by decide +kernel
theorem d_M_leave_32 : decode b_M_leave 32 = .ok (.istore_n 1, 1) := by decide +kernel
theorem d_M_leave_33 : decode b_M_leave 33 = .ok (.aload_n 0, 1) := by decide +kernel
theorem d_M_leave_34 : decode b_M_leave 34 = .ok (.getfield 17, 3) := by decide +kernel
theorem d_M_leave_37 : decode b_M_leave 37 = .ok (.iload_n 1, 1) := by decide +kernel
theorem d_M_leave_38 : decode b_M_leave 38 = .ok (.iaload, 1) := by decide +kernel
theorem d_M_leave_39 : decode b_M_leave 39 = .ok (.iconst 3, 1) := by decide +kernel
theorem d_M_leave_40 : decode b_M_leave 40 = .ok (.if_icmp .ne 57, 3) := by decide +kernel
theorem d_M_leave_43 : decode b_M_leave 43 = .ok (.aload_n 0, 1) := by decide +kernel
theorem d_M_leave_44 : decode b_M_leave 44 = .ok (.getfield 32, 3) := by decide +kernel
theorem d_M_leave_47 : decode b_M_leave 47 = .ok (.iload_n 1, 1) := by decide +kernel
theorem d_M_leave_48 : decode b_M_leave 48 = .ok (.iconst 0, 1) := by decide +kernel
theorem d_M_leave_49 : decode b_M_leave 49 = .ok (.iastore, 1) := by decide +kernel
theorem d_M_leave_50 : decode b_M_leave 50 = .ok (.iconst 0, 1) := by decide +kernel
theorem d_M_leave_51 : decode b_M_leave 51 = .ok (.istore_n 2, 1) := by decide +kernel
theorem d_M_leave_52 : decode b_M_leave 52 = .ok (.iload_n 2, 1) := by decide +kernel
theorem d_M_leave_53 : decode b_M_leave 53 = .ok (.aload_n 0, 1) := by decide +kernel
theorem d_M_leave_54 : decode b_M_leave 54 = .ok (.getfield 20, 3) := by decide +kernel
theorem d_M_leave_57 : decode b_M_leave 57 = .ok (.iload_n 1, 1) := by decide +kernel
theorem d_M_leave_58 : decode b_M_leave 58 = .ok (.iaload, 1) := by decide +kernel
theorem d_M_leave_59 : decode b_M_leave 59 = .ok (.if_icmp .ge 38, 3) := by decide +kernel
theorem d_M_leave_62 : decode b_M_leave 62 = .ok (.aload_n 0, 1) := by decide +kernel
theorem d_M_leave_63 : decode b_M_leave 63 = .ok (.getfield 32, 3) := by decide +kernel
theorem d_M_leave_66 : decode b_M_leave 66 = .ok (.iload_n 1, 1) := by decide +kernel
theorem d_M_leave_67 : decode b_M_leave 67 = .ok (.aload_n 0, 1) := by decide +kernel
theorem d_M_leave_68 : decode b_M_leave 68 = .ok (.getfield 32, 3) := by decide +kernel
theorem d_M_leave_71 : decode b_M_leave 71 = .ok (.iload_n 1, 1) := by decide +kernel
theorem d_M_leave_72 : decode b_M_leave 72 = .ok (.iaload, 1) := by decide +kernel
theorem d_M_leave_73 : decode b_M_leave 73 = .ok (.bipush 8, 2) := by decide +kernel
theorem d_M_leave_75 : decode b_M_leave 75 = .ok (.ishl, 1) := by decide +kernel
theorem d_M_leave_76 : decode b_M_leave 76 = .ok (.aload_n 0, 1) := by decide +kernel
theorem d_M_leave_77 : decode b_M_leave 77 = .ok (.getfield 7, 3) := by decide +kernel
theorem d_M_leave_80 : decode b_M_leave 80 = .ok (.aload_n 0, 1) := by decide +kernel
theorem d_M_leave_81 : decode b_M_leave 81 = .ok (.getfield 26, 3) := by decide +kernel
theorem d_M_leave_84 : decode b_M_leave 84 = .ok (.iload_n 1, 1) := by decide +kernel
theorem d_M_leave_85 : decode b_M_leave 85 = .ok (.iaload, 1) := by decide +kernel
theorem d_M_leave_86 : decode b_M_leave 86 = .ok (.iload_n 2, 1) := by decide +kernel
theorem d_M_leave_87 : decode b_M_leave 87 = .ok (.iadd, 1) := by decide +kernel
theorem d_M_leave_88 : decode b_M_leave 88 = .ok (.iaload, 1) := by decide +kernel
theorem d_M_leave_89 : decode b_M_leave 89 = .ok (.ior, 1) := by decide +kernel
theorem d_M_leave_90 : decode b_M_leave 90 = .ok (.iastore, 1) := by decide +kernel
theorem d_M_leave_91 : decode b_M_leave 91 = .ok (.iinc 2 1, 3) := by decide +kernel
theorem d_M_leave_94 : decode b_M_leave 94 = .ok (.goto (-42), 3) := by decide +kernel
theorem d_M_leave_97 : decode b_M_leave 97 = .ok (.aload_n 0, 1) := by decide +kernel
theorem d_M_leave_98 : decode b_M_leave 98 = .ok (.getfield 17, 3) := by decide +kernel
theorem d_M_leave_101 : decode b_M_leave 101 = .ok (.iload_n 1, 1) := by decide +kernel
theorem d_M_leave_102 : decode b_M_leave 102 = .ok (.iaload, 1) := by decide +kernel
theorem d_M_leave_103 : decode b_M_leave 103 = .ok (.iconst 1, 1) := by decide +kernel
theorem d_M_leave_104 : decode b_M_leave 104 = .ok (.if_icmp .ne 26, 3) := by decide +kernel
theorem d_M_leave_107 : decode b_M_leave 107 = .ok (.aload_n 0, 1) := by decide +kernel
theorem d_M_leave_108 : decode b_M_leave 108 = .ok (.getfield 26, 3) := by decide +kernel
theorem d_M_leave_111 : decode b_M_leave 111 = .ok (.iload_n 1, 1) := by decide +kernel
theorem d_M_leave_112 : decode b_M_leave 112 = .ok (.iaload, 1) := by decide +kernel
theorem d_M_leave_113 : decode b_M_leave 113 = .ok (.sipush 3072, 3) := by decide +kernel
theorem d_M_leave_116 : decode b_M_leave 116 = .ok (.if_icmp .ge 14, 3) := by decide +kernel
theorem d_M_leave_119 : decode b_M_leave 119 = .ok (.aload_n 0, 1) := by decide +kernel
theorem d_M_leave_120 : decode b_M_leave 120 = .ok (.aload_n 0, 1) := by decide +kernel
theorem d_M_leave_121 : decode b_M_leave 121 = .ok (.getfield 63, 3) := by decide +kernel
theorem d_M_leave_124 : decode b_M_leave 124 = .ok (.invokevirtual 136, 3) := by decide +kernel
theorem d_M_leave_127 : decode b_M_leave 127 = .ok (.goto 45, 3) := by decide +kernel
theorem d_M_leave_130 : decode b_M_leave 130 = .ok (.aload_n 0, 1) := by decide +kernel
theorem d_M_leave_131 : decode b_M_leave 131 = .ok (.getfield 17, 3) := by decide +kernel
theorem d_M_leave_134 : decode b_M_leave 134 = .ok (.iload_n 1, 1) := by decide +kernel
theorem d_M_leave_135 : decode b_M_leave 135 = .ok (.iaload, 1) := by decide +kernel
theorem d_M_leave_136 : decode b_M_leave 136 = .ok (.iconst 1, 1) := by decide +kernel
theorem d_M_leave_137 : decode b_M_leave 137 = .ok (.if_icmp .eq 13, 3) := by decide +kernel
theorem d_M_leave_140 : decode b_M_leave 140 = .ok (.aload_n 0, 1) := by decide +kernel
theorem d_M_leave_141 : decode b_M_leave 141 = .ok (.getfield 17, 3) := by decide +kernel
theorem d_M_leave_144 : decode b_M_leave 144 = .ok (.iload_n 1, 1) := by decide +kernel
theorem d_M_leave_145 : decode b_M_leave 145 = .ok (.iaload, 1) := by decide +kernel
theorem d_M_leave_146 : decode b_M_leave 146 = .ok (.iconst 3, 1) := by decide +kernel
theorem d_M_leave_147 : decode b_M_leave 147 = .ok (.if_icmp .ne 25, 3) := by decide +kernel
theorem d_M_leave_150 : decode b_M_leave 150 = .ok (.aload_n 0, 1) := by decide +kernel
theorem d_M_leave_151 : decode b_M_leave 151 = .ok (.aload_n 0, 1) := by decide +kernel
theorem d_M_leave_152 : decode b_M_leave 152 = .ok (.getfield 26, 3) := by decide +kernel
theorem d_M_leave_155 : decode b_M_leave 155 = .ok (.iload_n 1, 1) := by decide +kernel
theorem d_M_leave_156 : decode b_M_leave 156 = .ok (.iaload, 1) := by decide +kernel
theorem d_M_leave_157 : decode b_M_leave 157 = .ok (.aload_n 0, 1) := by decide +kernel
theorem d_M_leave_158 : decode b_M_leave 158 = .ok (.getfield 20, 3) := by decide +kernel
theorem d_M_leave_161 : decode b_M_leave 161 = .ok (.iload_n 1, 1) := by decide +kernel
theorem d_M_leave_162 : decode b_M_leave 162 = .ok (.iaload, 1) := by decide +kernel
theorem d_M_leave_163 : decode b_M_leave 163 = .ok (.aload_n 0, 1) := by decide +kernel
theorem d_M_leave_164 : decode b_M_leave 164 = .ok (.getfield 29, 3) := by decide +kernel
theorem d_M_leave_167 : decode b_M_leave 167 = .ok (.iload_n 1, 1) := by decide +kernel
theorem d_M_leave_168 : decode b_M_leave 168 = .ok (.iaload, 1) := by decide +kernel
theorem d_M_leave_169 : decode b_M_leave 169 = .ok (.invokevirtual 140, 3) := by decide +kernel
theorem d_M_leave_172 : decode b_M_leave 172 = .ok (.aload_n 0, 1) := by decide +kernel
theorem d_M_leave_173 : decode b_M_leave 173 = .ok (.dup, 1) := by decide +kernel
theorem d_M_leave_174 : decode b_M_leave 174 = .ok (.getfield 63, 3) := by decide +kernel
theorem d_M_leave_177 : decode b_M_leave 177 = .ok (.iconst 1, 1) := by decide +kernel
theorem d_M_leave_178 : decode b_M_leave 178 = .ok (.iadd, 1) := by decide +kernel
theorem d_M_leave_179 : decode b_M_leave 179 = .ok (.putfield 63, 3) := by decide +kernel
theorem d_M_leave_182 : decode b_M_leave 182 = .ok (.aload_n 0, 1) := by decide +kernel
theorem d_M_leave_183 : decode b_M_leave 183 = .ok (.getfield 63, 3) := by decide +kernel
theorem d_M_leave_186 : decode b_M_leave 186 = .ok (.iconst 1, 1) := by decide +kernel
theorem d_M_leave_187 : decode b_M_leave 187 = .ok (.isub, 1) := by decide +kernel
theorem d_M_leave_188 : decode b_M_leave 188 = .ok (.ireturn, 1) := by decide +kernel
theorem d_M_mayLeave_0 : decode b_M_mayLeave 0 = .ok (.aload_n 0, 1) := by decide +kernel
theorem d_M_mayLeave_1 : decode b_M_mayLeave 1 = .ok (.getfield 63, 3) := by decide +kernel
theorem d_M_mayLeave_4 : decode b_M_mayLeave 4 = .ok (.bipush 127, 2) := by decide +kernel
theorem d_M_mayLeave_6 : decode b_M_mayLeave 6 = .ok (.iand, 1) := by decide +kernel
theorem d_M_mayLeave_7 : decode b_M_mayLeave 7 = .ok (.istore_n 1, 1) := by decide +kernel
theorem d_M_mayLeave_8 : decode b_M_mayLeave 8 = .ok (.aload_n 0, 1) := by decide +kernel
theorem d_M_mayLeave_9 : decode b_M_mayLeave 9 = .ok (.getfield 17, 3) := by decide +kernel
theorem d_M_mayLeave_12 : decode b_M_mayLeave 12 = .ok (.iload_n 1, 1) := by decide +kernel
theorem d_M_mayLeave_13 : decode b_M_mayLeave 13 = .ok (.iaload, 1) := by decide +kernel
theorem d_M_mayLeave_14 : decode b_M_mayLeave 14 = .ok (.ifCond .ne 10, 3) := by decide +kernel
theorem d_M_mayLeave_17 : decode b_M_mayLeave 17 = .ok (.aload_n 0, 1) := by decide +kernel
theorem d_M_mayLeave_18 : decode b_M_mayLeave 18 = .ok (.getfield 38, 3) := by decide +kernel
theorem d_M_mayLeave_21 : decode b_M_mayLeave 21 = .ok (.iload_n 1, 1) := by decide +kernel
theorem d_M_mayLeave_22 : decode b_M_mayLeave 22 = .ok (.baload, 1) := by decide +kernel
theorem d_M_mayLeave_23 : decode b_M_mayLeave 23 = .ok (.ireturn, 1) := by decide +kernel
theorem d_M_mayLeave_24 : decode b_M_mayLeave 24 = .ok (.aload_n 0, 1) := by decide +kernel
theorem d_M_mayLeave_25 : decode b_M_mayLeave 25 = .ok (.getfield 17, 3) := by decide +kernel
theorem d_M_mayLeave_28 : decode b_M_mayLeave 28 = .ok (.iload_n 1, 1) := by decide +kernel
theorem d_M_mayLeave_29 : decode b_M_mayLeave 29 = .ok (.iaload, 1) := by decide +kernel
theorem d_M_mayLeave_30 : decode b_M_mayLeave 30 = .ok (.iconst 2, 1) := by decide +kernel
theorem d_M_mayLeave_31 : decode b_M_mayLeave 31 = .ok (.if_icmp .ne 16, 3) := by decide +kernel
theorem d_M_mayLeave_34 : decode b_M_mayLeave 34 = .ok (.aload_n 0, 1) := by decide +kernel
theorem d_M_mayLeave_35 : decode b_M_mayLeave 35 = .ok (.getfield 81, 3) := by decide +kernel
theorem d_M_mayLeave_38 : decode b_M_mayLeave 38 = .ok (.ifCond .ne 7, 3) := by decide +kernel
theorem d_M_mayLeave_41 : decode b_M_mayLeave 41 = .ok (.iconst 1, 1) := by decide +kernel
theorem d_M_mayLeave_42 : decode b_M_mayLeave 42 = .ok (.goto 4, 3) := by decide +kernel
theorem d_M_mayLeave_45 : decode b_M_mayLeave 45 = .ok (.iconst 0, 1) := by decide +kernel
theorem d_M_mayLeave_46 : decode b_M_mayLeave 46 = .ok (.ireturn, 1) := by decide +kernel
theorem d_M_mayLeave_47 : decode b_M_mayLeave 47 = .ok (.aload_n 0, 1) := by decide +kernel
theorem d_M_mayLeave_48 : decode b_M_mayLeave 48 = .ok (.getfield 26, 3) := by decide +kernel
theorem d_M_mayLeave_51 : decode b_M_mayLeave 51 = .ok (.iload_n 1, 1) := by decide +kernel
theorem d_M_mayLeave_52 : decode b_M_mayLeave 52 = .ok (.iaload, 1) := by decide +kernel
theorem d_M_mayLeave_53 : decode b_M_mayLeave 53 = .ok (.iconst (-1), 1) := by decide +kernel
theorem d_M_mayLeave_54 : decode b_M_mayLeave 54 = .ok (.if_icmp .eq 12, 3) := by decide +kernel
theorem d_M_mayLeave_57 : decode b_M_mayLeave 57 = .ok (.aload_n 0, 1) := by decide +kernel
theorem d_M_mayLeave_58 : decode b_M_mayLeave 58 = .ok (.getfield 35, 3) := by decide +kernel
theorem d_M_mayLeave_61 : decode b_M_mayLeave 61 = .ok (.iload_n 1, 1) := by decide +kernel
theorem d_M_mayLeave_62 : decode b_M_mayLeave 62 = .ok (.baload, 1) := by decide +kernel
theorem d_M_mayLeave_63 : decode b_M_mayLeave 63 = .ok (.ifCond .ne 5, 3) := by decide +kernel
theorem d_M_mayLeave_66 : decode b_M_mayLeave 66 = .ok (.iconst 0, 1) := by decide +kernel
theorem d_M_mayLeave_67 : decode b_M_mayLeave 67 = .ok (.ireturn, 1) := by decide +kernel
theorem d_M_mayLeave_68 : decode b_M_mayLeave 68 = .ok (.aload_n 0, 1) := by decide +kernel
theorem d_M_mayLeave_69 : decode b_M_mayLeave 69 = .ok (.getfield 81, 3) := by decide +kernel
theorem d_M_mayLeave_72 : decode b_M_mayLeave 72 = .ok (.ifCond .eq 33, 3) := by decide +kernel
theorem d_M_mayLeave_75 : decode b_M_mayLeave 75 = .ok (.aload_n 0, 1) := by decide +kernel
theorem d_M_mayLeave_76 : decode b_M_mayLeave 76 = .ok (.getfield 17, 3) := by decide +kernel
theorem d_M_mayLeave_79 : decode b_M_mayLeave 79 = .ok (.iload_n 1, 1) := by decide +kernel
theorem d_M_mayLeave_80 : decode b_M_mayLeave 80 = .ok (.iaload, 1) := by decide +kernel
theorem d_M_mayLeave_81 : decode b_M_mayLeave 81 = .ok (.iconst 1, 1) := by decide +kernel
theorem d_M_mayLeave_82 : decode b_M_mayLeave 82 = .ok (.if_icmp .ne 27, 3) := by decide +kernel
theorem d_M_mayLeave_85 : decode b_M_mayLeave 85 = .ok (.aload_n 0, 1) := by decide +kernel
theorem d_M_mayLeave_86 : decode b_M_mayLeave 86 = .ok (.getfield 26, 3) := by decide +kernel
theorem d_M_mayLeave_89 : decode b_M_mayLeave 89 = .ok (.iload_n 1, 1) := by decide +kernel
theorem d_M_mayLeave_90 : decode b_M_mayLeave 90 = .ok (.iaload, 1) := by decide +kernel
theorem d_M_mayLeave_91 : decode b_M_mayLeave 91 = .ok (.sipush 3072, 3) := by decide +kernel
theorem d_M_mayLeave_94 : decode b_M_mayLeave 94 = .ok (.if_icmp .ge 15, 3) := by decide +kernel
theorem d_M_mayLeave_97 : decode b_M_mayLeave 97 = .ok (.aload_n 0, 1) := by decide +kernel
theorem d_M_mayLeave_98 : decode b_M_mayLeave 98 = .ok (.getfield 81, 3) := by decide +kernel
theorem d_M_mayLeave_101 : decode b_M_mayLeave 101 = .ok (.iconst 4, 1) := by decide +kernel
theorem d_M_mayLeave_102 : decode b_M_mayLeave 102 = .ok (.if_icmp .ge 7, 3) := by decide +kernel
theorem d_M_mayLeave_105 : decode b_M_mayLeave 105 = .ok (.iconst 1, 1) := by decide +kernel
theorem d_M_mayLeave_106 : decode b_M_mayLeave 106 = .ok (.goto 4, 3) := by decide +kernel
theorem d_M_mayLeave_109 : decode b_M_mayLeave 109 = .ok (.iconst 0, 1) := by decide +kernel
theorem d_M_mayLeave_110 : decode b_M_mayLeave 110 = .ok (.ireturn, 1) := by decide +kernel
theorem d_M_intoBuffer_0 : decode b_M_intoBuffer 0 = .ok (.iload_n 1, 1) := by decide +kernel
theorem d_M_intoBuffer_1 : decode b_M_intoBuffer 1 = .ok (.bipush 127, 2) := by decide +kernel
theorem d_M_intoBuffer_3 : decode b_M_intoBuffer 3 = .ok (.iand, 1) := by decide +kernel
theorem d_M_intoBuffer_4 : decode b_M_intoBuffer 4 = .ok (.istore_n 2, 1) := by decide +kernel
theorem d_M_intoBuffer_5 : decode b_M_intoBuffer 5 = .ok (.aload_n 0, 1) := by decide +kernel
theorem d_M_intoBuffer_6 : decode b_M_intoBuffer 6 = .ok (.getfield 44, 3) := by decide +kernel
theorem d_M_intoBuffer_9 : decode b_M_intoBuffer 9 = .ok (.aload_n 0, 1) := by decide +kernel
theorem d_M_intoBuffer_10 : decode b_M_intoBuffer 10 = .ok (.getfield 81, 3) := by decide +kernel
theorem d_M_intoBuffer_13 : decode b_M_intoBuffer 13 = .ok (.iload_n 1, 1) := by decide +kernel
theorem d_M_intoBuffer_14 : decode b_M_intoBuffer 14 = .ok (.iastore, 1) := by decide +kernel
theorem d_M_intoBuffer_15 : decode b_M_intoBuffer 15 = .ok (.aload_n 0, 1) := by decide +kernel
theorem d_M_intoBuffer_16 : decode b_M_intoBuffer 16 = .ok (.getfield 47, 3) := by decide +kernel
theorem d_M_intoBuffer_19 : decode b_M_intoBuffer 19 = .ok (.aload_n 0, 1) := by decide +kernel
theorem d_M_intoBuffer_20 : decode b_M_intoBuffer 20 = .ok (.getfield 81, 3) := by decide +kernel
theorem d_M_intoBuffer_23 : decode b_M_intoBuffer 23 = .ok (.aload_n 0, 1) := by decide +kernel
theorem d_M_intoBuffer_24 : decode b_M_intoBuffer 24 = .ok (.getfield 26, 3) := by decide +kernel
theorem d_M_intoBuffer_27 : decode b_M_intoBuffer 27 = .ok (.iload_n 2, 1) := by decide +kernel
theorem d_M_intoBuffer_28 : decode b_M_intoBuffer 28 = .ok (.iaload, 1) := by decide +kernel
theorem d_M_intoBuffer_29 : decode b_M_intoBuffer 29 = .ok (.iastore, 1) := by decide +kernel
theorem d_M_intoBuffer_30 : decode b_M_intoBuffer 30 = .ok (.aload_n 0, 1) := by decide +kernel
theorem d_M_intoBuffer_31 : decode b_M_intoBuffer 31 = .ok (.getfield 50, 3) := by decide +kernel
theorem d_M_intoBuffer_34 : decode b_M_intoBuffer 34 = .ok (.aload_n 0, 1) := by decide +kernel
theorem d_M_intoBuffer_35 : decode b_M_intoBuffer 35 = .ok (.getfield 81, 3) := by decide +kernel
theorem d_M_intoBuffer_38 : decode b_M_intoBuffer 38 = .ok (.aload_n 0, 1) := by decide +kernel
theorem d_M_intoBuffer_39 : decode b_M_intoBuffer 39 = .ok (.getfield 20, 3) := by decide +kernel
theorem d_M_intoBuffer_42 : decode b_M_intoBuffer 42 = .ok (.iload_n 2, 1) := by decide +kernel
theorem d_M_intoBuffer_43 : decode b_M_intoBuffer 43 = .ok (.iaload, 1) := by decide +kernel
theorem d_M_intoBuffer_44 : decode b_M_intoBuffer 44 = .ok (.iastore, 1) := by decide +kernel
theorem d_M_intoBuffer_45 : decode b_M_intoBuffer 45 = .ok (.aload_n 0, 1) := by decide +kernel
theorem d_M_intoBuffer_46 : decode b_M_intoBuffer 46 = .ok (.getfield 53, 3) := by decide +kernel
theorem d_M_intoBuffer_49 : decode b_M_intoBuffer 49 = .ok (.aload_n 0, 1) := by decide +kernel
theorem d_M_intoBuffer_50 : decode b_M_intoBuffer 50 = .ok (.getfield 81, 3) := by decide +kernel
theorem d_M_intoBuffer_53 : decode b_M_intoBuffer 53 = .ok (.aload_n 0, 1) := by decide +kernel
theorem d_M_intoBuffer_54 : decode b_M_intoBuffer 54 = .ok (.getfield 29, 3) := by decide +kernel
theorem d_M_intoBuffer_57 : decode b_M_intoBuffer 57 = .ok (.iload_n 2, 1) := by decide +kernel
theorem d_M_intoBuffer_58 : decode b_M_intoBuffer 58 = .ok (.iaload, 1) := by decide +kernel
theorem d_M_intoBuffer_59 : decode b_M_intoBuffer 59 = .ok (.iastore, 1) := by decide +kernel
theorem d_M_intoBuffer_60 : decode b_M_intoBuffer 60 = .ok (.aload_n 0, 1) := by decide +kernel
theorem d_M_intoBuffer_61 : decode b_M_intoBuffer 61 = .ok (.dup, 1) := by decide +kernel
theorem d_M_intoBuffer_62 : decode b_M_intoBuffer 62 = .ok (.getfield 81, 3) := by decide +kernel
theorem d_M_intoBuffer_65 : decode b_M_intoBuffer 65 = .ok (.iconst 1, 1) := by decide +kernel
theorem d_M_intoBuffer_66 : decode b_M_intoBuffer 66 = .ok (.iadd, 1) := by decide +kernel
theorem d_M_intoBuffer_67 : decode b_M_intoBuffer 67 = .ok (.putfield 81, 3) := by decide +kernel
theorem d_M_intoBuffer_70 : decode b_M_intoBuffer 70 = .ok (.return_, 1) := by decide +kernel
theorem d_M_write_0 : decode b_M_write 0 = .ok (.iconst 0, 1) := by decide +kernel
theorem d_M_write_1 : decode b_M_write 1 = .ok (.istore 4, 2) := by decide +kernel
theorem d_M_write_3 : decode b_M_write 3 = .ok (.iload 4, 2) := by decide +kernel
theorem d_M_write_5 : decode b_M_write 5 = .ok (.iload_n 2, 1) := by decide +kernel
theorem d_M_write_6 : decode b_M_write 6 = .ok (.if_icmp .ge 25, 3) := by decide +kernel
theorem d_M_write_9 : decode b_M_write 9 = .ok (.aload_n 0, 1) := by decide +kernel
theorem d_M_write_10 : decode b_M_write 10 = .ok (.getfield 7, 3) := by decide +kernel
theorem d_M_write_13 : decode b_M_write 13 = .ok (.iload_n 1, 1) := by decide +kernel
theorem d_M_write_14 : decode b_M_write 14 = .ok (.iload 4, 2) := by decide +kernel
theorem d_M_write_16 : decode b_M_write 16 = .ok (.iadd, 1) := by decide +kernel
theorem d_M_write_17 : decode b_M_write 17 = .ok (.iload_n 3, 1) := by decide +kernel
theorem d_M_write_18 : decode b_M_write 18 = .ok (.iload_n 2, 1) := by decide +kernel
theorem d_M_write_19 : decode b_M_write 19 = .ok (.iload 4, 2) := by decide +kernel
theorem d_M_write_21 : decode b_M_write 21 = .ok (.invokestatic 70, 3) := by decide +kernel
theorem d_M_write_24 : decode b_M_write 24 = .ok (.iastore, 1) := by decide +kernel
theorem d_M_write_25 : decode b_M_write 25 = .ok (.iinc 4 1, 3) := by decide +kernel
theorem d_M_write_28 : decode b_M_write 28 = .ok (.goto (-25), 3) := by decide +kernel
theorem d_M_write_31 : decode b_M_write 31 = .ok (.return_, 1) := by decide +kernel
theorem d_M_drain_0 : decode b_M_drain 0 = .ok (.aload_n 0, 1) := by decide +kernel
theorem d_M_drain_1 : decode b_M_drain 1 = .ok (.iconst 0, 1) := by decide +kernel
theorem d_M_drain_2 : decode b_M_drain 2 = .ok (.putfield 56, 3) := by decide +kernel
theorem d_M_drain_5 : decode b_M_drain 5 = .ok (.aload_n 0, 1) := by decide +kernel
theorem d_M_drain_6 : decode b_M_drain 6 = .ok (.getfield 81, 3) := by decide +kernel
theorem d_M_drain_9 : decode b_M_drain 9 = .ok (.ifCond .ne 5, 3) := by decide +kernel
theorem d_M_drain_12 : decode b_M_drain 12 = .ok (.iconst (-1), 1) := by decide +kernel
theorem d_M_drain_13 : decode b_M_drain 13 = .ok (.ireturn, 1) := by decide +kernel
theorem d_M_drain_14 : decode b_M_drain 14 = .ok (.aload_n 0, 1) := by decide +kernel
theorem d_M_drain_15 : decode b_M_drain 15 = .ok (.getfield 44, 3) := by decide +kernel
theorem d_M_drain_18 : decode b_M_drain 18 = .ok (.iconst 0, 1) := by decide +kernel
theorem d_M_drain_19 : decode b_M_drain 19 = .ok (.iaload, 1) := by decide +kernel
theorem d_M_drain_20 : decode b_M_drain 20 = .ok (.istore_n 1, 1) := by decide +kernel
theorem d_M_drain_21 : decode b_M_drain 21 = .ok (.aload_n 0, 1) := by decide +kernel
theorem d_M_drain_22 : decode b_M_drain 22 = .ok (.aload_n 0, 1) := by decide +kernel
theorem d_M_drain_23 : decode b_M_drain 23 = .ok (.getfield 47, 3) := by decide +kernel
theorem d_M_drain_26 : decode b_M_drain 26 = .ok (.iconst 0, 1) := by decide +kernel
theorem d_M_drain_27 : decode b_M_drain 27 = .ok (.iaload, 1) := by decide +kernel
theorem d_M_drain_28 : decode b_M_drain 28 = .ok (.aload_n 0, 1) := by decide +kernel
theorem d_M_drain_29 : decode b_M_drain 29 = .ok (.getfield 50, 3) := by decide +kernel
theorem d_M_drain_32 : decode b_M_drain 32 = .ok (.iconst 0, 1) := by decide +kernel
theorem d_M_drain_33 : decode b_M_drain 33 = .ok (.iaload, 1) := by decide +kernel
theorem d_M_drain_34 : decode b_M_drain 34 = .ok (.aload_n 0, 1) := by decide +kernel
theorem d_M_drain_35 : decode b_M_drain 35 = .ok (.getfield 53, 3) := by decide +kernel
theorem d_M_drain_38 : decode b_M_drain 38 = .ok (.iconst 0, 1) := by decide +kernel
theorem d_M_drain_39 : decode b_M_drain 39 = .ok (.iaload, 1) := by decide +kernel
theorem d_M_drain_40 : decode b_M_drain 40 = .ok (.invokevirtual 140, 3) := by decide +kernel
theorem d_M_drain_43 : decode b_M_drain 43 = .ok (.aload_n 0, 1) := by decide +kernel
theorem d_M_drain_44 : decode b_M_drain 44 = .ok (.dup, 1) := by decide +kernel
theorem d_M_drain_45 : decode b_M_drain 45 = .ok (.getfield 81, 3) := by decide +kernel
theorem d_M_drain_48 : decode b_M_drain 48 = .ok (.iconst 1, 1) := by decide +kernel
theorem d_M_drain_49 : decode b_M_drain 49 = .ok (.isub, 1) := by decide +kernel
theorem d_M_drain_50 : decode b_M_drain 50 = .ok (.putfield 81, 3) := by decide +kernel
theorem d_M_drain_53 : decode b_M_drain 53 = .ok (.iconst 0, 1) := by decide +kernel
theorem d_M_drain_54 : decode b_M_drain 54 = .ok (.istore_n 2, 1) := by decide +kernel
theorem d_M_drain_55 : decode b_M_drain 55 = .ok (.iload_n 2, 1) := by decide +kernel
theorem d_M_drain_56 : decode b_M_drain 56 = .ok (.aload_n 0, 1) := by decide +kernel
theorem d_M_drain_57 : decode b_M_drain 57 = .ok (.getfield 81, 3) := by decide +kernel
theorem d_M_drain_60 : decode b_M_drain 60 = .ok (.if_icmp .ge 65, 3) := by decide +kernel
theorem d_M_drain_63 : decode b_M_drain 63 = .ok (.aload_n 0, 1) := by decide +kernel
theorem d_M_drain_64 : decode b_M_drain 64 = .ok (.getfield 44, 3) := by decide +kernel
theorem d_M_drain_67 : decode b_M_drain 67 = .ok (.iload_n 2, 1) := by decide +kernel
theorem d_M_drain_68 : decode b_M_drain 68 = .ok (.aload_n 0, 1) := by decide +kernel
theorem d_M_drain_69 : decode b_M_drain 69 = .ok (.getfield 44, 3) := by decide +kernel
theorem d_M_drain_72 : decode b_M_drain 72 = .ok (.iload_n 2, 1) := by decide +kernel
theorem d_M_drain_73 : decode b_M_drain 73 = .ok (.iconst 1, 1) := by decide +kernel
theorem d_M_drain_74 : decode b_M_drain 74 = .ok (.iadd, 1) := by decide +kernel
theorem d_M_drain_75 : decode b_M_drain 75 = .ok (.iaload, 1) := by decide +kernel
theorem d_M_drain_76 : decode b_M_drain 76 = .ok (.iastore, 1) := by decide +kernel
theorem d_M_drain_77 : decode b_M_drain 77 = .ok (.aload_n 0, 1) := by decide +kernel
theorem d_M_drain_78 : decode b_M_drain 78 = .ok (.getfield 47, 3) := by decide +kernel
theorem d_M_drain_81 : decode b_M_drain 81 = .ok (.iload_n 2, 1) := by decide +kernel
theorem d_M_drain_82 : decode b_M_drain 82 = .ok (.aload_n 0, 1) := by decide +kernel
theorem d_M_drain_83 : decode b_M_drain 83 = .ok (.getfield 47, 3) := by decide +kernel
theorem d_M_drain_86 : decode b_M_drain 86 = .ok (.iload_n 2, 1) := by decide +kernel
theorem d_M_drain_87 : decode b_M_drain 87 = .ok (.iconst 1, 1) := by decide +kernel
theorem d_M_drain_88 : decode b_M_drain 88 = .ok (.iadd, 1) := by decide +kernel
theorem d_M_drain_89 : decode b_M_drain 89 = .ok (.iaload, 1) := by decide +kernel
theorem d_M_drain_90 : decode b_M_drain 90 = .ok (.iastore, 1) := by decide +kernel
theorem d_M_drain_91 : decode b_M_drain 91 = .ok (.aload_n 0, 1) := by decide +kernel
theorem d_M_drain_92 : decode b_M_drain 92 = .ok (.getfield 50, 3) := by decide +kernel
theorem d_M_drain_95 : decode b_M_drain 95 = .ok (.iload_n 2, 1) := by decide +kernel
theorem d_M_drain_96 : decode b_M_drain 96 = .ok (.aload_n 0, 1) := by decide +kernel
theorem d_M_drain_97 : decode b_M_drain 97 = .ok (.getfield 50, 3) := by decide +kernel
theorem d_M_drain_100 : decode b_M_drain 100 = .ok (.iload_n 2, 1) := by decide +kernel
theorem d_M_drain_101 : decode b_M_drain 101 = .ok (.iconst 1, 1) := by decide +kernel
theorem d_M_drain_102 : decode b_M_drain 102 = .ok (.iadd, 1) := by decide +kernel
theorem d_M_drain_103 : decode b_M_drain 103 = .ok (.iaload, 1) := by decide +kernel
theorem d_M_drain_104 : decode b_M_drain 104 = .ok (.iastore, 1) := by decide +kernel
theorem d_M_drain_105 : decode b_M_drain 105 = .ok (.aload_n 0, 1) := by decide +kernel
theorem d_M_drain_106 : decode b_M_drain 106 = .ok (.getfield 53, 3) := by decide +kernel
theorem d_M_drain_109 : decode b_M_drain 109 = .ok (.iload_n 2, 1) := by decide +kernel
theorem d_M_drain_110 : decode b_M_drain 110 = .ok (.aload_n 0, 1) := by decide +kernel
theorem d_M_drain_111 : decode b_M_drain 111 = .ok (.getfield 53, 3) := by decide +kernel
theorem d_M_drain_114 : decode b_M_drain 114 = .ok (.iload_n 2, 1) := by decide +kernel
theorem d_M_drain_115 : decode b_M_drain 115 = .ok (.iconst 1, 1) := by decide +kernel
theorem d_M_drain_116 : decode b_M_drain 116 = .ok (.iadd, 1) := by decide +kernel
theorem d_M_drain_117 : decode b_M_drain 117 = .ok (.iaload, 1) := by decide +kernel
theorem d_M_drain_118 : decode b_M_drain 118 = .ok (.iastore, 1) := by decide +kernel
theorem d_M_drain_119 : decode b_M_drain 119 = .ok (.iinc 2 1, 3) := by decide +kernel
theorem d_M_drain_122 : decode b_M_drain 122 = .ok (.goto (-67), 3) := by decide +kernel
theorem d_M_drain_125 : decode b_M_drain 125 = .ok (.iload_n 1, 1) := by decide +kernel
theorem d_M_drain_126 : decode b_M_drain 126 = .ok (.ireturn, 1) := by decide +kernel
theorem d_M_other_0 : decode b_M_other 0 = .ok (.aload_n 0, 1) := by decide +kernel
theorem d_M_other_1 : decode b_M_other 1 = .ok (.iload_n 1, 1) := by decide +kernel
theorem d_M_other_2 : decode b_M_other 2 = .ok (.ifCond .lt 21, 3) := by decide +kernel
theorem d_M_other_5 : decode b_M_other 5 = .ok (.iload_n 1, 1) := by decide +kernel
theorem d_M_other_6 : decode b_M_other 6 = .ok (.sipush 4096, 3) := by decide +kernel
theorem d_M_other_9 : decode b_M_other 9 = .ok (.if_icmp .ge 14, 3) := by decide +kernel
theorem d_M_other_12 : decode b_M_other 12 = .ok (.iload_n 2, 1) := by decide +kernel
theorem d_M_other_13 : decode b_M_other 13 = .ok (.ifCond .lt 10, 3) := by decide +kernel
theorem d_M_other_16 : decode b_M_other 16 = .ok (.iload_n 2, 1) := by decide +kernel
theorem d_M_other_17 : decode b_M_other 17 = .ok (.sipush 255, 3) := by decide +kernel
theorem d_M_other_20 : decode b_M_other 20 = .ok (.if_icmp .le 7, 3) := by decide +kernel
theorem d_M_other_23 : decode b_M_other 23 = .ok (.iconst 1, 1) := by decide +kernel
theorem d_M_other_24 : decode b_M_other 24 = .ok (.goto 4, 3) := by decide +kernel
theorem d_M_other_27 : decode b_M_other 27 = .ok (.iconst 0, 1) := by decide +kernel
theorem d_M_other_28 : decode b_M_other 28 = .ok (.putfield 56, 3) := by decide +kernel
theorem d_M_other_31 : decode b_M_other 31 = .ok (.aload_n 0, 1) := by decide +kernel
theorem d_M_other_32 : decode b_M_other 32 = .ok (.getfield 56, 3) := by decide +kernel
theorem d_M_other_35 : decode b_M_other 35 = .ok (.ifCond .le 5, 3) := by decide +kernel
theorem d_M_other_38 : decode b_M_other 38 = .ok (.iconst 0, 1) := by decide +kernel
theorem d_M_other_39 : decode b_M_other 39 = .ok (.ireturn, 1) := by decide +kernel
theorem d_M_other_40 : decode b_M_other 40 = .ok (.aload_n 0, 1) := by decide +kernel
theorem d_M_other_41 : decode b_M_other 41 = .ok (.getfield 7, 3) := by decide +kernel
theorem d_M_other_44 : decode b_M_other 44 = .ok (.iload_n 1, 1) := by decide +kernel
theorem d_M_other_45 : decode b_M_other 45 = .ok (.iload_n 2, 1) := by decide +kernel
theorem d_M_other_46 : decode b_M_other 46 = .ok (.iastore, 1) := by decide +kernel
theorem d_M_other_47 : decode b_M_other 47 = .ok (.aload_n 0, 1) := by decide +kernel
theorem d_M_other_48 : decode b_M_other 48 = .ok (.getfield 63, 3) := by decide +kernel
theorem d_M_other_51 : decode b_M_other 51 = .ok (.istore_n 3, 1) := by decide +kernel
theorem d_M_other_52 : decode b_M_other 52 = .ok (.iload_n 3, 1) := by decide +kernel
theorem d_M_other_53 : decode b_M_other 53 = .ok (.aload_n 0, 1) := by decide +kernel
theorem d_M_other_54 : decode b_M_other 54 = .ok (.getfield 60, 3) := by decide +kernel
theorem d_M_other_57 : decode b_M_other 57 = .ok (.if_icmp .ge 24, 3) := by decide +kernel
theorem d_M_other_60 : decode b_M_other 60 = .ok (.aload_n 0, 1) := by decide +kernel
theorem d_M_other_61 : decode b_M_other 61 = .ok (.iload_n 3, 1) := by decide +kernel
theorem d_M_other_62 : decode b_M_other 62 = .ok (.iload_n 1, 1) := by decide +kernel
theorem d_M_other_63 : decode b_M_other 63 = .ok (.invokevirtual 144, 3) := by decide +kernel
theorem d_M_other_66 : decode b_M_other 66 = .ok (.ifCond .eq 9, 3) := by decide +kernel
theorem d_M_other_69 : decode b_M_other 69 = .ok (.aload_n 0, 1) := by decide +kernel
theorem d_M_other_70 : decode b_M_other 70 = .ok (.iload_n 3, 1) := by decide +kernel
theorem d_M_other_71 : decode b_M_other 71 = .ok (.invokevirtual 100, 3) := by decide +kernel
theorem d_M_other_74 : decode b_M_other 74 = .ok (.ireturn, 1) := by decide +kernel
theorem d_M_other_75 : decode b_M_other 75 = .ok (.iinc 3 1, 3) := by decide +kernel
theorem d_M_other_78 : decode b_M_other 78 = .ok (.goto (-26), 3) := by decide +kernel
theorem d_M_other_81 : decode b_M_other 81 = .ok (.iconst 0, 1) := by decide +kernel
theorem d_M_other_82 : decode b_M_other 82 = .ok (.ireturn, 1) := by decide +kernel
theorem d_M_tookFromMemory_0 : decode b_M_tookFromMemory 0 = .ok (.iload_n 1, 1) := by decide +kernel
theorem d_M_tookFromMemory_1 : decode b_M_tookFromMemory 1 = .ok (.bipush 127, 2) := by decide +kernel
theorem d_M_tookFromMemory_3 : decode b_M_tookFromMemory 3 = .ok (.iand, 1) := by decide +kernel
theorem d_M_tookFromMemory_4 : decode b_M_tookFromMemory 4 = .ok (.istore_n 3, 1) := by decide +kernel
theorem d_M_tookFromMemory_5 : decode b_M_tookFromMemory 5 = .ok (.iload_n 2, 1) := by decide +kernel
theorem d_M_tookFromMemory_6 : decode b_M_tookFromMemory 6 = .ok (.aload_n 0, 1) := by decide +kernel
theorem d_M_tookFromMemory_7 : decode b_M_tookFromMemory 7 = .ok (.getfield 26, 3) := by decide +kernel
theorem d_M_tookFromMemory_10 : decode b_M_tookFromMemory 10 = .ok (.iload_n 3, 1) := by decide +kernel
theorem d_M_tookFromMemory_11 : decode b_M_tookFromMemory 11 = .ok (.iaload, 1) := by decide +kernel
theorem d_M_tookFromMemory_12 : decode b_M_tookFromMemory 12 = .ok (.isub, 1) := by decide +kernel
theorem d_M_tookFromMemory_13 : decode b_M_tookFromMemory 13 = .ok (.istore 4, 2) := by decide +kernel
end
section
theorem d_M_tookFromMemory_15 : decode b_M_tookFromMemory 15 = .ok (.aload_n 0, 1) := by decide +kernel
theorem d_M_tookFromMemory_16 : decode b_M_tookFromMemory 16 = .ok (.iload_n 1, 1) := by decide +kernel
theorem d_M_tookFromMemory_17 : decode b_M_tookFromMemory 17 = .ok (.invokevirtual 94, 3) := by decide +kernel
theorem d_M_tookFromMemory_20 : decode b_M_tookFromMemory 20 = .ok (.ifCond .eq 38, 3) := by decide +kernel
theorem d_M_tookFromMemory_23 : decode b_M_tookFromMemory 23 = .ok (.iload 4, 2) := by decide +kernel
theorem d_M_tookFromMemory_25 : decode b_M_tookFromMemory 25 = .ok (.ifCond .lt 33, 3) := by decide +kernel
theorem d_M_tookFromMemory_28 : decode b_M_tookFromMemory 28 = .ok (.iload 4, 2) := by decide +kernel
theorem d_M_tookFromMemory_30 : decode b_M_tookFromMemory 30 = .ok (.aload_n 0, 1) := by decide +kernel
theorem d_M_tookFromMemory_31 : decode b_M_tookFromMemory 31 = .ok (.getfield 20, 3) := by decide +kernel
theorem d_M_tookFromMemory_34 : decode b_M_tookFromMemory 34 = .ok (.iload_n 3, 1) := by decide +kernel
theorem d_M_tookFromMemory_35 : decode b_M_tookFromMemory 35 = .ok (.iaload, 1) := by decide +kernel
theorem d_M_tookFromMemory_36 : decode b_M_tookFromMemory 36 = .ok (.if_icmp .ge 22, 3) := by decide +kernel
theorem d_M_tookFromMemory_39 : decode b_M_tookFromMemory 39 = .ok (.aload_n 0, 1) := by decide +kernel
theorem d_M_tookFromMemory_40 : decode b_M_tookFromMemory 40 = .ok (.getfield 41, 3) := by decide +kernel
theorem d_M_tookFromMemory_43 : decode b_M_tookFromMemory 43 = .ok (.iconst 4, 1) := by decide +kernel
theorem d_M_tookFromMemory_44 : decode b_M_tookFromMemory 44 = .ok (.iload_n 3, 1) := by decide +kernel
theorem d_M_tookFromMemory_45 : decode b_M_tookFromMemory 45 = .ok (.imul, 1) := by decide +kernel
theorem d_M_tookFromMemory_46 : decode b_M_tookFromMemory 46 = .ok (.iload 4, 2) := by decide +kernel
theorem d_M_tookFromMemory_48 : decode b_M_tookFromMemory 48 = .ok (.iadd, 1) := by decide +kernel
theorem d_M_tookFromMemory_49 : decode b_M_tookFromMemory 49 = .ok (.iaload, 1) := by decide +kernel
theorem d_M_tookFromMemory_50 : decode b_M_tookFromMemory 50 = .ok (.iconst (-1), 1) := by decide +kernel
theorem d_M_tookFromMemory_51 : decode b_M_tookFromMemory 51 = .ok (.if_icmp .ne 7, 3) := by decide +kernel
theorem d_M_tookFromMemory_54 : decode b_M_tookFromMemory 54 = .ok (.iconst 1, 1) := by decide +kernel
theorem d_M_tookFromMemory_55 : decode b_M_tookFromMemory 55 = .ok (.goto 4, 3) := by decide +kernel
theorem d_M_tookFromMemory_58 : decode b_M_tookFromMemory 58 = .ok (.iconst 0, 1) := by decide +kernel
theorem d_M_tookFromMemory_59 : decode b_M_tookFromMemory 59 = .ok (.ireturn, 1) := by decide +kernel
theorem d_M_memory_0 : decode b_M_memory 0 = .ok (.aload_n 0, 1) := by decide +kernel
theorem d_M_memory_1 : decode b_M_memory 1 = .ok (.iload_n 1, 1) := by decide +kernel
theorem d_M_memory_2 : decode b_M_memory 2 = .ok (.ifCond .lt 10, 3) := by decide +kernel
theorem d_M_memory_5 : decode b_M_memory 5 = .ok (.iload_n 1, 1) := by decide +kernel
theorem d_M_memory_6 : decode b_M_memory 6 = .ok (.sipush 4096, 3) := by decide +kernel
theorem d_M_memory_9 : decode b_M_memory 9 = .ok (.if_icmp .lt 7, 3) := by decide +kernel
theorem d_M_memory_12 : decode b_M_memory 12 = .ok (.iconst 1, 1) := by decide +kernel
theorem d_M_memory_13 : decode b_M_memory 13 = .ok (.goto 4, 3) := by decide +kernel
theorem d_M_memory_16 : decode b_M_memory 16 = .ok (.iconst 0, 1) := by decide +kernel
theorem d_M_memory_17 : decode b_M_memory 17 = .ok (.putfield 56, 3) := by decide +kernel
theorem d_M_memory_20 : decode b_M_memory 20 = .ok (.aload_n 0, 1) := by decide +kernel
theorem d_M_memory_21 : decode b_M_memory 21 = .ok (.getfield 56, 3) := by decide +kernel
theorem d_M_memory_24 : decode b_M_memory 24 = .ok (.ifCond .le 7, 3) := by decide +kernel
theorem d_M_memory_27 : decode b_M_memory 27 = .ok (.iconst 0, 1) := by decide +kernel
theorem d_M_memory_28 : decode b_M_memory 28 = .ok (.goto 9, 3) := by decide +kernel
theorem d_M_memory_31 : decode b_M_memory 31 = .ok (.aload_n 0, 1) := by decide +kernel
theorem d_M_memory_32 : decode b_M_memory 32 = .ok (.getfield 7, 3) := by decide +kernel
theorem d_M_memory_35 : decode b_M_memory 35 = .ok (.iload_n 1, 1) := by decide +kernel
theorem d_M_memory_36 : decode b_M_memory 36 = .ok (.iaload, 1) := by decide +kernel
theorem d_M_memory_37 : decode b_M_memory 37 = .ok (.ireturn, 1) := by decide +kernel
theorem d_M_forget_0 : decode b_M_forget 0 = .ok (.aload_n 0, 1) := by decide +kernel
theorem d_M_forget_1 : decode b_M_forget 1 = .ok (.aload_n 0, 1) := by decide +kernel
theorem d_M_forget_2 : decode b_M_forget 2 = .ok (.iload_n 1, 1) := by decide +kernel
theorem d_M_forget_3 : decode b_M_forget 3 = .ok (.invokevirtual 88, 3) := by decide +kernel
theorem d_M_forget_6 : decode b_M_forget 6 = .ok (.ifCond .ne 7, 3) := by decide +kernel
theorem d_M_forget_9 : decode b_M_forget 9 = .ok (.iconst 1, 1) := by decide +kernel
theorem d_M_forget_10 : decode b_M_forget 10 = .ok (.goto 16, 3) := by decide +kernel
theorem d_M_forget_13 : decode b_M_forget 13 = .ok (.aload_n 0, 1) := by decide +kernel
theorem d_M_forget_14 : decode b_M_forget 14 = .ok (.iload_n 1, 1) := by decide +kernel
theorem d_M_forget_15 : decode b_M_forget 15 = .ok (.invokevirtual 84, 3) := by decide +kernel
theorem d_M_forget_18 : decode b_M_forget 18 = .ok (.ifCond .ne 7, 3) := by decide +kernel
theorem d_M_forget_21 : decode b_M_forget 21 = .ok (.iconst 2, 1) := by decide +kernel
theorem d_M_forget_22 : decode b_M_forget 22 = .ok (.goto 4, 3) := by decide +kernel
theorem d_M_forget_25 : decode b_M_forget 25 = .ok (.iconst 0, 1) := by decide +kernel
theorem d_M_forget_26 : decode b_M_forget 26 = .ok (.putfield 56, 3) := by decide +kernel
theorem d_M_forget_29 : decode b_M_forget 29 = .ok (.aload_n 0, 1) := by decide +kernel
theorem d_M_forget_30 : decode b_M_forget 30 = .ok (.getfield 56, 3) := by decide +kernel
theorem d_M_forget_33 : decode b_M_forget 33 = .ok (.ifCond .le 5, 3) := by decide +kernel
theorem d_M_forget_36 : decode b_M_forget 36 = .ok (.iconst 0, 1) := by decide +kernel
theorem d_M_forget_37 : decode b_M_forget 37 = .ok (.ireturn, 1) := by decide +kernel
theorem d_M_forget_38 : decode b_M_forget 38 = .ok (.aload_n 0, 1) := by decide +kernel
theorem d_M_forget_39 : decode b_M_forget 39 = .ok (.getfield 60, 3) := by decide +kernel
theorem d_M_forget_42 : decode b_M_forget 42 = .ok (.iload_n 1, 1) := by decide +kernel
theorem d_M_forget_43 : decode b_M_forget 43 = .ok (.isub, 1) := by decide +kernel
theorem d_M_forget_44 : decode b_M_forget 44 = .ok (.istore_n 2, 1) := by decide +kernel
theorem d_M_forget_45 : decode b_M_forget 45 = .ok (.aload_n 0, 1) := by decide +kernel
theorem d_M_forget_46 : decode b_M_forget 46 = .ok (.iload_n 1, 1) := by decide +kernel
theorem d_M_forget_47 : decode b_M_forget 47 = .ok (.putfield 60, 3) := by decide +kernel
theorem d_M_forget_50 : decode b_M_forget 50 = .ok (.iload_n 2, 1) := by decide +kernel
theorem d_M_forget_51 : decode b_M_forget 51 = .ok (.ireturn, 1) := by decide +kernel
theorem d_M_marked_0 : decode b_M_marked 0 = .ok (.aload_n 0, 1) := by decide +kernel
theorem d_M_marked_1 : decode b_M_marked 1 = .ok (.iconst 0, 1) := by decide +kernel
theorem d_M_marked_2 : decode b_M_marked 2 = .ok (.putfield 56, 3) := by decide +kernel
theorem d_M_marked_5 : decode b_M_marked 5 = .ok (.aload_n 0, 1) := by decide +kernel
theorem d_M_marked_6 : decode b_M_marked 6 = .ok (.getfield 13, 3) := by decide +kernel
theorem d_M_marked_9 : decode b_M_marked 9 = .ok (.iload_n 1, 1) := by decide +kernel
theorem d_M_marked_10 : decode b_M_marked 10 = .ok (.bipush 63, 2) := by decide +kernel
theorem d_M_marked_12 : decode b_M_marked 12 = .ok (.iand, 1) := by decide +kernel
theorem d_M_marked_13 : decode b_M_marked 13 = .ok (.baload, 1) := by decide +kernel
theorem d_M_marked_14 : decode b_M_marked 14 = .ok (.ireturn, 1) := by decide +kernel
theorem d_M_count_0 : decode b_M_count 0 = .ok (.aload_n 0, 1) := by decide +kernel
theorem d_M_count_1 : decode b_M_count 1 = .ok (.iconst 0, 1) := by decide +kernel
theorem d_M_count_2 : decode b_M_count 2 = .ok (.putfield 56, 3) := by decide +kernel
theorem d_M_count_5 : decode b_M_count 5 = .ok (.iconst 0, 1) := by decide +kernel
theorem d_M_count_6 : decode b_M_count 6 = .ok (.istore_n 2, 1) := by decide +kernel
theorem d_M_count_7 : decode b_M_count 7 = .ok (.iload_n 1, 1) := by decide +kernel
theorem d_M_count_8 : decode b_M_count 8 = .ok (.tableswitch 186 0 9 #[56, 61, 71, 76, 113, 118, 123, 128, 133, 166], 56) := by decide +kernel
theorem d_M_count_64 : decode b_M_count 64 = .ok (.aload_n 0, 1) := by decide +kernel
theorem d_M_count_65 : decode b_M_count 65 = .ok (.getfield 60, 3) := by decide +kernel
theorem d_M_count_68 : decode b_M_count 68 = .ok (.ireturn, 1) := by decide +kernel
theorem d_M_count_69 : decode b_M_count 69 = .ok (.aload_n 0, 1) := by decide +kernel
theorem d_M_count_70 : decode b_M_count 70 = .ok (.getfield 60, 3) := by decide +kernel
theorem d_M_count_73 : decode b_M_count 73 = .ok (.aload_n 0, 1) := by decide +kernel
theorem d_M_count_74 : decode b_M_count 74 = .ok (.getfield 63, 3) := by decide +kernel
theorem d_M_count_77 : decode b_M_count 77 = .ok (.isub, 1) := by decide +kernel
theorem d_M_count_78 : decode b_M_count 78 = .ok (.ireturn, 1) := by decide +kernel
theorem d_M_count_79 : decode b_M_count 79 = .ok (.aload_n 0, 1) := by decide +kernel
theorem d_M_count_80 : decode b_M_count 80 = .ok (.getfield 81, 3) := by decide +kernel
theorem d_M_count_83 : decode b_M_count 83 = .ok (.ireturn, 1) := by decide +kernel
theorem d_M_count_84 : decode b_M_count 84 = .ok (.aload_n 0, 1) := by decide +kernel
theorem d_M_count_85 : decode b_M_count 85 = .ok (.getfield 63, 3) := by decide +kernel
theorem d_M_count_88 : decode b_M_count 88 = .ok (.istore_n 3, 1) := by decide +kernel
theorem d_M_count_89 : decode b_M_count 89 = .ok (.iload_n 3, 1) := by decide +kernel
theorem d_M_count_90 : decode b_M_count 90 = .ok (.aload_n 0, 1) := by decide +kernel
theorem d_M_count_91 : decode b_M_count 91 = .ok (.getfield 60, 3) := by decide +kernel
theorem d_M_count_94 : decode b_M_count 94 = .ok (.if_icmp .ge 25, 3) := by decide +kernel
theorem d_M_count_97 : decode b_M_count 97 = .ok (.iload_n 2, 1) := by decide +kernel
theorem d_M_count_98 : decode b_M_count 98 = .ok (.aload_n 0, 1) := by decide +kernel
theorem d_M_count_99 : decode b_M_count 99 = .ok (.iload_n 3, 1) := by decide +kernel
theorem d_M_count_100 : decode b_M_count 100 = .ok (.invokevirtual 94, 3) := by decide +kernel
theorem d_M_count_103 : decode b_M_count 103 = .ok (.ifCond .eq 7, 3) := by decide +kernel
theorem d_M_count_106 : decode b_M_count 106 = .ok (.iconst 1, 1) := by decide +kernel
theorem d_M_count_107 : decode b_M_count 107 = .ok (.goto 4, 3) := by decide +kernel
theorem d_M_count_110 : decode b_M_count 110 = .ok (.iconst 0, 1) := by decide +kernel
theorem d_M_count_111 : decode b_M_count 111 = .ok (.iadd, 1) := by decide +kernel
theorem d_M_count_112 : decode b_M_count 112 = .ok (.istore_n 2, 1) := by decide +kernel
theorem d_M_count_113 : decode b_M_count 113 = .ok (.iinc 3 1, 3) := by decide +kernel
theorem d_M_count_116 : decode b_M_count 116 = .ok (.goto (-27), 3) := by decide +kernel
theorem d_M_count_119 : decode b_M_count 119 = .ok (.iload_n 2, 1) := by decide +kernel
theorem d_M_count_120 : decode b_M_count 120 = .ok (.ireturn, 1) := by decide +kernel
theorem d_M_count_121 : decode b_M_count 121 = .ok (.aload_n 0, 1) := by decide +kernel
theorem d_M_count_122 : decode b_M_count 122 = .ok (.getfield 107, 3) := by decide +kernel
theorem d_M_count_125 : decode b_M_count 125 = .ok (.ireturn, 1) := by decide +kernel
theorem d_M_count_126 : decode b_M_count 126 = .ok (.aload_n 0, 1) := by decide +kernel
theorem d_M_count_127 : decode b_M_count 127 = .ok (.getfield 104, 3) := by decide +kernel
theorem d_M_count_130 : decode b_M_count 130 = .ok (.ireturn, 1) := by decide +kernel
theorem d_M_count_131 : decode b_M_count 131 = .ok (.aload_n 0, 1) := by decide +kernel
theorem d_M_count_132 : decode b_M_count 132 = .ok (.getfield 126, 3) := by decide +kernel
theorem d_M_count_135 : decode b_M_count 135 = .ok (.ireturn, 1) := by decide +kernel
theorem d_M_count_136 : decode b_M_count 136 = .ok (.aload_n 0, 1) := by decide +kernel
theorem d_M_count_137 : decode b_M_count 137 = .ok (.getfield 129, 3) := by decide +kernel
theorem d_M_count_140 : decode b_M_count 140 = .ok (.ireturn, 1) := by decide +kernel
theorem d_M_count_141 : decode b_M_count 141 = .ok (.iconst 0, 1) := by decide +kernel
theorem d_M_count_142 : decode b_M_count 142 = .ok (.istore_n 3, 1) := by decide +kernel
theorem d_M_count_143 : decode b_M_count 143 = .ok (.iload_n 3, 1) := by decide +kernel
theorem d_M_count_144 : decode b_M_count 144 = .ok (.bipush 64, 2) := by decide +kernel
theorem d_M_count_146 : decode b_M_count 146 = .ok (.if_icmp .ge 26, 3) := by decide +kernel
theorem d_M_count_149 : decode b_M_count 149 = .ok (.iload_n 2, 1) := by decide +kernel
theorem d_M_count_150 : decode b_M_count 150 = .ok (.aload_n 0, 1) := by decide +kernel
theorem d_M_count_151 : decode b_M_count 151 = .ok (.getfield 13, 3) := by decide +kernel
theorem d_M_count_154 : decode b_M_count 154 = .ok (.iload_n 3, 1) := by decide +kernel
theorem d_M_count_155 : decode b_M_count 155 = .ok (.baload, 1) := by decide +kernel
theorem d_M_count_156 : decode b_M_count 156 = .ok (.ifCond .eq 7, 3) := by decide +kernel
theorem d_M_count_159 : decode b_M_count 159 = .ok (.iconst 1, 1) := by decide +kernel
theorem d_M_count_160 : decode b_M_count 160 = .ok (.goto 4, 3) := by decide +kernel
theorem d_M_count_163 : decode b_M_count 163 = .ok (.iconst 0, 1) := by decide +kernel
theorem d_M_count_164 : decode b_M_count 164 = .ok (.iadd, 1) := by decide +kernel
theorem d_M_count_165 : decode b_M_count 165 = .ok (.istore_n 2, 1) := by decide +kernel
theorem d_M_count_166 : decode b_M_count 166 = .ok (.iinc 3 1, 3) := by decide +kernel
theorem d_M_count_169 : decode b_M_count 169 = .ok (.goto (-26), 3) := by decide +kernel
theorem d_M_count_172 : decode b_M_count 172 = .ok (.iload_n 2, 1) := by decide +kernel
theorem d_M_count_173 : decode b_M_count 173 = .ok (.ireturn, 1) := by decide +kernel
theorem d_M_count_174 : decode b_M_count 174 = .ok (.aload_n 0, 1) := by decide +kernel
theorem d_M_count_175 : decode b_M_count 175 = .ok (.getfield 63, 3) := by decide +kernel
theorem d_M_count_178 : decode b_M_count 178 = .ok (.aload_n 0, 1) := by decide +kernel
theorem d_M_count_179 : decode b_M_count 179 = .ok (.getfield 60, 3) := by decide +kernel
theorem d_M_count_182 : decode b_M_count 182 = .ok (.if_icmp .ne 7, 3) := by decide +kernel
theorem d_M_count_185 : decode b_M_count 185 = .ok (.iconst (-1), 1) := by decide +kernel
theorem d_M_count_186 : decode b_M_count 186 = .ok (.goto 7, 3) := by decide +kernel
theorem d_M_count_189 : decode b_M_count 189 = .ok (.aload_n 0, 1) := by decide +kernel
theorem d_M_count_190 : decode b_M_count 190 = .ok (.getfield 63, 3) := by decide +kernel
theorem d_M_count_193 : decode b_M_count 193 = .ok (.ireturn, 1) := by decide +kernel
theorem d_M_count_194 : decode b_M_count 194 = .ok (.iconst (-1), 1) := by decide +kernel
theorem d_M_count_195 : decode b_M_count 195 = .ok (.ireturn, 1) := by decide +kernel
end
section
section KC
variable {l : Launch} {dC : Nat → ClassId} {dI : Nat → Nat → Nat} {cI cZ cB cJ : ClassId} {ad : Nat → Nat} {σ : S2} {β : B2} {mk : Int64} {ρ : va_W} {am : Nat → Nat} {μ : S2} {ν : B2}
set_option maxHeartbeats 4000000 in
set_option maxRecDepth 100000 in
theorem r_C_isKindWithBytes {kind bytes : Int32}  : kR l dC dI cI cZ cB cJ y_C_isKindWithBytes b_C_isKindWithBytes 2 (some .boolean) 0 0 [.int kind, .int bytes] (wC ad cI cZ cB σ β mk ρ) (some (.int (bI (kwb kind bytes)))) := by
  refine jR.of (lv := [(0, .int kind), (1, .int bytes)]) (own := R_C) jE_loc (by decide) rfl rfl (Nat.le_of_ble_eq_true rfl) rfl ?_
  intro p e s m args below meth c A hC hr hlk
  refine j_iload_n hC 0 1 rfl d_C_isKindWithBytes_0 rfl rfl ?_
  refine j_iconst (v := 2) hC 2 rfl d_C_isKindWithBytes_1 (by decide) ?_
  refine j_icmp_ne hC 15 5 rfl d_C_isKindWithBytes_2 (by decide) (fun c_2 => ?_) (fun c_2 => ?_)
  · refine j_iload_n hC 0 16 rfl d_C_isKindWithBytes_15 rfl rfl ?_
    refine j_if_lt hC 43 19 rfl d_C_isKindWithBytes_16 (by decide) (fun c_16 => ?_) (fun c_16 => ?_)
    · refine j_iconst (v := 0) hC 44 rfl d_C_isKindWithBytes_43 (by decide) ?_
      exact j_zretR hC hr hlk d_C_isKindWithBytes_44 (by simp [bI, kwb, c_2, c_16])
    · refine j_iload_n hC 0 20 rfl d_C_isKindWithBytes_19 rfl rfl ?_
      refine j_iconst (v := 3) hC 21 rfl d_C_isKindWithBytes_20 (by decide) ?_
      refine j_icmp_gt hC 43 24 rfl d_C_isKindWithBytes_21 (by decide) (fun c_21 => ?_) (fun c_21 => ?_)
      · refine j_iconst (v := 0) hC 44 rfl d_C_isKindWithBytes_43 (by decide) ?_
        exact j_zretR hC hr hlk d_C_isKindWithBytes_44 (by simp [bI, kwb, c_2, c_16, c_21])
      · refine j_iload_n hC 1 25 rfl d_C_isKindWithBytes_24 rfl rfl ?_
        refine j_iconst (v := 1) hC 26 rfl d_C_isKindWithBytes_25 (by decide) ?_
        refine j_icmp_eq hC 39 29 rfl d_C_isKindWithBytes_26 (by decide) (fun c_26 => ?_) (fun c_26 => ?_)
        · refine j_iconst (v := 1) hC 40 rfl d_C_isKindWithBytes_39 (by decide) ?_
          refine j_goto hC 44 d_C_isKindWithBytes_40 (by decide) ?_
          exact j_zretR hC hr hlk d_C_isKindWithBytes_44 (by simp [bI, kwb, c_2, c_16, c_21, c_26])
        · refine j_iload_n hC 1 30 rfl d_C_isKindWithBytes_29 rfl rfl ?_
          refine j_iconst (v := 2) hC 31 rfl d_C_isKindWithBytes_30 (by decide) ?_
          refine j_icmp_eq hC 39 34 rfl d_C_isKindWithBytes_31 (by decide) (fun c_31 => ?_) (fun c_31 => ?_)
          · refine j_iconst (v := 1) hC 40 rfl d_C_isKindWithBytes_39 (by decide) ?_
            refine j_goto hC 44 d_C_isKindWithBytes_40 (by decide) ?_
            exact j_zretR hC hr hlk d_C_isKindWithBytes_44 (by simp [bI, kwb, c_2, c_16, c_21, c_26, c_31])
          · refine j_iload_n hC 1 35 rfl d_C_isKindWithBytes_34 rfl rfl ?_
            refine j_iconst (v := 4) hC 36 rfl d_C_isKindWithBytes_35 (by decide) ?_
            refine j_icmp_ne hC 43 39 rfl d_C_isKindWithBytes_36 (by decide) (fun c_36 => ?_) (fun c_36 => ?_)
            · refine j_iconst (v := 0) hC 44 rfl d_C_isKindWithBytes_43 (by decide) ?_
              exact j_zretR hC hr hlk d_C_isKindWithBytes_44 (by simp [bI, kwb, c_2, c_16, c_21, c_26, c_31, c_36])
            · refine j_iconst (v := 1) hC 40 rfl d_C_isKindWithBytes_39 (by decide) ?_
              refine j_goto hC 44 d_C_isKindWithBytes_40 (by decide) ?_
              exact j_zretR hC hr hlk d_C_isKindWithBytes_44 (by simp [bI, kwb, c_2, c_16, c_21, c_26, c_31, c_36])
  · refine j_iload_n hC 1 6 rfl d_C_isKindWithBytes_5 rfl rfl ?_
    refine j_if_ne hC 13 9 rfl d_C_isKindWithBytes_6 (by decide) (fun c_6 => ?_) (fun c_6 => ?_)
    · refine j_iconst (v := 0) hC 14 rfl d_C_isKindWithBytes_13 (by decide) ?_
      exact j_zretR hC hr hlk d_C_isKindWithBytes_14 (by simp [bI, kwb, c_2, c_6])
    · refine j_iconst (v := 1) hC 10 rfl d_C_isKindWithBytes_9 (by decide) ?_
      refine j_goto hC 14 d_C_isKindWithBytes_10 (by decide) ?_
      exact j_zretR hC hr hlk d_C_isKindWithBytes_14 (by simp [bI, kwb, c_2, c_6])
theorem c_C_isKindWithBytes {kind bytes : Int32}  : kM l dC dI cI cZ cB cJ y_C_isKindWithBytes b_C_isKindWithBytes 2 (some .boolean) 0 0 [.int kind, .int bytes] (wC ad cI cZ cB σ β mk ρ) (some (.int (bI (kwb kind bytes)))) (wC ad cI cZ cB σ β mk ρ) := (r_C_isKindWithBytes ).toM
set_option maxHeartbeats 4000000 in
set_option maxRecDepth 100000 in
theorem r_C_takesNumber {kind : Int32}  : kR l dC dI cI cZ cB cJ y_C_takesNumber b_C_takesNumber 1 (some .boolean) 0 0 [.int kind] (wC ad cI cZ cB σ β mk ρ) (some (.int (bI (decide (kind = 1) || decide (kind = 3))))) := by
  refine jR.of (lv := [(0, .int kind)]) (own := R_C) jE_loc (by decide) rfl rfl (Nat.le_of_ble_eq_true rfl) rfl ?_
  intro p e s m args below meth c A hC hr hlk
  refine j_iload_n hC 0 1 rfl d_C_takesNumber_0 rfl rfl ?_
  refine j_iconst (v := 1) hC 2 rfl d_C_takesNumber_1 (by decide) ?_
  refine j_icmp_eq hC 10 5 rfl d_C_takesNumber_2 (by decide) (fun c_2 => ?_) (fun c_2 => ?_)
  · refine j_iconst (v := 1) hC 11 rfl d_C_takesNumber_10 (by decide) ?_
    refine j_goto hC 15 d_C_takesNumber_11 (by decide) ?_
    exact j_zretR hC hr hlk d_C_takesNumber_15 (by simp [bI, c_2])
  · refine j_iload_n hC 0 6 rfl d_C_takesNumber_5 rfl rfl ?_
    refine j_iconst (v := 3) hC 7 rfl d_C_takesNumber_6 (by decide) ?_
    refine j_icmp_ne hC 14 10 rfl d_C_takesNumber_7 (by decide) (fun c_7 => ?_) (fun c_7 => ?_)
    · refine j_iconst (v := 0) hC 15 rfl d_C_takesNumber_14 (by decide) ?_
      exact j_zretR hC hr hlk d_C_takesNumber_15 (by simp [bI, c_2, c_7])
    · refine j_iconst (v := 1) hC 11 rfl d_C_takesNumber_10 (by decide) ?_
      refine j_goto hC 15 d_C_takesNumber_11 (by decide) ?_
      exact j_zretR hC hr hlk d_C_takesNumber_15 (by simp [bI, c_2, c_7])
theorem c_C_takesNumber {kind : Int32}  : kM l dC dI cI cZ cB cJ y_C_takesNumber b_C_takesNumber 1 (some .boolean) 0 0 [.int kind] (wC ad cI cZ cB σ β mk ρ) (some (.int (bI (decide (kind = 1) || decide (kind = 3))))) (wC ad cI cZ cB σ β mk ρ) := (r_C_takesNumber ).toM
set_option maxHeartbeats 4000000 in
set_option maxRecDepth 100000 in
theorem r_C_isMemoryByte {at0 : Int32}  : kR l dC dI cI cZ cB cJ y_C_isMemoryByte b_C_isMemoryByte 1 (some .boolean) 0 0 [.int at0] (wC ad cI cZ cB σ β mk ρ) (some (.int (bI (!decide (at0 < 0) && !decide (4096 ≤ at0))))) := by
  refine jR.of (lv := [(0, .int at0)]) (own := R_C) jE_loc (by decide) rfl rfl (Nat.le_of_ble_eq_true rfl) rfl ?_
  intro p e s m args below meth c A hC hr hlk
  refine j_iload_n hC 0 1 rfl d_C_isMemoryByte_0 rfl rfl ?_
  refine j_if_lt hC 15 4 rfl d_C_isMemoryByte_1 (by decide) (fun c_1 => ?_) (fun c_1 => ?_)
  · refine j_iconst (v := 0) hC 16 rfl d_C_isMemoryByte_15 (by decide) ?_
    exact j_zretR hC hr hlk d_C_isMemoryByte_16 (by simp [bI, c_1])
  · refine j_iload_n hC 0 5 rfl d_C_isMemoryByte_4 rfl rfl ?_
    refine j_sipush (v := 4096) hC 8 rfl d_C_isMemoryByte_5 (by decide) ?_
    refine j_icmp_ge hC 15 11 rfl d_C_isMemoryByte_8 (by decide) (fun c_8 => ?_) (fun c_8 => ?_)
    · refine j_iconst (v := 0) hC 16 rfl d_C_isMemoryByte_15 (by decide) ?_
      exact j_zretR hC hr hlk d_C_isMemoryByte_16 (by simp [bI, c_1, c_8])
    · refine j_iconst (v := 1) hC 12 rfl d_C_isMemoryByte_11 (by decide) ?_
      refine j_goto hC 16 d_C_isMemoryByte_12 (by decide) ?_
      exact j_zretR hC hr hlk d_C_isMemoryByte_16 (by simp [bI, c_1, c_8])
theorem c_C_isMemoryByte {at0 : Int32}  : kM l dC dI cI cZ cB cJ y_C_isMemoryByte b_C_isMemoryByte 1 (some .boolean) 0 0 [.int at0] (wC ad cI cZ cB σ β mk ρ) (some (.int (bI (!decide (at0 < 0) && !decide (4096 ≤ at0))))) (wC ad cI cZ cB σ β mk ρ) := (r_C_isMemoryByte ).toM
set_option maxHeartbeats 4000000 in
set_option maxRecDepth 100000 in
theorem r_C_isDevice {at0 : Int32}  : kR l dC dI cI cZ cB cJ y_C_isDevice b_C_isDevice 1 (some .boolean) 0 0 [.int at0] (wC ad cI cZ cB σ β mk ρ) (some (.int (bI (!decide (at0 < 3072))))) := by
  refine jR.of (lv := [(0, .int at0)]) (own := R_C) jE_loc (by decide) rfl rfl (Nat.le_of_ble_eq_true rfl) rfl ?_
  intro p e s m args below meth c A hC hr hlk
  refine j_iload_n hC 0 1 rfl d_C_isDevice_0 rfl rfl ?_
  refine j_sipush (v := 3072) hC 4 rfl d_C_isDevice_1 (by decide) ?_
  refine j_icmp_lt hC 11 7 rfl d_C_isDevice_4 (by decide) (fun c_4 => ?_) (fun c_4 => ?_)
  · refine j_iconst (v := 0) hC 12 rfl d_C_isDevice_11 (by decide) ?_
    exact j_zretR hC hr hlk d_C_isDevice_12 (by simp [bI, c_4])
  · refine j_iconst (v := 1) hC 8 rfl d_C_isDevice_7 (by decide) ?_
    refine j_goto hC 12 d_C_isDevice_8 (by decide) ?_
    exact j_zretR hC hr hlk d_C_isDevice_12 (by simp [bI, c_4])
theorem c_C_isDevice {at0 : Int32}  : kM l dC dI cI cZ cB cJ y_C_isDevice b_C_isDevice 1 (some .boolean) 0 0 [.int at0] (wC ad cI cZ cB σ β mk ρ) (some (.int (bI (!decide (at0 < 3072))))) (wC ad cI cZ cB σ β mk ρ) := (r_C_isDevice ).toM
set_option maxHeartbeats 4000000 in
set_option maxRecDepth 100000 in
theorem r_C_canBeAddress {at0 bytes : Int32}  : kR l dC dI cI cZ cB cJ y_C_canBeAddress b_C_canBeAddress 2 (some .boolean) 1 20 [.int at0, .int bytes] (wC ad cI cZ cB σ β mk ρ) (some (.int (bI (cba at0 bytes)))) := by
  refine jR.of (lv := [(0, .int at0), (1, .int bytes)]) (own := R_C) jE_loc (by decide) rfl rfl (Nat.le_of_ble_eq_true rfl) rfl ?_
  intro p e s m args below meth c A hC hr hlk
  refine j_iload_n hC 0 1 rfl d_C_canBeAddress_0 rfl rfl ?_
  refine j_if_lt hC 13 4 rfl d_C_canBeAddress_1 (by decide) (fun c_1 => ?_) (fun c_1 => ?_)
  · refine j_iconst (v := 0) hC 14 rfl d_C_canBeAddress_13 (by decide) ?_
    exact j_zretR hC hr hlk d_C_canBeAddress_14 (by simp [bI, cba, c_1])
  · refine j_iload_n hC 0 5 rfl d_C_canBeAddress_4 rfl rfl ?_
    refine j_sipush (v := 4096) hC 8 rfl d_C_canBeAddress_5 (by decide) ?_
    refine j_iload_n hC 1 9 rfl d_C_canBeAddress_8 rfl rfl ?_
    refine j_isub hC 10 rfl d_C_canBeAddress_9 ?_
    refine j_icmp_le hC 15 13 rfl d_C_canBeAddress_10 (by decide) (fun c_10 => ?_) (fun c_10 => ?_)
    · refine j_iload_n hC 0 16 rfl d_C_canBeAddress_15 rfl rfl ?_
      refine j_callSRi hC jE_loc jT_good (As := [_]) r_C_isDevice yk_C_isDevice lk_C_217 ⟨rfl, rfl⟩ ⟨Nat.le_of_ble_eq_true rfl, Nat.le_of_ble_eq_true rfl⟩ rfl (Nat.le_of_ble_eq_true rfl) ⟨Nat.zero_le _, Nat.zero_le _⟩ d_C_canBeAddress_16 19 rfl rfl ?_
      refine j_if_ne hC 31 22 rfl d_C_canBeAddress_19 (by decide) (fun c_19 => ?_) (fun c_19 => ?_)
      · refine j_iconst (v := 1) hC 32 rfl d_C_canBeAddress_31 (by decide) ?_
        refine j_goto hC 36 d_C_canBeAddress_32 (by decide) ?_
        exact j_zretR hC hr hlk d_C_canBeAddress_36 (by simp [bI, cba, c_1, c_10, bI1 c_19])
      · refine j_iload_n hC 0 23 rfl d_C_canBeAddress_22 rfl rfl ?_
        refine j_iload_n hC 1 24 rfl d_C_canBeAddress_23 rfl rfl ?_
        refine j_iadd hC 25 rfl d_C_canBeAddress_24 ?_
        refine j_sipush (v := 3072) hC 28 rfl d_C_canBeAddress_25 (by decide) ?_
        refine j_icmp_gt hC 35 31 rfl d_C_canBeAddress_28 (by decide) (fun c_28 => ?_) (fun c_28 => ?_)
        · refine j_iconst (v := 0) hC 36 rfl d_C_canBeAddress_35 (by decide) ?_
          exact j_zretR hC hr hlk d_C_canBeAddress_36 (by simp [bI, cba, c_1, c_10, bI0 c_19, c_28])
        · refine j_iconst (v := 1) hC 32 rfl d_C_canBeAddress_31 (by decide) ?_
          refine j_goto hC 36 d_C_canBeAddress_32 (by decide) ?_
          exact j_zretR hC hr hlk d_C_canBeAddress_36 (by simp [bI, cba, c_1, c_10, bI0 c_19, c_28])
    · refine j_iconst (v := 0) hC 14 rfl d_C_canBeAddress_13 (by decide) ?_
      exact j_zretR hC hr hlk d_C_canBeAddress_14 (by simp [bI, cba, c_1, c_10])
theorem c_C_canBeAddress {at0 bytes : Int32}  : kM l dC dI cI cZ cB cJ y_C_canBeAddress b_C_canBeAddress 2 (some .boolean) 1 20 [.int at0, .int bytes] (wC ad cI cZ cB σ β mk ρ) (some (.int (bI (cba at0 bytes)))) (wC ad cI cZ cB σ β mk ρ) := (r_C_canBeAddress ).toM
set_option maxHeartbeats 4000000 in
set_option maxRecDepth 100000 in
theorem c_C_byteOfNumber {n b k : Int32}  : kM l dC dI cI cZ cB cJ y_C_byteOfNumber b_C_byteOfNumber 3 (some .int) 0 0 [.int n, .int b, .int k] (wC ad cI cZ cB σ β mk ρ) (some (.int (bon n b k))) (wC ad cI cZ cB σ β mk ρ) := by
  refine jM.of (lv := [(0, .int n), (1, .int b), (2, .int k)]) (own := R_C) jE_loc (by decide) rfl rfl (Nat.le_of_ble_eq_true rfl) rfl ?_
  intro p e s m args below meth c A hC hr hlk
  refine j_iload_n hC 0 1 rfl d_C_byteOfNumber_0 rfl rfl ?_
  refine j_bipush (v := 8) hC 3 rfl d_C_byteOfNumber_1 (by decide) ?_
  refine j_iload_n hC 1 4 rfl d_C_byteOfNumber_3 rfl rfl ?_
  refine j_iconst (v := 1) hC 5 rfl d_C_byteOfNumber_4 (by decide) ?_
  refine j_isub hC 6 rfl d_C_byteOfNumber_5 ?_
  refine j_iload_n hC 2 7 rfl d_C_byteOfNumber_6 rfl rfl ?_
  refine j_isub hC 8 rfl d_C_byteOfNumber_7 ?_
  refine j_imul hC 9 rfl d_C_byteOfNumber_8 ?_
  refine j_iushr hC 10 rfl d_C_byteOfNumber_9 rfl ?_
  refine j_sipush (v := 255) hC 13 rfl d_C_byteOfNumber_10 (by decide) ?_
  refine j_iand hC 14 rfl d_C_byteOfNumber_13 ?_
  exact j_iret hC hr hlk d_C_byteOfNumber_14 rfl rfl
end KC
end
section
section KC
variable {l : Launch} {dC : Nat → ClassId} {dI : Nat → Nat → Nat} {cI cZ cB cJ : ClassId} {ad : Nat → Nat} {σ : S2} {β : B2} {mk : Int64} {ρ : va_W} {am : Nat → Nat} {μ : S2} {ν : B2}
set_option maxHeartbeats 4000000 in
set_option maxRecDepth 100000 in
theorem r_O_kindOf {op : Int32}  : kR l dC dI cI cZ cB cJ y_O_kindOf b_O_kindOf 2 (some .int) 0 0 [.ref (ad 1), .int op] (wC ad cI cZ cB σ β mk ρ) (some (.int (σ 10 (ix op)))) := by
  refine jR.of (lv := [(0, .ref (ad 1)), (1, .int op)]) (own := R_O) jE_loc (by decide) rfl rfl (Nat.le_of_ble_eq_true rfl) rfl ?_
  intro p e s m args below meth c A hC hr hlk
  refine j_aload_n hC 0 1 rfl d_O_kindOf_0 rfl rfl ?_
  refine g_O_kinds hC 4 rfl d_O_kindOf_1 ?_
  refine j_iload_n hC 1 5 rfl d_O_kindOf_4 rfl rfl ?_
  refine j_bipush (v := 127) hC 7 rfl d_O_kindOf_5 (by decide) ?_
  refine j_iand hC 8 rfl d_O_kindOf_7 ?_
  refine ld_O_kinds hC (ix_in _) 9 rfl d_O_kindOf_8 ?_
  exact j_iretR hC hr hlk d_O_kindOf_9 rfl
theorem c_O_kindOf {op : Int32}  : kM l dC dI cI cZ cB cJ y_O_kindOf b_O_kindOf 2 (some .int) 0 0 [.ref (ad 1), .int op] (wC ad cI cZ cB σ β mk ρ) (some (.int (σ 10 (ix op)))) (wC ad cI cZ cB σ β mk ρ) := (r_O_kindOf ).toM
set_option maxHeartbeats 4000000 in
set_option maxRecDepth 100000 in
theorem r_O_bytesOf {op : Int32}  : kR l dC dI cI cZ cB cJ y_O_bytesOf b_O_bytesOf 2 (some .int) 0 0 [.ref (ad 1), .int op] (wC ad cI cZ cB σ β mk ρ) (some (.int (σ 11 (ix op)))) := by
  refine jR.of (lv := [(0, .ref (ad 1)), (1, .int op)]) (own := R_O) jE_loc (by decide) rfl rfl (Nat.le_of_ble_eq_true rfl) rfl ?_
  intro p e s m args below meth c A hC hr hlk
  refine j_aload_n hC 0 1 rfl d_O_bytesOf_0 rfl rfl ?_
  refine g_O_sizes hC 4 rfl d_O_bytesOf_1 ?_
  refine j_iload_n hC 1 5 rfl d_O_bytesOf_4 rfl rfl ?_
  refine j_bipush (v := 127) hC 7 rfl d_O_bytesOf_5 (by decide) ?_
  refine j_iand hC 8 rfl d_O_bytesOf_7 ?_
  refine ld_O_sizes hC (ix_in _) 9 rfl d_O_bytesOf_8 ?_
  exact j_iretR hC hr hlk d_O_bytesOf_9 rfl
theorem c_O_bytesOf {op : Int32}  : kM l dC dI cI cZ cB cJ y_O_bytesOf b_O_bytesOf 2 (some .int) 0 0 [.ref (ad 1), .int op] (wC ad cI cZ cB σ β mk ρ) (some (.int (σ 11 (ix op)))) (wC ad cI cZ cB σ β mk ρ) := (r_O_bytesOf ).toM
set_option maxHeartbeats 4000000 in
set_option maxRecDepth 100000 in
theorem r_O_programOf {op : Int32}  : kR l dC dI cI cZ cB cJ y_O_programOf b_O_programOf 2 (some .int) 0 0 [.ref (ad 1), .int op] (wC ad cI cZ cB σ β mk ρ) (some (.int (σ 12 (ix op)))) := by
  refine jR.of (lv := [(0, .ref (ad 1)), (1, .int op)]) (own := R_O) jE_loc (by decide) rfl rfl (Nat.le_of_ble_eq_true rfl) rfl ?_
  intro p e s m args below meth c A hC hr hlk
  refine j_aload_n hC 0 1 rfl d_O_programOf_0 rfl rfl ?_
  refine g_O_programs hC 4 rfl d_O_programOf_1 ?_
  refine j_iload_n hC 1 5 rfl d_O_programOf_4 rfl rfl ?_
  refine j_bipush (v := 127) hC 7 rfl d_O_programOf_5 (by decide) ?_
  refine j_iand hC 8 rfl d_O_programOf_7 ?_
  refine ld_O_programs hC (ix_in _) 9 rfl d_O_programOf_8 ?_
  exact j_iretR hC hr hlk d_O_programOf_9 rfl
theorem c_O_programOf {op : Int32}  : kM l dC dI cI cZ cB cJ y_O_programOf b_O_programOf 2 (some .int) 0 0 [.ref (ad 1), .int op] (wC ad cI cZ cB σ β mk ρ) (some (.int (σ 12 (ix op)))) (wC ad cI cZ cB σ β mk ρ) := (r_O_programOf ).toM
set_option maxHeartbeats 4000000 in
set_option maxRecDepth 100000 in
theorem r_O_addressOf {op : Int32}  : kR l dC dI cI cZ cB cJ y_O_addressOf b_O_addressOf 2 (some .int) 0 0 [.ref (ad 1), .int op] (wC ad cI cZ cB σ β mk ρ) (some (.int (σ 13 (ix op)))) := by
  refine jR.of (lv := [(0, .ref (ad 1)), (1, .int op)]) (own := R_O) jE_loc (by decide) rfl rfl (Nat.le_of_ble_eq_true rfl) rfl ?_
  intro p e s m args below meth c A hC hr hlk
  refine j_aload_n hC 0 1 rfl d_O_addressOf_0 rfl rfl ?_
  refine g_O_addresses hC 4 rfl d_O_addressOf_1 ?_
  refine j_iload_n hC 1 5 rfl d_O_addressOf_4 rfl rfl ?_
  refine j_bipush (v := 127) hC 7 rfl d_O_addressOf_5 (by decide) ?_
  refine j_iand hC 8 rfl d_O_addressOf_7 ?_
  refine ld_O_addresses hC (ix_in _) 9 rfl d_O_addressOf_8 ?_
  exact j_iretR hC hr hlk d_O_addressOf_9 rfl
theorem c_O_addressOf {op : Int32}  : kM l dC dI cI cZ cB cJ y_O_addressOf b_O_addressOf 2 (some .int) 0 0 [.ref (ad 1), .int op] (wC ad cI cZ cB σ β mk ρ) (some (.int (σ 13 (ix op)))) (wC ad cI cZ cB σ β mk ρ) := (r_O_addressOf ).toM
set_option maxHeartbeats 4000000 in
set_option maxRecDepth 100000 in
theorem r_O_numberOf {op : Int32}  : kR l dC dI cI cZ cB cJ y_O_numberOf b_O_numberOf 2 (some .int) 0 0 [.ref (ad 1), .int op] (wC ad cI cZ cB σ β mk ρ) (some (.int (σ 15 (ix op)))) := by
  refine jR.of (lv := [(0, .ref (ad 1)), (1, .int op)]) (own := R_O) jE_loc (by decide) rfl rfl (Nat.le_of_ble_eq_true rfl) rfl ?_
  intro p e s m args below meth c A hC hr hlk
  refine j_aload_n hC 0 1 rfl d_O_numberOf_0 rfl rfl ?_
  refine g_O_numbers hC 4 rfl d_O_numberOf_1 ?_
  refine j_iload_n hC 1 5 rfl d_O_numberOf_4 rfl rfl ?_
  refine j_bipush (v := 127) hC 7 rfl d_O_numberOf_5 (by decide) ?_
  refine j_iand hC 8 rfl d_O_numberOf_7 ?_
  refine ld_O_numbers hC (ix_in _) 9 rfl d_O_numberOf_8 ?_
  exact j_iretR hC hr hlk d_O_numberOf_9 rfl
theorem c_O_numberOf {op : Int32}  : kM l dC dI cI cZ cB cJ y_O_numberOf b_O_numberOf 2 (some .int) 0 0 [.ref (ad 1), .int op] (wC ad cI cZ cB σ β mk ρ) (some (.int (σ 15 (ix op)))) (wC ad cI cZ cB σ β mk ρ) := (r_O_numberOf ).toM
set_option maxHeartbeats 4000000 in
set_option maxRecDepth 100000 in
theorem r_O_loadedBy {op : Int32}  : kR l dC dI cI cZ cB cJ y_O_loadedBy b_O_loadedBy 2 (some .int) 0 0 [.ref (ad 1), .int op] (wC ad cI cZ cB σ β mk ρ) (some (.int (σ 18 (ix op)))) := by
  refine jR.of (lv := [(0, .ref (ad 1)), (1, .int op)]) (own := R_O) jE_loc (by decide) rfl rfl (Nat.le_of_ble_eq_true rfl) rfl ?_
  intro p e s m args below meth c A hC hr hlk
  refine j_aload_n hC 0 1 rfl d_O_loadedBy_0 rfl rfl ?_
  refine g_O_loadedNumbers hC 4 rfl d_O_loadedBy_1 ?_
  refine j_iload_n hC 1 5 rfl d_O_loadedBy_4 rfl rfl ?_
  refine j_bipush (v := 127) hC 7 rfl d_O_loadedBy_5 (by decide) ?_
  refine j_iand hC 8 rfl d_O_loadedBy_7 ?_
  refine ld_O_loadedNumbers hC (ix_in _) 9 rfl d_O_loadedBy_8 ?_
  exact j_iretR hC hr hlk d_O_loadedBy_9 rfl
theorem c_O_loadedBy {op : Int32}  : kM l dC dI cI cZ cB cJ y_O_loadedBy b_O_loadedBy 2 (some .int) 0 0 [.ref (ad 1), .int op] (wC ad cI cZ cB σ β mk ρ) (some (.int (σ 18 (ix op)))) (wC ad cI cZ cB σ β mk ρ) := (r_O_loadedBy ).toM
set_option maxHeartbeats 4000000 in
set_option maxRecDepth 100000 in
theorem r_O_hasAddress {op : Int32}  : kR l dC dI cI cZ cB cJ y_O_hasAddress b_O_hasAddress 2 (some .boolean) 0 0 [.ref (ad 1), .int op] (wC ad cI cZ cB σ β mk ρ) (some (.int (bI (β 0 (ix op))))) := by
  refine jR.of (lv := [(0, .ref (ad 1)), (1, .int op)]) (own := R_O) jE_loc (by decide) rfl rfl (Nat.le_of_ble_eq_true rfl) rfl ?_
  intro p e s m args below meth c A hC hr hlk
  refine j_aload_n hC 0 1 rfl d_O_hasAddress_0 rfl rfl ?_
  refine g_O_addressTold hC 4 rfl d_O_hasAddress_1 ?_
  refine j_iload_n hC 1 5 rfl d_O_hasAddress_4 rfl rfl ?_
  refine j_bipush (v := 127) hC 7 rfl d_O_hasAddress_5 (by decide) ?_
  refine j_iand hC 8 rfl d_O_hasAddress_7 ?_
  refine ld_O_addressTold hC (ix_in _) 9 rfl d_O_hasAddress_8 ?_
  exact j_zretR hC hr hlk d_O_hasAddress_9 rfl
theorem c_O_hasAddress {op : Int32}  : kM l dC dI cI cZ cB cJ y_O_hasAddress b_O_hasAddress 2 (some .boolean) 0 0 [.ref (ad 1), .int op] (wC ad cI cZ cB σ β mk ρ) (some (.int (bI (β 0 (ix op))))) (wC ad cI cZ cB σ β mk ρ) := (r_O_hasAddress ).toM
set_option maxHeartbeats 4000000 in
set_option maxRecDepth 100000 in
theorem r_O_hasNumber {op : Int32}  : kR l dC dI cI cZ cB cJ y_O_hasNumber b_O_hasNumber 2 (some .boolean) 0 0 [.ref (ad 1), .int op] (wC ad cI cZ cB σ β mk ρ) (some (.int (bI (β 1 (ix op))))) := by
  refine jR.of (lv := [(0, .ref (ad 1)), (1, .int op)]) (own := R_O) jE_loc (by decide) rfl rfl (Nat.le_of_ble_eq_true rfl) rfl ?_
  intro p e s m args below meth c A hC hr hlk
  refine j_aload_n hC 0 1 rfl d_O_hasNumber_0 rfl rfl ?_
  refine g_O_numberTold hC 4 rfl d_O_hasNumber_1 ?_
  refine j_iload_n hC 1 5 rfl d_O_hasNumber_4 rfl rfl ?_
  refine j_bipush (v := 127) hC 7 rfl d_O_hasNumber_5 (by decide) ?_
  refine j_iand hC 8 rfl d_O_hasNumber_7 ?_
  refine ld_O_numberTold hC (ix_in _) 9 rfl d_O_hasNumber_8 ?_
  exact j_zretR hC hr hlk d_O_hasNumber_9 rfl
theorem c_O_hasNumber {op : Int32}  : kM l dC dI cI cZ cB cJ y_O_hasNumber b_O_hasNumber 2 (some .boolean) 0 0 [.ref (ad 1), .int op] (wC ad cI cZ cB σ β mk ρ) (some (.int (bI (β 1 (ix op))))) (wC ad cI cZ cB σ β mk ρ) := (r_O_hasNumber ).toM
set_option maxHeartbeats 4000000 in
set_option maxRecDepth 100000 in
theorem r_O_isDone {op : Int32}  : kR l dC dI cI cZ cB cJ y_O_isDone b_O_isDone 2 (some .boolean) 0 0 [.ref (ad 1), .int op] (wC ad cI cZ cB σ β mk ρ) (some (.int (bI (β 2 (ix op))))) := by
  refine jR.of (lv := [(0, .ref (ad 1)), (1, .int op)]) (own := R_O) jE_loc (by decide) rfl rfl (Nat.le_of_ble_eq_true rfl) rfl ?_
  intro p e s m args below meth c A hC hr hlk
  refine j_aload_n hC 0 1 rfl d_O_isDone_0 rfl rfl ?_
  refine g_O_done hC 4 rfl d_O_isDone_1 ?_
  refine j_iload_n hC 1 5 rfl d_O_isDone_4 rfl rfl ?_
  refine j_bipush (v := 127) hC 7 rfl d_O_isDone_5 (by decide) ?_
  refine j_iand hC 8 rfl d_O_isDone_7 ?_
  refine ld_O_done hC (ix_in _) 9 rfl d_O_isDone_8 ?_
  exact j_zretR hC hr hlk d_O_isDone_9 rfl
theorem c_O_isDone {op : Int32}  : kM l dC dI cI cZ cB cJ y_O_isDone b_O_isDone 2 (some .boolean) 0 0 [.ref (ad 1), .int op] (wC ad cI cZ cB σ β mk ρ) (some (.int (bI (β 2 (ix op))))) (wC ad cI cZ cB σ β mk ρ) := (r_O_isDone ).toM
set_option maxHeartbeats 4000000 in
set_option maxRecDepth 100000 in
theorem c_O_begin {op kind size prog : Int32}  : kM l dC dI cI cZ cB cJ y_O_begin b_O_begin 6 none 0 0 [.ref (ad 1), .int op, .int kind, .int size, .int prog] (wC ad cI cZ cB σ β mk ρ) none (wC ad cI cZ cB (sA (sA (sA σ 10 (ix op) kind) 11 (ix op) size) 12 (ix op) prog) (bA (bA (bA β 0 (ix op) false) 1 (ix op) false) 2 (ix op) false) mk ρ) := by
  refine jM.of (lv := [(0, .ref (ad 1)), (1, .int op), (2, .int kind), (3, .int size), (4, .int prog)]) (own := R_O) jE_loc (by decide) rfl rfl (Nat.le_of_ble_eq_true rfl) rfl ?_
  intro p e s m args below meth c A hC hr hlk
  refine j_iload_n hC 1 1 rfl d_O_begin_0 rfl rfl ?_
  refine j_bipush (v := 127) hC 3 rfl d_O_begin_1 (by decide) ?_
  refine j_iand hC 4 rfl d_O_begin_3 ?_
  refine j_istore (lv' := [(5, _), (0, _), (1, _), (2, _), (3, _), (4, _)]) hC 6 rfl d_O_begin_4 (by decide) rfl ?_
  refine j_aload_n hC 1 7 rfl d_O_begin_6 rfl rfl ?_
  refine g_O_kinds hC 10 rfl d_O_begin_7 ?_
  refine j_iload hC 0 12 rfl d_O_begin_10 rfl ?_
  refine j_iload_n hC 3 13 rfl d_O_begin_12 rfl rfl ?_
  refine st_O_kinds hC (ix_in _) 14 rfl d_O_begin_13 ?_
  refine j_aload_n hC 1 15 rfl d_O_begin_14 rfl rfl ?_
  refine g_O_sizes hC 18 rfl d_O_begin_15 ?_
  refine j_iload hC 0 20 rfl d_O_begin_18 rfl ?_
  refine j_iload_n hC 4 21 rfl d_O_begin_20 rfl rfl ?_
  refine st_O_sizes hC (ix_in _) 22 rfl d_O_begin_21 ?_
  refine j_aload_n hC 1 23 rfl d_O_begin_22 rfl rfl ?_
  refine g_O_programs hC 26 rfl d_O_begin_23 ?_
  refine j_iload hC 0 28 rfl d_O_begin_26 rfl ?_
  refine j_iload hC 5 30 rfl d_O_begin_28 rfl ?_
  refine st_O_programs hC (ix_in _) 31 rfl d_O_begin_30 ?_
  refine j_aload_n hC 1 32 rfl d_O_begin_31 rfl rfl ?_
  refine g_O_addressTold hC 35 rfl d_O_begin_32 ?_
  refine j_iload hC 0 37 rfl d_O_begin_35 rfl ?_
  refine j_iconst (v := 0) hC 38 rfl d_O_begin_37 (by decide) ?_
  refine st_O_addressTold hC (ix_in _) (b := false) rfl 39 rfl d_O_begin_38 ?_
  refine j_aload_n hC 1 40 rfl d_O_begin_39 rfl rfl ?_
  refine g_O_numberTold hC 43 rfl d_O_begin_40 ?_
  refine j_iload hC 0 45 rfl d_O_begin_43 rfl ?_
  refine j_iconst (v := 0) hC 46 rfl d_O_begin_45 (by decide) ?_
  refine st_O_numberTold hC (ix_in _) (b := false) rfl 47 rfl d_O_begin_46 ?_
  refine j_aload_n hC 1 48 rfl d_O_begin_47 rfl rfl ?_
  refine g_O_done hC 51 rfl d_O_begin_48 ?_
  refine j_iload hC 0 53 rfl d_O_begin_51 rfl ?_
  refine j_iconst (v := 0) hC 54 rfl d_O_begin_53 (by decide) ?_
  refine st_O_done hC (ix_in _) (b := false) rfl 55 rfl d_O_begin_54 ?_
  exact j_vret hC hr hlk d_O_begin_55 rfl
set_option maxHeartbeats 4000000 in
set_option maxRecDepth 100000 in
theorem c_O_setAddress {op at0 : Int32}  : kM l dC dI cI cZ cB cJ y_O_setAddress b_O_setAddress 3 none 0 0 [.ref (ad 1), .int op, .int at0] (wC ad cI cZ cB σ β mk ρ) none (wC ad cI cZ cB (sA σ 13 (ix op) at0) (bA β 0 (ix op) true) mk ρ) := by
  refine jM.of (lv := [(0, .ref (ad 1)), (1, .int op), (2, .int at0)]) (own := R_O) jE_loc (by decide) rfl rfl (Nat.le_of_ble_eq_true rfl) rfl ?_
  intro p e s m args below meth c A hC hr hlk
  refine j_aload_n hC 0 1 rfl d_O_setAddress_0 rfl rfl ?_
  refine g_O_addresses hC 4 rfl d_O_setAddress_1 ?_
  refine j_iload_n hC 1 5 rfl d_O_setAddress_4 rfl rfl ?_
  refine j_bipush (v := 127) hC 7 rfl d_O_setAddress_5 (by decide) ?_
  refine j_iand hC 8 rfl d_O_setAddress_7 ?_
  refine j_iload_n hC 2 9 rfl d_O_setAddress_8 rfl rfl ?_
  refine st_O_addresses hC (ix_in _) 10 rfl d_O_setAddress_9 ?_
  refine j_aload_n hC 0 11 rfl d_O_setAddress_10 rfl rfl ?_
  refine g_O_addressTold hC 14 rfl d_O_setAddress_11 ?_
  refine j_iload_n hC 1 15 rfl d_O_setAddress_14 rfl rfl ?_
  refine j_bipush (v := 127) hC 17 rfl d_O_setAddress_15 (by decide) ?_
  refine j_iand hC 18 rfl d_O_setAddress_17 ?_
  refine j_iconst (v := 1) hC 19 rfl d_O_setAddress_18 (by decide) ?_
  refine st_O_addressTold hC (ix_in _) (b := true) rfl 20 rfl d_O_setAddress_19 ?_
  exact j_vret hC hr hlk d_O_setAddress_20 rfl
set_option maxHeartbeats 4000000 in
set_option maxRecDepth 100000 in
theorem c_O_setNumber {op v : Int32}  : kM l dC dI cI cZ cB cJ y_O_setNumber b_O_setNumber 3 none 0 0 [.ref (ad 1), .int op, .int v] (wC ad cI cZ cB σ β mk ρ) none (wC ad cI cZ cB (sA σ 15 (ix op) v) (bA β 1 (ix op) true) mk ρ) := by
  refine jM.of (lv := [(0, .ref (ad 1)), (1, .int op), (2, .int v)]) (own := R_O) jE_loc (by decide) rfl rfl (Nat.le_of_ble_eq_true rfl) rfl ?_
  intro p e s m args below meth c A hC hr hlk
  refine j_aload_n hC 0 1 rfl d_O_setNumber_0 rfl rfl ?_
  refine g_O_numbers hC 4 rfl d_O_setNumber_1 ?_
  refine j_iload_n hC 1 5 rfl d_O_setNumber_4 rfl rfl ?_
  refine j_bipush (v := 127) hC 7 rfl d_O_setNumber_5 (by decide) ?_
  refine j_iand hC 8 rfl d_O_setNumber_7 ?_
  refine j_iload_n hC 2 9 rfl d_O_setNumber_8 rfl rfl ?_
  refine st_O_numbers hC (ix_in _) 10 rfl d_O_setNumber_9 ?_
  refine j_aload_n hC 0 11 rfl d_O_setNumber_10 rfl rfl ?_
  refine g_O_numberTold hC 14 rfl d_O_setNumber_11 ?_
  refine j_iload_n hC 1 15 rfl d_O_setNumber_14 rfl rfl ?_
  refine j_bipush (v := 127) hC 17 rfl d_O_setNumber_15 (by decide) ?_
  refine j_iand hC 18 rfl d_O_setNumber_17 ?_
  refine j_iconst (v := 1) hC 19 rfl d_O_setNumber_18 (by decide) ?_
  refine st_O_numberTold hC (ix_in _) (b := true) rfl 20 rfl d_O_setNumber_19 ?_
  exact j_vret hC hr hlk d_O_setNumber_20 rfl
set_option maxHeartbeats 4000000 in
set_option maxRecDepth 100000 in
theorem c_O_setDone {op : Int32} {b : Bool}  : kM l dC dI cI cZ cB cJ y_O_setDone b_O_setDone 3 none 0 0 [.ref (ad 1), .int op, .int (bI b)] (wC ad cI cZ cB σ β mk ρ) none (wC ad cI cZ cB σ (bA β 2 (ix op) b) mk ρ) := by
  refine jM.of (lv := [(0, .ref (ad 1)), (1, .int op), (2, .int (bI b))]) (own := R_O) jE_loc (by decide) rfl rfl (Nat.le_of_ble_eq_true rfl) rfl ?_
  intro p e s m args below meth c A hC hr hlk
  refine j_aload_n hC 0 1 rfl d_O_setDone_0 rfl rfl ?_
  refine g_O_done hC 4 rfl d_O_setDone_1 ?_
  refine j_iload_n hC 1 5 rfl d_O_setDone_4 rfl rfl ?_
  refine j_bipush (v := 127) hC 7 rfl d_O_setDone_5 (by decide) ?_
  refine j_iand hC 8 rfl d_O_setDone_7 ?_
  refine j_iload_n hC 2 9 rfl d_O_setDone_8 rfl rfl ?_
  refine st_O_done hC (ix_in _) (b := b) rfl 10 rfl d_O_setDone_9 ?_
  exact j_vret hC hr hlk d_O_setDone_10 rfl
set_option maxHeartbeats 4000000 in
set_option maxRecDepth 100000 in
theorem c_O_setLoaded {op v : Int32}  : kM l dC dI cI cZ cB cJ y_O_setLoaded b_O_setLoaded 3 none 0 0 [.ref (ad 1), .int op, .int v] (wC ad cI cZ cB σ β mk ρ) none (wC ad cI cZ cB (sA σ 18 (ix op) v) β mk ρ) := by
  refine jM.of (lv := [(0, .ref (ad 1)), (1, .int op), (2, .int v)]) (own := R_O) jE_loc (by decide) rfl rfl (Nat.le_of_ble_eq_true rfl) rfl ?_
  intro p e s m args below meth c A hC hr hlk
  refine j_aload_n hC 0 1 rfl d_O_setLoaded_0 rfl rfl ?_
  refine g_O_loadedNumbers hC 4 rfl d_O_setLoaded_1 ?_
  refine j_iload_n hC 1 5 rfl d_O_setLoaded_4 rfl rfl ?_
  refine j_bipush (v := 127) hC 7 rfl d_O_setLoaded_5 (by decide) ?_
  refine j_iand hC 8 rfl d_O_setLoaded_7 ?_
  refine j_iload_n hC 2 9 rfl d_O_setLoaded_8 rfl rfl ?_
  refine st_O_loadedNumbers hC (ix_in _) 10 rfl d_O_setLoaded_9 ?_
  exact j_vret hC hr hlk d_O_setLoaded_10 rfl
set_option maxHeartbeats 4000000 in
set_option maxRecDepth 100000 in
theorem r_O_isTold {op : Int32}  : kR l dC dI cI cZ cB cJ y_O_isTold b_O_isTold 2 (some .boolean) 1 21 [.ref (ad 1), .int op] (wC ad cI cZ cB σ β mk ρ) (some (.int (bI (β 0 (ix op) && β 1 (ix op))))) := by
  refine jR.of (lv := [(0, .ref (ad 1)), (1, .int op)]) (own := R_O) jE_loc (by decide) rfl rfl (Nat.le_of_ble_eq_true rfl) rfl ?_
  intro p e s m args below meth c A hC hr hlk
  refine j_aload_n hC 0 1 rfl d_O_isTold_0 rfl rfl ?_
  refine j_iload_n hC 1 2 rfl d_O_isTold_1 rfl rfl ?_
  refine j_callVRi hC jE_loc jT_good (As := [_]) r_O_hasAddress yk_O_hasAddress lk_O_43 ⟨rfl, rfl⟩ ⟨Nat.le_of_ble_eq_true rfl, Nat.le_of_ble_eq_true rfl⟩ 1 rfl rfl rfl rfl (Nat.le_of_ble_eq_true rfl) ⟨Nat.zero_le _, Nat.zero_le _⟩ d_O_isTold_2 5 rfl rfl ?_
  refine j_if_eq hC 20 8 rfl d_O_isTold_5 (by decide) (fun c_5 => ?_) (fun c_5 => ?_)
  · refine j_iconst (v := 0) hC 21 rfl d_O_isTold_20 (by decide) ?_
    exact j_zretR hC hr hlk d_O_isTold_21 (by simp [bI, bI0 c_5])
  · refine j_aload_n hC 0 9 rfl d_O_isTold_8 rfl rfl ?_
    refine j_iload_n hC 1 10 rfl d_O_isTold_9 rfl rfl ?_
    refine j_callVRi hC jE_loc jT_good (As := [_]) r_O_hasNumber yk_O_hasNumber lk_O_47 ⟨rfl, rfl⟩ ⟨Nat.le_of_ble_eq_true rfl, Nat.le_of_ble_eq_true rfl⟩ 1 rfl rfl rfl rfl (Nat.le_of_ble_eq_true rfl) ⟨Nat.zero_le _, Nat.zero_le _⟩ d_O_isTold_10 13 rfl rfl ?_
    refine j_if_eq hC 20 16 rfl d_O_isTold_13 (by decide) (fun c_13 => ?_) (fun c_13 => ?_)
    · refine j_iconst (v := 0) hC 21 rfl d_O_isTold_20 (by decide) ?_
      exact j_zretR hC hr hlk d_O_isTold_21 (by simp [bI, bI1 c_5, bI0 c_13])
    · refine j_iconst (v := 1) hC 17 rfl d_O_isTold_16 (by decide) ?_
      refine j_goto hC 21 d_O_isTold_17 (by decide) ?_
      exact j_zretR hC hr hlk d_O_isTold_21 (by simp [bI, bI1 c_5, bI1 c_13])
theorem c_O_isTold {op : Int32}  : kM l dC dI cI cZ cB cJ y_O_isTold b_O_isTold 2 (some .boolean) 1 21 [.ref (ad 1), .int op] (wC ad cI cZ cB σ β mk ρ) (some (.int (bI (β 0 (ix op) && β 1 (ix op))))) (wC ad cI cZ cB σ β mk ρ) := (r_O_isTold ).toM
set_option maxHeartbeats 4000000 in
set_option maxRecDepth 100000 in
theorem c_O_sourceSlot {op k : Int32}  : kM l dC dI cI cZ cB cJ y_O_sourceSlot b_O_sourceSlot 2 (some .int) 0 0 [.int op, .int k] (wC ad cI cZ cB σ β mk ρ) (some (.int ((op &&& 127) * 4 + (k &&& 3)))) (wC ad cI cZ cB σ β mk ρ) := by
  refine jM.of (lv := [(0, .int op), (1, .int k)]) (own := R_O) jE_loc (by decide) rfl rfl (Nat.le_of_ble_eq_true rfl) rfl ?_
  intro p e s m args below meth c A hC hr hlk
  refine j_iload_n hC 0 1 rfl d_O_sourceSlot_0 rfl rfl ?_
  refine j_bipush (v := 127) hC 3 rfl d_O_sourceSlot_1 (by decide) ?_
  refine j_iand hC 4 rfl d_O_sourceSlot_3 ?_
  refine j_iconst (v := 4) hC 5 rfl d_O_sourceSlot_4 (by decide) ?_
  refine j_imul hC 6 rfl d_O_sourceSlot_5 ?_
  refine j_iload_n hC 1 7 rfl d_O_sourceSlot_6 rfl rfl ?_
  refine j_iconst (v := 3) hC 8 rfl d_O_sourceSlot_7 (by decide) ?_
  refine j_iand hC 9 rfl d_O_sourceSlot_8 ?_
  refine j_iadd hC 10 rfl d_O_sourceSlot_9 ?_
  exact j_iret hC hr hlk d_O_sourceSlot_10 rfl rfl
set_option maxHeartbeats 4000000 in
set_option maxRecDepth 100000 in
theorem c_O_sourceOf {op k : Int32}  : kM l dC dI cI cZ cB cJ y_O_sourceOf b_O_sourceOf 3 (some .int) 1 21 [.ref (ad 1), .int op, .int k] (wC ad cI cZ cB σ β mk ρ) (some (.int (σ 19 (isx op k)))) (wC ad cI cZ cB σ β mk ρ) := by
  refine jM.of (lv := [(0, .ref (ad 1)), (1, .int op), (2, .int k)]) (own := R_O) jE_loc (by decide) rfl rfl (Nat.le_of_ble_eq_true rfl) rfl ?_
  intro p e s m args below meth c A hC hr hlk
  refine j_aload_n hC 0 1 rfl d_O_sourceOf_0 rfl rfl ?_
  refine g_O_sources hC 4 rfl d_O_sourceOf_1 ?_
  refine j_iload_n hC 1 5 rfl d_O_sourceOf_4 rfl rfl ?_
  refine j_iload_n hC 2 6 rfl d_O_sourceOf_5 rfl rfl ?_
  refine j_callSi hC jE_loc jT_good (As := [_, _]) c_O_sourceSlot yk_O_sourceSlot lk_O_50 ⟨rfl, rfl⟩ ⟨Nat.le_of_ble_eq_true rfl, Nat.le_of_ble_eq_true rfl⟩ rfl (Nat.le_of_ble_eq_true rfl) ⟨Nat.zero_le _, Nat.zero_le _⟩ d_O_sourceOf_6 9 rfl rfl ?_
  refine ld_O_sources hC (isx_in _ _) 10 rfl d_O_sourceOf_9 ?_
  exact j_iret hC hr hlk d_O_sourceOf_10 rfl rfl
set_option maxHeartbeats 4000000 in
set_option maxRecDepth 100000 in
theorem c_O_setSource {op k fr : Int32}  : kM l dC dI cI cZ cB cJ y_O_setSource b_O_setSource 4 none 1 21 [.ref (ad 1), .int op, .int k, .int fr] (wC ad cI cZ cB σ β mk ρ) none (wC ad cI cZ cB (sA σ 19 (isx op k) fr) β mk ρ) := by
  refine jM.of (lv := [(0, .ref (ad 1)), (1, .int op), (2, .int k), (3, .int fr)]) (own := R_O) jE_loc (by decide) rfl rfl (Nat.le_of_ble_eq_true rfl) rfl ?_
  intro p e s m args below meth c A hC hr hlk
  refine j_aload_n hC 0 1 rfl d_O_setSource_0 rfl rfl ?_
  refine g_O_sources hC 4 rfl d_O_setSource_1 ?_
  refine j_iload_n hC 1 5 rfl d_O_setSource_4 rfl rfl ?_
  refine j_iload_n hC 2 6 rfl d_O_setSource_5 rfl rfl ?_
  refine j_callSi hC jE_loc jT_good (As := [_, _]) c_O_sourceSlot yk_O_sourceSlot lk_O_50 ⟨rfl, rfl⟩ ⟨Nat.le_of_ble_eq_true rfl, Nat.le_of_ble_eq_true rfl⟩ rfl (Nat.le_of_ble_eq_true rfl) ⟨Nat.zero_le _, Nat.zero_le _⟩ d_O_setSource_6 9 rfl rfl ?_
  refine j_iload_n hC 3 10 rfl d_O_setSource_9 rfl rfl ?_
  refine st_O_sources hC (isx_in _ _) 11 rfl d_O_setSource_10 ?_
  exact j_vret hC hr hlk d_O_setSource_11 rfl
set_option maxHeartbeats 4000000 in
set_option maxRecDepth 100000 in
theorem c_O_covers {op at0 : Int32}  : kM l dC dI cI cZ cB cJ y_O_covers b_O_covers 4 (some .boolean) 1 21 [.ref (ad 1), .int op, .int at0] (wC ad cI cZ cB σ β mk ρ) (some (.int (bI (covC σ β op at0)))) (wC ad cI cZ cB σ β mk ρ) := by
  refine jM.of (lv := [(0, .ref (ad 1)), (1, .int op), (2, .int at0)]) (own := R_O) jE_loc (by decide) rfl rfl (Nat.le_of_ble_eq_true rfl) rfl ?_
  intro p e s m args below meth c A hC hr hlk
  refine j_aload_n hC 0 1 rfl d_O_covers_0 rfl rfl ?_
  refine j_iload_n hC 1 2 rfl d_O_covers_1 rfl rfl ?_
  refine j_callVi hC jE_loc jT_good (As := [_]) c_O_addressOf yk_O_addressOf lk_O_54 ⟨rfl, rfl⟩ ⟨Nat.le_of_ble_eq_true rfl, Nat.le_of_ble_eq_true rfl⟩ 1 rfl rfl rfl rfl (Nat.le_of_ble_eq_true rfl) ⟨Nat.zero_le _, Nat.zero_le _⟩ d_O_covers_2 5 rfl rfl ?_
  refine j_istore_n (lv' := [(3, _), (0, _), (1, _), (2, _)]) hC 6 rfl d_O_covers_5 rfl (by decide) rfl ?_
  refine j_aload_n hC 1 7 rfl d_O_covers_6 rfl rfl ?_
  refine j_iload_n hC 2 8 rfl d_O_covers_7 rfl rfl ?_
  refine j_callVi hC jE_loc jT_good (As := [_]) c_O_hasAddress yk_O_hasAddress lk_O_43 ⟨rfl, rfl⟩ ⟨Nat.le_of_ble_eq_true rfl, Nat.le_of_ble_eq_true rfl⟩ 1 rfl rfl rfl rfl (Nat.le_of_ble_eq_true rfl) ⟨Nat.zero_le _, Nat.zero_le _⟩ d_O_covers_8 11 rfl rfl ?_
  refine j_if_eq hC 34 14 rfl d_O_covers_11 (by decide) (fun c_11 => ?_) (fun c_11 => ?_)
  · refine j_iconst (v := 0) hC 35 rfl d_O_covers_34 (by decide) ?_
    exact j_zret hC hr hlk d_O_covers_35 (by simp [bI, covC, bI0 c_11]) rfl
  · refine j_iload_n hC 3 15 rfl d_O_covers_14 rfl rfl ?_
    refine j_iload_n hC 0 16 rfl d_O_covers_15 rfl rfl ?_
    refine j_icmp_lt hC 34 19 rfl d_O_covers_16 (by decide) (fun c_16 => ?_) (fun c_16 => ?_)
    · refine j_iconst (v := 0) hC 35 rfl d_O_covers_34 (by decide) ?_
      exact j_zret hC hr hlk d_O_covers_35 (by simp [bI, covC, bI1 c_11, c_16]) rfl
    · refine j_iload_n hC 3 20 rfl d_O_covers_19 rfl rfl ?_
      refine j_iload_n hC 0 21 rfl d_O_covers_20 rfl rfl ?_
      refine j_aload_n hC 1 22 rfl d_O_covers_21 rfl rfl ?_
      refine j_iload_n hC 2 23 rfl d_O_covers_22 rfl rfl ?_
      refine j_callVi hC jE_loc jT_good (As := [_]) c_O_bytesOf yk_O_bytesOf lk_O_58 ⟨rfl, rfl⟩ ⟨Nat.le_of_ble_eq_true rfl, Nat.le_of_ble_eq_true rfl⟩ 1 rfl rfl rfl rfl (Nat.le_of_ble_eq_true rfl) ⟨Nat.zero_le _, Nat.zero_le _⟩ d_O_covers_23 26 rfl rfl ?_
      refine j_iadd hC 27 rfl d_O_covers_26 ?_
      refine j_icmp_ge hC 34 30 rfl d_O_covers_27 (by decide) (fun c_27 => ?_) (fun c_27 => ?_)
      · refine j_iconst (v := 0) hC 35 rfl d_O_covers_34 (by decide) ?_
        exact j_zret hC hr hlk d_O_covers_35 (by simp [bI, covC, bI1 c_11, c_16, c_27]) rfl
      · refine j_iconst (v := 1) hC 31 rfl d_O_covers_30 (by decide) ?_
        refine j_goto hC 35 d_O_covers_31 (by decide) ?_
        exact j_zret hC hr hlk d_O_covers_35 (by simp [bI, covC, bI1 c_11, c_16, c_27]) rfl
end KC
end
section
section KC
variable {l : Launch} {dC : Nat → ClassId} {dI : Nat → Nat → Nat} {cI cZ cB cJ : ClassId} {ad : Nat → Nat} {σ : S2} {β : B2} {mk : Int64} {ρ : va_W} {am : Nat → Nat} {μ : S2} {ν : B2}
set_option maxHeartbeats 4000000 in
set_option maxRecDepth 100000 in
theorem c_O_byteAt {op at0 : Int32}  : kM l dC dI cI cZ cB cJ y_O_byteAt b_O_byteAt 3 (some .int) 1 22 [.ref (ad 1), .int op, .int at0] (wC ad cI cZ cB σ β mk ρ) (some (.int (bon (σ 15 (ix op)) (σ 11 (ix op)) (at0 - σ 13 (ix op))))) (wC ad cI cZ cB σ β mk ρ) := by
  refine jM.of (lv := [(0, .ref (ad 1)), (1, .int op), (2, .int at0)]) (own := R_O) jE_loc (by decide) rfl rfl (Nat.le_of_ble_eq_true rfl) rfl ?_
  intro p e s m args below meth c A hC hr hlk
  refine j_aload_n hC 0 1 rfl d_O_byteAt_0 rfl rfl ?_
  refine j_iload_n hC 1 2 rfl d_O_byteAt_1 rfl rfl ?_
  refine j_callVi hC jE_loc jT_good (As := [_]) c_O_numberOf yk_O_numberOf lk_O_61 ⟨rfl, rfl⟩ ⟨Nat.le_of_ble_eq_true rfl, Nat.le_of_ble_eq_true rfl⟩ 1 rfl rfl rfl rfl (Nat.le_of_ble_eq_true rfl) ⟨Nat.zero_le _, Nat.zero_le _⟩ d_O_byteAt_2 5 rfl rfl ?_
  refine j_aload_n hC 0 6 rfl d_O_byteAt_5 rfl rfl ?_
  refine j_iload_n hC 1 7 rfl d_O_byteAt_6 rfl rfl ?_
  refine j_callVi hC jE_loc jT_good (As := [_]) c_O_bytesOf yk_O_bytesOf lk_O_58 ⟨rfl, rfl⟩ ⟨Nat.le_of_ble_eq_true rfl, Nat.le_of_ble_eq_true rfl⟩ 1 rfl rfl rfl rfl (Nat.le_of_ble_eq_true rfl) ⟨Nat.zero_le _, Nat.zero_le _⟩ d_O_byteAt_7 10 rfl rfl ?_
  refine j_iload_n hC 2 11 rfl d_O_byteAt_10 rfl rfl ?_
  refine j_aload_n hC 0 12 rfl d_O_byteAt_11 rfl rfl ?_
  refine j_iload_n hC 1 13 rfl d_O_byteAt_12 rfl rfl ?_
  refine j_callVi hC jE_loc jT_good (As := [_]) c_O_addressOf yk_O_addressOf lk_O_54 ⟨rfl, rfl⟩ ⟨Nat.le_of_ble_eq_true rfl, Nat.le_of_ble_eq_true rfl⟩ 1 rfl rfl rfl rfl (Nat.le_of_ble_eq_true rfl) ⟨Nat.zero_le _, Nat.zero_le _⟩ d_O_byteAt_13 16 rfl rfl ?_
  refine j_isub hC 17 rfl d_O_byteAt_16 ?_
  refine j_callSNi hC jE_loc jT_good (As := [_, _, _]) c_C_byteOfNumber yk_C_byteOfNumber (nest_O_64 hC) ⟨rfl, rfl⟩ ⟨Nat.le_of_ble_eq_true rfl, Nat.le_of_ble_eq_true rfl⟩ rfl (Nat.le_of_ble_eq_true rfl) ⟨Nat.zero_le _, Nat.zero_le _⟩ d_O_byteAt_17 20 rfl rfl ?_
  exact j_iret hC hr hlk d_O_byteAt_20 rfl rfl
set_option maxHeartbeats 4000000 in
set_option maxRecDepth 100000 in
theorem c_Y_byteAt {at0 : Int32}  : kM l dC dI cI cZ cB cJ y_Y_byteAt b_Y_byteAt 2 (some .int) 0 0 [.ref (ad 3), .int at0] (wC ad cI cZ cB σ β mk ρ) (some (.int (σ 24 (iy at0) &&& 255))) (wC ad cI cZ cB σ β mk ρ) := by
  refine jM.of (lv := [(0, .ref (ad 3)), (1, .int at0)]) (own := R_Y) jE_loc (by decide) rfl rfl (Nat.le_of_ble_eq_true rfl) rfl ?_
  intro p e s m args below meth c A hC hr hlk
  refine j_aload_n hC 0 1 rfl d_Y_byteAt_0 rfl rfl ?_
  refine g_Y_cells hC 4 rfl d_Y_byteAt_1 ?_
  refine j_iload_n hC 1 5 rfl d_Y_byteAt_4 rfl rfl ?_
  refine j_sipush (v := 4095) hC 8 rfl d_Y_byteAt_5 (by decide) ?_
  refine j_iand hC 9 rfl d_Y_byteAt_8 ?_
  refine ld_Y_cells hC (iy_in _) 10 rfl d_Y_byteAt_9 ?_
  refine j_sipush (v := 255) hC 13 rfl d_Y_byteAt_10 (by decide) ?_
  refine j_iand hC 14 rfl d_Y_byteAt_13 ?_
  exact j_iret hC hr hlk d_Y_byteAt_14 rfl rfl
set_option maxHeartbeats 4000000 in
set_option maxRecDepth 100000 in
theorem c_Y_setByte {at0 v : Int32}  : kM l dC dI cI cZ cB cJ y_Y_setByte b_Y_setByte 3 none 0 0 [.ref (ad 3), .int at0, .int v] (wC ad cI cZ cB σ β mk ρ) none (wC ad cI cZ cB (sA σ 24 (iy at0) v.toInt8.toInt32) β mk ρ) := by
  refine jM.of (lv := [(0, .ref (ad 3)), (1, .int at0), (2, .int v)]) (own := R_Y) jE_loc (by decide) rfl rfl (Nat.le_of_ble_eq_true rfl) rfl ?_
  intro p e s m args below meth c A hC hr hlk
  refine j_aload_n hC 0 1 rfl d_Y_setByte_0 rfl rfl ?_
  refine g_Y_cells hC 4 rfl d_Y_setByte_1 ?_
  refine j_iload_n hC 1 5 rfl d_Y_setByte_4 rfl rfl ?_
  refine j_sipush (v := 4095) hC 8 rfl d_Y_setByte_5 (by decide) ?_
  refine j_iand hC 9 rfl d_Y_setByte_8 ?_
  refine j_iload_n hC 2 10 rfl d_Y_setByte_9 rfl rfl ?_
  refine j_i2b hC 11 rfl d_Y_setByte_10 rfl ?_
  refine st_Y_cells hC (iy_in _) 12 rfl d_Y_setByte_11 ?_
  exact j_vret hC hr hlk d_Y_setByte_12 (by simp only [i8i8] <;> rfl)
set_option maxHeartbeats 4000000 in
set_option maxRecDepth 100000 in
theorem c_Y_numberAt {at0 size : Int32}  : kM l dC dI cI cZ cB cJ y_Y_numberAt b_Y_numberAt 5 (some .int) 1 21 [.ref (ad 3), .int at0, .int size] (wC ad cI cZ cB σ β mk ρ) (some (.int (nAL (σ 24) at0 size 0 0))) (wC ad cI cZ cB σ β mk ρ) := by
  refine jM.of (lv := [(0, .ref (ad 3)), (1, .int at0), (2, .int size)]) (own := R_Y) jE_loc (by decide) rfl rfl (Nat.le_of_ble_eq_true rfl) rfl ?_
  intro p e s m args below meth c A hC hr hlk
  have loop : ∀ (n : Nat) (k x : Int32), dist k size < n → nAL (σ 24) at0 size k x = nAL (σ 24) at0 size 0 0 → kJ l dC dI p e s m args below meth c A 1 21 5 (some (.int (nAL (σ 24) at0 size 0 0))) (wC ad cI cZ cB σ β mk ρ) (wC ad cI cZ cB σ β mk ρ) 5 [(4, .int k), (3, .int x), (0, .ref (ad 3)), (1, .int at0), (2, .int size)] [] := by
    intro n
    induction n with
    | zero => intro k x hd hR; exact absurd hd (Nat.not_lt_zero _)
    | succ n ih =>
      intro k x hd hR
      refine j_iload hC 0 7 rfl d_Y_numberAt_5 rfl ?_
      refine j_iload_n hC 4 8 rfl d_Y_numberAt_7 rfl rfl ?_
      refine j_icmp_ge hC 31 11 rfl d_Y_numberAt_8 (by decide) (fun c_8 => ?_) (fun c_8 => ?_)
      · refine j_iload_n hC 1 32 rfl d_Y_numberAt_31 rfl rfl ?_
        exact j_iret hC hr hlk d_Y_numberAt_32 (by rw [← hR, nAL_out c_8]) rfl
      · refine j_iload_n hC 1 12 rfl d_Y_numberAt_11 rfl rfl ?_
        refine j_bipush (v := 8) hC 14 rfl d_Y_numberAt_12 (by decide) ?_
        refine j_ishl hC 15 rfl d_Y_numberAt_14 ?_
        refine j_aload_n hC 2 16 rfl d_Y_numberAt_15 rfl rfl ?_
        refine j_iload_n hC 3 17 rfl d_Y_numberAt_16 rfl rfl ?_
        refine j_iload hC 0 19 rfl d_Y_numberAt_17 rfl ?_
        refine j_iadd hC 20 rfl d_Y_numberAt_19 ?_
        refine j_callVi hC jE_loc jT_good (As := [_]) c_Y_byteAt yk_Y_byteAt lk_Y_15 ⟨rfl, rfl⟩ ⟨Nat.le_of_ble_eq_true rfl, Nat.le_of_ble_eq_true rfl⟩ 3 rfl rfl rfl rfl (Nat.le_of_ble_eq_true rfl) ⟨Nat.zero_le _, Nat.zero_le _⟩ d_Y_numberAt_20 23 rfl rfl ?_
        refine j_ior hC 24 rfl d_Y_numberAt_23 ?_
        refine j_istore_n (lv' := [(3, _), (4, _), (0, _), (1, _), (2, _)]) hC 25 rfl d_Y_numberAt_24 rfl (by decide) rfl ?_
        refine j_iinc (lv' := [(4, _), (3, _), (0, _), (1, _), (2, _)]) hC 1 28 rfl d_Y_numberAt_25 rfl (inc1 _) (by decide) rfl ?_
        refine j_goto hC 5 d_Y_numberAt_28 (by decide) ?_
        exact ih _ _ (dist_lt c_8 hd) (by rw [← hR, nAL_in c_8])
  refine j_iconst (v := 0) hC 1 rfl d_Y_numberAt_0 (by decide) ?_
  refine j_istore_n (lv' := [(3, _), (0, _), (1, _), (2, _)]) hC 2 rfl d_Y_numberAt_1 rfl (by decide) rfl ?_
  refine j_iconst (v := 0) hC 3 rfl d_Y_numberAt_2 (by decide) ?_
  refine j_istore (lv' := [(4, _), (3, _), (0, _), (1, _), (2, _)]) hC 5 rfl d_Y_numberAt_3 (by decide) rfl ?_
  exact loop _ 0 0 (Nat.lt_succ_self _) rfl
set_option maxHeartbeats 4000000 in
set_option maxRecDepth 100000 in
theorem c_Y_write {at0 size v : Int32}  : kM l dC dI cI cZ cB cJ y_Y_write b_Y_write 5 none 1 22 [.ref (ad 3), .int at0, .int size, .int v] (wC ad cI cZ cB σ β mk ρ) none (wC ad cI cZ cB (mWL at0 size v 0 σ) β mk ρ) := by
  refine jM.of (lv := [(0, .ref (ad 3)), (1, .int at0), (2, .int size), (3, .int v)]) (own := R_Y) jE_loc (by decide) rfl rfl (Nat.le_of_ble_eq_true rfl) rfl ?_
  intro p e s m args below meth c A hC hr hlk
  have loop : ∀ (n : Nat) (k : Int32) (τ : S2), dist k size < n → mWL at0 size v k τ = mWL at0 size v 0 σ → kJ l dC dI p e s m args below meth c A 1 22 5 none (wC ad cI cZ cB (mWL at0 size v 0 σ) β mk ρ) (wC ad cI cZ cB τ β mk ρ) 3 [(4, .int k), (0, .ref (ad 3)), (1, .int at0), (2, .int size), (3, .int v)] [] := by
    intro n
    induction n with
    | zero => intro k τ hd hR; exact absurd hd (Nat.not_lt_zero _)
    | succ n ih =>
      intro k τ hd hR
      refine j_iload hC 0 5 rfl d_Y_write_3 rfl ?_
      refine j_iload_n hC 3 6 rfl d_Y_write_5 rfl rfl ?_
      refine j_icmp_ge hC 30 9 rfl d_Y_write_6 (by decide) (fun c_6 => ?_) (fun c_6 => ?_)
      · exact j_vret hC hr hlk d_Y_write_30 (by rw [← hR, mWL_out c_6])
      · refine j_aload_n hC 1 10 rfl d_Y_write_9 rfl rfl ?_
        refine j_iload_n hC 2 11 rfl d_Y_write_10 rfl rfl ?_
        refine j_iload hC 0 13 rfl d_Y_write_11 rfl ?_
        refine j_iadd hC 14 rfl d_Y_write_13 ?_
        refine j_iload_n hC 4 15 rfl d_Y_write_14 rfl rfl ?_
        refine j_iload_n hC 3 16 rfl d_Y_write_15 rfl rfl ?_
        refine j_iload hC 0 18 rfl d_Y_write_16 rfl ?_
        refine j_callSNi hC jE_loc jT_good (As := [_, _, _]) c_C_byteOfNumber yk_C_byteOfNumber (nest_Y_19 hC) ⟨rfl, rfl⟩ ⟨Nat.le_of_ble_eq_true rfl, Nat.le_of_ble_eq_true rfl⟩ rfl (Nat.le_of_ble_eq_true rfl) ⟨Nat.zero_le _, Nat.zero_le _⟩ d_Y_write_18 21 rfl rfl ?_
        refine j_callVv hC jE_loc jT_good (As := [_, _]) c_Y_setByte yk_Y_setByte lk_Y_23 ⟨rfl, rfl⟩ ⟨Nat.le_of_ble_eq_true rfl, Nat.le_of_ble_eq_true rfl⟩ 3 rfl rfl rfl rfl (Nat.le_of_ble_eq_true rfl) ⟨Nat.zero_le _, Nat.zero_le _⟩ d_Y_write_21 24 rfl rfl ?_
        refine j_iinc (lv' := [(4, _), (0, _), (1, _), (2, _), (3, _)]) hC 0 27 rfl d_Y_write_24 rfl (inc1 _) (by decide) rfl ?_
        refine j_goto hC 3 d_Y_write_27 (by decide) ?_
        exact ih _ _ (dist_lt c_6 hd) (by rw [← hR, mWL_in c_6])
  refine j_iconst (v := 0) hC 1 rfl d_Y_write_0 (by decide) ?_
  refine j_istore (lv' := [(4, _), (0, _), (1, _), (2, _), (3, _)]) hC 3 rfl d_Y_write_1 (by decide) rfl ?_
  exact loop _ 0 _ (Nat.lt_succ_self _) rfl
set_option maxHeartbeats 4000000 in
set_option maxRecDepth 100000 in
theorem c_B_size   : kM l dC dI cI cZ cB cJ y_B_size b_B_size 1 (some .int) 0 0 [.ref (ad 2)] (wC ad cI cZ cB σ β mk ρ) (some (.int (σ 6 0))) (wC ad cI cZ cB σ β mk ρ) := by
  refine jM.of (lv := [(0, .ref (ad 2))]) (own := R_B) jE_loc (by decide) rfl rfl (Nat.le_of_ble_eq_true rfl) rfl ?_
  intro p e s m args below meth c A hC hr hlk
  refine j_aload_n hC 0 1 rfl d_B_size_0 rfl rfl ?_
  refine g_B_held hC 4 rfl d_B_size_1 ?_
  exact j_iret hC hr hlk d_B_size_4 rfl rfl
set_option maxHeartbeats 4000000 in
set_option maxRecDepth 100000 in
theorem c_B_isEmpty   : kM l dC dI cI cZ cB cJ y_B_isEmpty b_B_isEmpty 1 (some .boolean) 0 0 [.ref (ad 2)] (wC ad cI cZ cB σ β mk ρ) (some (.int (bI (decide (σ 6 0 = 0))))) (wC ad cI cZ cB σ β mk ρ) := by
  refine jM.of (lv := [(0, .ref (ad 2))]) (own := R_B) jE_loc (by decide) rfl rfl (Nat.le_of_ble_eq_true rfl) rfl ?_
  intro p e s m args below meth c A hC hr hlk
  refine j_aload_n hC 0 1 rfl d_B_isEmpty_0 rfl rfl ?_
  refine g_B_held hC 4 rfl d_B_isEmpty_1 ?_
  refine j_if_ne hC 11 7 rfl d_B_isEmpty_4 (by decide) (fun c_4 => ?_) (fun c_4 => ?_)
  · refine j_iconst (v := 0) hC 12 rfl d_B_isEmpty_11 (by decide) ?_
    exact j_zret hC hr hlk d_B_isEmpty_12 (by simp [bI, c_4]) rfl
  · refine j_iconst (v := 1) hC 8 rfl d_B_isEmpty_7 (by decide) ?_
    refine j_goto hC 12 d_B_isEmpty_8 (by decide) ?_
    exact j_zret hC hr hlk d_B_isEmpty_12 (by simp [bI, c_4]) rfl
set_option maxHeartbeats 4000000 in
set_option maxRecDepth 100000 in
theorem c_B_hasRoom   : kM l dC dI cI cZ cB cJ y_B_hasRoom b_B_hasRoom 1 (some .boolean) 0 0 [.ref (ad 2)] (wC ad cI cZ cB σ β mk ρ) (some (.int (bI (!decide (4 ≤ σ 6 0))))) (wC ad cI cZ cB σ β mk ρ) := by
  refine jM.of (lv := [(0, .ref (ad 2))]) (own := R_B) jE_loc (by decide) rfl rfl (Nat.le_of_ble_eq_true rfl) rfl ?_
  intro p e s m args below meth c A hC hr hlk
  refine j_aload_n hC 0 1 rfl d_B_hasRoom_0 rfl rfl ?_
  refine g_B_held hC 4 rfl d_B_hasRoom_1 ?_
  refine j_iconst (v := 4) hC 5 rfl d_B_hasRoom_4 (by decide) ?_
  refine j_icmp_ge hC 12 8 rfl d_B_hasRoom_5 (by decide) (fun c_5 => ?_) (fun c_5 => ?_)
  · refine j_iconst (v := 0) hC 13 rfl d_B_hasRoom_12 (by decide) ?_
    exact j_zret hC hr hlk d_B_hasRoom_13 (by simp [bI, c_5]) rfl
  · refine j_iconst (v := 1) hC 9 rfl d_B_hasRoom_8 (by decide) ?_
    refine j_goto hC 13 d_B_hasRoom_9 (by decide) ?_
    exact j_zret hC hr hlk d_B_hasRoom_13 (by simp [bI, c_5]) rfl
set_option maxHeartbeats 4000000 in
set_option maxRecDepth 100000 in
theorem c_B_oldestStore   : kM l dC dI cI cZ cB cJ y_B_oldestStore b_B_oldestStore 1 (some .int) 0 0 [.ref (ad 2)] (wC ad cI cZ cB σ β mk ρ) (some (.int (if σ 6 0 = 0 then -1 else σ 20 0))) (wC ad cI cZ cB σ β mk ρ) := by
  refine jM.of (lv := [(0, .ref (ad 2))]) (own := R_B) jE_loc (by decide) rfl rfl (Nat.le_of_ble_eq_true rfl) rfl ?_
  intro p e s m args below meth c A hC hr hlk
  refine j_aload_n hC 0 1 rfl d_B_oldestStore_0 rfl rfl ?_
  refine g_B_held hC 4 rfl d_B_oldestStore_1 ?_
  refine j_if_ne hC 11 7 rfl d_B_oldestStore_4 (by decide) (fun c_4 => ?_) (fun c_4 => ?_)
  · refine j_aload_n hC 0 12 rfl d_B_oldestStore_11 rfl rfl ?_
    refine g_B_stores hC 15 rfl d_B_oldestStore_12 ?_
    refine j_iconst (v := 0) hC 16 rfl d_B_oldestStore_15 (by decide) ?_
    refine ld_B_stores hC in0_4 17 rfl d_B_oldestStore_16 ?_
    exact j_iret hC hr hlk d_B_oldestStore_17 (by simp [bI, c_4]) rfl
  · refine j_iconst (v := (-1)) hC 8 rfl d_B_oldestStore_7 (by decide) ?_
    refine j_goto hC 17 d_B_oldestStore_8 (by decide) ?_
    exact j_iret hC hr hlk d_B_oldestStore_17 (by simp [bI, c_4]) rfl
set_option maxHeartbeats 4000000 in
set_option maxRecDepth 100000 in
theorem c_B_append {st at0 size v : Int32}  : kM l dC dI cI cZ cB cJ y_B_append b_B_append 5 none 0 0 [.ref (ad 2), .int st, .int at0, .int size, .int v] (wC ad cI cZ cB σ β mk ρ) none (wC ad cI cZ cB (apS σ st at0 size v) β mk ρ) := by
  refine jM.of (lv := [(0, .ref (ad 2)), (1, .int st), (2, .int at0), (3, .int size), (4, .int v)]) (own := R_B) jE_loc (by decide) rfl rfl (Nat.le_of_ble_eq_true rfl) rfl ?_
  intro p e s m args below meth c A hC hr hlk
  refine j_aload_n hC 0 1 rfl d_B_append_0 rfl rfl ?_
  refine g_B_held hC 4 rfl d_B_append_1 ?_
  refine j_if_lt hC 15 7 rfl d_B_append_4 (by decide) (fun c_4 => ?_) (fun c_4 => ?_)
  · exact j_vret hC hr hlk d_B_append_15 (by rw [apS_out (by first | exact Or.inl c_4 | exact Or.inr c_12)])
  · refine j_aload_n hC 0 8 rfl d_B_append_7 rfl rfl ?_
    refine g_B_held hC 11 rfl d_B_append_8 ?_
    refine j_iconst (v := 4) hC 12 rfl d_B_append_11 (by decide) ?_
    refine j_icmp_lt hC 16 15 rfl d_B_append_12 (by decide) (fun c_12 => ?_) (fun c_12 => ?_)
    · refine j_aload_n hC 0 17 rfl d_B_append_16 rfl rfl ?_
      refine g_B_stores hC 20 rfl d_B_append_17 ?_
      refine j_aload_n hC 0 21 rfl d_B_append_20 rfl rfl ?_
      refine g_B_held hC 24 rfl d_B_append_21 ?_
      refine j_iload_n hC 1 25 rfl d_B_append_24 rfl rfl ?_
      refine st_B_stores hC (in4 c_4 c_12) 26 rfl d_B_append_25 ?_
      refine j_aload_n hC 0 27 rfl d_B_append_26 rfl rfl ?_
      refine g_B_addresses hC 30 rfl d_B_append_27 ?_
      refine j_aload_n hC 0 31 rfl d_B_append_30 rfl rfl ?_
      refine g_B_held hC 34 rfl d_B_append_31 ?_
      refine j_iload_n hC 2 35 rfl d_B_append_34 rfl rfl ?_
      refine st_B_addresses hC (in4 c_4 c_12) 36 rfl d_B_append_35 ?_
      refine j_aload_n hC 0 37 rfl d_B_append_36 rfl rfl ?_
      refine g_B_sizes hC 40 rfl d_B_append_37 ?_
      refine j_aload_n hC 0 41 rfl d_B_append_40 rfl rfl ?_
      refine g_B_held hC 44 rfl d_B_append_41 ?_
      refine j_iload_n hC 3 45 rfl d_B_append_44 rfl rfl ?_
      refine st_B_sizes hC (in4 c_4 c_12) 46 rfl d_B_append_45 ?_
      refine j_aload_n hC 0 47 rfl d_B_append_46 rfl rfl ?_
      refine g_B_numbers hC 50 rfl d_B_append_47 ?_
      refine j_aload_n hC 0 51 rfl d_B_append_50 rfl rfl ?_
      refine g_B_held hC 54 rfl d_B_append_51 ?_
      refine j_iload hC 4 56 rfl d_B_append_54 rfl ?_
      refine st_B_numbers hC (in4 c_4 c_12) 57 rfl d_B_append_56 ?_
      refine j_aload_n hC 0 58 rfl d_B_append_57 rfl rfl ?_
      refine j_dup hC 59 rfl d_B_append_58 rfl ?_
      refine g_B_held hC 62 rfl d_B_append_59 ?_
      refine j_iconst (v := 1) hC 63 rfl d_B_append_62 (by decide) ?_
      refine j_iadd hC 64 rfl d_B_append_63 ?_
      refine p_B_held hC 67 rfl d_B_append_64 ?_
      exact j_vret hC hr hlk d_B_append_67 (by rw [apS_in c_4 c_12] <;> rfl)
    · exact j_vret hC hr hlk d_B_append_15 (by rw [apS_out (by first | exact Or.inl c_4 | exact Or.inr c_12)])
set_option maxHeartbeats 4000000 in
set_option maxRecDepth 100000 in
theorem c_B_byteAt {at0 : Int32}  : kM l dC dI cI cZ cB cJ y_B_byteAt b_B_byteAt 4 (some .int) 1 22 [.ref (ad 2), .int at0] (wC ad cI cZ cB σ β mk ρ) (some (.int (bbL σ at0 0 (-1)))) (wC ad cI cZ cB σ β mk ρ) := by
  refine jM.of (lv := [(0, .ref (ad 2)), (1, .int at0)]) (own := R_B) jE_loc (by decide) rfl rfl (Nat.le_of_ble_eq_true rfl) rfl ?_
  intro p e s m args below meth c A hC hr hlk
  have loop : ∀ (n : Nat) (i x : Int32), 0 ≤ i → dist i 4 < n → bbL σ at0 i x = bbL σ at0 0 (-1) → kJ l dC dI p e s m args below meth c A 1 22 4 (some (.int (bbL σ at0 0 (-1)))) (wC ad cI cZ cB σ β mk ρ) (wC ad cI cZ cB σ β mk ρ) 4 [(3, .int i), (2, .int x), (0, .ref (ad 2)), (1, .int at0)] [] := by
    intro n
    induction n with
    | zero => intro i x hi0 hd hR; exact absurd hd (Nat.not_lt_zero _)
    | succ n ih =>
      intro i x hi0 hd hR
      refine j_iload_n hC 0 5 rfl d_B_byteAt_4 rfl rfl ?_
      refine j_iconst (v := 4) hC 6 rfl d_B_byteAt_5 (by decide) ?_
      refine j_icmp_ge hC 74 9 rfl d_B_byteAt_6 (by decide) (fun c_6 => ?_) (fun c_6 => ?_)
      · refine j_iload_n hC 1 75 rfl d_B_byteAt_74 rfl rfl ?_
        exact j_iret hC hr hlk d_B_byteAt_75 (by rw [← hR, bbL_out c_6]) rfl
      · refine j_iload_n hC 0 10 rfl d_B_byteAt_9 rfl rfl ?_
        refine j_aload_n hC 2 11 rfl d_B_byteAt_10 rfl rfl ?_
        refine g_B_held hC 14 rfl d_B_byteAt_11 ?_
        refine j_icmp_ge hC 68 17 rfl d_B_byteAt_14 (by decide) (fun c_14 => ?_) (fun c_14 => ?_)
        · refine j_iinc (lv' := [(3, _), (2, _), (0, _), (1, _)]) hC 0 71 rfl d_B_byteAt_68 rfl (inc1 _) (by decide) rfl ?_
          refine j_goto hC 4 d_B_byteAt_71 (by decide) ?_
          exact ih _ _ (nn1 hi0 c_6) (dist_lt c_6 hd) (by rw [← hR, bbL_in c_6]; simp [bbS, bbV, c_6, c_14])
        · refine j_iload_n hC 3 18 rfl d_B_byteAt_17 rfl rfl ?_
          refine j_aload_n hC 2 19 rfl d_B_byteAt_18 rfl rfl ?_
          refine g_B_addresses hC 22 rfl d_B_byteAt_19 ?_
          refine j_iload_n hC 0 23 rfl d_B_byteAt_22 rfl rfl ?_
          refine ld_B_addresses hC (in4' hi0 c_6) 24 rfl d_B_byteAt_23 ?_
          refine j_icmp_lt hC 68 27 rfl d_B_byteAt_24 (by decide) (fun c_24 => ?_) (fun c_24 => ?_)
          · refine j_iinc (lv' := [(3, _), (2, _), (0, _), (1, _)]) hC 0 71 rfl d_B_byteAt_68 rfl (inc1 _) (by decide) rfl ?_
            refine j_goto hC 4 d_B_byteAt_71 (by decide) ?_
            exact ih _ _ (nn1 hi0 c_6) (dist_lt c_6 hd) (by rw [← hR, bbL_in c_6]; simp [bbS, bbV, c_6, c_14, c_24])
          · refine j_iload_n hC 3 28 rfl d_B_byteAt_27 rfl rfl ?_
            refine j_aload_n hC 2 29 rfl d_B_byteAt_28 rfl rfl ?_
            refine g_B_addresses hC 32 rfl d_B_byteAt_29 ?_
            refine j_iload_n hC 0 33 rfl d_B_byteAt_32 rfl rfl ?_
            refine ld_B_addresses hC (in4' hi0 c_6) 34 rfl d_B_byteAt_33 ?_
            refine j_aload_n hC 2 35 rfl d_B_byteAt_34 rfl rfl ?_
            refine g_B_sizes hC 38 rfl d_B_byteAt_35 ?_
            refine j_iload_n hC 0 39 rfl d_B_byteAt_38 rfl rfl ?_
            refine ld_B_sizes hC (in4' hi0 c_6) 40 rfl d_B_byteAt_39 ?_
            refine j_iadd hC 41 rfl d_B_byteAt_40 ?_
            refine j_icmp_ge hC 68 44 rfl d_B_byteAt_41 (by decide) (fun c_41 => ?_) (fun c_41 => ?_)
            · refine j_iinc (lv' := [(3, _), (2, _), (0, _), (1, _)]) hC 0 71 rfl d_B_byteAt_68 rfl (inc1 _) (by decide) rfl ?_
              refine j_goto hC 4 d_B_byteAt_71 (by decide) ?_
              exact ih _ _ (nn1 hi0 c_6) (dist_lt c_6 hd) (by rw [← hR, bbL_in c_6]; simp [bbS, bbV, c_6, c_14, c_24, c_41])
            · refine j_aload_n hC 2 45 rfl d_B_byteAt_44 rfl rfl ?_
              refine g_B_numbers hC 48 rfl d_B_byteAt_45 ?_
              refine j_iload_n hC 0 49 rfl d_B_byteAt_48 rfl rfl ?_
              refine ld_B_numbers hC (in4' hi0 c_6) 50 rfl d_B_byteAt_49 ?_
              refine j_aload_n hC 2 51 rfl d_B_byteAt_50 rfl rfl ?_
              refine g_B_sizes hC 54 rfl d_B_byteAt_51 ?_
              refine j_iload_n hC 0 55 rfl d_B_byteAt_54 rfl rfl ?_
              refine ld_B_sizes hC (in4' hi0 c_6) 56 rfl d_B_byteAt_55 ?_
              refine j_iload_n hC 3 57 rfl d_B_byteAt_56 rfl rfl ?_
              refine j_aload_n hC 2 58 rfl d_B_byteAt_57 rfl rfl ?_
              refine g_B_addresses hC 61 rfl d_B_byteAt_58 ?_
              refine j_iload_n hC 0 62 rfl d_B_byteAt_61 rfl rfl ?_
              refine ld_B_addresses hC (in4' hi0 c_6) 63 rfl d_B_byteAt_62 ?_
              refine j_isub hC 64 rfl d_B_byteAt_63 ?_
              refine j_callSNi hC jE_loc jT_good (As := [_, _, _]) c_C_byteOfNumber yk_C_byteOfNumber (nest_B_34 hC) ⟨rfl, rfl⟩ ⟨Nat.le_of_ble_eq_true rfl, Nat.le_of_ble_eq_true rfl⟩ rfl (Nat.le_of_ble_eq_true rfl) ⟨Nat.zero_le _, Nat.zero_le _⟩ d_B_byteAt_64 67 rfl rfl ?_
              refine j_istore_n (lv' := [(2, _), (3, _), (0, _), (1, _)]) hC 68 rfl d_B_byteAt_67 rfl (by decide) rfl ?_
              refine j_iinc (lv' := [(3, _), (2, _), (0, _), (1, _)]) hC 1 71 rfl d_B_byteAt_68 rfl (inc1 _) (by decide) rfl ?_
              refine j_goto hC 4 d_B_byteAt_71 (by decide) ?_
              exact ih _ _ (nn1 hi0 c_6) (dist_lt c_6 hd) (by rw [← hR, bbL_in c_6]; simp [bbS, bbV, c_6, c_14, c_24, c_41])
  refine j_iconst (v := (-1)) hC 1 rfl d_B_byteAt_0 (by decide) ?_
  refine j_istore_n (lv' := [(2, _), (0, _), (1, _)]) hC 2 rfl d_B_byteAt_1 rfl (by decide) rfl ?_
  refine j_iconst (v := 0) hC 3 rfl d_B_byteAt_2 (by decide) ?_
  refine j_istore_n (lv' := [(3, _), (2, _), (0, _), (1, _)]) hC 4 rfl d_B_byteAt_3 rfl (by decide) rfl ?_
  exact loop _ 0 (-1) (by decide) (Nat.lt_succ_self _) rfl
set_option maxHeartbeats 4000000 in
set_option maxRecDepth 100000 in
theorem c_B_moveOldestTo   : kM l dC dI cI cZ cB cJ y_B_moveOldestTo b_B_moveOldestTo 3 none 2 46 [.ref (ad 2), .ref (ad 3)] (wC ad cI cZ cB σ β mk ρ) none (wC ad cI cZ cB (mvS σ) β mk ρ) := by
  refine jM.of (lv := [(0, .ref (ad 2)), (1, .ref (ad 3))]) (own := R_B) jE_loc (by decide) rfl rfl (Nat.le_of_ble_eq_true rfl) rfl ?_
  intro p e s m args below meth c A hC hr hlk
  have loop : 0 < σ 6 0 → ∀ (n : Nat) (i : Int32) (τ : S2), 1 ≤ i → dist i 4 < n → shL i τ = shL 1 (mWL (σ 21 0) (σ 22 0) (σ 23 0) 0 σ) → kJ l dC dI p e s m args below meth c A 2 46 3 none (wC ad cI cZ cB (mvS σ) β mk ρ) (wC ad cI cZ cB τ β mk ρ) 32 [(2, .int i), (0, .ref (ad 2)), (1, .ref (ad 3))] [] := by
    intro c_4 n
    induction n with
    | zero => intro i τ hi hd hR; exact absurd hd (Nat.not_lt_zero _)
    | succ n ih =>
      intro i τ hi hd hR
      refine j_iload_n hC 0 33 rfl d_B_moveOldestTo_32 rfl rfl ?_
      refine j_iconst (v := 4) hC 34 rfl d_B_moveOldestTo_33 (by decide) ?_
      refine j_icmp_ge hC 99 37 rfl d_B_moveOldestTo_34 (by decide) (fun c_34 => ?_) (fun c_34 => ?_)
      · refine j_aload_n hC 1 100 rfl d_B_moveOldestTo_99 rfl rfl ?_
        refine j_dup hC 101 rfl d_B_moveOldestTo_100 rfl ?_
        refine g_B_held hC 104 rfl d_B_moveOldestTo_101 ?_
        refine j_iconst (v := 1) hC 105 rfl d_B_moveOldestTo_104 (by decide) ?_
        refine j_isub hC 106 rfl d_B_moveOldestTo_105 ?_
        refine p_B_held hC 109 rfl d_B_moveOldestTo_106 ?_
        exact j_vret hC hr hlk d_B_moveOldestTo_109 (by rw [mvS, if_pos c_4, ← hR, shL_out c_34] <;> rfl)
      · refine j_aload_n hC 1 38 rfl d_B_moveOldestTo_37 rfl rfl ?_
        refine g_B_stores hC 41 rfl d_B_moveOldestTo_38 ?_
        refine j_iload_n hC 0 42 rfl d_B_moveOldestTo_41 rfl rfl ?_
        refine j_iconst (v := 1) hC 43 rfl d_B_moveOldestTo_42 (by decide) ?_
        refine j_isub hC 44 rfl d_B_moveOldestTo_43 ?_
        refine j_aload_n hC 1 45 rfl d_B_moveOldestTo_44 rfl rfl ?_
        refine g_B_stores hC 48 rfl d_B_moveOldestTo_45 ?_
        refine j_iload_n hC 0 49 rfl d_B_moveOldestTo_48 rfl rfl ?_
        refine ld_B_stores hC (in4' (le0_of1 hi) c_34) 50 rfl d_B_moveOldestTo_49 ?_
        refine st_B_stores hC (in4m hi c_34) 51 rfl d_B_moveOldestTo_50 ?_
        refine j_aload_n hC 1 52 rfl d_B_moveOldestTo_51 rfl rfl ?_
        refine g_B_addresses hC 55 rfl d_B_moveOldestTo_52 ?_
        refine j_iload_n hC 0 56 rfl d_B_moveOldestTo_55 rfl rfl ?_
        refine j_iconst (v := 1) hC 57 rfl d_B_moveOldestTo_56 (by decide) ?_
        refine j_isub hC 58 rfl d_B_moveOldestTo_57 ?_
        refine j_aload_n hC 1 59 rfl d_B_moveOldestTo_58 rfl rfl ?_
        refine g_B_addresses hC 62 rfl d_B_moveOldestTo_59 ?_
        refine j_iload_n hC 0 63 rfl d_B_moveOldestTo_62 rfl rfl ?_
        refine ld_B_addresses hC (in4' (le0_of1 hi) c_34) 64 rfl d_B_moveOldestTo_63 ?_
        refine st_B_addresses hC (in4m hi c_34) 65 rfl d_B_moveOldestTo_64 ?_
        refine j_aload_n hC 1 66 rfl d_B_moveOldestTo_65 rfl rfl ?_
        refine g_B_sizes hC 69 rfl d_B_moveOldestTo_66 ?_
        refine j_iload_n hC 0 70 rfl d_B_moveOldestTo_69 rfl rfl ?_
        refine j_iconst (v := 1) hC 71 rfl d_B_moveOldestTo_70 (by decide) ?_
        refine j_isub hC 72 rfl d_B_moveOldestTo_71 ?_
        refine j_aload_n hC 1 73 rfl d_B_moveOldestTo_72 rfl rfl ?_
        refine g_B_sizes hC 76 rfl d_B_moveOldestTo_73 ?_
        refine j_iload_n hC 0 77 rfl d_B_moveOldestTo_76 rfl rfl ?_
        refine ld_B_sizes hC (in4' (le0_of1 hi) c_34) 78 rfl d_B_moveOldestTo_77 ?_
        refine st_B_sizes hC (in4m hi c_34) 79 rfl d_B_moveOldestTo_78 ?_
        refine j_aload_n hC 1 80 rfl d_B_moveOldestTo_79 rfl rfl ?_
        refine g_B_numbers hC 83 rfl d_B_moveOldestTo_80 ?_
        refine j_iload_n hC 0 84 rfl d_B_moveOldestTo_83 rfl rfl ?_
        refine j_iconst (v := 1) hC 85 rfl d_B_moveOldestTo_84 (by decide) ?_
        refine j_isub hC 86 rfl d_B_moveOldestTo_85 ?_
        refine j_aload_n hC 1 87 rfl d_B_moveOldestTo_86 rfl rfl ?_
        refine g_B_numbers hC 90 rfl d_B_moveOldestTo_87 ?_
        refine j_iload_n hC 0 91 rfl d_B_moveOldestTo_90 rfl rfl ?_
        refine ld_B_numbers hC (in4' (le0_of1 hi) c_34) 92 rfl d_B_moveOldestTo_91 ?_
        refine st_B_numbers hC (in4m hi c_34) 93 rfl d_B_moveOldestTo_92 ?_
        refine j_iinc (lv' := [(2, _), (0, _), (1, _)]) hC 0 96 rfl d_B_moveOldestTo_93 rfl (inc1 _) (by decide) rfl ?_
        refine j_goto hC 32 d_B_moveOldestTo_96 (by decide) ?_
        exact ih _ _ (nn2 hi c_34) (dist_lt c_34 hd) (by rw [← hR, shL_in c_34] <;> rfl)
  refine j_aload_n hC 0 1 rfl d_B_moveOldestTo_0 rfl rfl ?_
  refine g_B_held hC 4 rfl d_B_moveOldestTo_1 ?_
  refine j_if_gt hC 8 7 rfl d_B_moveOldestTo_4 (by decide) (fun c_4 => ?_) (fun c_4 => ?_)
  · refine j_aload_n hC 1 9 rfl d_B_moveOldestTo_8 rfl rfl ?_
    refine j_aload_n hC 0 10 rfl d_B_moveOldestTo_9 rfl rfl ?_
    refine g_B_addresses hC 13 rfl d_B_moveOldestTo_10 ?_
    refine j_iconst (v := 0) hC 14 rfl d_B_moveOldestTo_13 (by decide) ?_
    refine ld_B_addresses hC in0_4 15 rfl d_B_moveOldestTo_14 ?_
    refine j_aload_n hC 0 16 rfl d_B_moveOldestTo_15 rfl rfl ?_
    refine g_B_sizes hC 19 rfl d_B_moveOldestTo_16 ?_
    refine j_iconst (v := 0) hC 20 rfl d_B_moveOldestTo_19 (by decide) ?_
    refine ld_B_sizes hC in0_4 21 rfl d_B_moveOldestTo_20 ?_
    refine j_aload_n hC 0 22 rfl d_B_moveOldestTo_21 rfl rfl ?_
    refine g_B_numbers hC 25 rfl d_B_moveOldestTo_22 ?_
    refine j_iconst (v := 0) hC 26 rfl d_B_moveOldestTo_25 (by decide) ?_
    refine ld_B_numbers hC in0_4 27 rfl d_B_moveOldestTo_26 ?_
    refine j_callVv hC jE_loc jT_good (As := [_, _, _]) c_Y_write yk_Y_write lk_B_28 ⟨rfl, rfl⟩ ⟨Nat.le_of_ble_eq_true rfl, Nat.le_of_ble_eq_true rfl⟩ 3 rfl rfl rfl rfl (Nat.le_of_ble_eq_true rfl) ⟨Nat.zero_le _, Nat.zero_le _⟩ d_B_moveOldestTo_27 30 rfl rfl ?_
    refine j_iconst (v := 1) hC 31 rfl d_B_moveOldestTo_30 (by decide) ?_
    refine j_istore_n (lv' := [(2, _), (0, _), (1, _)]) hC 32 rfl d_B_moveOldestTo_31 rfl (by decide) rfl ?_
    exact loop c_4 _ 1 _ (by decide) (Nat.lt_succ_self _) rfl
  · exact j_vret hC hr hlk d_B_moveOldestTo_7 (by rw [mvS, if_neg c_4])
end KC
end
section
section KC
variable {l : Launch} {dC : Nat → ClassId} {dI : Nat → Nat → Nat} {cI cZ cB cJ : ClassId} {ad : Nat → Nat} {σ : S2} {β : B2} {mk : Int64} {ρ : va_W} {am : Nat → Nat} {μ : S2} {ν : B2}
set_option maxHeartbeats 4000000 in
set_option maxRecDepth 100000 in
theorem r_C_waitingOps   : kR l dC dI cI cZ cB cJ y_C_waitingOps b_C_waitingOps 1 (some .int) 0 0 [.ref (ad 0)] (wC ad cI cZ cB σ β mk ρ) (some (.int (σ 0 0 - σ 1 0))) := by
  refine jR.of (lv := [(0, .ref (ad 0))]) (own := R_C) jE_loc (by decide) rfl rfl (Nat.le_of_ble_eq_true rfl) rfl ?_
  intro p e s m args below meth c A hC hr hlk
  refine j_aload_n hC 0 1 rfl d_C_waitingOps_0 rfl rfl ?_
  refine g_C_nextOp hC 4 rfl d_C_waitingOps_1 ?_
  refine j_aload_n hC 0 5 rfl d_C_waitingOps_4 rfl rfl ?_
  refine g_C_oldestWaiting hC 8 rfl d_C_waitingOps_5 ?_
  refine j_isub hC 9 rfl d_C_waitingOps_8 ?_
  exact j_iretR hC hr hlk d_C_waitingOps_9 rfl
theorem c_C_waitingOps   : kM l dC dI cI cZ cB cJ y_C_waitingOps b_C_waitingOps 1 (some .int) 0 0 [.ref (ad 0)] (wC ad cI cZ cB σ β mk ρ) (some (.int (σ 0 0 - σ 1 0))) (wC ad cI cZ cB σ β mk ρ) := (r_C_waitingOps ).toM
set_option maxHeartbeats 4000000 in
set_option maxRecDepth 100000 in
theorem r_C_waits {op : Int32}  : kR l dC dI cI cZ cB cJ y_C_waits b_C_waits 2 (some .boolean) 0 0 [.ref (ad 0), .int op] (wC ad cI cZ cB σ β mk ρ) (some (.int (bI (!decide (op < σ 1 0) && !decide (σ 0 0 ≤ op))))) := by
  refine jR.of (lv := [(0, .ref (ad 0)), (1, .int op)]) (own := R_C) jE_loc (by decide) rfl rfl (Nat.le_of_ble_eq_true rfl) rfl ?_
  intro p e s m args below meth c A hC hr hlk
  refine j_iload_n hC 1 1 rfl d_C_waits_0 rfl rfl ?_
  refine j_aload_n hC 0 2 rfl d_C_waits_1 rfl rfl ?_
  refine g_C_oldestWaiting hC 5 rfl d_C_waits_2 ?_
  refine j_icmp_lt hC 20 8 rfl d_C_waits_5 (by decide) (fun c_5 => ?_) (fun c_5 => ?_)
  · refine j_iconst (v := 0) hC 21 rfl d_C_waits_20 (by decide) ?_
    exact j_zretR hC hr hlk d_C_waits_21 (by simp [bI, c_5])
  · refine j_iload_n hC 1 9 rfl d_C_waits_8 rfl rfl ?_
    refine j_aload_n hC 0 10 rfl d_C_waits_9 rfl rfl ?_
    refine g_C_nextOp hC 13 rfl d_C_waits_10 ?_
    refine j_icmp_ge hC 20 16 rfl d_C_waits_13 (by decide) (fun c_13 => ?_) (fun c_13 => ?_)
    · refine j_iconst (v := 0) hC 21 rfl d_C_waits_20 (by decide) ?_
      exact j_zretR hC hr hlk d_C_waits_21 (by simp [bI, c_5, c_13])
    · refine j_iconst (v := 1) hC 17 rfl d_C_waits_16 (by decide) ?_
      refine j_goto hC 21 d_C_waits_17 (by decide) ?_
      exact j_zretR hC hr hlk d_C_waits_21 (by simp [bI, c_5, c_13])
theorem c_C_waits {op : Int32}  : kM l dC dI cI cZ cB cJ y_C_waits b_C_waits 2 (some .boolean) 0 0 [.ref (ad 0), .int op] (wC ad cI cZ cB σ β mk ρ) (some (.int (bI (!decide (op < σ 1 0) && !decide (σ 0 0 ≤ op))))) (wC ad cI cZ cB σ β mk ρ) := (r_C_waits ).toM
set_option maxHeartbeats 4000000 in
set_option maxRecDepth 100000 in
theorem r_C_hasLoaded {op : Int32}  : kR l dC dI cI cZ cB cJ y_C_hasLoaded b_C_hasLoaded 2 (some .boolean) 1 21 [.ref (ad 0), .int op] (wC ad cI cZ cB σ β mk ρ) (some (.int (bI (hlC σ β op)))) := by
  refine jR.of (lv := [(0, .ref (ad 0)), (1, .int op)]) (own := R_C) jE_loc (by decide) rfl rfl (Nat.le_of_ble_eq_true rfl) rfl ?_
  intro p e s m args below meth c A hC hr hlk
  refine j_aload_n hC 0 1 rfl d_C_hasLoaded_0 rfl rfl ?_
  refine g_C_ops hC 4 rfl d_C_hasLoaded_1 ?_
  refine j_iload_n hC 1 5 rfl d_C_hasLoaded_4 rfl rfl ?_
  refine j_callVRi hC jE_loc jT_good (As := [_]) r_O_kindOf yk_O_kindOf lk_C_85 ⟨rfl, rfl⟩ ⟨Nat.le_of_ble_eq_true rfl, Nat.le_of_ble_eq_true rfl⟩ 1 rfl rfl rfl rfl (Nat.le_of_ble_eq_true rfl) ⟨Nat.zero_le _, Nat.zero_le _⟩ d_C_hasLoaded_5 8 rfl rfl ?_
  refine j_iconst (v := 3) hC 9 rfl d_C_hasLoaded_8 (by decide) ?_
  refine j_icmp_ne hC 28 12 rfl d_C_hasLoaded_9 (by decide) (fun c_9 => ?_) (fun c_9 => ?_)
  · refine j_aload_n hC 0 29 rfl d_C_hasLoaded_28 rfl rfl ?_
    refine g_C_ops hC 32 rfl d_C_hasLoaded_29 ?_
    refine j_iload_n hC 1 33 rfl d_C_hasLoaded_32 rfl rfl ?_
    refine j_callVRi hC jE_loc jT_good (As := [_]) r_O_isDone yk_O_isDone lk_C_129 ⟨rfl, rfl⟩ ⟨Nat.le_of_ble_eq_true rfl, Nat.le_of_ble_eq_true rfl⟩ 1 rfl rfl rfl rfl (Nat.le_of_ble_eq_true rfl) ⟨Nat.zero_le _, Nat.zero_le _⟩ d_C_hasLoaded_33 36 rfl rfl ?_
    exact j_zretR hC hr hlk d_C_hasLoaded_36 (by simp [bI, hlC, c_9])
  · refine j_aload_n hC 0 13 rfl d_C_hasLoaded_12 rfl rfl ?_
    refine j_iload_n hC 1 14 rfl d_C_hasLoaded_13 rfl rfl ?_
    refine j_callVRi hC jE_loc jT_good (As := [_]) r_C_waits yk_C_waits lk_C_81 ⟨rfl, rfl⟩ ⟨Nat.le_of_ble_eq_true rfl, Nat.le_of_ble_eq_true rfl⟩ 0 rfl rfl rfl rfl (Nat.le_of_ble_eq_true rfl) ⟨Nat.zero_le _, Nat.zero_le _⟩ d_C_hasLoaded_14 17 rfl rfl ?_
    refine j_if_ne hC 24 20 rfl d_C_hasLoaded_17 (by decide) (fun c_17 => ?_) (fun c_17 => ?_)
    · refine j_iconst (v := 0) hC 25 rfl d_C_hasLoaded_24 (by decide) ?_
      refine j_goto hC 36 d_C_hasLoaded_25 (by decide) ?_
      exact j_zretR hC hr hlk d_C_hasLoaded_36 (by simp [bI, hlC, c_9, bI1 c_17])
    · refine j_iconst (v := 1) hC 21 rfl d_C_hasLoaded_20 (by decide) ?_
      refine j_goto hC 36 d_C_hasLoaded_21 (by decide) ?_
      exact j_zretR hC hr hlk d_C_hasLoaded_36 (by simp [bI, hlC, c_9, bI0 c_17])
theorem c_C_hasLoaded {op : Int32}  : kM l dC dI cI cZ cB cJ y_C_hasLoaded b_C_hasLoaded 2 (some .boolean) 1 21 [.ref (ad 0), .int op] (wC ad cI cZ cB σ β mk ρ) (some (.int (bI (hlC σ β op)))) (wC ad cI cZ cB σ β mk ρ) := (r_C_hasLoaded ).toM
set_option maxHeartbeats 4000000 in
set_option maxRecDepth 100000 in
theorem c_C_mark {prog : Int32}  : kM l dC dI cI cZ cB cJ y_C_mark b_C_mark 2 none 0 0 [.ref (ad 0), .int prog] (wC ad cI cZ cB σ β mk ρ) none (wC ad cI cZ cB σ β (mkS mk prog) ρ) := by
  refine jM.of (lv := [(0, .ref (ad 0)), (1, .int prog)]) (own := R_C) jE_loc (by decide) rfl rfl (Nat.le_of_ble_eq_true rfl) rfl ?_
  intro p e s m args below meth c A hC hr hlk
  refine j_aload_n hC 0 1 rfl d_C_mark_0 rfl rfl ?_
  refine j_aload_n hC 0 2 rfl d_C_mark_1 rfl rfl ?_
  refine g_C_marks hC 5 rfl d_C_mark_2 ?_
  refine j_lconst (v := 1) hC 6 rfl d_C_mark_5 (by decide) ?_
  refine j_iload_n hC 1 7 rfl d_C_mark_6 rfl rfl ?_
  refine j_bipush (v := 63) hC 9 rfl d_C_mark_7 (by decide) ?_
  refine j_iand hC 10 rfl d_C_mark_9 ?_
  refine j_lshl hC 11 rfl d_C_mark_10 rfl ?_
  refine j_lor hC 12 rfl d_C_mark_11 ?_
  refine p_C_marks hC 15 rfl d_C_mark_12 ?_
  exact j_vret hC hr hlk d_C_mark_15 rfl
set_option maxHeartbeats 4000000 in
set_option maxRecDepth 100000 in
theorem c_C_isHeldBack {load : Int32}  : kM l dC dI cI cZ cB cJ y_C_isHeldBack b_C_isHeldBack 4 (some .boolean) 1 21 [.ref (ad 0), .int load] (wC ad cI cZ cB σ β mk ρ) (some (.int (bI (hbC σ β load)))) (wC ad cI cZ cB σ β mk ρ) := by
  refine jM.of (lv := [(0, .ref (ad 0)), (1, .int load)]) (own := R_C) jE_loc (by decide) rfl rfl (Nat.le_of_ble_eq_true rfl) rfl ?_
  intro p e s m args below meth c A hC hr hlk
  have loop : ∀ (n : Nat) (i : Int32), dist i load < n → hbC σ β load = exL (hbP σ) i load → kJ l dC dI p e s m args below meth c A 1 21 4 (some (.int (bI (hbC σ β load)))) (wC ad cI cZ cB σ β mk ρ) (wC ad cI cZ cB σ β mk ρ) 39 [(2, .int i), (0, .ref (ad 0)), (1, .int load)] [] := by
    intro n
    induction n with
    | zero => intro i hd hR; exact absurd hd (Nat.not_lt_zero _)
    | succ n ih =>
      intro i hd hR
      refine j_iload_n hC 0 40 rfl d_C_isHeldBack_39 rfl rfl ?_
      refine j_iload_n hC 2 41 rfl d_C_isHeldBack_40 rfl rfl ?_
      refine j_icmp_ge hC 71 44 rfl d_C_isHeldBack_41 (by decide) (fun c_41 => ?_) (fun c_41 => ?_)
      · refine j_iconst (v := 0) hC 72 rfl d_C_isHeldBack_71 (by decide) ?_
        exact j_zret hC hr hlk d_C_isHeldBack_72 (by rw [hR, exL_out c_41]; rfl) rfl
      · refine j_aload_n hC 1 45 rfl d_C_isHeldBack_44 rfl rfl ?_
        refine g_C_ops hC 48 rfl d_C_isHeldBack_45 ?_
        refine j_iload_n hC 0 49 rfl d_C_isHeldBack_48 rfl rfl ?_
        refine j_callVi hC jE_loc jT_good (As := [_]) c_O_kindOf yk_O_kindOf lk_C_85 ⟨rfl, rfl⟩ ⟨Nat.le_of_ble_eq_true rfl, Nat.le_of_ble_eq_true rfl⟩ 1 rfl rfl rfl rfl (Nat.le_of_ble_eq_true rfl) ⟨Nat.zero_le _, Nat.zero_le _⟩ d_C_isHeldBack_49 52 rfl rfl ?_
        refine j_istore_n (lv' := [(3, _), (2, _), (0, _), (1, _)]) hC 53 rfl d_C_isHeldBack_52 rfl (by decide) rfl ?_
        refine j_iload_n hC 0 54 rfl d_C_isHeldBack_53 rfl rfl ?_
        refine j_iconst (v := 2) hC 55 rfl d_C_isHeldBack_54 (by decide) ?_
        refine j_icmp_eq hC 63 58 rfl d_C_isHeldBack_55 (by decide) (fun c_55 => ?_) (fun c_55 => ?_)
        · refine j_iconst (v := 1) hC 64 rfl d_C_isHeldBack_63 (by decide) ?_
          exact j_zret hC hr hlk d_C_isHeldBack_64 (by rw [hR, exL_in c_41]; simp [bI, hbP, c_41, c_55]) rfl
        · refine j_iload_n hC 0 59 rfl d_C_isHeldBack_58 rfl rfl ?_
          refine j_iconst (v := 3) hC 60 rfl d_C_isHeldBack_59 (by decide) ?_
          refine j_icmp_ne hC 65 63 rfl d_C_isHeldBack_60 (by decide) (fun c_60 => ?_) (fun c_60 => ?_)
          · refine j_iinc (lv' := [(2, _), (3, _), (0, _), (1, _)]) hC 1 68 rfl d_C_isHeldBack_65 rfl (inc1 _) (by decide) rfl ?_
            refine j_goto hC 39 d_C_isHeldBack_68 (by decide) ?_
            refine j_sub (lv' := [(2, _), (0, _), (1, _)]) [0, 2, 3] rfl ?_
            exact ih _ (dist_lt c_41 hd) (by rw [hR, exL_in c_41]; simp [hbP, c_41, c_55, c_60])
          · refine j_iconst (v := 1) hC 64 rfl d_C_isHeldBack_63 (by decide) ?_
            exact j_zret hC hr hlk d_C_isHeldBack_64 (by rw [hR, exL_in c_41]; simp [bI, hbP, c_41, c_55, c_60]) rfl
  refine j_aload_n hC 0 1 rfl d_C_isHeldBack_0 rfl rfl ?_
  refine g_C_ops hC 4 rfl d_C_isHeldBack_1 ?_
  refine j_iload_n hC 1 5 rfl d_C_isHeldBack_4 rfl rfl ?_
  refine j_callVi hC jE_loc jT_good (As := [_]) c_O_addressOf yk_O_addressOf lk_C_225 ⟨rfl, rfl⟩ ⟨Nat.le_of_ble_eq_true rfl, Nat.le_of_ble_eq_true rfl⟩ 1 rfl rfl rfl rfl (Nat.le_of_ble_eq_true rfl) ⟨Nat.zero_le _, Nat.zero_le _⟩ d_C_isHeldBack_5 8 rfl rfl ?_
  refine j_callSi hC jE_loc jT_good (As := [_]) c_C_isDevice yk_C_isDevice lk_C_217 ⟨rfl, rfl⟩ ⟨Nat.le_of_ble_eq_true rfl, Nat.le_of_ble_eq_true rfl⟩ rfl (Nat.le_of_ble_eq_true rfl) ⟨Nat.zero_le _, Nat.zero_le _⟩ d_C_isHeldBack_8 11 rfl rfl ?_
  refine j_if_eq hC 34 14 rfl d_C_isHeldBack_11 (by decide) (fun c_11 => ?_) (fun c_11 => ?_)
  · refine j_aload_n hC 0 35 rfl d_C_isHeldBack_34 rfl rfl ?_
    refine g_C_oldestWaiting hC 38 rfl d_C_isHeldBack_35 ?_
    refine j_istore_n (lv' := [(2, _), (0, _), (1, _)]) hC 39 rfl d_C_isHeldBack_38 rfl (by decide) rfl ?_
    exact loop _ _ (Nat.lt_succ_self _) (by simp [hbC, bI0 c_11])
  · refine j_iload_n hC 1 15 rfl d_C_isHeldBack_14 rfl rfl ?_
    refine j_aload_n hC 0 16 rfl d_C_isHeldBack_15 rfl rfl ?_
    refine g_C_oldestWaiting hC 19 rfl d_C_isHeldBack_16 ?_
    refine j_icmp_ne hC 32 22 rfl d_C_isHeldBack_19 (by decide) (fun c_19 => ?_) (fun c_19 => ?_)
    · refine j_iconst (v := 1) hC 33 rfl d_C_isHeldBack_32 (by decide) ?_
      exact j_zret hC hr hlk d_C_isHeldBack_33 (by rw [hbC, bI1 c_11]; simp [bI, bI1 c_11, c_19]) rfl
    · refine j_aload_n hC 0 23 rfl d_C_isHeldBack_22 rfl rfl ?_
      refine g_C_buffer hC 26 rfl d_C_isHeldBack_23 ?_
      refine j_callVi hC jE_loc jT_good (As := []) c_B_isEmpty yk_B_isEmpty lk_C_176 ⟨rfl, rfl⟩ ⟨Nat.le_of_ble_eq_true rfl, Nat.le_of_ble_eq_true rfl⟩ 2 rfl rfl rfl rfl (Nat.le_of_ble_eq_true rfl) ⟨Nat.zero_le _, Nat.zero_le _⟩ d_C_isHeldBack_26 29 rfl rfl ?_
      refine j_if_ne hC 34 32 rfl d_C_isHeldBack_29 (by decide) (fun c_29 => ?_) (fun c_29 => ?_)
      · refine j_aload_n hC 0 35 rfl d_C_isHeldBack_34 rfl rfl ?_
        refine g_C_oldestWaiting hC 38 rfl d_C_isHeldBack_35 ?_
        refine j_istore_n (lv' := [(2, _), (0, _), (1, _)]) hC 39 rfl d_C_isHeldBack_38 rfl (by decide) rfl ?_
        exact loop _ _ (Nat.lt_succ_self _) (by simp [hbC, bI1 c_11, c_19, bI1 c_29])
      · refine j_iconst (v := 1) hC 33 rfl d_C_isHeldBack_32 (by decide) ?_
        exact j_zret hC hr hlk d_C_isHeldBack_33 (by rw [hbC, bI1 c_11]; simp [bI, bI1 c_11, c_19, bI0 c_29]) rfl
set_option maxHeartbeats 4000000 in
set_option maxRecDepth 100000 in
theorem c_C_storeWithoutAddressBefore {load : Int32}  : kM l dC dI cI cZ cB cJ y_C_storeWithoutAddressBefore b_C_storeWithoutAddressBefore 3 (some .boolean) 1 21 [.ref (ad 0), .int load] (wC ad cI cZ cB σ β mk ρ) (some (.int (bI (exL (naP σ β) (σ 1 0) load)))) (wC ad cI cZ cB σ β mk ρ) := by
  refine jM.of (lv := [(0, .ref (ad 0)), (1, .int load)]) (own := R_C) jE_loc (by decide) rfl rfl (Nat.le_of_ble_eq_true rfl) rfl ?_
  intro p e s m args below meth c A hC hr hlk
  have loop : ∀ (n : Nat) (i : Int32), dist i load < n → exL (naP σ β) (σ 1 0) load = exL (naP σ β) i load → kJ l dC dI p e s m args below meth c A 1 21 3 (some (.int (bI (exL (naP σ β) (σ 1 0) load)))) (wC ad cI cZ cB σ β mk ρ) (wC ad cI cZ cB σ β mk ρ) 5 [(2, .int i), (0, .ref (ad 0)), (1, .int load)] [] := by
    intro n
    induction n with
    | zero => intro i hd hR; exact absurd hd (Nat.not_lt_zero _)
    | succ n ih =>
      intro i hd hR
      refine j_iload_n hC 0 6 rfl d_C_storeWithoutAddressBefore_5 rfl rfl ?_
      refine j_iload_n hC 2 7 rfl d_C_storeWithoutAddressBefore_6 rfl rfl ?_
      refine j_icmp_ge hC 41 10 rfl d_C_storeWithoutAddressBefore_7 (by decide) (fun c_7 => ?_) (fun c_7 => ?_)
      · refine j_iconst (v := 0) hC 42 rfl d_C_storeWithoutAddressBefore_41 (by decide) ?_
        exact j_zret hC hr hlk d_C_storeWithoutAddressBefore_42 (by rw [hR, exL_out c_7]; rfl) rfl
      · refine j_aload_n hC 1 11 rfl d_C_storeWithoutAddressBefore_10 rfl rfl ?_
        refine g_C_ops hC 14 rfl d_C_storeWithoutAddressBefore_11 ?_
        refine j_iload_n hC 0 15 rfl d_C_storeWithoutAddressBefore_14 rfl rfl ?_
        refine j_callVi hC jE_loc jT_good (As := [_]) c_O_kindOf yk_O_kindOf lk_C_85 ⟨rfl, rfl⟩ ⟨Nat.le_of_ble_eq_true rfl, Nat.le_of_ble_eq_true rfl⟩ 1 rfl rfl rfl rfl (Nat.le_of_ble_eq_true rfl) ⟨Nat.zero_le _, Nat.zero_le _⟩ d_C_storeWithoutAddressBefore_15 18 rfl rfl ?_
        refine j_iconst (v := 1) hC 19 rfl d_C_storeWithoutAddressBefore_18 (by decide) ?_
        refine j_icmp_ne hC 35 22 rfl d_C_storeWithoutAddressBefore_19 (by decide) (fun c_19 => ?_) (fun c_19 => ?_)
        · refine j_iinc (lv' := [(2, _), (0, _), (1, _)]) hC 0 38 rfl d_C_storeWithoutAddressBefore_35 rfl (inc1 _) (by decide) rfl ?_
          refine j_goto hC 5 d_C_storeWithoutAddressBefore_38 (by decide) ?_
          exact ih _ (dist_lt c_7 hd) (by rw [hR, exL_in c_7]; simp [naP, c_7, c_19])
        · refine j_aload_n hC 1 23 rfl d_C_storeWithoutAddressBefore_22 rfl rfl ?_
          refine g_C_ops hC 26 rfl d_C_storeWithoutAddressBefore_23 ?_
          refine j_iload_n hC 0 27 rfl d_C_storeWithoutAddressBefore_26 rfl rfl ?_
          refine j_callVi hC jE_loc jT_good (As := [_]) c_O_hasAddress yk_O_hasAddress lk_C_89 ⟨rfl, rfl⟩ ⟨Nat.le_of_ble_eq_true rfl, Nat.le_of_ble_eq_true rfl⟩ 1 rfl rfl rfl rfl (Nat.le_of_ble_eq_true rfl) ⟨Nat.zero_le _, Nat.zero_le _⟩ d_C_storeWithoutAddressBefore_27 30 rfl rfl ?_
          refine j_if_ne hC 35 33 rfl d_C_storeWithoutAddressBefore_30 (by decide) (fun c_30 => ?_) (fun c_30 => ?_)
          · refine j_iinc (lv' := [(2, _), (0, _), (1, _)]) hC 0 38 rfl d_C_storeWithoutAddressBefore_35 rfl (inc1 _) (by decide) rfl ?_
            refine j_goto hC 5 d_C_storeWithoutAddressBefore_38 (by decide) ?_
            exact ih _ (dist_lt c_7 hd) (by rw [hR, exL_in c_7]; simp [naP, c_7, c_19, bI1 c_30])
          · refine j_iconst (v := 1) hC 34 rfl d_C_storeWithoutAddressBefore_33 (by decide) ?_
            exact j_zret hC hr hlk d_C_storeWithoutAddressBefore_34 (by rw [hR, exL_in c_7]; simp [bI, naP, c_7, c_19, bI0 c_30]) rfl
  refine j_aload_n hC 0 1 rfl d_C_storeWithoutAddressBefore_0 rfl rfl ?_
  refine g_C_oldestWaiting hC 4 rfl d_C_storeWithoutAddressBefore_1 ?_
  refine j_istore_n (lv' := [(2, _), (0, _), (1, _)]) hC 5 rfl d_C_storeWithoutAddressBefore_4 rfl (by decide) rfl ?_
  exact loop _ _ (Nat.lt_succ_self _) rfl
set_option maxHeartbeats 4000000 in
set_option maxRecDepth 100000 in
theorem c_C_newestStoreBefore {load at0 : Int32} (h0 : 0 ≤ σ 1 0) : kM l dC dI cI cZ cB cJ y_C_newestStoreBefore b_C_newestStoreBefore 4 (some .int) 2 44 [.ref (ad 0), .int load, .int at0] (wC ad cI cZ cB σ β mk ρ) (some (.int (nsC σ β load at0))) (wC ad cI cZ cB σ β mk ρ) := by
  refine jM.of (lv := [(0, .ref (ad 0)), (1, .int load), (2, .int at0)]) (own := R_C) jE_loc (by decide) rfl rfl (Nat.le_of_ble_eq_true rfl) rfl ?_
  intro p e s m args below meth c A hC hr hlk
  have loop : ∀ (n : Nat) (i : Int32), dnst (σ 1 0) i < n → nsC σ β load at0 = laL (nsP σ β at0) (σ 1 0) i → kJ l dC dI p e s m args below meth c A 2 44 4 (some (.int (nsC σ β load at0))) (wC ad cI cZ cB σ β mk ρ) (wC ad cI cZ cB σ β mk ρ) 4 [(3, .int i), (0, .ref (ad 0)), (1, .int load), (2, .int at0)] [] := by
    intro n
    induction n with
    | zero => intro i hd hR; exact absurd hd (Nat.not_lt_zero _)
    | succ n ih =>
      intro i hd hR
      refine j_iload_n hC 0 5 rfl d_C_newestStoreBefore_4 rfl rfl ?_
      refine j_aload_n hC 1 6 rfl d_C_newestStoreBefore_5 rfl rfl ?_
      refine g_C_oldestWaiting hC 9 rfl d_C_newestStoreBefore_6 ?_
      refine j_icmp_lt hC 44 12 rfl d_C_newestStoreBefore_9 (by decide) (fun c_9 => ?_) (fun c_9 => ?_)
      · refine j_iconst (v := (-1)) hC 45 rfl d_C_newestStoreBefore_44 (by decide) ?_
        exact j_iret hC hr hlk d_C_newestStoreBefore_45 (by rw [hR, laL_out c_9]) rfl
      · refine j_aload_n hC 1 13 rfl d_C_newestStoreBefore_12 rfl rfl ?_
        refine g_C_ops hC 16 rfl d_C_newestStoreBefore_13 ?_
        refine j_iload_n hC 0 17 rfl d_C_newestStoreBefore_16 rfl rfl ?_
        refine j_callVi hC jE_loc jT_good (As := [_]) c_O_kindOf yk_O_kindOf lk_C_85 ⟨rfl, rfl⟩ ⟨Nat.le_of_ble_eq_true rfl, Nat.le_of_ble_eq_true rfl⟩ 1 rfl rfl rfl rfl (Nat.le_of_ble_eq_true rfl) ⟨Nat.zero_le _, Nat.zero_le _⟩ d_C_newestStoreBefore_17 20 rfl rfl ?_
        refine j_iconst (v := 1) hC 21 rfl d_C_newestStoreBefore_20 (by decide) ?_
        refine j_icmp_ne hC 38 24 rfl d_C_newestStoreBefore_21 (by decide) (fun c_21 => ?_) (fun c_21 => ?_)
        · refine j_iinc (lv' := [(3, _), (0, _), (1, _), (2, _)]) hC 0 41 rfl d_C_newestStoreBefore_38 rfl (dec1 _) (by decide) rfl ?_
          refine j_goto hC 4 d_C_newestStoreBefore_41 (by decide) ?_
          exact ih _ (dnst_lt h0 c_9 hd) (by rw [hR, laL_in h0 c_9]; simp [nsP, c_9, c_21])
        · refine j_aload_n hC 1 25 rfl d_C_newestStoreBefore_24 rfl rfl ?_
          refine g_C_ops hC 28 rfl d_C_newestStoreBefore_25 ?_
          refine j_iload_n hC 0 29 rfl d_C_newestStoreBefore_28 rfl rfl ?_
          refine j_iload_n hC 3 30 rfl d_C_newestStoreBefore_29 rfl rfl ?_
          refine j_callVi hC jE_loc jT_good (As := [_, _]) c_O_covers yk_O_covers lk_C_231 ⟨rfl, rfl⟩ ⟨Nat.le_of_ble_eq_true rfl, Nat.le_of_ble_eq_true rfl⟩ 1 rfl rfl rfl rfl (Nat.le_of_ble_eq_true rfl) ⟨Nat.zero_le _, Nat.zero_le _⟩ d_C_newestStoreBefore_30 33 rfl rfl ?_
          refine j_if_eq hC 38 36 rfl d_C_newestStoreBefore_33 (by decide) (fun c_33 => ?_) (fun c_33 => ?_)
          · refine j_iinc (lv' := [(3, _), (0, _), (1, _), (2, _)]) hC 0 41 rfl d_C_newestStoreBefore_38 rfl (dec1 _) (by decide) rfl ?_
            refine j_goto hC 4 d_C_newestStoreBefore_41 (by decide) ?_
            exact ih _ (dnst_lt h0 c_9 hd) (by rw [hR, laL_in h0 c_9]; simp [nsP, c_9, c_21, bI0 c_33])
          · refine j_iload_n hC 0 37 rfl d_C_newestStoreBefore_36 rfl rfl ?_
            exact j_iret hC hr hlk d_C_newestStoreBefore_37 (by rw [hR, laL_in h0 c_9]; simp [nsP, c_9, c_21, bI1 c_33]) rfl
  refine j_iload_n hC 1 1 rfl d_C_newestStoreBefore_0 rfl rfl ?_
  refine j_iconst (v := 1) hC 2 rfl d_C_newestStoreBefore_1 (by decide) ?_
  refine j_isub hC 3 rfl d_C_newestStoreBefore_2 ?_
  refine j_istore_n (lv' := [(3, _), (0, _), (1, _), (2, _)]) hC 4 rfl d_C_newestStoreBefore_3 rfl (by decide) rfl ?_
  exact loop _ _ (Nat.lt_succ_self _) rfl
set_option maxHeartbeats 4000000 in
set_option maxRecDepth 100000 in
theorem c_C_storeWithoutNumberFor {load : Int32} (h0 : 0 ≤ σ 1 0) : kM l dC dI cI cZ cB cJ y_C_storeWithoutNumberFor b_C_storeWithoutNumberFor 5 (some .boolean) 3 67 [.ref (ad 0), .int load] (wC ad cI cZ cB σ β mk ρ) (some (.int (bI (exL (nnP σ β load) 0 (σ 11 (ix load)))))) (wC ad cI cZ cB σ β mk ρ) := by
  refine jM.of (lv := [(0, .ref (ad 0)), (1, .int load)]) (own := R_C) jE_loc (by decide) rfl rfl (Nat.le_of_ble_eq_true rfl) rfl ?_
  intro p e s m args below meth c A hC hr hlk
  have loop : ∀ (n : Nat) (i : Int32), dist i (σ 11 (ix load)) < n → exL (nnP σ β load) 0 (σ 11 (ix load)) = exL (nnP σ β load) i (σ 11 (ix load)) → kJ l dC dI p e s m args below meth c A 3 67 5 (some (.int (bI (exL (nnP σ β load) 0 (σ 11 (ix load)))))) (wC ad cI cZ cB σ β mk ρ) (wC ad cI cZ cB σ β mk ρ) 11 [(3, .int i), (2, .int (σ 13 (ix load))), (0, .ref (ad 0)), (1, .int load)] [] := by
    intro n
    induction n with
    | zero => intro i hd hR; exact absurd hd (Nat.not_lt_zero _)
    | succ n ih =>
      intro i hd hR
      refine j_iload_n hC 0 12 rfl d_C_storeWithoutNumberFor_11 rfl rfl ?_
      refine j_aload_n hC 2 13 rfl d_C_storeWithoutNumberFor_12 rfl rfl ?_
      refine g_C_ops hC 16 rfl d_C_storeWithoutNumberFor_13 ?_
      refine j_iload_n hC 3 17 rfl d_C_storeWithoutNumberFor_16 rfl rfl ?_
      refine j_callVi hC jE_loc jT_good (As := [_]) c_O_bytesOf yk_O_bytesOf lk_C_94 ⟨rfl, rfl⟩ ⟨Nat.le_of_ble_eq_true rfl, Nat.le_of_ble_eq_true rfl⟩ 1 rfl rfl rfl rfl (Nat.le_of_ble_eq_true rfl) ⟨Nat.zero_le _, Nat.zero_le _⟩ d_C_storeWithoutNumberFor_17 20 rfl rfl ?_
      refine j_icmp_ge hC 59 23 rfl d_C_storeWithoutNumberFor_20 (by decide) (fun c_20 => ?_) (fun c_20 => ?_)
      · refine j_iconst (v := 0) hC 60 rfl d_C_storeWithoutNumberFor_59 (by decide) ?_
        exact j_zret hC hr hlk d_C_storeWithoutNumberFor_60 (by rw [hR, exL_out c_20]; rfl) rfl
      · refine j_aload_n hC 2 24 rfl d_C_storeWithoutNumberFor_23 rfl rfl ?_
        refine j_iload_n hC 3 25 rfl d_C_storeWithoutNumberFor_24 rfl rfl ?_
        refine j_iload_n hC 1 26 rfl d_C_storeWithoutNumberFor_25 rfl rfl ?_
        refine j_iload_n hC 0 27 rfl d_C_storeWithoutNumberFor_26 rfl rfl ?_
        refine j_iadd hC 28 rfl d_C_storeWithoutNumberFor_27 ?_
        refine j_callVi hC jE_loc jT_good (As := [_, _]) (c_C_newestStoreBefore h0) yk_C_newestStoreBefore lk_C_228 ⟨rfl, rfl⟩ ⟨Nat.le_of_ble_eq_true rfl, Nat.le_of_ble_eq_true rfl⟩ 0 rfl rfl rfl rfl (Nat.le_of_ble_eq_true rfl) ⟨Nat.zero_le _, Nat.zero_le _⟩ d_C_storeWithoutNumberFor_28 31 rfl rfl ?_
        refine j_istore (lv' := [(4, _), (3, _), (2, _), (0, _), (1, _)]) hC 33 rfl d_C_storeWithoutNumberFor_31 (by decide) rfl ?_
        refine j_iload hC 0 35 rfl d_C_storeWithoutNumberFor_33 rfl ?_
        refine j_iconst (v := (-1)) hC 36 rfl d_C_storeWithoutNumberFor_35 (by decide) ?_
        refine j_icmp_eq hC 53 39 rfl d_C_storeWithoutNumberFor_36 (by decide) (fun c_36 => ?_) (fun c_36 => ?_)
        · refine j_iinc (lv' := [(3, _), (4, _), (2, _), (0, _), (1, _)]) hC 1 56 rfl d_C_storeWithoutNumberFor_53 rfl (inc1 _) (by decide) rfl ?_
          refine j_goto hC 11 d_C_storeWithoutNumberFor_56 (by decide) ?_
          refine j_sub (lv' := [(3, _), (2, _), (0, _), (1, _)]) [0, 2, 3, 4] rfl ?_
          exact ih _ (dist_lt c_20 hd) (by rw [hR, exL_in c_20]; simp [nnP, c_20, c_36])
        · refine j_aload_n hC 3 40 rfl d_C_storeWithoutNumberFor_39 rfl rfl ?_
          refine g_C_ops hC 43 rfl d_C_storeWithoutNumberFor_40 ?_
          refine j_iload hC 0 45 rfl d_C_storeWithoutNumberFor_43 rfl ?_
          refine j_callVi hC jE_loc jT_good (As := [_]) c_O_hasNumber yk_O_hasNumber lk_C_121 ⟨rfl, rfl⟩ ⟨Nat.le_of_ble_eq_true rfl, Nat.le_of_ble_eq_true rfl⟩ 1 rfl rfl rfl rfl (Nat.le_of_ble_eq_true rfl) ⟨Nat.zero_le _, Nat.zero_le _⟩ d_C_storeWithoutNumberFor_45 48 rfl rfl ?_
          refine j_if_ne hC 53 51 rfl d_C_storeWithoutNumberFor_48 (by decide) (fun c_48 => ?_) (fun c_48 => ?_)
          · refine j_iinc (lv' := [(3, _), (4, _), (2, _), (0, _), (1, _)]) hC 1 56 rfl d_C_storeWithoutNumberFor_53 rfl (inc1 _) (by decide) rfl ?_
            refine j_goto hC 11 d_C_storeWithoutNumberFor_56 (by decide) ?_
            refine j_sub (lv' := [(3, _), (2, _), (0, _), (1, _)]) [0, 2, 3, 4] rfl ?_
            exact ih _ (dist_lt c_20 hd) (by rw [hR, exL_in c_20]; simp [nnP, c_20, c_36, bI1 c_48])
          · refine j_iconst (v := 1) hC 52 rfl d_C_storeWithoutNumberFor_51 (by decide) ?_
            exact j_zret hC hr hlk d_C_storeWithoutNumberFor_52 (by rw [hR, exL_in c_20]; simp [bI, nnP, c_20, c_36, bI0 c_48]) rfl
  refine j_aload_n hC 0 1 rfl d_C_storeWithoutNumberFor_0 rfl rfl ?_
  refine g_C_ops hC 4 rfl d_C_storeWithoutNumberFor_1 ?_
  refine j_iload_n hC 1 5 rfl d_C_storeWithoutNumberFor_4 rfl rfl ?_
  refine j_callVi hC jE_loc jT_good (As := [_]) c_O_addressOf yk_O_addressOf lk_C_225 ⟨rfl, rfl⟩ ⟨Nat.le_of_ble_eq_true rfl, Nat.le_of_ble_eq_true rfl⟩ 1 rfl rfl rfl rfl (Nat.le_of_ble_eq_true rfl) ⟨Nat.zero_le _, Nat.zero_le _⟩ d_C_storeWithoutNumberFor_5 8 rfl rfl ?_
  refine j_istore_n (lv' := [(2, _), (0, _), (1, _)]) hC 9 rfl d_C_storeWithoutNumberFor_8 rfl (by decide) rfl ?_
  refine j_iconst (v := 0) hC 10 rfl d_C_storeWithoutNumberFor_9 (by decide) ?_
  refine j_istore_n (lv' := [(3, _), (2, _), (0, _), (1, _)]) hC 11 rfl d_C_storeWithoutNumberFor_10 rfl (by decide) rfl ?_
  exact loop _ _ (Nat.lt_succ_self _) rfl
set_option maxHeartbeats 4000000 in
set_option maxRecDepth 100000 in
theorem c_C_takeByte {load k at0 : Int32} (h0 : 0 ≤ σ 1 0) : kM l dC dI cI cZ cB cJ y_C_takeByte b_C_takeByte 6 (some .int) 3 67 [.ref (ad 0), .int load, .int k, .int at0] (wC ad cI cZ cB σ β mk ρ) (some (.int (tkB σ β load at0))) (wC ad cI cZ cB (tkS σ β load k at0) β mk ρ) := by
  refine jM.of (lv := [(0, .ref (ad 0)), (1, .int load), (2, .int k), (3, .int at0)]) (own := R_C) jE_loc (by decide) rfl rfl (Nat.le_of_ble_eq_true rfl) rfl ?_
  intro p e s m args below meth c A hC hr hlk
  refine j_aload_n hC 0 1 rfl d_C_takeByte_0 rfl rfl ?_
  refine j_iload_n hC 1 2 rfl d_C_takeByte_1 rfl rfl ?_
  refine j_iload_n hC 3 3 rfl d_C_takeByte_2 rfl rfl ?_
  refine j_callVi hC jE_loc jT_good (As := [_, _]) (c_C_newestStoreBefore h0) yk_C_newestStoreBefore lk_C_228 ⟨rfl, rfl⟩ ⟨Nat.le_of_ble_eq_true rfl, Nat.le_of_ble_eq_true rfl⟩ 0 rfl rfl rfl rfl (Nat.le_of_ble_eq_true rfl) ⟨Nat.zero_le _, Nat.zero_le _⟩ d_C_takeByte_3 6 rfl rfl ?_
  refine j_istore (lv' := [(4, _), (0, _), (1, _), (2, _), (3, _)]) hC 8 rfl d_C_takeByte_6 (by decide) rfl ?_
  refine j_iload hC 0 10 rfl d_C_takeByte_8 rfl ?_
  refine j_iconst (v := (-1)) hC 11 rfl d_C_takeByte_10 (by decide) ?_
  refine j_icmp_eq hC 46 14 rfl d_C_takeByte_11 (by decide) (fun c_11 => ?_) (fun c_11 => ?_)
  · refine j_aload_n hC 1 47 rfl d_C_takeByte_46 rfl rfl ?_
    refine j_dup hC 48 rfl d_C_takeByte_47 rfl ?_
    refine g_C_bytesFromElsewhere hC 51 rfl d_C_takeByte_48 ?_
    refine j_iconst (v := 1) hC 52 rfl d_C_takeByte_51 (by decide) ?_
    refine j_iadd hC 53 rfl d_C_takeByte_52 ?_
    refine p_C_bytesFromElsewhere hC 56 rfl d_C_takeByte_53 ?_
    refine j_aload_n hC 1 57 rfl d_C_takeByte_56 rfl rfl ?_
    refine g_C_buffer hC 60 rfl d_C_takeByte_57 ?_
    refine j_iload_n hC 4 61 rfl d_C_takeByte_60 rfl rfl ?_
    refine j_callVi hC jE_loc jT_good (As := [_]) c_B_byteAt yk_B_byteAt lk_C_251 ⟨rfl, rfl⟩ ⟨Nat.le_of_ble_eq_true rfl, Nat.le_of_ble_eq_true rfl⟩ 2 rfl rfl rfl rfl (Nat.le_of_ble_eq_true rfl) ⟨Nat.zero_le _, Nat.zero_le _⟩ d_C_takeByte_61 64 rfl rfl ?_
    refine j_eqi bbL_5 ?_
    refine j_istore (lv' := [(5, _), (4, _), (0, _), (1, _), (2, _), (3, _)]) hC 66 rfl d_C_takeByte_64 (by decide) rfl ?_
    refine j_iload hC 0 68 rfl d_C_takeByte_66 rfl ?_
    refine j_iconst (v := (-1)) hC 69 rfl d_C_takeByte_68 (by decide) ?_
    refine j_icmp_eq hC 86 72 rfl d_C_takeByte_69 (by decide) (fun c_69 => ?_) (fun c_69 => ?_)
    · refine j_aload_n hC 2 87 rfl d_C_takeByte_86 rfl rfl ?_
      refine g_C_ops hC 90 rfl d_C_takeByte_87 ?_
      refine j_iload_n hC 3 91 rfl d_C_takeByte_90 rfl rfl ?_
      refine j_iload_n hC 4 92 rfl d_C_takeByte_91 rfl rfl ?_
      refine j_iconst (v := (-1)) hC 93 rfl d_C_takeByte_92 (by decide) ?_
      refine j_callVv hC jE_loc jT_good (As := [_, _, _]) c_O_setSource yk_O_setSource lk_C_245 ⟨rfl, rfl⟩ ⟨Nat.le_of_ble_eq_true rfl, Nat.le_of_ble_eq_true rfl⟩ 1 rfl rfl rfl rfl (Nat.le_of_ble_eq_true rfl) ⟨Nat.zero_le _, Nat.zero_le _⟩ d_C_takeByte_93 96 rfl rfl ?_
      refine j_aload_n hC 2 97 rfl d_C_takeByte_96 rfl rfl ?_
      refine g_C_mainMemory hC 100 rfl d_C_takeByte_97 ?_
      refine j_iload_n hC 5 101 rfl d_C_takeByte_100 rfl rfl ?_
      refine j_callVi hC jE_loc jT_good (As := [_]) c_Y_byteAt yk_Y_byteAt lk_C_200 ⟨rfl, rfl⟩ ⟨Nat.le_of_ble_eq_true rfl, Nat.le_of_ble_eq_true rfl⟩ 3 rfl rfl rfl rfl (Nat.le_of_ble_eq_true rfl) ⟨Nat.zero_le _, Nat.zero_le _⟩ d_C_takeByte_101 104 rfl rfl ?_
      exact j_iret hC hr hlk d_C_takeByte_104 (by simp [tkB, c_11, c_69] <;> rfl) (by simp only [tkS, c_11, c_69, reduceIte] <;> rfl)
    · refine j_aload_n hC 2 73 rfl d_C_takeByte_72 rfl rfl ?_
      refine g_C_ops hC 76 rfl d_C_takeByte_73 ?_
      refine j_iload_n hC 3 77 rfl d_C_takeByte_76 rfl rfl ?_
      refine j_iload_n hC 4 78 rfl d_C_takeByte_77 rfl rfl ?_
      refine j_bipush (v := (-2)) hC 80 rfl d_C_takeByte_78 (by decide) ?_
      refine j_callVv hC jE_loc jT_good (As := [_, _, _]) c_O_setSource yk_O_setSource lk_C_245 ⟨rfl, rfl⟩ ⟨Nat.le_of_ble_eq_true rfl, Nat.le_of_ble_eq_true rfl⟩ 1 rfl rfl rfl rfl (Nat.le_of_ble_eq_true rfl) ⟨Nat.zero_le _, Nat.zero_le _⟩ d_C_takeByte_80 83 rfl rfl ?_
      refine j_iload hC 0 85 rfl d_C_takeByte_83 rfl ?_
      exact j_iret hC hr hlk d_C_takeByte_85 (by simp [tkB, c_11, c_69] <;> rfl) (by simp only [tkS, c_11, c_69, reduceIte] <;> rfl)
  · refine j_aload_n hC 1 15 rfl d_C_takeByte_14 rfl rfl ?_
    refine g_C_ops hC 18 rfl d_C_takeByte_15 ?_
    refine j_iload_n hC 2 19 rfl d_C_takeByte_18 rfl rfl ?_
    refine j_iload_n hC 3 20 rfl d_C_takeByte_19 rfl rfl ?_
    refine j_iload hC 0 22 rfl d_C_takeByte_20 rfl ?_
    refine j_callVv hC jE_loc jT_good (As := [_, _, _]) c_O_setSource yk_O_setSource lk_C_245 ⟨rfl, rfl⟩ ⟨Nat.le_of_ble_eq_true rfl, Nat.le_of_ble_eq_true rfl⟩ 1 rfl rfl rfl rfl (Nat.le_of_ble_eq_true rfl) ⟨Nat.zero_le _, Nat.zero_le _⟩ d_C_takeByte_22 25 rfl rfl ?_
    refine j_aload_n hC 1 26 rfl d_C_takeByte_25 rfl rfl ?_
    refine j_dup hC 27 rfl d_C_takeByte_26 rfl ?_
    refine g_C_bytesFromStores hC 30 rfl d_C_takeByte_27 ?_
    refine j_iconst (v := 1) hC 31 rfl d_C_takeByte_30 (by decide) ?_
    refine j_iadd hC 32 rfl d_C_takeByte_31 ?_
    refine p_C_bytesFromStores hC 35 rfl d_C_takeByte_32 ?_
    refine j_aload_n hC 1 36 rfl d_C_takeByte_35 rfl rfl ?_
    refine g_C_ops hC 39 rfl d_C_takeByte_36 ?_
    refine j_iload hC 0 41 rfl d_C_takeByte_39 rfl ?_
    refine j_iload_n hC 4 42 rfl d_C_takeByte_41 rfl rfl ?_
    refine j_callVi hC jE_loc jT_good (As := [_, _]) c_O_byteAt yk_O_byteAt lk_C_249 ⟨rfl, rfl⟩ ⟨Nat.le_of_ble_eq_true rfl, Nat.le_of_ble_eq_true rfl⟩ 1 rfl rfl rfl rfl (Nat.le_of_ble_eq_true rfl) ⟨Nat.zero_le _, Nat.zero_le _⟩ d_C_takeByte_42 45 rfl rfl ?_
    exact j_iret hC hr hlk d_C_takeByte_45 (by simp [tkB, c_11] <;> rfl) (by simp only [tkS, c_11, reduceIte] <;> rfl)
set_option maxHeartbeats 4000000 in
set_option maxRecDepth 100000 in
theorem c_C_doLoad {load : Int32} (h0 : 0 ≤ σ 1 0) : kM l dC dI cI cZ cB cJ y_C_doLoad b_C_doLoad 5 none 4 92 [.ref (ad 0), .int load] (wC ad cI cZ cB σ β mk ρ) none (wC ad cI cZ cB (dlS σ β load) (bA β 2 (ix load) true) mk ρ) := by
  refine jM.of (lv := [(0, .ref (ad 0)), (1, .int load)]) (own := R_C) jE_loc (by decide) rfl rfl (Nat.le_of_ble_eq_true rfl) rfl ?_
  intro p e s m args below meth c A hC hr hlk
  have loop : ∀ (n : Nat) (k x : Int32) (τ : S2), 0 ≤ τ 1 0 → τ 11 (ix load) = σ 11 (ix load) → dist k (σ 11 (ix load)) < n → dlL β load (σ 13 (ix load)) (σ 11 (ix load)) k x τ = dlL β load (σ 13 (ix load)) (σ 11 (ix load)) 0 0 σ → kJ l dC dI p e s m args below meth c A 4 92 5 none (wC ad cI cZ cB (dlS σ β load) (bA β 2 (ix load) true) mk ρ) (wC ad cI cZ cB τ β mk ρ) 14 [(4, .int k), (3, .int x), (2, .int (σ 13 (ix load))), (0, .ref (ad 0)), (1, .int load)] [] := by
    intro n
    induction n with
    | zero => intro k x τ hτ h11 hd hR; exact absurd hd (Nat.not_lt_zero _)
    | succ n ih =>
      intro k x τ hτ h11 hd hR
      refine j_iload hC 0 16 rfl d_C_doLoad_14 rfl ?_
      refine j_aload_n hC 3 17 rfl d_C_doLoad_16 rfl rfl ?_
      refine g_C_ops hC 20 rfl d_C_doLoad_17 ?_
      refine j_iload_n hC 4 21 rfl d_C_doLoad_20 rfl rfl ?_
      refine j_callVi hC jE_loc jT_good (As := [_]) c_O_bytesOf yk_O_bytesOf lk_C_94 ⟨rfl, rfl⟩ ⟨Nat.le_of_ble_eq_true rfl, Nat.le_of_ble_eq_true rfl⟩ 1 rfl rfl rfl rfl (Nat.le_of_ble_eq_true rfl) ⟨Nat.zero_le _, Nat.zero_le _⟩ d_C_doLoad_21 24 rfl rfl ?_
      refine j_eqi h11 ?_
      refine j_icmp_ge hC 50 27 rfl d_C_doLoad_24 (by decide) (fun c_24 => ?_) (fun c_24 => ?_)
      · refine j_aload_n hC 3 51 rfl d_C_doLoad_50 rfl rfl ?_
        refine g_C_ops hC 54 rfl d_C_doLoad_51 ?_
        refine j_iload_n hC 4 55 rfl d_C_doLoad_54 rfl rfl ?_
        refine j_iload_n hC 1 56 rfl d_C_doLoad_55 rfl rfl ?_
        refine j_callVv hC jE_loc jT_good (As := [_, _]) c_O_setLoaded yk_O_setLoaded lk_C_238 ⟨rfl, rfl⟩ ⟨Nat.le_of_ble_eq_true rfl, Nat.le_of_ble_eq_true rfl⟩ 1 rfl rfl rfl rfl (Nat.le_of_ble_eq_true rfl) ⟨Nat.zero_le _, Nat.zero_le _⟩ d_C_doLoad_56 59 rfl rfl ?_
        refine j_aload_n hC 3 60 rfl d_C_doLoad_59 rfl rfl ?_
        refine g_C_ops hC 63 rfl d_C_doLoad_60 ?_
        refine j_iload_n hC 4 64 rfl d_C_doLoad_63 rfl rfl ?_
        refine j_iconst (v := 1) hC 65 rfl d_C_doLoad_64 (by decide) ?_
        refine j_callVv hC jE_loc jT_good (As := [_, _]) (c_O_setDone (b := true)) yk_O_setDone lk_C_241 ⟨rfl, rfl⟩ ⟨Nat.le_of_ble_eq_true rfl, Nat.le_of_ble_eq_true rfl⟩ 1 rfl rfl rfl rfl (Nat.le_of_ble_eq_true rfl) ⟨Nat.zero_le _, Nat.zero_le _⟩ d_C_doLoad_65 68 rfl rfl ?_
        exact j_vret hC hr hlk d_C_doLoad_68 (by rw [dlS, ← hR, dlL_out c_24] <;> rfl)
      · refine j_iload_n hC 1 28 rfl d_C_doLoad_27 rfl rfl ?_
        refine j_bipush (v := 8) hC 30 rfl d_C_doLoad_28 (by decide) ?_
        refine j_ishl hC 31 rfl d_C_doLoad_30 ?_
        refine j_aload_n hC 3 32 rfl d_C_doLoad_31 rfl rfl ?_
        refine j_iload_n hC 4 33 rfl d_C_doLoad_32 rfl rfl ?_
        refine j_iload hC 0 35 rfl d_C_doLoad_33 rfl ?_
        refine j_iload_n hC 2 36 rfl d_C_doLoad_35 rfl rfl ?_
        refine j_iload hC 0 38 rfl d_C_doLoad_36 rfl ?_
        refine j_iadd hC 39 rfl d_C_doLoad_38 ?_
        refine j_callVi hC jE_loc jT_good (As := [_, _, _]) (c_C_takeByte hτ) yk_C_takeByte lk_C_234 ⟨rfl, rfl⟩ ⟨Nat.le_of_ble_eq_true rfl, Nat.le_of_ble_eq_true rfl⟩ 0 rfl rfl rfl rfl (Nat.le_of_ble_eq_true rfl) ⟨Nat.zero_le _, Nat.zero_le _⟩ d_C_doLoad_39 42 rfl rfl ?_
        refine j_ior hC 43 rfl d_C_doLoad_42 ?_
        refine j_istore_n (lv' := [(3, _), (4, _), (2, _), (0, _), (1, _)]) hC 44 rfl d_C_doLoad_43 rfl (by decide) rfl ?_
        refine j_iinc (lv' := [(4, _), (3, _), (2, _), (0, _), (1, _)]) hC 1 47 rfl d_C_doLoad_44 rfl (inc1 _) (by decide) rfl ?_
        refine j_goto hC 14 d_C_doLoad_47 (by decide) ?_
        exact ih _ _ _ (by rw [tkS_1]; exact hτ) (by rw [tkS_11]; exact h11) (dist_lt c_24 hd) (by rw [← hR, dlL_in c_24])
  refine j_aload_n hC 0 1 rfl d_C_doLoad_0 rfl rfl ?_
  refine g_C_ops hC 4 rfl d_C_doLoad_1 ?_
  refine j_iload_n hC 1 5 rfl d_C_doLoad_4 rfl rfl ?_
  refine j_callVi hC jE_loc jT_good (As := [_]) c_O_addressOf yk_O_addressOf lk_C_225 ⟨rfl, rfl⟩ ⟨Nat.le_of_ble_eq_true rfl, Nat.le_of_ble_eq_true rfl⟩ 1 rfl rfl rfl rfl (Nat.le_of_ble_eq_true rfl) ⟨Nat.zero_le _, Nat.zero_le _⟩ d_C_doLoad_5 8 rfl rfl ?_
  refine j_istore_n (lv' := [(2, _), (0, _), (1, _)]) hC 9 rfl d_C_doLoad_8 rfl (by decide) rfl ?_
  refine j_iconst (v := 0) hC 10 rfl d_C_doLoad_9 (by decide) ?_
  refine j_istore_n (lv' := [(3, _), (2, _), (0, _), (1, _)]) hC 11 rfl d_C_doLoad_10 rfl (by decide) rfl ?_
  refine j_iconst (v := 0) hC 12 rfl d_C_doLoad_11 (by decide) ?_
  refine j_istore (lv' := [(4, _), (3, _), (2, _), (0, _), (1, _)]) hC 14 rfl d_C_doLoad_12 (by decide) rfl ?_
  exact loop _ 0 0 _ h0 rfl (Nat.lt_succ_self _) rfl
set_option maxHeartbeats 4000000 in
set_option maxRecDepth 100000 in
theorem c_C_missedByteOf {load st : Int32}  : kM l dC dI cI cZ cB cJ y_C_missedByteOf b_C_missedByteOf 5 (some .boolean) 2 44 [.ref (ad 0), .int load, .int st] (wC ad cI cZ cB σ β mk ρ) (some (.int (bI (mbC σ β load st)))) (wC ad cI cZ cB σ β mk ρ) := by
  refine jM.of (lv := [(0, .ref (ad 0)), (1, .int load), (2, .int st)]) (own := R_C) jE_loc (by decide) rfl rfl (Nat.le_of_ble_eq_true rfl) rfl ?_
  intro p e s m args below meth c A hC hr hlk
  have loop : ∀ (n : Nat) (i : Int32), dist i (σ 11 (ix load)) < n → mbC σ β load st = exL (mbP σ β load st) i (σ 11 (ix load)) → kJ l dC dI p e s m args below meth c A 2 44 5 (some (.int (bI (mbC σ β load st)))) (wC ad cI cZ cB σ β mk ρ) (wC ad cI cZ cB σ β mk ρ) 12 [(4, .int i), (3, .int (σ 13 (ix load))), (0, .ref (ad 0)), (1, .int load), (2, .int st)] [] := by
    intro n
    induction n with
    | zero => intro i hd hR; exact absurd hd (Nat.not_lt_zero _)
    | succ n ih =>
      intro i hd hR
      refine j_iload hC 0 14 rfl d_C_missedByteOf_12 rfl ?_
      refine j_aload_n hC 2 15 rfl d_C_missedByteOf_14 rfl rfl ?_
      refine g_C_ops hC 18 rfl d_C_missedByteOf_15 ?_
      refine j_iload_n hC 3 19 rfl d_C_missedByteOf_18 rfl rfl ?_
      refine j_callVi hC jE_loc jT_good (As := [_]) c_O_bytesOf yk_O_bytesOf lk_C_94 ⟨rfl, rfl⟩ ⟨Nat.le_of_ble_eq_true rfl, Nat.le_of_ble_eq_true rfl⟩ 1 rfl rfl rfl rfl (Nat.le_of_ble_eq_true rfl) ⟨Nat.zero_le _, Nat.zero_le _⟩ d_C_missedByteOf_19 22 rfl rfl ?_
      refine j_icmp_ge hC 62 25 rfl d_C_missedByteOf_22 (by decide) (fun c_22 => ?_) (fun c_22 => ?_)
      · refine j_iconst (v := 0) hC 63 rfl d_C_missedByteOf_62 (by decide) ?_
        exact j_zret hC hr hlk d_C_missedByteOf_63 (by rw [hR, exL_out c_22]; rfl) rfl
      · refine j_aload_n hC 2 26 rfl d_C_missedByteOf_25 rfl rfl ?_
        refine g_C_ops hC 29 rfl d_C_missedByteOf_26 ?_
        refine j_iload_n hC 4 30 rfl d_C_missedByteOf_29 rfl rfl ?_
        refine j_iload_n hC 1 31 rfl d_C_missedByteOf_30 rfl rfl ?_
        refine j_iload hC 0 33 rfl d_C_missedByteOf_31 rfl ?_
        refine j_iadd hC 34 rfl d_C_missedByteOf_33 ?_
        refine j_callVi hC jE_loc jT_good (As := [_, _]) c_O_covers yk_O_covers lk_C_231 ⟨rfl, rfl⟩ ⟨Nat.le_of_ble_eq_true rfl, Nat.le_of_ble_eq_true rfl⟩ 1 rfl rfl rfl rfl (Nat.le_of_ble_eq_true rfl) ⟨Nat.zero_le _, Nat.zero_le _⟩ d_C_missedByteOf_34 37 rfl rfl ?_
        refine j_if_eq hC 56 40 rfl d_C_missedByteOf_37 (by decide) (fun c_37 => ?_) (fun c_37 => ?_)
        · refine j_iinc (lv' := [(4, _), (3, _), (0, _), (1, _), (2, _)]) hC 0 59 rfl d_C_missedByteOf_56 rfl (inc1 _) (by decide) rfl ?_
          refine j_goto hC 12 d_C_missedByteOf_59 (by decide) ?_
          exact ih _ (dist_lt c_22 hd) (by rw [hR, exL_in c_22]; simp [mbP, c_22, bI0 c_37])
        · refine j_aload_n hC 2 41 rfl d_C_missedByteOf_40 rfl rfl ?_
          refine g_C_ops hC 44 rfl d_C_missedByteOf_41 ?_
          refine j_iload_n hC 3 45 rfl d_C_missedByteOf_44 rfl rfl ?_
          refine j_iload hC 0 47 rfl d_C_missedByteOf_45 rfl ?_
          refine j_callVi hC jE_loc jT_good (As := [_, _]) c_O_sourceOf yk_O_sourceOf lk_C_166 ⟨rfl, rfl⟩ ⟨Nat.le_of_ble_eq_true rfl, Nat.le_of_ble_eq_true rfl⟩ 1 rfl rfl rfl rfl (Nat.le_of_ble_eq_true rfl) ⟨Nat.zero_le _, Nat.zero_le _⟩ d_C_missedByteOf_47 50 rfl rfl ?_
          refine j_iload_n hC 4 51 rfl d_C_missedByteOf_50 rfl rfl ?_
          refine j_icmp_ge hC 56 54 rfl d_C_missedByteOf_51 (by decide) (fun c_51 => ?_) (fun c_51 => ?_)
          · refine j_iinc (lv' := [(4, _), (3, _), (0, _), (1, _), (2, _)]) hC 0 59 rfl d_C_missedByteOf_56 rfl (inc1 _) (by decide) rfl ?_
            refine j_goto hC 12 d_C_missedByteOf_59 (by decide) ?_
            exact ih _ (dist_lt c_22 hd) (by rw [hR, exL_in c_22]; simp [mbP, c_22, bI1 c_37, c_51])
          · refine j_iconst (v := 1) hC 55 rfl d_C_missedByteOf_54 (by decide) ?_
            exact j_zret hC hr hlk d_C_missedByteOf_55 (by rw [hR, exL_in c_22]; simp [bI, mbP, c_22, bI1 c_37, c_51]) rfl
  refine j_aload_n hC 0 1 rfl d_C_missedByteOf_0 rfl rfl ?_
  refine g_C_ops hC 4 rfl d_C_missedByteOf_1 ?_
  refine j_iload_n hC 1 5 rfl d_C_missedByteOf_4 rfl rfl ?_
  refine j_callVi hC jE_loc jT_good (As := [_]) c_O_addressOf yk_O_addressOf lk_C_225 ⟨rfl, rfl⟩ ⟨Nat.le_of_ble_eq_true rfl, Nat.le_of_ble_eq_true rfl⟩ 1 rfl rfl rfl rfl (Nat.le_of_ble_eq_true rfl) ⟨Nat.zero_le _, Nat.zero_le _⟩ d_C_missedByteOf_5 8 rfl rfl ?_
  refine j_istore_n (lv' := [(3, _), (0, _), (1, _), (2, _)]) hC 9 rfl d_C_missedByteOf_8 rfl (by decide) rfl ?_
  refine j_iconst (v := 0) hC 10 rfl d_C_missedByteOf_9 (by decide) ?_
  refine j_istore (lv' := [(4, _), (3, _), (0, _), (1, _), (2, _)]) hC 12 rfl d_C_missedByteOf_10 (by decide) rfl ?_
  exact loop _ _ (Nat.lt_succ_self _) rfl
set_option maxHeartbeats 4000000 in
set_option maxRecDepth 100000 in
theorem c_C_oldestLoadPast {st : Int32}  : kM l dC dI cI cZ cB cJ y_C_oldestLoadPast b_C_oldestLoadPast 3 (some .int) 3 68 [.ref (ad 0), .int st] (wC ad cI cZ cB σ β mk ρ) (some (.int (frL (lpP σ β st) (st + 1) (σ 0 0)))) (wC ad cI cZ cB σ β mk ρ) := by
  refine jM.of (lv := [(0, .ref (ad 0)), (1, .int st)]) (own := R_C) jE_loc (by decide) rfl rfl (Nat.le_of_ble_eq_true rfl) rfl ?_
  intro p e s m args below meth c A hC hr hlk
  have loop : ∀ (n : Nat) (i : Int32), dist i (σ 0 0) < n → frL (lpP σ β st) (st + 1) (σ 0 0) = frL (lpP σ β st) i (σ 0 0) → kJ l dC dI p e s m args below meth c A 3 68 3 (some (.int (frL (lpP σ β st) (st + 1) (σ 0 0)))) (wC ad cI cZ cB σ β mk ρ) (wC ad cI cZ cB σ β mk ρ) 4 [(2, .int i), (0, .ref (ad 0)), (1, .int st)] [] := by
    intro n
    induction n with
    | zero => intro i hd hR; exact absurd hd (Nat.not_lt_zero _)
    | succ n ih =>
      intro i hd hR
      refine j_iload_n hC 0 5 rfl d_C_oldestLoadPast_4 rfl rfl ?_
      refine j_aload_n hC 1 6 rfl d_C_oldestLoadPast_5 rfl rfl ?_
      refine g_C_nextOp hC 9 rfl d_C_oldestLoadPast_6 ?_
      refine j_icmp_ge hC 40 12 rfl d_C_oldestLoadPast_9 (by decide) (fun c_9 => ?_) (fun c_9 => ?_)
      · refine j_iconst (v := (-1)) hC 41 rfl d_C_oldestLoadPast_40 (by decide) ?_
        exact j_iret hC hr hlk d_C_oldestLoadPast_41 (by rw [hR, frL_out c_9]) rfl
      · refine j_aload_n hC 1 13 rfl d_C_oldestLoadPast_12 rfl rfl ?_
        refine g_C_ops hC 16 rfl d_C_oldestLoadPast_13 ?_
        refine j_iload_n hC 0 17 rfl d_C_oldestLoadPast_16 rfl rfl ?_
        refine j_callVi hC jE_loc jT_good (As := [_]) c_O_isDone yk_O_isDone lk_C_129 ⟨rfl, rfl⟩ ⟨Nat.le_of_ble_eq_true rfl, Nat.le_of_ble_eq_true rfl⟩ 1 rfl rfl rfl rfl (Nat.le_of_ble_eq_true rfl) ⟨Nat.zero_le _, Nat.zero_le _⟩ d_C_oldestLoadPast_17 20 rfl rfl ?_
        refine j_if_eq hC 34 23 rfl d_C_oldestLoadPast_20 (by decide) (fun c_20 => ?_) (fun c_20 => ?_)
        · refine j_iinc (lv' := [(2, _), (0, _), (1, _)]) hC 0 37 rfl d_C_oldestLoadPast_34 rfl (inc1 _) (by decide) rfl ?_
          refine j_goto hC 4 d_C_oldestLoadPast_37 (by decide) ?_
          exact ih _ (dist_lt c_9 hd) (by rw [hR, frL_in c_9]; simp [lpP, c_9, bI0 c_20])
        · refine j_aload_n hC 1 24 rfl d_C_oldestLoadPast_23 rfl rfl ?_
          refine j_iload_n hC 0 25 rfl d_C_oldestLoadPast_24 rfl rfl ?_
          refine j_iload_n hC 2 26 rfl d_C_oldestLoadPast_25 rfl rfl ?_
          refine j_callVi hC jE_loc jT_good (As := [_, _]) c_C_missedByteOf yk_C_missedByteOf lk_C_252 ⟨rfl, rfl⟩ ⟨Nat.le_of_ble_eq_true rfl, Nat.le_of_ble_eq_true rfl⟩ 0 rfl rfl rfl rfl (Nat.le_of_ble_eq_true rfl) ⟨Nat.zero_le _, Nat.zero_le _⟩ d_C_oldestLoadPast_26 29 rfl rfl ?_
          refine j_if_eq hC 34 32 rfl d_C_oldestLoadPast_29 (by decide) (fun c_29 => ?_) (fun c_29 => ?_)
          · refine j_iinc (lv' := [(2, _), (0, _), (1, _)]) hC 0 37 rfl d_C_oldestLoadPast_34 rfl (inc1 _) (by decide) rfl ?_
            refine j_goto hC 4 d_C_oldestLoadPast_37 (by decide) ?_
            exact ih _ (dist_lt c_9 hd) (by rw [hR, frL_in c_9]; simp [lpP, c_9, bI1 c_20, bI0 c_29])
          · refine j_iload_n hC 0 33 rfl d_C_oldestLoadPast_32 rfl rfl ?_
            exact j_iret hC hr hlk d_C_oldestLoadPast_33 (by rw [hR, frL_in c_9]; simp [lpP, c_9, bI1 c_20, bI1 c_29]) rfl
  refine j_iload_n hC 1 1 rfl d_C_oldestLoadPast_0 rfl rfl ?_
  refine j_iconst (v := 1) hC 2 rfl d_C_oldestLoadPast_1 (by decide) ?_
  refine j_iadd hC 3 rfl d_C_oldestLoadPast_2 ?_
  refine j_istore_n (lv' := [(2, _), (0, _), (1, _)]) hC 4 rfl d_C_oldestLoadPast_3 rfl (by decide) rfl ?_
  exact loop _ _ (Nat.lt_succ_self _) rfl
set_option maxHeartbeats 4000000 in
set_option maxRecDepth 100000 in
theorem c_C_oldestLoadFromMemory {at0 : Int32}  : kM l dC dI cI cZ cB cJ y_C_oldestLoadFromMemory b_C_oldestLoadFromMemory 3 (some .int) 2 44 [.ref (ad 0), .int at0] (wC ad cI cZ cB σ β mk ρ) (some (.int (frL (lmP σ β at0) (σ 1 0) (σ 0 0)))) (wC ad cI cZ cB σ β mk ρ) := by
  refine jM.of (lv := [(0, .ref (ad 0)), (1, .int at0)]) (own := R_C) jE_loc (by decide) rfl rfl (Nat.le_of_ble_eq_true rfl) rfl ?_
  intro p e s m args below meth c A hC hr hlk
  have loop : ∀ (n : Nat) (i : Int32), dist i (σ 0 0) < n → frL (lmP σ β at0) (σ 1 0) (σ 0 0) = frL (lmP σ β at0) i (σ 0 0) → kJ l dC dI p e s m args below meth c A 2 44 3 (some (.int (frL (lmP σ β at0) (σ 1 0) (σ 0 0)))) (wC ad cI cZ cB σ β mk ρ) (wC ad cI cZ cB σ β mk ρ) 5 [(2, .int i), (0, .ref (ad 0)), (1, .int at0)] [] := by
    intro n
    induction n with
    | zero => intro i hd hR; exact absurd hd (Nat.not_lt_zero _)
    | succ n ih =>
      intro i hd hR
      refine j_iload_n hC 0 6 rfl d_C_oldestLoadFromMemory_5 rfl rfl ?_
      refine j_aload_n hC 1 7 rfl d_C_oldestLoadFromMemory_6 rfl rfl ?_
      refine g_C_nextOp hC 10 rfl d_C_oldestLoadFromMemory_7 ?_
      refine j_icmp_ge hC 66 13 rfl d_C_oldestLoadFromMemory_10 (by decide) (fun c_10 => ?_) (fun c_10 => ?_)
      · refine j_iconst (v := (-1)) hC 67 rfl d_C_oldestLoadFromMemory_66 (by decide) ?_
        exact j_iret hC hr hlk d_C_oldestLoadFromMemory_67 (by rw [hR, frL_out c_10]) rfl
      · refine j_aload_n hC 1 14 rfl d_C_oldestLoadFromMemory_13 rfl rfl ?_
        refine g_C_ops hC 17 rfl d_C_oldestLoadFromMemory_14 ?_
        refine j_iload_n hC 0 18 rfl d_C_oldestLoadFromMemory_17 rfl rfl ?_
        refine j_callVi hC jE_loc jT_good (As := [_]) c_O_isDone yk_O_isDone lk_C_129 ⟨rfl, rfl⟩ ⟨Nat.le_of_ble_eq_true rfl, Nat.le_of_ble_eq_true rfl⟩ 1 rfl rfl rfl rfl (Nat.le_of_ble_eq_true rfl) ⟨Nat.zero_le _, Nat.zero_le _⟩ d_C_oldestLoadFromMemory_18 21 rfl rfl ?_
        refine j_if_eq hC 60 24 rfl d_C_oldestLoadFromMemory_21 (by decide) (fun c_21 => ?_) (fun c_21 => ?_)
        · refine j_iinc (lv' := [(2, _), (0, _), (1, _)]) hC 0 63 rfl d_C_oldestLoadFromMemory_60 rfl (inc1 _) (by decide) rfl ?_
          refine j_goto hC 5 d_C_oldestLoadFromMemory_63 (by decide) ?_
          exact ih _ (dist_lt c_10 hd) (by rw [hR, frL_in c_10]; simp [lmP, c_10, bI0 c_21])
        · refine j_aload_n hC 1 25 rfl d_C_oldestLoadFromMemory_24 rfl rfl ?_
          refine g_C_ops hC 28 rfl d_C_oldestLoadFromMemory_25 ?_
          refine j_iload_n hC 0 29 rfl d_C_oldestLoadFromMemory_28 rfl rfl ?_
          refine j_iload_n hC 2 30 rfl d_C_oldestLoadFromMemory_29 rfl rfl ?_
          refine j_callVi hC jE_loc jT_good (As := [_, _]) c_O_covers yk_O_covers lk_C_231 ⟨rfl, rfl⟩ ⟨Nat.le_of_ble_eq_true rfl, Nat.le_of_ble_eq_true rfl⟩ 1 rfl rfl rfl rfl (Nat.le_of_ble_eq_true rfl) ⟨Nat.zero_le _, Nat.zero_le _⟩ d_C_oldestLoadFromMemory_30 33 rfl rfl ?_
          refine j_if_eq hC 60 36 rfl d_C_oldestLoadFromMemory_33 (by decide) (fun c_33 => ?_) (fun c_33 => ?_)
          · refine j_iinc (lv' := [(2, _), (0, _), (1, _)]) hC 0 63 rfl d_C_oldestLoadFromMemory_60 rfl (inc1 _) (by decide) rfl ?_
            refine j_goto hC 5 d_C_oldestLoadFromMemory_63 (by decide) ?_
            exact ih _ (dist_lt c_10 hd) (by rw [hR, frL_in c_10]; simp [lmP, c_10, bI1 c_21, bI0 c_33])
          · refine j_aload_n hC 1 37 rfl d_C_oldestLoadFromMemory_36 rfl rfl ?_
            refine g_C_ops hC 40 rfl d_C_oldestLoadFromMemory_37 ?_
            refine j_iload_n hC 0 41 rfl d_C_oldestLoadFromMemory_40 rfl rfl ?_
            refine j_iload_n hC 2 42 rfl d_C_oldestLoadFromMemory_41 rfl rfl ?_
            refine j_aload_n hC 1 43 rfl d_C_oldestLoadFromMemory_42 rfl rfl ?_
            refine g_C_ops hC 46 rfl d_C_oldestLoadFromMemory_43 ?_
            refine j_iload_n hC 0 47 rfl d_C_oldestLoadFromMemory_46 rfl rfl ?_
            refine j_callVi hC jE_loc jT_good (As := [_]) c_O_addressOf yk_O_addressOf lk_C_225 ⟨rfl, rfl⟩ ⟨Nat.le_of_ble_eq_true rfl, Nat.le_of_ble_eq_true rfl⟩ 1 rfl rfl rfl rfl (Nat.le_of_ble_eq_true rfl) ⟨Nat.zero_le _, Nat.zero_le _⟩ d_C_oldestLoadFromMemory_47 50 rfl rfl ?_
            refine j_isub hC 51 rfl d_C_oldestLoadFromMemory_50 ?_
            refine j_callVi hC jE_loc jT_good (As := [_, _]) c_O_sourceOf yk_O_sourceOf lk_C_166 ⟨rfl, rfl⟩ ⟨Nat.le_of_ble_eq_true rfl, Nat.le_of_ble_eq_true rfl⟩ 1 rfl rfl rfl rfl (Nat.le_of_ble_eq_true rfl) ⟨Nat.zero_le _, Nat.zero_le _⟩ d_C_oldestLoadFromMemory_51 54 rfl rfl ?_
            refine j_iconst (v := (-1)) hC 55 rfl d_C_oldestLoadFromMemory_54 (by decide) ?_
            refine j_icmp_ne hC 60 58 rfl d_C_oldestLoadFromMemory_55 (by decide) (fun c_55 => ?_) (fun c_55 => ?_)
            · refine j_iinc (lv' := [(2, _), (0, _), (1, _)]) hC 0 63 rfl d_C_oldestLoadFromMemory_60 rfl (inc1 _) (by decide) rfl ?_
              refine j_goto hC 5 d_C_oldestLoadFromMemory_63 (by decide) ?_
              exact ih _ (dist_lt c_10 hd) (by rw [hR, frL_in c_10]; simp [lmP, c_10, bI1 c_21, bI1 c_33, c_55])
            · refine j_iload_n hC 0 59 rfl d_C_oldestLoadFromMemory_58 rfl rfl ?_
              exact j_iret hC hr hlk d_C_oldestLoadFromMemory_59 (by rw [hR, frL_in c_10]; simp [lmP, c_10, bI1 c_21, bI1 c_33, c_55]) rfl
  refine j_aload_n hC 0 1 rfl d_C_oldestLoadFromMemory_0 rfl rfl ?_
  refine g_C_oldestWaiting hC 4 rfl d_C_oldestLoadFromMemory_1 ?_
  refine j_istore_n (lv' := [(2, _), (0, _), (1, _)]) hC 5 rfl d_C_oldestLoadFromMemory_4 rfl (by decide) rfl ?_
  exact loop _ _ (Nat.lt_succ_self _) rfl
set_option maxHeartbeats 4000000 in
set_option maxRecDepth 100000 in
theorem c_C_undoWrong {wl : Int32}  : kM l dC dI cI cZ cB cJ y_C_undoWrong b_C_undoWrong 4 (some .int) 1 22 [.ref (ad 0), .int wl] (wC ad cI cZ cB σ β mk ρ) (some (.int ((unL wl (σ 0 0) β 0).2))) (wC ad cI cZ cB (sS (sS σ 2 (σ 2 0 + (unL wl (σ 0 0) β 0).2)) 3 (σ 3 0 + 1)) (unL wl (σ 0 0) β 0).1 mk ρ) := by
  refine jM.of (lv := [(0, .ref (ad 0)), (1, .int wl)]) (own := R_C) jE_loc (by decide) rfl rfl (Nat.le_of_ble_eq_true rfl) rfl ?_
  intro p e s m args below meth c A hC hr hlk
  have loop : ∀ (n : Nat) (i x : Int32) (δ : B2), dist i (σ 0 0) < n → unL wl (σ 0 0) β 0 = unL i (σ 0 0) δ x → kJ l dC dI p e s m args below meth c A 1 22 4 (some (.int ((unL wl (σ 0 0) β 0).2))) (wC ad cI cZ cB (sS (sS σ 2 (σ 2 0 + (unL wl (σ 0 0) β 0).2)) 3 (σ 3 0 + 1)) (unL wl (σ 0 0) β 0).1 mk ρ) (wC ad cI cZ cB σ δ mk ρ) 4 [(3, .int i), (2, .int x), (0, .ref (ad 0)), (1, .int wl)] [] := by
    intro n
    induction n with
    | zero => intro i x δ hd hR; exact absurd hd (Nat.not_lt_zero _)
    | succ n ih =>
      intro i x δ hd hR
      refine j_iload_n hC 0 5 rfl d_C_undoWrong_4 rfl rfl ?_
      refine j_aload_n hC 2 6 rfl d_C_undoWrong_5 rfl rfl ?_
      refine g_C_nextOp hC 9 rfl d_C_undoWrong_6 ?_
      refine j_icmp_ge hC 41 12 rfl d_C_undoWrong_9 (by decide) (fun c_9 => ?_) (fun c_9 => ?_)
      · refine j_aload_n hC 2 42 rfl d_C_undoWrong_41 rfl rfl ?_
        refine j_dup hC 43 rfl d_C_undoWrong_42 rfl ?_
        refine g_C_undoneSoFar hC 46 rfl d_C_undoWrong_43 ?_
        refine j_iload_n hC 1 47 rfl d_C_undoWrong_46 rfl rfl ?_
        refine j_iadd hC 48 rfl d_C_undoWrong_47 ?_
        refine p_C_undoneSoFar hC 51 rfl d_C_undoWrong_48 ?_
        refine j_aload_n hC 2 52 rfl d_C_undoWrong_51 rfl rfl ?_
        refine j_dup hC 53 rfl d_C_undoWrong_52 rfl ?_
        refine g_C_wrongSoFar hC 56 rfl d_C_undoWrong_53 ?_
        refine j_iconst (v := 1) hC 57 rfl d_C_undoWrong_56 (by decide) ?_
        refine j_iadd hC 58 rfl d_C_undoWrong_57 ?_
        refine p_C_wrongSoFar hC 61 rfl d_C_undoWrong_58 ?_
        refine j_iload_n hC 1 62 rfl d_C_undoWrong_61 rfl rfl ?_
        exact j_iret hC hr hlk d_C_undoWrong_62 (by rw [hR, unL_out c_9]) (by rw [hR, unL_out c_9] <;> rfl)
      · refine j_aload_n hC 2 13 rfl d_C_undoWrong_12 rfl rfl ?_
        refine g_C_ops hC 16 rfl d_C_undoWrong_13 ?_
        refine j_iload_n hC 0 17 rfl d_C_undoWrong_16 rfl rfl ?_
        refine j_callVi hC jE_loc jT_good (As := [_]) c_O_isDone yk_O_isDone lk_C_129 ⟨rfl, rfl⟩ ⟨Nat.le_of_ble_eq_true rfl, Nat.le_of_ble_eq_true rfl⟩ 1 rfl rfl rfl rfl (Nat.le_of_ble_eq_true rfl) ⟨Nat.zero_le _, Nat.zero_le _⟩ d_C_undoWrong_17 20 rfl rfl ?_
        refine j_if_eq hC 35 23 rfl d_C_undoWrong_20 (by decide) (fun c_20 => ?_) (fun c_20 => ?_)
        · refine j_iinc (lv' := [(3, _), (2, _), (0, _), (1, _)]) hC 0 38 rfl d_C_undoWrong_35 rfl (inc1 _) (by decide) rfl ?_
          refine j_goto hC 4 d_C_undoWrong_38 (by decide) ?_
          exact ih _ _ _ (dist_lt c_9 hd) (by rw [hR, unL_in c_9]; simp [c_9, bI0 c_20])
        · refine j_aload_n hC 2 24 rfl d_C_undoWrong_23 rfl rfl ?_
          refine g_C_ops hC 27 rfl d_C_undoWrong_24 ?_
          refine j_iload_n hC 0 28 rfl d_C_undoWrong_27 rfl rfl ?_
          refine j_iconst (v := 0) hC 29 rfl d_C_undoWrong_28 (by decide) ?_
          refine j_callVv hC jE_loc jT_good (As := [_, _]) (c_O_setDone (b := false)) yk_O_setDone lk_C_241 ⟨rfl, rfl⟩ ⟨Nat.le_of_ble_eq_true rfl, Nat.le_of_ble_eq_true rfl⟩ 1 rfl rfl rfl rfl (Nat.le_of_ble_eq_true rfl) ⟨Nat.zero_le _, Nat.zero_le _⟩ d_C_undoWrong_29 32 rfl rfl ?_
          refine j_iinc (lv' := [(2, _), (3, _), (0, _), (1, _)]) hC 1 35 rfl d_C_undoWrong_32 rfl (inc1 _) (by decide) rfl ?_
          refine j_iinc (lv' := [(3, _), (2, _), (0, _), (1, _)]) hC 1 38 rfl d_C_undoWrong_35 rfl (inc1 _) (by decide) rfl ?_
          refine j_goto hC 4 d_C_undoWrong_38 (by decide) ?_
          exact ih _ _ _ (dist_lt c_9 hd) (by rw [hR, unL_in c_9]; simp [c_9, bI1 c_20])
  refine j_iconst (v := 0) hC 1 rfl d_C_undoWrong_0 (by decide) ?_
  refine j_istore_n (lv' := [(2, _), (0, _), (1, _)]) hC 2 rfl d_C_undoWrong_1 rfl (by decide) rfl ?_
  refine j_iload_n hC 2 3 rfl d_C_undoWrong_2 rfl rfl ?_
  refine j_istore_n (lv' := [(3, _), (2, _), (0, _), (1, _)]) hC 4 rfl d_C_undoWrong_3 rfl (by decide) rfl ?_
  exact loop _ _ _ _ (Nat.lt_succ_self _) rfl
set_option maxHeartbeats 4000000 in
set_option maxRecDepth 100000 in
theorem c_C_loadsDoneThatWait   : kM l dC dI cI cZ cB cJ y_C_loadsDoneThatWait b_C_loadsDoneThatWait 3 (some .int) 1 21 [.ref (ad 0)] (wC ad cI cZ cB σ β mk ρ) (some (.int (cnL (fun j => β 2 (ix j)) (σ 1 0) (σ 0 0) 0))) (wC ad cI cZ cB σ β mk ρ) := by
  refine jM.of (lv := [(0, .ref (ad 0))]) (own := R_C) jE_loc (by decide) rfl rfl (Nat.le_of_ble_eq_true rfl) rfl ?_
  intro p e s m args below meth c A hC hr hlk
  have loop : ∀ (n : Nat) (i x : Int32), dist i (σ 0 0) < n → cnL (fun j => β 2 (ix j)) (σ 1 0) (σ 0 0) 0 = cnL (fun j => β 2 (ix j)) i (σ 0 0) x → kJ l dC dI p e s m args below meth c A 1 21 3 (some (.int (cnL (fun j => β 2 (ix j)) (σ 1 0) (σ 0 0) 0))) (wC ad cI cZ cB σ β mk ρ) (wC ad cI cZ cB σ β mk ρ) 7 [(2, .int i), (1, .int x), (0, .ref (ad 0))] [] := by
    intro n
    induction n with
    | zero => intro i x hd hR; exact absurd hd (Nat.not_lt_zero _)
    | succ n ih =>
      intro i x hd hR
      refine j_iload_n hC 0 8 rfl d_C_loadsDoneThatWait_7 rfl rfl ?_
      refine j_aload_n hC 2 9 rfl d_C_loadsDoneThatWait_8 rfl rfl ?_
      refine g_C_nextOp hC 12 rfl d_C_loadsDoneThatWait_9 ?_
      refine j_icmp_ge hC 35 15 rfl d_C_loadsDoneThatWait_12 (by decide) (fun c_12 => ?_) (fun c_12 => ?_)
      · refine j_iload_n hC 1 36 rfl d_C_loadsDoneThatWait_35 rfl rfl ?_
        exact j_iret hC hr hlk d_C_loadsDoneThatWait_36 (by rw [hR, cnL_out c_12]) rfl
      · refine j_aload_n hC 2 16 rfl d_C_loadsDoneThatWait_15 rfl rfl ?_
        refine g_C_ops hC 19 rfl d_C_loadsDoneThatWait_16 ?_
        refine j_iload_n hC 0 20 rfl d_C_loadsDoneThatWait_19 rfl rfl ?_
        refine j_callVi hC jE_loc jT_good (As := [_]) c_O_isDone yk_O_isDone lk_C_129 ⟨rfl, rfl⟩ ⟨Nat.le_of_ble_eq_true rfl, Nat.le_of_ble_eq_true rfl⟩ 1 rfl rfl rfl rfl (Nat.le_of_ble_eq_true rfl) ⟨Nat.zero_le _, Nat.zero_le _⟩ d_C_loadsDoneThatWait_20 23 rfl rfl ?_
        refine j_if_eq hC 29 26 rfl d_C_loadsDoneThatWait_23 (by decide) (fun c_23 => ?_) (fun c_23 => ?_)
        · refine j_iinc (lv' := [(2, _), (1, _), (0, _)]) hC 0 32 rfl d_C_loadsDoneThatWait_29 rfl (inc1 _) (by decide) rfl ?_
          refine j_goto hC 7 d_C_loadsDoneThatWait_32 (by decide) ?_
          exact ih _ _ (dist_lt c_12 hd) (by rw [hR, cnL_in c_12]; simp [c_12, bI0 c_23])
        · refine j_iinc (lv' := [(1, _), (2, _), (0, _)]) hC 1 29 rfl d_C_loadsDoneThatWait_26 rfl (inc1 _) (by decide) rfl ?_
          refine j_iinc (lv' := [(2, _), (1, _), (0, _)]) hC 1 32 rfl d_C_loadsDoneThatWait_29 rfl (inc1 _) (by decide) rfl ?_
          refine j_goto hC 7 d_C_loadsDoneThatWait_32 (by decide) ?_
          exact ih _ _ (dist_lt c_12 hd) (by rw [hR, cnL_in c_12]; simp [c_12, bI1 c_23])
  refine j_iconst (v := 0) hC 1 rfl d_C_loadsDoneThatWait_0 (by decide) ?_
  refine j_istore_n (lv' := [(1, _), (0, _)]) hC 2 rfl d_C_loadsDoneThatWait_1 rfl (by decide) rfl ?_
  refine j_aload_n hC 1 3 rfl d_C_loadsDoneThatWait_2 rfl rfl ?_
  refine g_C_oldestWaiting hC 6 rfl d_C_loadsDoneThatWait_3 ?_
  refine j_istore_n (lv' := [(2, _), (1, _), (0, _)]) hC 7 rfl d_C_loadsDoneThatWait_6 rfl (by decide) rfl ?_
  exact loop _ _ _ (Nat.lt_succ_self _) rfl
set_option maxHeartbeats 4000000 in
set_option maxRecDepth 100000 in
theorem r_C_requireOp {op : Int32} (h1 : ¬ op < 0) (h2 : op < σ 0 0) : kR l dC dI cI cZ cB cJ y_C_requireOp b_C_requireOp 2 none 0 0 [.ref (ad 0), .int op] (wC ad cI cZ cB σ β mk ρ) none := by
  refine jR.of (lv := [(0, .ref (ad 0)), (1, .int op)]) (own := R_C) jE_loc (by decide) rfl rfl (Nat.le_of_ble_eq_true rfl) rfl ?_
  intro p e s m args below meth c A hC hr hlk
  refine j_iload_n hC 1 1 rfl d_C_requireOp_0 rfl rfl ?_
  refine j_if_lt hC 12 4 rfl d_C_requireOp_1 (by decide) (fun c_1 => absurd c_1 h1) (fun c_1 => ?_)
  refine j_iload_n hC 1 5 rfl d_C_requireOp_4 rfl rfl ?_
  refine j_aload_n hC 0 6 rfl d_C_requireOp_5 rfl rfl ?_
  refine g_C_nextOp hC 9 rfl d_C_requireOp_6 ?_
  refine j_icmp_lt hC 22 12 rfl d_C_requireOp_9 (by decide) (fun c_9 => ?_) (fun c_9 => absurd c_9 (fun q => q h2))
  exact j_vretR hC hr hlk d_C_requireOp_22
theorem c_C_requireOp {op : Int32} (h1 : ¬ op < 0) (h2 : op < σ 0 0) : kM l dC dI cI cZ cB cJ y_C_requireOp b_C_requireOp 2 none 0 0 [.ref (ad 0), .int op] (wC ad cI cZ cB σ β mk ρ) none (wC ad cI cZ cB σ β mk ρ) := (r_C_requireOp h1 h2).toM
end KC
end
section
section KC
variable {l : Launch} {dC : Nat → ClassId} {dI : Nat → Nat → Nat} {cI cZ cB cJ : ClassId} {ad : Nat → Nat} {σ : S2} {β : B2} {mk : Int64} {ρ : va_W} {am : Nat → Nat} {μ : S2} {ν : B2}
set_option maxHeartbeats 4000000 in
set_option maxRecDepth 100000 in
theorem c_C_mayLeave {op : Int32}  : kM l dC dI cI cZ cB cJ y_C_mayLeave b_C_mayLeave 2 (some .boolean) 2 42 [.ref (ad 0), .int op] (wC ad cI cZ cB σ β mk ρ) (some (.int (bI (mlC σ β op)))) (wC ad cI cZ cB σ β mk ρ) := by
  refine jM.of (lv := [(0, .ref (ad 0)), (1, .int op)]) (own := R_C) jE_loc (by decide) rfl rfl (Nat.le_of_ble_eq_true rfl) rfl ?_
  intro p e s m args below meth c A hC hr hlk
  refine j_aload_n hC 0 1 rfl d_C_mayLeave_0 rfl rfl ?_
  refine g_C_ops hC 4 rfl d_C_mayLeave_1 ?_
  refine j_iload_n hC 1 5 rfl d_C_mayLeave_4 rfl rfl ?_
  refine j_callVi hC jE_loc jT_good (As := [_]) c_O_kindOf yk_O_kindOf lk_C_85 ⟨rfl, rfl⟩ ⟨Nat.le_of_ble_eq_true rfl, Nat.le_of_ble_eq_true rfl⟩ 1 rfl rfl rfl rfl (Nat.le_of_ble_eq_true rfl) ⟨Nat.zero_le _, Nat.zero_le _⟩ d_C_mayLeave_5 8 rfl rfl ?_
  by_cases t0 : σ 10 (ix op) = 0
  · refine j_tswIn (off := 28) hC 36 d_C_mayLeave_8 (by rw [t0]; decide) (by rw [t0]; decide) (by rw [t0]; rfl) (by decide) ?_
    refine j_aload_n hC 0 37 rfl d_C_mayLeave_36 rfl rfl ?_
    refine g_C_ops hC 40 rfl d_C_mayLeave_37 ?_
    refine j_iload_n hC 1 41 rfl d_C_mayLeave_40 rfl rfl ?_
    refine j_callVi hC jE_loc jT_good (As := [_]) c_O_isDone yk_O_isDone lk_C_129 ⟨rfl, rfl⟩ ⟨Nat.le_of_ble_eq_true rfl, Nat.le_of_ble_eq_true rfl⟩ 1 rfl rfl rfl rfl (Nat.le_of_ble_eq_true rfl) ⟨Nat.zero_le _, Nat.zero_le _⟩ d_C_mayLeave_41 44 rfl rfl ?_
    exact j_zret hC hr hlk d_C_mayLeave_44 (by rw [mlC, if_pos t0]) rfl
  by_cases t1 : σ 10 (ix op) = 1
  · refine j_tswIn (off := 37) hC 45 d_C_mayLeave_8 (by rw [t1]; decide) (by rw [t1]; decide) (by rw [t1]; rfl) (by decide) ?_
    refine j_aload_n hC 0 46 rfl d_C_mayLeave_45 rfl rfl ?_
    refine g_C_ops hC 49 rfl d_C_mayLeave_46 ?_
    refine j_iload_n hC 1 50 rfl d_C_mayLeave_49 rfl rfl ?_
    refine j_callVi hC jE_loc jT_good (As := [_]) c_O_isTold yk_O_isTold lk_C_255 ⟨rfl, rfl⟩ ⟨Nat.le_of_ble_eq_true rfl, Nat.le_of_ble_eq_true rfl⟩ 1 rfl rfl rfl rfl (Nat.le_of_ble_eq_true rfl) ⟨Nat.zero_le _, Nat.zero_le _⟩ d_C_mayLeave_50 53 rfl rfl ?_
    refine j_if_eq hC 97 56 rfl d_C_mayLeave_53 (by decide) (fun c_53 => ?_) (fun c_53 => ?_)
    · refine j_iconst (v := 0) hC 98 rfl d_C_mayLeave_97 (by decide) ?_
      exact j_zret hC hr hlk d_C_mayLeave_98 (by rw [mlC, if_neg t0, if_pos t1]; simp [bI, bI0 c_53]) rfl
    · refine j_aload_n hC 0 57 rfl d_C_mayLeave_56 rfl rfl ?_
      refine g_C_ops hC 60 rfl d_C_mayLeave_57 ?_
      refine j_iload_n hC 1 61 rfl d_C_mayLeave_60 rfl rfl ?_
      refine j_callVi hC jE_loc jT_good (As := [_]) c_O_addressOf yk_O_addressOf lk_C_225 ⟨rfl, rfl⟩ ⟨Nat.le_of_ble_eq_true rfl, Nat.le_of_ble_eq_true rfl⟩ 1 rfl rfl rfl rfl (Nat.le_of_ble_eq_true rfl) ⟨Nat.zero_le _, Nat.zero_le _⟩ d_C_mayLeave_61 64 rfl rfl ?_
      refine j_callSi hC jE_loc jT_good (As := [_]) c_C_isDevice yk_C_isDevice lk_C_217 ⟨rfl, rfl⟩ ⟨Nat.le_of_ble_eq_true rfl, Nat.le_of_ble_eq_true rfl⟩ rfl (Nat.le_of_ble_eq_true rfl) ⟨Nat.zero_le _, Nat.zero_le _⟩ d_C_mayLeave_64 67 rfl rfl ?_
      refine j_if_eq hC 83 70 rfl d_C_mayLeave_67 (by decide) (fun c_67 => ?_) (fun c_67 => ?_)
      · refine j_aload_n hC 0 84 rfl d_C_mayLeave_83 rfl rfl ?_
        refine g_C_buffer hC 87 rfl d_C_mayLeave_84 ?_
        refine j_callVi hC jE_loc jT_good (As := []) c_B_hasRoom yk_B_hasRoom lk_C_258 ⟨rfl, rfl⟩ ⟨Nat.le_of_ble_eq_true rfl, Nat.le_of_ble_eq_true rfl⟩ 2 rfl rfl rfl rfl (Nat.le_of_ble_eq_true rfl) ⟨Nat.zero_le _, Nat.zero_le _⟩ d_C_mayLeave_87 90 rfl rfl ?_
        refine j_if_eq hC 97 93 rfl d_C_mayLeave_90 (by decide) (fun c_90 => ?_) (fun c_90 => ?_)
        · refine j_iconst (v := 0) hC 98 rfl d_C_mayLeave_97 (by decide) ?_
          exact j_zret hC hr hlk d_C_mayLeave_98 (by rw [mlC, if_neg t0, if_pos t1]; simp [bI, bI1 c_53, bI0 c_67, bI0 c_90]) rfl
        · refine j_iconst (v := 1) hC 94 rfl d_C_mayLeave_93 (by decide) ?_
          refine j_goto hC 98 d_C_mayLeave_94 (by decide) ?_
          exact j_zret hC hr hlk d_C_mayLeave_98 (by rw [mlC, if_neg t0, if_pos t1]; simp [bI, bI1 c_53, bI0 c_67, bI1 c_90]) rfl
      · refine j_aload_n hC 0 71 rfl d_C_mayLeave_70 rfl rfl ?_
        refine g_C_buffer hC 74 rfl d_C_mayLeave_71 ?_
        refine j_callVi hC jE_loc jT_good (As := []) c_B_isEmpty yk_B_isEmpty lk_C_176 ⟨rfl, rfl⟩ ⟨Nat.le_of_ble_eq_true rfl, Nat.le_of_ble_eq_true rfl⟩ 2 rfl rfl rfl rfl (Nat.le_of_ble_eq_true rfl) ⟨Nat.zero_le _, Nat.zero_le _⟩ d_C_mayLeave_74 77 rfl rfl ?_
        refine j_if_eq hC 97 80 rfl d_C_mayLeave_77 (by decide) (fun c_77 => ?_) (fun c_77 => ?_)
        · refine j_iconst (v := 0) hC 98 rfl d_C_mayLeave_97 (by decide) ?_
          exact j_zret hC hr hlk d_C_mayLeave_98 (by rw [mlC, if_neg t0, if_pos t1]; simp [bI, bI1 c_53, bI1 c_67, bI0 c_77]) rfl
        · refine j_goto hC 93 d_C_mayLeave_80 (by decide) ?_
          refine j_iconst (v := 1) hC 94 rfl d_C_mayLeave_93 (by decide) ?_
          refine j_goto hC 98 d_C_mayLeave_94 (by decide) ?_
          exact j_zret hC hr hlk d_C_mayLeave_98 (by rw [mlC, if_neg t0, if_pos t1]; simp [bI, bI1 c_53, bI1 c_67, bI1 c_77]) rfl
  by_cases t2 : σ 10 (ix op) = 2
  · refine j_tswIn (off := 91) hC 99 d_C_mayLeave_8 (by rw [t2]; decide) (by rw [t2]; decide) (by rw [t2]; rfl) (by decide) ?_
    refine j_aload_n hC 0 100 rfl d_C_mayLeave_99 rfl rfl ?_
    refine g_C_buffer hC 103 rfl d_C_mayLeave_100 ?_
    refine j_callVi hC jE_loc jT_good (As := []) c_B_isEmpty yk_B_isEmpty lk_C_176 ⟨rfl, rfl⟩ ⟨Nat.le_of_ble_eq_true rfl, Nat.le_of_ble_eq_true rfl⟩ 2 rfl rfl rfl rfl (Nat.le_of_ble_eq_true rfl) ⟨Nat.zero_le _, Nat.zero_le _⟩ d_C_mayLeave_103 106 rfl rfl ?_
    exact j_zret hC hr hlk d_C_mayLeave_106 (by rw [mlC, if_neg t0, if_neg t1, if_pos t2]) rfl
  refine j_tswOut hC 107 d_C_mayLeave_8 (tsw3 t0 t1 t2) (by decide) ?_
  refine j_aload_n hC 0 108 rfl d_C_mayLeave_107 rfl rfl ?_
  refine g_C_ops hC 111 rfl d_C_mayLeave_108 ?_
  refine j_iload_n hC 1 112 rfl d_C_mayLeave_111 rfl rfl ?_
  refine j_callVi hC jE_loc jT_good (As := [_]) c_O_isTold yk_O_isTold lk_C_255 ⟨rfl, rfl⟩ ⟨Nat.le_of_ble_eq_true rfl, Nat.le_of_ble_eq_true rfl⟩ 1 rfl rfl rfl rfl (Nat.le_of_ble_eq_true rfl) ⟨Nat.zero_le _, Nat.zero_le _⟩ d_C_mayLeave_112 115 rfl rfl ?_
  refine j_if_eq hC 132 118 rfl d_C_mayLeave_115 (by decide) (fun c_115 => ?_) (fun c_115 => ?_)
  · refine j_iconst (v := 0) hC 133 rfl d_C_mayLeave_132 (by decide) ?_
    exact j_zret hC hr hlk d_C_mayLeave_133 (by rw [mlC, if_neg t0, if_neg t1, if_neg t2]; simp [bI, bI0 c_115]) rfl
  · refine j_aload_n hC 0 119 rfl d_C_mayLeave_118 rfl rfl ?_
    refine g_C_buffer hC 122 rfl d_C_mayLeave_119 ?_
    refine j_callVi hC jE_loc jT_good (As := []) c_B_isEmpty yk_B_isEmpty lk_C_176 ⟨rfl, rfl⟩ ⟨Nat.le_of_ble_eq_true rfl, Nat.le_of_ble_eq_true rfl⟩ 2 rfl rfl rfl rfl (Nat.le_of_ble_eq_true rfl) ⟨Nat.zero_le _, Nat.zero_le _⟩ d_C_mayLeave_122 125 rfl rfl ?_
    refine j_if_eq hC 132 128 rfl d_C_mayLeave_125 (by decide) (fun c_125 => ?_) (fun c_125 => ?_)
    · refine j_iconst (v := 0) hC 133 rfl d_C_mayLeave_132 (by decide) ?_
      exact j_zret hC hr hlk d_C_mayLeave_133 (by rw [mlC, if_neg t0, if_neg t1, if_neg t2]; simp [bI, bI1 c_115, bI0 c_125]) rfl
    · refine j_iconst (v := 1) hC 129 rfl d_C_mayLeave_128 (by decide) ?_
      refine j_goto hC 133 d_C_mayLeave_129 (by decide) ?_
      exact j_zret hC hr hlk d_C_mayLeave_133 (by rw [mlC, if_neg t0, if_neg t1, if_neg t2]; simp [bI, bI1 c_115, bI1 c_125]) rfl
set_option maxHeartbeats 4000000 in
set_option maxRecDepth 100000 in
theorem c_C_carryOut {op : Int32}  : kM l dC dI cI cZ cB cJ y_C_carryOut b_C_carryOut 5 none 2 46 [.ref (ad 0), .int op] (wC ad cI cZ cB σ β mk ρ) none (wC ad cI cZ cB (coS σ β op) β mk ρ) := by
  refine jM.of (lv := [(0, .ref (ad 0)), (1, .int op)]) (own := R_C) jE_loc (by decide) rfl rfl (Nat.le_of_ble_eq_true rfl) rfl ?_
  intro p e s m args below meth c A hC hr hlk
  refine j_aload_n hC 0 1 rfl d_C_carryOut_0 rfl rfl ?_
  refine g_C_ops hC 4 rfl d_C_carryOut_1 ?_
  refine j_iload_n hC 1 5 rfl d_C_carryOut_4 rfl rfl ?_
  refine j_callVi hC jE_loc jT_good (As := [_]) c_O_kindOf yk_O_kindOf lk_C_85 ⟨rfl, rfl⟩ ⟨Nat.le_of_ble_eq_true rfl, Nat.le_of_ble_eq_true rfl⟩ 1 rfl rfl rfl rfl (Nat.le_of_ble_eq_true rfl) ⟨Nat.zero_le _, Nat.zero_le _⟩ d_C_carryOut_5 8 rfl rfl ?_
  refine j_istore_n (lv' := [(2, _), (0, _), (1, _)]) hC 9 rfl d_C_carryOut_8 rfl (by decide) rfl ?_
  refine j_iload_n hC 0 10 rfl d_C_carryOut_9 rfl rfl ?_
  refine j_callSi hC jE_loc jT_good (As := [_]) c_C_takesNumber yk_C_takesNumber lk_C_118 ⟨rfl, rfl⟩ ⟨Nat.le_of_ble_eq_true rfl, Nat.le_of_ble_eq_true rfl⟩ rfl (Nat.le_of_ble_eq_true rfl) ⟨Nat.zero_le _, Nat.zero_le _⟩ d_C_carryOut_10 13 rfl rfl ?_
  refine j_if_ne hC 17 16 rfl d_C_carryOut_13 (by decide) (fun c_13 => ?_) (fun c_13 => ?_)
  · refine j_aload_n hC 1 18 rfl d_C_carryOut_17 rfl rfl ?_
    refine g_C_ops hC 21 rfl d_C_carryOut_18 ?_
    refine j_iload_n hC 2 22 rfl d_C_carryOut_21 rfl rfl ?_
    refine j_callVi hC jE_loc jT_good (As := [_]) c_O_addressOf yk_O_addressOf lk_C_225 ⟨rfl, rfl⟩ ⟨Nat.le_of_ble_eq_true rfl, Nat.le_of_ble_eq_true rfl⟩ 1 rfl rfl rfl rfl (Nat.le_of_ble_eq_true rfl) ⟨Nat.zero_le _, Nat.zero_le _⟩ d_C_carryOut_22 25 rfl rfl ?_
    refine j_istore_n (lv' := [(3, _), (2, _), (0, _), (1, _)]) hC 26 rfl d_C_carryOut_25 rfl (by decide) rfl ?_
    refine j_aload_n hC 2 27 rfl d_C_carryOut_26 rfl rfl ?_
    refine g_C_ops hC 30 rfl d_C_carryOut_27 ?_
    refine j_iload_n hC 3 31 rfl d_C_carryOut_30 rfl rfl ?_
    refine j_callVi hC jE_loc jT_good (As := [_]) c_O_bytesOf yk_O_bytesOf lk_C_94 ⟨rfl, rfl⟩ ⟨Nat.le_of_ble_eq_true rfl, Nat.le_of_ble_eq_true rfl⟩ 1 rfl rfl rfl rfl (Nat.le_of_ble_eq_true rfl) ⟨Nat.zero_le _, Nat.zero_le _⟩ d_C_carryOut_31 34 rfl rfl ?_
    refine j_istore (lv' := [(4, _), (3, _), (2, _), (0, _), (1, _)]) hC 36 rfl d_C_carryOut_34 (by decide) rfl ?_
    refine j_iload_n hC 2 37 rfl d_C_carryOut_36 rfl rfl ?_
    refine j_iconst (v := 1) hC 38 rfl d_C_carryOut_37 (by decide) ?_
    refine j_icmp_ne hC 68 41 rfl d_C_carryOut_38 (by decide) (fun c_38 => ?_) (fun c_38 => ?_)
    · refine j_iload_n hC 2 69 rfl d_C_carryOut_68 rfl rfl ?_
      refine j_iconst (v := 3) hC 70 rfl d_C_carryOut_69 (by decide) ?_
      refine j_icmp_ne hC 91 73 rfl d_C_carryOut_70 (by decide) (fun c_70 => ?_) (fun c_70 => ?_)
      · refine j_aload_n hC 3 92 rfl d_C_carryOut_91 rfl rfl ?_
        refine g_C_mainMemory hC 95 rfl d_C_carryOut_92 ?_
        refine j_iload_n hC 1 96 rfl d_C_carryOut_95 rfl rfl ?_
        refine j_iload hC 0 98 rfl d_C_carryOut_96 rfl ?_
        refine j_aload_n hC 3 99 rfl d_C_carryOut_98 rfl rfl ?_
        refine g_C_ops hC 102 rfl d_C_carryOut_99 ?_
        refine j_iload_n hC 4 103 rfl d_C_carryOut_102 rfl rfl ?_
        refine j_callVi hC jE_loc jT_good (As := [_]) c_O_numberOf yk_O_numberOf lk_C_261 ⟨rfl, rfl⟩ ⟨Nat.le_of_ble_eq_true rfl, Nat.le_of_ble_eq_true rfl⟩ 1 rfl rfl rfl rfl (Nat.le_of_ble_eq_true rfl) ⟨Nat.zero_le _, Nat.zero_le _⟩ d_C_carryOut_103 106 rfl rfl ?_
        refine j_callVv hC jE_loc jT_good (As := [_, _, _]) c_Y_write yk_Y_write lk_C_270 ⟨rfl, rfl⟩ ⟨Nat.le_of_ble_eq_true rfl, Nat.le_of_ble_eq_true rfl⟩ 3 rfl rfl rfl rfl (Nat.le_of_ble_eq_true rfl) ⟨Nat.zero_le _, Nat.zero_le _⟩ d_C_carryOut_106 109 rfl rfl ?_
        exact j_vret hC hr hlk d_C_carryOut_109 (by rw [coS, if_pos (bI1 c_13)]; first | (rw [if_neg c_38, coT, if_pos c_70] <;> rfl) | (rw [if_neg c_38, coT, if_neg c_70] <;> rfl) | (rw [if_pos c_38, if_pos (bI1 c_45), coT, if_pos c_70] <;> rfl) | (rw [if_pos c_38, if_pos (bI1 c_45), coT, if_neg c_70] <;> rfl))
      · refine j_aload_n hC 3 74 rfl d_C_carryOut_73 rfl rfl ?_
        refine g_C_ops hC 77 rfl d_C_carryOut_74 ?_
        refine j_iload_n hC 4 78 rfl d_C_carryOut_77 rfl rfl ?_
        refine j_aload_n hC 3 79 rfl d_C_carryOut_78 rfl rfl ?_
        refine g_C_mainMemory hC 82 rfl d_C_carryOut_79 ?_
        refine j_iload_n hC 1 83 rfl d_C_carryOut_82 rfl rfl ?_
        refine j_iload hC 0 85 rfl d_C_carryOut_83 rfl ?_
        refine j_callVi hC jE_loc jT_good (As := [_, _]) c_Y_numberAt yk_Y_numberAt lk_C_267 ⟨rfl, rfl⟩ ⟨Nat.le_of_ble_eq_true rfl, Nat.le_of_ble_eq_true rfl⟩ 3 rfl rfl rfl rfl (Nat.le_of_ble_eq_true rfl) ⟨Nat.zero_le _, Nat.zero_le _⟩ d_C_carryOut_85 88 rfl rfl ?_
        refine j_callVv hC jE_loc jT_good (As := [_, _]) c_O_setLoaded yk_O_setLoaded lk_C_238 ⟨rfl, rfl⟩ ⟨Nat.le_of_ble_eq_true rfl, Nat.le_of_ble_eq_true rfl⟩ 1 rfl rfl rfl rfl (Nat.le_of_ble_eq_true rfl) ⟨Nat.zero_le _, Nat.zero_le _⟩ d_C_carryOut_88 91 rfl rfl ?_
        refine j_aload_n hC 3 92 rfl d_C_carryOut_91 rfl rfl ?_
        refine g_C_mainMemory hC 95 rfl d_C_carryOut_92 ?_
        refine j_iload_n hC 1 96 rfl d_C_carryOut_95 rfl rfl ?_
        refine j_iload hC 0 98 rfl d_C_carryOut_96 rfl ?_
        refine j_aload_n hC 3 99 rfl d_C_carryOut_98 rfl rfl ?_
        refine g_C_ops hC 102 rfl d_C_carryOut_99 ?_
        refine j_iload_n hC 4 103 rfl d_C_carryOut_102 rfl rfl ?_
        refine j_callVi hC jE_loc jT_good (As := [_]) c_O_numberOf yk_O_numberOf lk_C_261 ⟨rfl, rfl⟩ ⟨Nat.le_of_ble_eq_true rfl, Nat.le_of_ble_eq_true rfl⟩ 1 rfl rfl rfl rfl (Nat.le_of_ble_eq_true rfl) ⟨Nat.zero_le _, Nat.zero_le _⟩ d_C_carryOut_103 106 rfl rfl ?_
        refine j_callVv hC jE_loc jT_good (As := [_, _, _]) c_Y_write yk_Y_write lk_C_270 ⟨rfl, rfl⟩ ⟨Nat.le_of_ble_eq_true rfl, Nat.le_of_ble_eq_true rfl⟩ 3 rfl rfl rfl rfl (Nat.le_of_ble_eq_true rfl) ⟨Nat.zero_le _, Nat.zero_le _⟩ d_C_carryOut_106 109 rfl rfl ?_
        exact j_vret hC hr hlk d_C_carryOut_109 (by rw [coS, if_pos (bI1 c_13)]; first | (rw [if_neg c_38, coT, if_pos c_70] <;> rfl) | (rw [if_neg c_38, coT, if_neg c_70] <;> rfl) | (rw [if_pos c_38, if_pos (bI1 c_45), coT, if_pos c_70] <;> rfl) | (rw [if_pos c_38, if_pos (bI1 c_45), coT, if_neg c_70] <;> rfl))
    · refine j_iload_n hC 1 42 rfl d_C_carryOut_41 rfl rfl ?_
      refine j_callSi hC jE_loc jT_good (As := [_]) c_C_isDevice yk_C_isDevice lk_C_217 ⟨rfl, rfl⟩ ⟨Nat.le_of_ble_eq_true rfl, Nat.le_of_ble_eq_true rfl⟩ rfl (Nat.le_of_ble_eq_true rfl) ⟨Nat.zero_le _, Nat.zero_le _⟩ d_C_carryOut_42 45 rfl rfl ?_
      refine j_if_ne hC 68 48 rfl d_C_carryOut_45 (by decide) (fun c_45 => ?_) (fun c_45 => ?_)
      · refine j_iload_n hC 2 69 rfl d_C_carryOut_68 rfl rfl ?_
        refine j_iconst (v := 3) hC 70 rfl d_C_carryOut_69 (by decide) ?_
        refine j_icmp_ne hC 91 73 rfl d_C_carryOut_70 (by decide) (fun c_70 => ?_) (fun c_70 => ?_)
        · refine j_aload_n hC 3 92 rfl d_C_carryOut_91 rfl rfl ?_
          refine g_C_mainMemory hC 95 rfl d_C_carryOut_92 ?_
          refine j_iload_n hC 1 96 rfl d_C_carryOut_95 rfl rfl ?_
          refine j_iload hC 0 98 rfl d_C_carryOut_96 rfl ?_
          refine j_aload_n hC 3 99 rfl d_C_carryOut_98 rfl rfl ?_
          refine g_C_ops hC 102 rfl d_C_carryOut_99 ?_
          refine j_iload_n hC 4 103 rfl d_C_carryOut_102 rfl rfl ?_
          refine j_callVi hC jE_loc jT_good (As := [_]) c_O_numberOf yk_O_numberOf lk_C_261 ⟨rfl, rfl⟩ ⟨Nat.le_of_ble_eq_true rfl, Nat.le_of_ble_eq_true rfl⟩ 1 rfl rfl rfl rfl (Nat.le_of_ble_eq_true rfl) ⟨Nat.zero_le _, Nat.zero_le _⟩ d_C_carryOut_103 106 rfl rfl ?_
          refine j_callVv hC jE_loc jT_good (As := [_, _, _]) c_Y_write yk_Y_write lk_C_270 ⟨rfl, rfl⟩ ⟨Nat.le_of_ble_eq_true rfl, Nat.le_of_ble_eq_true rfl⟩ 3 rfl rfl rfl rfl (Nat.le_of_ble_eq_true rfl) ⟨Nat.zero_le _, Nat.zero_le _⟩ d_C_carryOut_106 109 rfl rfl ?_
          exact j_vret hC hr hlk d_C_carryOut_109 (by rw [coS, if_pos (bI1 c_13)]; first | (rw [if_neg c_38, coT, if_pos c_70] <;> rfl) | (rw [if_neg c_38, coT, if_neg c_70] <;> rfl) | (rw [if_pos c_38, if_pos (bI1 c_45), coT, if_pos c_70] <;> rfl) | (rw [if_pos c_38, if_pos (bI1 c_45), coT, if_neg c_70] <;> rfl))
        · refine j_aload_n hC 3 74 rfl d_C_carryOut_73 rfl rfl ?_
          refine g_C_ops hC 77 rfl d_C_carryOut_74 ?_
          refine j_iload_n hC 4 78 rfl d_C_carryOut_77 rfl rfl ?_
          refine j_aload_n hC 3 79 rfl d_C_carryOut_78 rfl rfl ?_
          refine g_C_mainMemory hC 82 rfl d_C_carryOut_79 ?_
          refine j_iload_n hC 1 83 rfl d_C_carryOut_82 rfl rfl ?_
          refine j_iload hC 0 85 rfl d_C_carryOut_83 rfl ?_
          refine j_callVi hC jE_loc jT_good (As := [_, _]) c_Y_numberAt yk_Y_numberAt lk_C_267 ⟨rfl, rfl⟩ ⟨Nat.le_of_ble_eq_true rfl, Nat.le_of_ble_eq_true rfl⟩ 3 rfl rfl rfl rfl (Nat.le_of_ble_eq_true rfl) ⟨Nat.zero_le _, Nat.zero_le _⟩ d_C_carryOut_85 88 rfl rfl ?_
          refine j_callVv hC jE_loc jT_good (As := [_, _]) c_O_setLoaded yk_O_setLoaded lk_C_238 ⟨rfl, rfl⟩ ⟨Nat.le_of_ble_eq_true rfl, Nat.le_of_ble_eq_true rfl⟩ 1 rfl rfl rfl rfl (Nat.le_of_ble_eq_true rfl) ⟨Nat.zero_le _, Nat.zero_le _⟩ d_C_carryOut_88 91 rfl rfl ?_
          refine j_aload_n hC 3 92 rfl d_C_carryOut_91 rfl rfl ?_
          refine g_C_mainMemory hC 95 rfl d_C_carryOut_92 ?_
          refine j_iload_n hC 1 96 rfl d_C_carryOut_95 rfl rfl ?_
          refine j_iload hC 0 98 rfl d_C_carryOut_96 rfl ?_
          refine j_aload_n hC 3 99 rfl d_C_carryOut_98 rfl rfl ?_
          refine g_C_ops hC 102 rfl d_C_carryOut_99 ?_
          refine j_iload_n hC 4 103 rfl d_C_carryOut_102 rfl rfl ?_
          refine j_callVi hC jE_loc jT_good (As := [_]) c_O_numberOf yk_O_numberOf lk_C_261 ⟨rfl, rfl⟩ ⟨Nat.le_of_ble_eq_true rfl, Nat.le_of_ble_eq_true rfl⟩ 1 rfl rfl rfl rfl (Nat.le_of_ble_eq_true rfl) ⟨Nat.zero_le _, Nat.zero_le _⟩ d_C_carryOut_103 106 rfl rfl ?_
          refine j_callVv hC jE_loc jT_good (As := [_, _, _]) c_Y_write yk_Y_write lk_C_270 ⟨rfl, rfl⟩ ⟨Nat.le_of_ble_eq_true rfl, Nat.le_of_ble_eq_true rfl⟩ 3 rfl rfl rfl rfl (Nat.le_of_ble_eq_true rfl) ⟨Nat.zero_le _, Nat.zero_le _⟩ d_C_carryOut_106 109 rfl rfl ?_
          exact j_vret hC hr hlk d_C_carryOut_109 (by rw [coS, if_pos (bI1 c_13)]; first | (rw [if_neg c_38, coT, if_pos c_70] <;> rfl) | (rw [if_neg c_38, coT, if_neg c_70] <;> rfl) | (rw [if_pos c_38, if_pos (bI1 c_45), coT, if_pos c_70] <;> rfl) | (rw [if_pos c_38, if_pos (bI1 c_45), coT, if_neg c_70] <;> rfl))
      · refine j_aload_n hC 3 49 rfl d_C_carryOut_48 rfl rfl ?_
        refine g_C_buffer hC 52 rfl d_C_carryOut_49 ?_
        refine j_iload_n hC 4 53 rfl d_C_carryOut_52 rfl rfl ?_
        refine j_iload_n hC 1 54 rfl d_C_carryOut_53 rfl rfl ?_
        refine j_iload hC 0 56 rfl d_C_carryOut_54 rfl ?_
        refine j_aload_n hC 3 57 rfl d_C_carryOut_56 rfl rfl ?_
        refine g_C_ops hC 60 rfl d_C_carryOut_57 ?_
        refine j_iload_n hC 4 61 rfl d_C_carryOut_60 rfl rfl ?_
        refine j_callVi hC jE_loc jT_good (As := [_]) c_O_numberOf yk_O_numberOf lk_C_261 ⟨rfl, rfl⟩ ⟨Nat.le_of_ble_eq_true rfl, Nat.le_of_ble_eq_true rfl⟩ 1 rfl rfl rfl rfl (Nat.le_of_ble_eq_true rfl) ⟨Nat.zero_le _, Nat.zero_le _⟩ d_C_carryOut_61 64 rfl rfl ?_
        refine j_callVv hC jE_loc jT_good (As := [_, _, _, _]) c_B_append yk_B_append lk_C_264 ⟨rfl, rfl⟩ ⟨Nat.le_of_ble_eq_true rfl, Nat.le_of_ble_eq_true rfl⟩ 2 rfl rfl rfl rfl (Nat.le_of_ble_eq_true rfl) ⟨Nat.zero_le _, Nat.zero_le _⟩ d_C_carryOut_64 67 rfl rfl ?_
        exact j_vret hC hr hlk d_C_carryOut_67 (by simp only [coS, coT, bI1 c_13, c_38, bI0 c_45, reduceIte, Bool.false_eq_true] <;> rfl)
  · exact j_vret hC hr hlk d_C_carryOut_16 (by simp only [coS, coT, bI0 c_13, reduceIte, Bool.false_eq_true] <;> rfl)
set_option maxHeartbeats 4000000 in
set_option maxRecDepth 100000 in
theorem c_C_leave   : kM l dC dI cI cZ cB cJ y_C_leave b_C_leave 2 (some .int) 3 70 [.ref (ad 0)] (wC ad cI cZ cB σ β mk ρ) (some (.int ((lvR σ β).1))) (wC ad cI cZ cB (lvR σ β).2 β mk ρ) := by
  refine jM.of (lv := [(0, .ref (ad 0))]) (own := R_C) jE_loc (by decide) rfl rfl (Nat.le_of_ble_eq_true rfl) rfl ?_
  intro p e s m args below meth c A hC hr hlk
  refine j_aload_n hC 0 1 rfl d_C_leave_0 rfl rfl ?_
  refine j_callVi hC jE_loc jT_good (As := []) c_C_waitingOps yk_C_waitingOps lk_C_64 ⟨rfl, rfl⟩ ⟨Nat.le_of_ble_eq_true rfl, Nat.le_of_ble_eq_true rfl⟩ 0 rfl rfl rfl rfl (Nat.le_of_ble_eq_true rfl) ⟨Nat.zero_le _, Nat.zero_le _⟩ d_C_leave_1 4 rfl rfl ?_
  refine j_if_le hC 18 7 rfl d_C_leave_4 (by decide) (fun c_4 => ?_) (fun c_4 => ?_)
  · refine j_iconst (v := (-1)) hC 19 rfl d_C_leave_18 (by decide) ?_
    exact j_iret hC hr hlk d_C_leave_19 (by simp only [lvR, c_4, reduceIte, Bool.false_eq_true] <;> rfl) (by simp only [lvR, c_4, reduceIte, Bool.false_eq_true] <;> rfl)
  · refine j_aload_n hC 0 8 rfl d_C_leave_7 rfl rfl ?_
    refine j_aload_n hC 0 9 rfl d_C_leave_8 rfl rfl ?_
    refine g_C_oldestWaiting hC 12 rfl d_C_leave_9 ?_
    refine j_callVi hC jE_loc jT_good (As := [_]) c_C_mayLeave yk_C_mayLeave lk_C_170 ⟨rfl, rfl⟩ ⟨Nat.le_of_ble_eq_true rfl, Nat.le_of_ble_eq_true rfl⟩ 0 rfl rfl rfl rfl (Nat.le_of_ble_eq_true rfl) ⟨Nat.zero_le _, Nat.zero_le _⟩ d_C_leave_12 15 rfl rfl ?_
    refine j_if_ne hC 20 18 rfl d_C_leave_15 (by decide) (fun c_15 => ?_) (fun c_15 => ?_)
    · refine j_aload_n hC 0 21 rfl d_C_leave_20 rfl rfl ?_
      refine g_C_oldestWaiting hC 24 rfl d_C_leave_21 ?_
      refine j_istore_n (lv' := [(1, _), (0, _)]) hC 25 rfl d_C_leave_24 rfl (by decide) rfl ?_
      refine j_aload_n hC 1 26 rfl d_C_leave_25 rfl rfl ?_
      refine j_iload_n hC 0 27 rfl d_C_leave_26 rfl rfl ?_
      refine j_callVv hC jE_loc jT_good (As := [_]) c_C_carryOut yk_C_carryOut lk_C_173 ⟨rfl, rfl⟩ ⟨Nat.le_of_ble_eq_true rfl, Nat.le_of_ble_eq_true rfl⟩ 0 rfl rfl rfl rfl (Nat.le_of_ble_eq_true rfl) ⟨Nat.zero_le _, Nat.zero_le _⟩ d_C_leave_27 30 rfl rfl ?_
      refine j_aload_n hC 1 31 rfl d_C_leave_30 rfl rfl ?_
      refine j_iload_n hC 0 32 rfl d_C_leave_31 rfl rfl ?_
      refine j_iconst (v := 1) hC 33 rfl d_C_leave_32 (by decide) ?_
      refine j_iadd hC 34 rfl d_C_leave_33 ?_
      refine p_C_oldestWaiting hC 37 rfl d_C_leave_34 ?_
      refine j_iload_n hC 0 38 rfl d_C_leave_37 rfl rfl ?_
      exact j_iret hC hr hlk d_C_leave_38 (by simp only [lvR, c_4, bI1 c_15, reduceIte, Bool.false_eq_true] <;> rfl) (by simp only [lvR, c_4, bI1 c_15, reduceIte, Bool.false_eq_true] <;> rfl)
    · refine j_iconst (v := (-1)) hC 19 rfl d_C_leave_18 (by decide) ?_
      exact j_iret hC hr hlk d_C_leave_19 (by simp only [lvR, c_4, bI0 c_15, reduceIte, Bool.false_eq_true] <;> rfl) (by simp only [lvR, c_4, bI0 c_15, reduceIte, Bool.false_eq_true] <;> rfl)
set_option maxHeartbeats 4000000 in
set_option maxRecDepth 100000 in
theorem c_C_drain   : kM l dC dI cI cZ cB cJ y_C_drain b_C_drain 2 (some .int) 3 68 [.ref (ad 0)] (wC ad cI cZ cB σ β mk ρ) (some (.int ((drR σ).1))) (wC ad cI cZ cB (drR σ).2 β mk ρ) := by
  refine jM.of (lv := [(0, .ref (ad 0))]) (own := R_C) jE_loc (by decide) rfl rfl (Nat.le_of_ble_eq_true rfl) rfl ?_
  intro p e s m args below meth c A hC hr hlk
  refine j_aload_n hC 0 1 rfl d_C_drain_0 rfl rfl ?_
  refine g_C_buffer hC 4 rfl d_C_drain_1 ?_
  refine j_callVi hC jE_loc jT_good (As := []) c_B_isEmpty yk_B_isEmpty lk_C_176 ⟨rfl, rfl⟩ ⟨Nat.le_of_ble_eq_true rfl, Nat.le_of_ble_eq_true rfl⟩ 2 rfl rfl rfl rfl (Nat.le_of_ble_eq_true rfl) ⟨Nat.zero_le _, Nat.zero_le _⟩ d_C_drain_4 7 rfl rfl ?_
  refine j_if_eq hC 12 10 rfl d_C_drain_7 (by decide) (fun c_7 => ?_) (fun c_7 => ?_)
  · refine j_aload_n hC 0 13 rfl d_C_drain_12 rfl rfl ?_
    refine g_C_buffer hC 16 rfl d_C_drain_13 ?_
    refine j_callVi hC jE_loc jT_good (As := []) c_B_oldestStore yk_B_oldestStore lk_C_180 ⟨rfl, rfl⟩ ⟨Nat.le_of_ble_eq_true rfl, Nat.le_of_ble_eq_true rfl⟩ 2 rfl rfl rfl rfl (Nat.le_of_ble_eq_true rfl) ⟨Nat.zero_le _, Nat.zero_le _⟩ d_C_drain_16 19 rfl rfl ?_
    refine j_istore_n (lv' := [(1, _), (0, _)]) hC 20 rfl d_C_drain_19 rfl (by decide) rfl ?_
    refine j_aload_n hC 1 21 rfl d_C_drain_20 rfl rfl ?_
    refine g_C_buffer hC 24 rfl d_C_drain_21 ?_
    refine j_aload_n hC 1 25 rfl d_C_drain_24 rfl rfl ?_
    refine g_C_mainMemory hC 28 rfl d_C_drain_25 ?_
    refine j_callVv hC jE_loc jT_good (As := [_]) c_B_moveOldestTo yk_B_moveOldestTo lk_C_183 ⟨rfl, rfl⟩ ⟨Nat.le_of_ble_eq_true rfl, Nat.le_of_ble_eq_true rfl⟩ 2 rfl rfl rfl rfl (Nat.le_of_ble_eq_true rfl) ⟨Nat.zero_le _, Nat.zero_le _⟩ d_C_drain_28 31 rfl rfl ?_
    refine j_iload_n hC 0 32 rfl d_C_drain_31 rfl rfl ?_
    exact j_iret hC hr hlk d_C_drain_32 (by simp only [drR, decide_eq_true_eq, decide_eq_false_iff_not, bI0 c_7, reduceIte, Bool.false_eq_true] <;> rfl) (by simp only [drR, decide_eq_true_eq, decide_eq_false_iff_not, bI0 c_7, reduceIte, Bool.false_eq_true] <;> rfl)
  · refine j_iconst (v := (-1)) hC 11 rfl d_C_drain_10 (by decide) ?_
    exact j_iret hC hr hlk d_C_drain_11 (by simp only [drR, decide_eq_true_eq, decide_eq_false_iff_not, bI1 c_7, reduceIte, Bool.false_eq_true] <;> rfl) (by simp only [drR, decide_eq_true_eq, decide_eq_false_iff_not, bI1 c_7, reduceIte, Bool.false_eq_true] <;> rfl)
set_option maxHeartbeats 4000000 in
set_option maxRecDepth 100000 in
theorem c_C_marked {prog : Int32}  : kM l dC dI cI cZ cB cJ y_C_marked b_C_marked 2 (some .boolean) 0 0 [.ref (ad 0), .int prog] (wC ad cI cZ cB σ β mk ρ) (some (.int (bI (mkB mk prog)))) (wC ad cI cZ cB σ β mk ρ) := by
  refine jM.of (lv := [(0, .ref (ad 0)), (1, .int prog)]) (own := R_C) jE_loc (by decide) rfl rfl (Nat.le_of_ble_eq_true rfl) rfl ?_
  intro p e s m args below meth c A hC hr hlk
  refine j_aload_n hC 0 1 rfl d_C_marked_0 rfl rfl ?_
  refine g_C_marks hC 4 rfl d_C_marked_1 ?_
  refine j_iload_n hC 1 5 rfl d_C_marked_4 rfl rfl ?_
  refine j_bipush (v := 63) hC 7 rfl d_C_marked_5 (by decide) ?_
  refine j_iand hC 8 rfl d_C_marked_7 ?_
  refine j_lushr hC 9 rfl d_C_marked_8 rfl ?_
  refine j_lconst (v := 1) hC 10 rfl d_C_marked_9 (by decide) ?_
  refine j_land hC 11 rfl d_C_marked_10 ?_
  refine j_lconst (v := 0) hC 12 rfl d_C_marked_11 (by decide) ?_
  refine j_lcmp hC 13 rfl d_C_marked_12 ?_
  refine j_if_eq hC 20 16 rfl d_C_marked_13 (by decide) (fun c_13 => ?_) (fun c_13 => ?_)
  · refine j_iconst (v := 0) hC 21 rfl d_C_marked_20 (by decide) ?_
    exact j_zret hC hr hlk d_C_marked_21 (by unfold mkB bI; first | (rw [decide_eq_true c_13]; rfl) | (rw [decide_eq_false c_13]; rfl)) rfl
  · refine j_iconst (v := 1) hC 17 rfl d_C_marked_16 (by decide) ?_
    refine j_goto hC 21 d_C_marked_17 (by decide) ?_
    exact j_zret hC hr hlk d_C_marked_21 (by unfold mkB bI; first | (rw [decide_eq_true c_13]; rfl) | (rw [decide_eq_false c_13]; rfl)) rfl
set_option maxHeartbeats 4000000 in
set_option maxRecDepth 100000 in
theorem c_C_op {kind bytes prog : Int32} (hk : kwb kind bytes = true) (hw : σ 0 0 - σ 1 0 < 32) : kM l dC dI cI cZ cB cJ y_C_op b_C_op 5 (some .int) 1 25 [.ref (ad 0), .int kind, .int bytes, .int prog] (wC ad cI cZ cB σ β mk ρ) (some (.int (σ 0 0))) (wC ad cI cZ cB (sS (sA (sA (sA σ 10 (ix (σ 0 0)) kind) 11 (ix (σ 0 0)) bytes) 12 (ix (σ 0 0)) prog) 0 (σ 0 0 + 1)) (bA (bA (bA β 0 (ix (σ 0 0)) false) 1 (ix (σ 0 0)) false) 2 (ix (σ 0 0)) false) mk ρ) := by
  refine jM.of (lv := [(0, .ref (ad 0)), (1, .int kind), (2, .int bytes), (3, .int prog)]) (own := R_C) jE_loc (by decide) rfl rfl (Nat.le_of_ble_eq_true rfl) rfl ?_
  intro p e s m args below meth c A hC hr hlk
  refine j_iload_n hC 1 1 rfl d_C_op_0 rfl rfl ?_
  refine j_iload_n hC 2 2 rfl d_C_op_1 rfl rfl ?_
  refine j_callSi hC jE_loc jT_good (As := [_, _]) c_C_isKindWithBytes yk_C_isKindWithBytes lk_C_53 ⟨rfl, rfl⟩ ⟨Nat.le_of_ble_eq_true rfl, Nat.le_of_ble_eq_true rfl⟩ rfl (Nat.le_of_ble_eq_true rfl) ⟨Nat.zero_le _, Nat.zero_le _⟩ d_C_op_2 5 rfl rfl ?_
  refine j_if_ne hC 18 8 rfl d_C_op_5 (by decide) (fun c_5 => ?_) (fun c_5 => absurd c_5 (by rw [hk]; decide))
  refine j_aload_n hC 0 19 rfl d_C_op_18 rfl rfl ?_
  refine j_callVi hC jE_loc jT_good (As := []) c_C_waitingOps yk_C_waitingOps lk_C_64 ⟨rfl, rfl⟩ ⟨Nat.le_of_ble_eq_true rfl, Nat.le_of_ble_eq_true rfl⟩ 0 rfl rfl rfl rfl (Nat.le_of_ble_eq_true rfl) ⟨Nat.zero_le _, Nat.zero_le _⟩ d_C_op_19 22 rfl rfl ?_
  refine j_bipush (v := 32) hC 24 rfl d_C_op_22 (by decide) ?_
  refine j_icmp_lt hC 37 27 rfl d_C_op_24 (by decide) (fun c_24 => ?_) (fun c_24 => absurd c_24 (fun q => q hw))
  refine j_aload_n hC 0 38 rfl d_C_op_37 rfl rfl ?_
  refine g_C_nextOp hC 41 rfl d_C_op_38 ?_
  refine j_istore (lv' := [(4, _), (0, _), (1, _), (2, _), (3, _)]) hC 43 rfl d_C_op_41 (by decide) rfl ?_
  refine j_aload_n hC 1 44 rfl d_C_op_43 rfl rfl ?_
  refine g_C_ops hC 47 rfl d_C_op_44 ?_
  refine j_iload hC 0 49 rfl d_C_op_47 rfl ?_
  refine j_iload_n hC 2 50 rfl d_C_op_49 rfl rfl ?_
  refine j_iload_n hC 3 51 rfl d_C_op_50 rfl rfl ?_
  refine j_iload_n hC 4 52 rfl d_C_op_51 rfl rfl ?_
  refine j_callVv hC jE_loc jT_good (As := [_, _, _, _]) c_O_begin yk_O_begin lk_C_73 ⟨rfl, rfl⟩ ⟨Nat.le_of_ble_eq_true rfl, Nat.le_of_ble_eq_true rfl⟩ 1 rfl rfl rfl rfl (Nat.le_of_ble_eq_true rfl) ⟨Nat.zero_le _, Nat.zero_le _⟩ d_C_op_52 55 rfl rfl ?_
  refine j_aload_n hC 1 56 rfl d_C_op_55 rfl rfl ?_
  refine j_iload hC 0 58 rfl d_C_op_56 rfl ?_
  refine j_iconst (v := 1) hC 59 rfl d_C_op_58 (by decide) ?_
  refine j_iadd hC 60 rfl d_C_op_59 ?_
  refine p_C_nextOp hC 63 rfl d_C_op_60 ?_
  refine j_iload hC 0 65 rfl d_C_op_63 rfl ?_
  exact j_iret hC hr hlk d_C_op_65 rfl rfl
set_option maxHeartbeats 4000000 in
set_option maxRecDepth 100000 in
theorem c_C_address {op at0 : Int32} (h1 : ¬ op < 0) (h2 : op < σ 0 0) (hw : (!decide (op < σ 1 0) && !decide (σ 0 0 ≤ op)) = true) (hk : ¬ σ 10 (ix op) = 2) (ha : β 0 (ix op) = false) (hb : cba at0 (σ 11 (ix op)) = true) : kM l dC dI cI cZ cB cJ y_C_address b_C_address 4 (some .int) 4 90 [.ref (ad 0), .int op, .int at0] (wC ad cI cZ cB σ β mk ρ) (some (.int ((adT (sA σ 13 (ix op) at0) (bA β 0 (ix op) true) mk op).1))) (wC ad cI cZ cB (adT (sA σ 13 (ix op) at0) (bA β 0 (ix op) true) mk op).2.1 (adT (sA σ 13 (ix op) at0) (bA β 0 (ix op) true) mk op).2.2.1 (adT (sA σ 13 (ix op) at0) (bA β 0 (ix op) true) mk op).2.2.2 ρ) := by
  refine jM.of (lv := [(0, .ref (ad 0)), (1, .int op), (2, .int at0)]) (own := R_C) jE_loc (by decide) rfl rfl (Nat.le_of_ble_eq_true rfl) rfl ?_
  intro p e s m args below meth c A hC hr hlk
  refine j_aload_n hC 0 1 rfl d_C_address_0 rfl rfl ?_
  refine j_iload_n hC 1 2 rfl d_C_address_1 rfl rfl ?_
  refine j_callVv hC jE_loc jT_good (As := [_]) (c_C_requireOp h1 h2) yk_C_requireOp lk_C_77 ⟨rfl, rfl⟩ ⟨Nat.le_of_ble_eq_true rfl, Nat.le_of_ble_eq_true rfl⟩ 0 rfl rfl rfl rfl (Nat.le_of_ble_eq_true rfl) ⟨Nat.zero_le _, Nat.zero_le _⟩ d_C_address_2 5 rfl rfl ?_
  refine j_aload_n hC 0 6 rfl d_C_address_5 rfl rfl ?_
  refine j_iload_n hC 1 7 rfl d_C_address_6 rfl rfl ?_
  refine j_callVi hC jE_loc jT_good (As := [_]) c_C_waits yk_C_waits lk_C_81 ⟨rfl, rfl⟩ ⟨Nat.le_of_ble_eq_true rfl, Nat.le_of_ble_eq_true rfl⟩ 0 rfl rfl rfl rfl (Nat.le_of_ble_eq_true rfl) ⟨Nat.zero_le _, Nat.zero_le _⟩ d_C_address_7 10 rfl rfl ?_
  refine j_if_eq hC 36 13 rfl d_C_address_10 (by decide) (fun c_10 => absurd c_10 (by rw [hw]; decide)) (fun c_10 => ?_)
  refine j_aload_n hC 0 14 rfl d_C_address_13 rfl rfl ?_
  refine g_C_ops hC 17 rfl d_C_address_14 ?_
  refine j_iload_n hC 1 18 rfl d_C_address_17 rfl rfl ?_
  refine j_callVi hC jE_loc jT_good (As := [_]) c_O_kindOf yk_O_kindOf lk_C_85 ⟨rfl, rfl⟩ ⟨Nat.le_of_ble_eq_true rfl, Nat.le_of_ble_eq_true rfl⟩ 1 rfl rfl rfl rfl (Nat.le_of_ble_eq_true rfl) ⟨Nat.zero_le _, Nat.zero_le _⟩ d_C_address_18 21 rfl rfl ?_
  refine j_iconst (v := 2) hC 22 rfl d_C_address_21 (by decide) ?_
  refine j_icmp_eq hC 36 25 rfl d_C_address_22 (by decide) (fun c_22 => absurd c_22 hk) (fun c_22 => ?_)
  refine j_aload_n hC 0 26 rfl d_C_address_25 rfl rfl ?_
  refine g_C_ops hC 29 rfl d_C_address_26 ?_
  refine j_iload_n hC 1 30 rfl d_C_address_29 rfl rfl ?_
  refine j_callVi hC jE_loc jT_good (As := [_]) c_O_hasAddress yk_O_hasAddress lk_C_89 ⟨rfl, rfl⟩ ⟨Nat.le_of_ble_eq_true rfl, Nat.le_of_ble_eq_true rfl⟩ 1 rfl rfl rfl rfl (Nat.le_of_ble_eq_true rfl) ⟨Nat.zero_le _, Nat.zero_le _⟩ d_C_address_30 33 rfl rfl ?_
  refine j_if_eq hC 46 36 rfl d_C_address_33 (by decide) (fun c_33 => ?_) (fun c_33 => absurd c_33 (fun q => q (by rw [ha]; rfl)))
  refine j_iload_n hC 2 47 rfl d_C_address_46 rfl rfl ?_
  refine j_aload_n hC 0 48 rfl d_C_address_47 rfl rfl ?_
  refine g_C_ops hC 51 rfl d_C_address_48 ?_
  refine j_iload_n hC 1 52 rfl d_C_address_51 rfl rfl ?_
  refine j_callVi hC jE_loc jT_good (As := [_]) c_O_bytesOf yk_O_bytesOf lk_C_94 ⟨rfl, rfl⟩ ⟨Nat.le_of_ble_eq_true rfl, Nat.le_of_ble_eq_true rfl⟩ 1 rfl rfl rfl rfl (Nat.le_of_ble_eq_true rfl) ⟨Nat.zero_le _, Nat.zero_le _⟩ d_C_address_52 55 rfl rfl ?_
  refine j_callSi hC jE_loc jT_good (As := [_, _]) c_C_canBeAddress yk_C_canBeAddress lk_C_97 ⟨rfl, rfl⟩ ⟨Nat.le_of_ble_eq_true rfl, Nat.le_of_ble_eq_true rfl⟩ rfl (Nat.le_of_ble_eq_true rfl) ⟨Nat.zero_le _, Nat.zero_le _⟩ d_C_address_55 58 rfl rfl ?_
  refine j_if_ne hC 71 61 rfl d_C_address_58 (by decide) (fun c_58 => ?_) (fun c_58 => absurd c_58 (by rw [hb]; decide))
  refine j_aload_n hC 0 72 rfl d_C_address_71 rfl rfl ?_
  refine g_C_ops hC 75 rfl d_C_address_72 ?_
  refine j_iload_n hC 1 76 rfl d_C_address_75 rfl rfl ?_
  refine j_iload_n hC 2 77 rfl d_C_address_76 rfl rfl ?_
  refine j_callVv hC jE_loc jT_good (As := [_, _]) c_O_setAddress yk_O_setAddress lk_C_102 ⟨rfl, rfl⟩ ⟨Nat.le_of_ble_eq_true rfl, Nat.le_of_ble_eq_true rfl⟩ 1 rfl rfl rfl rfl (Nat.le_of_ble_eq_true rfl) ⟨Nat.zero_le _, Nat.zero_le _⟩ d_C_address_77 80 rfl rfl ?_
  refine j_aload_n hC 0 81 rfl d_C_address_80 rfl rfl ?_
  refine g_C_ops hC 84 rfl d_C_address_81 ?_
  refine j_iload_n hC 1 85 rfl d_C_address_84 rfl rfl ?_
  refine j_callVi hC jE_loc jT_good (As := [_]) c_O_kindOf yk_O_kindOf lk_C_85 ⟨rfl, rfl⟩ ⟨Nat.le_of_ble_eq_true rfl, Nat.le_of_ble_eq_true rfl⟩ 1 rfl rfl rfl rfl (Nat.le_of_ble_eq_true rfl) ⟨Nat.zero_le _, Nat.zero_le _⟩ d_C_address_85 88 rfl rfl ?_
  refine j_iconst (v := 1) hC 89 rfl d_C_address_88 (by decide) ?_
  refine j_icmp_eq hC 94 92 rfl d_C_address_89 (by decide) (fun c_89 => ?_) (fun c_89 => ?_)
  · refine j_aload_n hC 0 95 rfl d_C_address_94 rfl rfl ?_
    refine j_iload_n hC 1 96 rfl d_C_address_95 rfl rfl ?_
    refine j_callVi hC jE_loc jT_good (As := [_]) c_C_oldestLoadPast yk_C_oldestLoadPast lk_C_106 ⟨rfl, rfl⟩ ⟨Nat.le_of_ble_eq_true rfl, Nat.le_of_ble_eq_true rfl⟩ 0 rfl rfl rfl rfl (Nat.le_of_ble_eq_true rfl) ⟨Nat.zero_le _, Nat.zero_le _⟩ d_C_address_96 99 rfl rfl ?_
    refine j_istore_n (lv' := [(3, _), (0, _), (1, _), (2, _)]) hC 100 rfl d_C_address_99 rfl (by decide) rfl ?_
    refine j_iload_n hC 0 101 rfl d_C_address_100 rfl rfl ?_
    refine j_iconst (v := (-1)) hC 102 rfl d_C_address_101 (by decide) ?_
    refine j_icmp_ne hC 107 105 rfl d_C_address_102 (by decide) (fun c_102 => ?_) (fun c_102 => ?_)
    · refine j_aload_n hC 1 108 rfl d_C_address_107 rfl rfl ?_
      refine j_aload_n hC 1 109 rfl d_C_address_108 rfl rfl ?_
      refine g_C_ops hC 112 rfl d_C_address_109 ?_
      refine j_iload_n hC 0 113 rfl d_C_address_112 rfl rfl ?_
      refine j_callVi hC jE_loc jT_good (As := [_]) c_O_programOf yk_O_programOf lk_C_109 ⟨rfl, rfl⟩ ⟨Nat.le_of_ble_eq_true rfl, Nat.le_of_ble_eq_true rfl⟩ 1 rfl rfl rfl rfl (Nat.le_of_ble_eq_true rfl) ⟨Nat.zero_le _, Nat.zero_le _⟩ d_C_address_113 116 rfl rfl ?_
      refine j_callVv hC jE_loc jT_good (As := [_]) c_C_mark yk_C_mark lk_C_112 ⟨rfl, rfl⟩ ⟨Nat.le_of_ble_eq_true rfl, Nat.le_of_ble_eq_true rfl⟩ 0 rfl rfl rfl rfl (Nat.le_of_ble_eq_true rfl) ⟨Nat.zero_le _, Nat.zero_le _⟩ d_C_address_116 119 rfl rfl ?_
      refine j_aload_n hC 1 120 rfl d_C_address_119 rfl rfl ?_
      refine j_iload_n hC 0 121 rfl d_C_address_120 rfl rfl ?_
      refine j_callVi hC jE_loc jT_good (As := [_]) c_C_undoWrong yk_C_undoWrong lk_C_115 ⟨rfl, rfl⟩ ⟨Nat.le_of_ble_eq_true rfl, Nat.le_of_ble_eq_true rfl⟩ 0 rfl rfl rfl rfl (Nat.le_of_ble_eq_true rfl) ⟨Nat.zero_le _, Nat.zero_le _⟩ d_C_address_121 124 rfl rfl ?_
      exact j_iret hC hr hlk d_C_address_124 (by rw [adT, if_pos c_89, if_neg c_102] <;> rfl) (by rw [adT, if_pos c_89, if_neg c_102] <;> rfl)
    · refine j_iconst (v := 0) hC 106 rfl d_C_address_105 (by decide) ?_
      exact j_iret hC hr hlk d_C_address_106 (by rw [adT, if_pos c_89, if_pos c_102] <;> rfl) (by rw [adT, if_pos c_89, if_pos c_102] <;> rfl)
  · refine j_iconst (v := 0) hC 93 rfl d_C_address_92 (by decide) ?_
    exact j_iret hC hr hlk d_C_address_93 (by rw [adT, if_neg c_89] <;> rfl) (by rw [adT, if_neg c_89] <;> rfl)
set_option maxHeartbeats 4000000 in
set_option maxRecDepth 100000 in
theorem c_C_number {op v : Int32} (h1 : ¬ op < 0) (h2 : op < σ 0 0) (hw : (!decide (op < σ 1 0) && !decide (σ 0 0 ≤ op)) = true) (hk : (decide (σ 10 (ix op) = 1) || decide (σ 10 (ix op) = 3)) = true) (ha : β 1 (ix op) = false) : kM l dC dI cI cZ cB cJ y_C_number b_C_number 3 (some .int) 1 22 [.ref (ad 0), .int op, .int v] (wC ad cI cZ cB σ β mk ρ) (some (.int (σ 11 (ix op)))) (wC ad cI cZ cB (sA σ 15 (ix op) v) (bA β 1 (ix op) true) mk ρ) := by
  refine jM.of (lv := [(0, .ref (ad 0)), (1, .int op), (2, .int v)]) (own := R_C) jE_loc (by decide) rfl rfl (Nat.le_of_ble_eq_true rfl) rfl ?_
  intro p e s m args below meth c A hC hr hlk
  refine j_aload_n hC 0 1 rfl d_C_number_0 rfl rfl ?_
  refine j_iload_n hC 1 2 rfl d_C_number_1 rfl rfl ?_
  refine j_callVv hC jE_loc jT_good (As := [_]) (c_C_requireOp h1 h2) yk_C_requireOp lk_C_77 ⟨rfl, rfl⟩ ⟨Nat.le_of_ble_eq_true rfl, Nat.le_of_ble_eq_true rfl⟩ 0 rfl rfl rfl rfl (Nat.le_of_ble_eq_true rfl) ⟨Nat.zero_le _, Nat.zero_le _⟩ d_C_number_2 5 rfl rfl ?_
  refine j_aload_n hC 0 6 rfl d_C_number_5 rfl rfl ?_
  refine j_iload_n hC 1 7 rfl d_C_number_6 rfl rfl ?_
  refine j_callVi hC jE_loc jT_good (As := [_]) c_C_waits yk_C_waits lk_C_81 ⟨rfl, rfl⟩ ⟨Nat.le_of_ble_eq_true rfl, Nat.le_of_ble_eq_true rfl⟩ 0 rfl rfl rfl rfl (Nat.le_of_ble_eq_true rfl) ⟨Nat.zero_le _, Nat.zero_le _⟩ d_C_number_7 10 rfl rfl ?_
  refine j_if_eq hC 38 13 rfl d_C_number_10 (by decide) (fun c_10 => absurd c_10 (by rw [hw]; decide)) (fun c_10 => ?_)
  refine j_aload_n hC 0 14 rfl d_C_number_13 rfl rfl ?_
  refine g_C_ops hC 17 rfl d_C_number_14 ?_
  refine j_iload_n hC 1 18 rfl d_C_number_17 rfl rfl ?_
  refine j_callVi hC jE_loc jT_good (As := [_]) c_O_kindOf yk_O_kindOf lk_C_85 ⟨rfl, rfl⟩ ⟨Nat.le_of_ble_eq_true rfl, Nat.le_of_ble_eq_true rfl⟩ 1 rfl rfl rfl rfl (Nat.le_of_ble_eq_true rfl) ⟨Nat.zero_le _, Nat.zero_le _⟩ d_C_number_18 21 rfl rfl ?_
  refine j_callSi hC jE_loc jT_good (As := [_]) c_C_takesNumber yk_C_takesNumber lk_C_118 ⟨rfl, rfl⟩ ⟨Nat.le_of_ble_eq_true rfl, Nat.le_of_ble_eq_true rfl⟩ rfl (Nat.le_of_ble_eq_true rfl) ⟨Nat.zero_le _, Nat.zero_le _⟩ d_C_number_21 24 rfl rfl ?_
  refine j_if_eq hC 38 27 rfl d_C_number_24 (by decide) (fun c_24 => absurd c_24 (by rw [hk]; decide)) (fun c_24 => ?_)
  refine j_aload_n hC 0 28 rfl d_C_number_27 rfl rfl ?_
  refine g_C_ops hC 31 rfl d_C_number_28 ?_
  refine j_iload_n hC 1 32 rfl d_C_number_31 rfl rfl ?_
  refine j_callVi hC jE_loc jT_good (As := [_]) c_O_hasNumber yk_O_hasNumber lk_C_121 ⟨rfl, rfl⟩ ⟨Nat.le_of_ble_eq_true rfl, Nat.le_of_ble_eq_true rfl⟩ 1 rfl rfl rfl rfl (Nat.le_of_ble_eq_true rfl) ⟨Nat.zero_le _, Nat.zero_le _⟩ d_C_number_32 35 rfl rfl ?_
  refine j_if_eq hC 48 38 rfl d_C_number_35 (by decide) (fun c_35 => ?_) (fun c_35 => absurd c_35 (fun q => q (by rw [ha]; rfl)))
  refine j_aload_n hC 0 49 rfl d_C_number_48 rfl rfl ?_
  refine g_C_ops hC 52 rfl d_C_number_49 ?_
  refine j_iload_n hC 1 53 rfl d_C_number_52 rfl rfl ?_
  refine j_iload_n hC 2 54 rfl d_C_number_53 rfl rfl ?_
  refine j_callVv hC jE_loc jT_good (As := [_, _]) c_O_setNumber yk_O_setNumber lk_C_126 ⟨rfl, rfl⟩ ⟨Nat.le_of_ble_eq_true rfl, Nat.le_of_ble_eq_true rfl⟩ 1 rfl rfl rfl rfl (Nat.le_of_ble_eq_true rfl) ⟨Nat.zero_le _, Nat.zero_le _⟩ d_C_number_54 57 rfl rfl ?_
  refine j_aload_n hC 0 58 rfl d_C_number_57 rfl rfl ?_
  refine g_C_ops hC 61 rfl d_C_number_58 ?_
  refine j_iload_n hC 1 62 rfl d_C_number_61 rfl rfl ?_
  refine j_callVi hC jE_loc jT_good (As := [_]) c_O_bytesOf yk_O_bytesOf lk_C_94 ⟨rfl, rfl⟩ ⟨Nat.le_of_ble_eq_true rfl, Nat.le_of_ble_eq_true rfl⟩ 1 rfl rfl rfl rfl (Nat.le_of_ble_eq_true rfl) ⟨Nat.zero_le _, Nat.zero_le _⟩ d_C_number_62 65 rfl rfl ?_
  exact j_iret hC hr hlk d_C_number_65 rfl rfl
set_option maxHeartbeats 4000000 in
set_option maxRecDepth 100000 in
theorem c_C_tried {op : Int32} (h1 : ¬ op < 0) (h2 : op < σ 0 0) (h0 : 0 ≤ σ 1 0) (hw : (!decide (op < σ 1 0) && !decide (σ 0 0 ≤ op)) = true) (hk : σ 10 (ix op) = 0) (ha : β 0 (ix op) = true) (hd : β 2 (ix op) = false) : kM l dC dI cI cZ cB cJ y_C_tried b_C_tried 2 (some .int) 5 116 [.ref (ad 0), .int op] (wC ad cI cZ cB σ β mk ρ) (some (.int ((trR σ β mk op).1))) (wC ad cI cZ cB (trR σ β mk op).2.1 (trR σ β mk op).2.2 mk ρ) := by
  refine jM.of (lv := [(0, .ref (ad 0)), (1, .int op)]) (own := R_C) jE_loc (by decide) rfl rfl (Nat.le_of_ble_eq_true rfl) rfl ?_
  intro p e s m args below meth c A hC hr hlk
  refine j_aload_n hC 0 1 rfl d_C_tried_0 rfl rfl ?_
  refine j_iload_n hC 1 2 rfl d_C_tried_1 rfl rfl ?_
  refine j_callVv hC jE_loc jT_good (As := [_]) (c_C_requireOp h1 h2) yk_C_requireOp lk_C_77 ⟨rfl, rfl⟩ ⟨Nat.le_of_ble_eq_true rfl, Nat.le_of_ble_eq_true rfl⟩ 0 rfl rfl rfl rfl (Nat.le_of_ble_eq_true rfl) ⟨Nat.zero_le _, Nat.zero_le _⟩ d_C_tried_2 5 rfl rfl ?_
  refine j_aload_n hC 0 6 rfl d_C_tried_5 rfl rfl ?_
  refine j_iload_n hC 1 7 rfl d_C_tried_6 rfl rfl ?_
  refine j_callVi hC jE_loc jT_good (As := [_]) c_C_waits yk_C_waits lk_C_81 ⟨rfl, rfl⟩ ⟨Nat.le_of_ble_eq_true rfl, Nat.le_of_ble_eq_true rfl⟩ 0 rfl rfl rfl rfl (Nat.le_of_ble_eq_true rfl) ⟨Nat.zero_le _, Nat.zero_le _⟩ d_C_tried_7 10 rfl rfl ?_
  refine j_if_eq hC 46 13 rfl d_C_tried_10 (by decide) (fun c_10 => absurd c_10 (by rw [hw]; decide)) (fun c_10 => ?_)
  refine j_aload_n hC 0 14 rfl d_C_tried_13 rfl rfl ?_
  refine g_C_ops hC 17 rfl d_C_tried_14 ?_
  refine j_iload_n hC 1 18 rfl d_C_tried_17 rfl rfl ?_
  refine j_callVi hC jE_loc jT_good (As := [_]) c_O_kindOf yk_O_kindOf lk_C_85 ⟨rfl, rfl⟩ ⟨Nat.le_of_ble_eq_true rfl, Nat.le_of_ble_eq_true rfl⟩ 1 rfl rfl rfl rfl (Nat.le_of_ble_eq_true rfl) ⟨Nat.zero_le _, Nat.zero_le _⟩ d_C_tried_18 21 rfl rfl ?_
  refine j_if_ne hC 46 24 rfl d_C_tried_21 (by decide) (fun c_21 => absurd c_21 (fun q => q hk)) (fun c_21 => ?_)
  refine j_aload_n hC 0 25 rfl d_C_tried_24 rfl rfl ?_
  refine g_C_ops hC 28 rfl d_C_tried_25 ?_
  refine j_iload_n hC 1 29 rfl d_C_tried_28 rfl rfl ?_
  refine j_callVi hC jE_loc jT_good (As := [_]) c_O_hasAddress yk_O_hasAddress lk_C_89 ⟨rfl, rfl⟩ ⟨Nat.le_of_ble_eq_true rfl, Nat.le_of_ble_eq_true rfl⟩ 1 rfl rfl rfl rfl (Nat.le_of_ble_eq_true rfl) ⟨Nat.zero_le _, Nat.zero_le _⟩ d_C_tried_29 32 rfl rfl ?_
  refine j_if_eq hC 46 35 rfl d_C_tried_32 (by decide) (fun c_32 => absurd c_32 (by rw [ha]; decide)) (fun c_32 => ?_)
  refine j_aload_n hC 0 36 rfl d_C_tried_35 rfl rfl ?_
  refine g_C_ops hC 39 rfl d_C_tried_36 ?_
  refine j_iload_n hC 1 40 rfl d_C_tried_39 rfl rfl ?_
  refine j_callVi hC jE_loc jT_good (As := [_]) c_O_isDone yk_O_isDone lk_C_129 ⟨rfl, rfl⟩ ⟨Nat.le_of_ble_eq_true rfl, Nat.le_of_ble_eq_true rfl⟩ 1 rfl rfl rfl rfl (Nat.le_of_ble_eq_true rfl) ⟨Nat.zero_le _, Nat.zero_le _⟩ d_C_tried_40 43 rfl rfl ?_
  refine j_if_eq hC 56 46 rfl d_C_tried_43 (by decide) (fun c_43 => ?_) (fun c_43 => absurd c_43 (fun q => q (by rw [hd]; rfl)))
  refine j_aload_n hC 0 57 rfl d_C_tried_56 rfl rfl ?_
  refine j_iload_n hC 1 58 rfl d_C_tried_57 rfl rfl ?_
  refine j_callVi hC jE_loc jT_good (As := [_]) c_C_isHeldBack yk_C_isHeldBack lk_C_134 ⟨rfl, rfl⟩ ⟨Nat.le_of_ble_eq_true rfl, Nat.le_of_ble_eq_true rfl⟩ 0 rfl rfl rfl rfl (Nat.le_of_ble_eq_true rfl) ⟨Nat.zero_le _, Nat.zero_le _⟩ d_C_tried_58 61 rfl rfl ?_
  refine j_if_eq hC 66 64 rfl d_C_tried_61 (by decide) (fun c_61 => ?_) (fun c_61 => ?_)
  · refine j_aload_n hC 0 67 rfl d_C_tried_66 rfl rfl ?_
    refine j_aload_n hC 0 68 rfl d_C_tried_67 rfl rfl ?_
    refine g_C_ops hC 71 rfl d_C_tried_68 ?_
    refine j_iload_n hC 1 72 rfl d_C_tried_71 rfl rfl ?_
    refine j_callVi hC jE_loc jT_good (As := [_]) c_O_programOf yk_O_programOf lk_C_109 ⟨rfl, rfl⟩ ⟨Nat.le_of_ble_eq_true rfl, Nat.le_of_ble_eq_true rfl⟩ 1 rfl rfl rfl rfl (Nat.le_of_ble_eq_true rfl) ⟨Nat.zero_le _, Nat.zero_le _⟩ d_C_tried_72 75 rfl rfl ?_
    refine j_callVi hC jE_loc jT_good (As := [_]) c_C_marked yk_C_marked lk_C_137 ⟨rfl, rfl⟩ ⟨Nat.le_of_ble_eq_true rfl, Nat.le_of_ble_eq_true rfl⟩ 0 rfl rfl rfl rfl (Nat.le_of_ble_eq_true rfl) ⟨Nat.zero_le _, Nat.zero_le _⟩ d_C_tried_75 78 rfl rfl ?_
    refine j_if_eq hC 91 81 rfl d_C_tried_78 (by decide) (fun c_78 => ?_) (fun c_78 => ?_)
    · refine j_aload_n hC 0 92 rfl d_C_tried_91 rfl rfl ?_
      refine j_iload_n hC 1 93 rfl d_C_tried_92 rfl rfl ?_
      refine j_callVi hC jE_loc jT_good (As := [_]) (c_C_storeWithoutNumberFor h0) yk_C_storeWithoutNumberFor lk_C_143 ⟨rfl, rfl⟩ ⟨Nat.le_of_ble_eq_true rfl, Nat.le_of_ble_eq_true rfl⟩ 0 rfl rfl rfl rfl (Nat.le_of_ble_eq_true rfl) ⟨Nat.zero_le _, Nat.zero_le _⟩ d_C_tried_93 96 rfl rfl ?_
      refine j_if_eq hC 101 99 rfl d_C_tried_96 (by decide) (fun c_96 => ?_) (fun c_96 => ?_)
      · refine j_aload_n hC 0 102 rfl d_C_tried_101 rfl rfl ?_
        refine j_iload_n hC 1 103 rfl d_C_tried_102 rfl rfl ?_
        refine j_callVv hC jE_loc jT_good (As := [_]) (c_C_doLoad h0) yk_C_doLoad lk_C_146 ⟨rfl, rfl⟩ ⟨Nat.le_of_ble_eq_true rfl, Nat.le_of_ble_eq_true rfl⟩ 0 rfl rfl rfl rfl (Nat.le_of_ble_eq_true rfl) ⟨Nat.zero_le _, Nat.zero_le _⟩ d_C_tried_103 106 rfl rfl ?_
        refine j_iconst (v := 1) hC 107 rfl d_C_tried_106 (by decide) ?_
        exact j_iret hC hr hlk d_C_tried_107 (by simp only [trR, bI1 c_10, c_21, bI1 c_32, bI0 c_43, bI0 c_61, bI0 c_78, bI0 c_96, reduceIte, Bool.false_eq_true] <;> rfl) (by simp only [trR, bI1 c_10, c_21, bI1 c_32, bI0 c_43, bI0 c_61, bI0 c_78, bI0 c_96, reduceIte, Bool.false_eq_true] <;> rfl)
      · refine j_iconst (v := 4) hC 100 rfl d_C_tried_99 (by decide) ?_
        exact j_iret hC hr hlk d_C_tried_100 (by simp only [trR, bI1 c_10, c_21, bI1 c_32, bI0 c_43, bI0 c_61, bI0 c_78, bI1 c_96, reduceIte, Bool.false_eq_true] <;> rfl) (by simp only [trR, bI1 c_10, c_21, bI1 c_32, bI0 c_43, bI0 c_61, bI0 c_78, bI1 c_96, reduceIte, Bool.false_eq_true] <;> rfl)
    · refine j_aload_n hC 0 82 rfl d_C_tried_81 rfl rfl ?_
      refine j_iload_n hC 1 83 rfl d_C_tried_82 rfl rfl ?_
      refine j_callVi hC jE_loc jT_good (As := [_]) c_C_storeWithoutAddressBefore yk_C_storeWithoutAddressBefore lk_C_140 ⟨rfl, rfl⟩ ⟨Nat.le_of_ble_eq_true rfl, Nat.le_of_ble_eq_true rfl⟩ 0 rfl rfl rfl rfl (Nat.le_of_ble_eq_true rfl) ⟨Nat.zero_le _, Nat.zero_le _⟩ d_C_tried_83 86 rfl rfl ?_
      refine j_if_eq hC 91 89 rfl d_C_tried_86 (by decide) (fun c_86 => ?_) (fun c_86 => ?_)
      · refine j_aload_n hC 0 92 rfl d_C_tried_91 rfl rfl ?_
        refine j_iload_n hC 1 93 rfl d_C_tried_92 rfl rfl ?_
        refine j_callVi hC jE_loc jT_good (As := [_]) (c_C_storeWithoutNumberFor h0) yk_C_storeWithoutNumberFor lk_C_143 ⟨rfl, rfl⟩ ⟨Nat.le_of_ble_eq_true rfl, Nat.le_of_ble_eq_true rfl⟩ 0 rfl rfl rfl rfl (Nat.le_of_ble_eq_true rfl) ⟨Nat.zero_le _, Nat.zero_le _⟩ d_C_tried_93 96 rfl rfl ?_
        refine j_if_eq hC 101 99 rfl d_C_tried_96 (by decide) (fun c_96 => ?_) (fun c_96 => ?_)
        · refine j_aload_n hC 0 102 rfl d_C_tried_101 rfl rfl ?_
          refine j_iload_n hC 1 103 rfl d_C_tried_102 rfl rfl ?_
          refine j_callVv hC jE_loc jT_good (As := [_]) (c_C_doLoad h0) yk_C_doLoad lk_C_146 ⟨rfl, rfl⟩ ⟨Nat.le_of_ble_eq_true rfl, Nat.le_of_ble_eq_true rfl⟩ 0 rfl rfl rfl rfl (Nat.le_of_ble_eq_true rfl) ⟨Nat.zero_le _, Nat.zero_le _⟩ d_C_tried_103 106 rfl rfl ?_
          refine j_iconst (v := 1) hC 107 rfl d_C_tried_106 (by decide) ?_
          exact j_iret hC hr hlk d_C_tried_107 (by simp only [trR, bI1 c_10, c_21, bI1 c_32, bI0 c_43, bI0 c_61, bI1 c_78, bI0 c_86, bI0 c_96, reduceIte, Bool.false_eq_true] <;> rfl) (by simp only [trR, bI1 c_10, c_21, bI1 c_32, bI0 c_43, bI0 c_61, bI1 c_78, bI0 c_86, bI0 c_96, reduceIte, Bool.false_eq_true] <;> rfl)
        · refine j_iconst (v := 4) hC 100 rfl d_C_tried_99 (by decide) ?_
          exact j_iret hC hr hlk d_C_tried_100 (by simp only [trR, bI1 c_10, c_21, bI1 c_32, bI0 c_43, bI0 c_61, bI1 c_78, bI0 c_86, bI1 c_96, reduceIte, Bool.false_eq_true] <;> rfl) (by simp only [trR, bI1 c_10, c_21, bI1 c_32, bI0 c_43, bI0 c_61, bI1 c_78, bI0 c_86, bI1 c_96, reduceIte, Bool.false_eq_true] <;> rfl)
      · refine j_iconst (v := 3) hC 90 rfl d_C_tried_89 (by decide) ?_
        exact j_iret hC hr hlk d_C_tried_90 (by simp only [trR, bI1 c_10, c_21, bI1 c_32, bI0 c_43, bI0 c_61, bI1 c_78, bI1 c_86, reduceIte, Bool.false_eq_true] <;> rfl) (by simp only [trR, bI1 c_10, c_21, bI1 c_32, bI0 c_43, bI0 c_61, bI1 c_78, bI1 c_86, reduceIte, Bool.false_eq_true] <;> rfl)
  · refine j_iconst (v := 2) hC 65 rfl d_C_tried_64 (by decide) ?_
    exact j_iret hC hr hlk d_C_tried_65 (by simp only [trR, bI1 c_10, c_21, bI1 c_32, bI0 c_43, bI1 c_61, reduceIte, Bool.false_eq_true] <;> rfl) (by simp only [trR, bI1 c_10, c_21, bI1 c_32, bI0 c_43, bI1 c_61, reduceIte, Bool.false_eq_true] <;> rfl)
set_option maxHeartbeats 4000000 in
set_option maxRecDepth 100000 in
theorem c_C_loaded {op : Int32} (h1 : ¬ op < 0) (h2 : op < σ 0 0) (hl : σ 0 0 - 1 - op < 64) (hk : hlC σ β op = true) : kM l dC dI cI cZ cB cJ y_C_loaded b_C_loaded 2 (some .int) 2 42 [.ref (ad 0), .int op] (wC ad cI cZ cB σ β mk ρ) (some (.int (σ 18 (ix op)))) (wC ad cI cZ cB σ β mk ρ) := by
  refine jM.of (lv := [(0, .ref (ad 0)), (1, .int op)]) (own := R_C) jE_loc (by decide) rfl rfl (Nat.le_of_ble_eq_true rfl) rfl ?_
  intro p e s m args below meth c A hC hr hlk
  refine j_aload_n hC 0 1 rfl d_C_loaded_0 rfl rfl ?_
  refine j_iload_n hC 1 2 rfl d_C_loaded_1 rfl rfl ?_
  refine j_callVv hC jE_loc jT_good (As := [_]) (c_C_requireOp h1 h2) yk_C_requireOp lk_C_77 ⟨rfl, rfl⟩ ⟨Nat.le_of_ble_eq_true rfl, Nat.le_of_ble_eq_true rfl⟩ 0 rfl rfl rfl rfl (Nat.le_of_ble_eq_true rfl) ⟨Nat.zero_le _, Nat.zero_le _⟩ d_C_loaded_2 5 rfl rfl ?_
  refine j_aload_n hC 0 6 rfl d_C_loaded_5 rfl rfl ?_
  refine g_C_nextOp hC 9 rfl d_C_loaded_6 ?_
  refine j_iconst (v := 1) hC 10 rfl d_C_loaded_9 (by decide) ?_
  refine j_isub hC 11 rfl d_C_loaded_10 ?_
  refine j_iload_n hC 1 12 rfl d_C_loaded_11 rfl rfl ?_
  refine j_isub hC 13 rfl d_C_loaded_12 ?_
  refine j_bipush (v := 64) hC 15 rfl d_C_loaded_13 (by decide) ?_
  refine j_icmp_lt hC 28 18 rfl d_C_loaded_15 (by decide) (fun c_15 => ?_) (fun c_15 => absurd c_15 (fun q => q hl))
  refine j_aload_n hC 0 29 rfl d_C_loaded_28 rfl rfl ?_
  refine j_iload_n hC 1 30 rfl d_C_loaded_29 rfl rfl ?_
  refine j_callVi hC jE_loc jT_good (As := [_]) c_C_hasLoaded yk_C_hasLoaded lk_C_154 ⟨rfl, rfl⟩ ⟨Nat.le_of_ble_eq_true rfl, Nat.le_of_ble_eq_true rfl⟩ 0 rfl rfl rfl rfl (Nat.le_of_ble_eq_true rfl) ⟨Nat.zero_le _, Nat.zero_le _⟩ d_C_loaded_30 33 rfl rfl ?_
  refine j_if_ne hC 46 36 rfl d_C_loaded_33 (by decide) (fun c_33 => ?_) (fun c_33 => absurd c_33 (by rw [hk]; decide))
  refine j_aload_n hC 0 47 rfl d_C_loaded_46 rfl rfl ?_
  refine g_C_ops hC 50 rfl d_C_loaded_47 ?_
  refine j_iload_n hC 1 51 rfl d_C_loaded_50 rfl rfl ?_
  refine j_callVi hC jE_loc jT_good (As := [_]) c_O_loadedBy yk_O_loadedBy lk_C_159 ⟨rfl, rfl⟩ ⟨Nat.le_of_ble_eq_true rfl, Nat.le_of_ble_eq_true rfl⟩ 1 rfl rfl rfl rfl (Nat.le_of_ble_eq_true rfl) ⟨Nat.zero_le _, Nat.zero_le _⟩ d_C_loaded_51 54 rfl rfl ?_
  exact j_iret hC hr hlk d_C_loaded_54 rfl rfl
set_option maxHeartbeats 4000000 in
set_option maxRecDepth 100000 in
theorem c_C_source {op k : Int32} (h1 : ¬ op < 0) (h2 : op < σ 0 0) (hw : (!decide (op < σ 1 0) && !decide (σ 0 0 ≤ op)) = true) (hd : β 2 (ix op) = true) (hk : ¬ k < 0) (hk2 : k < σ 11 (ix op)) : kM l dC dI cI cZ cB cJ y_C_source b_C_source 4 (some .int) 2 43 [.ref (ad 0), .int op, .int k] (wC ad cI cZ cB σ β mk ρ) (some (.int (if σ 19 (isx op k) < 0 then -1 else σ 19 (isx op k)))) (wC ad cI cZ cB σ β mk ρ) := by
  refine jM.of (lv := [(0, .ref (ad 0)), (1, .int op), (2, .int k)]) (own := R_C) jE_loc (by decide) rfl rfl (Nat.le_of_ble_eq_true rfl) rfl ?_
  intro p e s m args below meth c A hC hr hlk
  refine j_aload_n hC 0 1 rfl d_C_source_0 rfl rfl ?_
  refine j_iload_n hC 1 2 rfl d_C_source_1 rfl rfl ?_
  refine j_callVv hC jE_loc jT_good (As := [_]) (c_C_requireOp h1 h2) yk_C_requireOp lk_C_77 ⟨rfl, rfl⟩ ⟨Nat.le_of_ble_eq_true rfl, Nat.le_of_ble_eq_true rfl⟩ 0 rfl rfl rfl rfl (Nat.le_of_ble_eq_true rfl) ⟨Nat.zero_le _, Nat.zero_le _⟩ d_C_source_2 5 rfl rfl ?_
  refine j_aload_n hC 0 6 rfl d_C_source_5 rfl rfl ?_
  refine j_iload_n hC 1 7 rfl d_C_source_6 rfl rfl ?_
  refine j_callVi hC jE_loc jT_good (As := [_]) c_C_waits yk_C_waits lk_C_81 ⟨rfl, rfl⟩ ⟨Nat.le_of_ble_eq_true rfl, Nat.le_of_ble_eq_true rfl⟩ 0 rfl rfl rfl rfl (Nat.le_of_ble_eq_true rfl) ⟨Nat.zero_le _, Nat.zero_le _⟩ d_C_source_7 10 rfl rfl ?_
  refine j_if_eq hC 24 13 rfl d_C_source_10 (by decide) (fun c_10 => absurd c_10 (by rw [hw]; decide)) (fun c_10 => ?_)
  refine j_aload_n hC 0 14 rfl d_C_source_13 rfl rfl ?_
  refine g_C_ops hC 17 rfl d_C_source_14 ?_
  refine j_iload_n hC 1 18 rfl d_C_source_17 rfl rfl ?_
  refine j_callVi hC jE_loc jT_good (As := [_]) c_O_isDone yk_O_isDone lk_C_129 ⟨rfl, rfl⟩ ⟨Nat.le_of_ble_eq_true rfl, Nat.le_of_ble_eq_true rfl⟩ 1 rfl rfl rfl rfl (Nat.le_of_ble_eq_true rfl) ⟨Nat.zero_le _, Nat.zero_le _⟩ d_C_source_18 21 rfl rfl ?_
  refine j_if_ne hC 34 24 rfl d_C_source_21 (by decide) (fun c_21 => ?_) (fun c_21 => absurd c_21 (by rw [hd]; decide))
  refine j_iload_n hC 2 35 rfl d_C_source_34 rfl rfl ?_
  refine j_if_lt hC 50 38 rfl d_C_source_35 (by decide) (fun c_35 => absurd c_35 hk) (fun c_35 => ?_)
  refine j_iload_n hC 2 39 rfl d_C_source_38 rfl rfl ?_
  refine j_aload_n hC 0 40 rfl d_C_source_39 rfl rfl ?_
  refine g_C_ops hC 43 rfl d_C_source_40 ?_
  refine j_iload_n hC 1 44 rfl d_C_source_43 rfl rfl ?_
  refine j_callVi hC jE_loc jT_good (As := [_]) c_O_bytesOf yk_O_bytesOf lk_C_94 ⟨rfl, rfl⟩ ⟨Nat.le_of_ble_eq_true rfl, Nat.le_of_ble_eq_true rfl⟩ 1 rfl rfl rfl rfl (Nat.le_of_ble_eq_true rfl) ⟨Nat.zero_le _, Nat.zero_le _⟩ d_C_source_44 47 rfl rfl ?_
  refine j_icmp_lt hC 60 50 rfl d_C_source_47 (by decide) (fun c_47 => ?_) (fun c_47 => absurd c_47 (fun q => q hk2))
  refine j_aload_n hC 0 61 rfl d_C_source_60 rfl rfl ?_
  refine g_C_ops hC 64 rfl d_C_source_61 ?_
  refine j_iload_n hC 1 65 rfl d_C_source_64 rfl rfl ?_
  refine j_iload_n hC 2 66 rfl d_C_source_65 rfl rfl ?_
  refine j_callVi hC jE_loc jT_good (As := [_, _]) c_O_sourceOf yk_O_sourceOf lk_C_166 ⟨rfl, rfl⟩ ⟨Nat.le_of_ble_eq_true rfl, Nat.le_of_ble_eq_true rfl⟩ 1 rfl rfl rfl rfl (Nat.le_of_ble_eq_true rfl) ⟨Nat.zero_le _, Nat.zero_le _⟩ d_C_source_66 69 rfl rfl ?_
  refine j_istore_n (lv' := [(3, _), (0, _), (1, _), (2, _)]) hC 70 rfl d_C_source_69 rfl (by decide) rfl ?_
  refine j_iload_n hC 0 71 rfl d_C_source_70 rfl rfl ?_
  refine j_if_lt hC 78 74 rfl d_C_source_71 (by decide) (fun c_71 => ?_) (fun c_71 => ?_)
  · refine j_iconst (v := (-1)) hC 79 rfl d_C_source_78 (by decide) ?_
    exact j_iret hC hr hlk d_C_source_79 (by simp only [bI1 c_10, bI1 c_21, c_35, c_47, c_71, reduceIte]) rfl
  · refine j_iload_n hC 0 75 rfl d_C_source_74 rfl rfl ?_
    refine j_goto hC 79 d_C_source_75 (by decide) ?_
    exact j_iret hC hr hlk d_C_source_79 (by simp only [bI1 c_10, bI1 c_21, c_35, c_47, c_71, reduceIte]) rfl
set_option maxHeartbeats 4000000 in
set_option maxRecDepth 100000 in
theorem c_C_other {at0 v : Int32} (hm : (!decide (at0 < 0) && !decide (4096 ≤ at0)) = true) (hv : ¬ v < 0) (hv2 : v ≤ 255) : kM l dC dI cI cZ cB cJ y_C_other b_C_other 4 (some .int) 3 66 [.ref (ad 0), .int at0, .int v] (wC ad cI cZ cB σ β mk ρ) (some (.int ((otR (sA σ 24 (iy at0) v.toInt8.toInt32) β at0).1))) (wC ad cI cZ cB (otR (sA σ 24 (iy at0) v.toInt8.toInt32) β at0).2.1 (otR (sA σ 24 (iy at0) v.toInt8.toInt32) β at0).2.2 mk ρ) := by
  refine jM.of (lv := [(0, .ref (ad 0)), (1, .int at0), (2, .int v)]) (own := R_C) jE_loc (by decide) rfl rfl (Nat.le_of_ble_eq_true rfl) rfl ?_
  intro p e s m args below meth c A hC hr hlk
  refine j_iload_n hC 1 1 rfl d_C_other_0 rfl rfl ?_
  refine j_callSi hC jE_loc jT_good (As := [_]) c_C_isMemoryByte yk_C_isMemoryByte lk_C_187 ⟨rfl, rfl⟩ ⟨Nat.le_of_ble_eq_true rfl, Nat.le_of_ble_eq_true rfl⟩ rfl (Nat.le_of_ble_eq_true rfl) ⟨Nat.zero_le _, Nat.zero_le _⟩ d_C_other_1 4 rfl rfl ?_
  refine j_if_eq hC 18 7 rfl d_C_other_4 (by decide) (fun c_4 => absurd c_4 (by rw [hm]; decide)) (fun c_4 => ?_)
  refine j_iload_n hC 2 8 rfl d_C_other_7 rfl rfl ?_
  refine j_if_lt hC 18 11 rfl d_C_other_8 (by decide) (fun c_8 => absurd c_8 hv) (fun c_8 => ?_)
  refine j_iload_n hC 2 12 rfl d_C_other_11 rfl rfl ?_
  refine j_sipush (v := 255) hC 15 rfl d_C_other_12 (by decide) ?_
  refine j_icmp_le hC 28 18 rfl d_C_other_15 (by decide) (fun c_15 => ?_) (fun c_15 => absurd c_15 (fun q => q hv2))
  refine j_aload_n hC 0 29 rfl d_C_other_28 rfl rfl ?_
  refine g_C_mainMemory hC 32 rfl d_C_other_29 ?_
  refine j_iload_n hC 1 33 rfl d_C_other_32 rfl rfl ?_
  refine j_iload_n hC 2 34 rfl d_C_other_33 rfl rfl ?_
  refine j_callVv hC jE_loc jT_good (As := [_, _]) c_Y_setByte yk_Y_setByte lk_C_192 ⟨rfl, rfl⟩ ⟨Nat.le_of_ble_eq_true rfl, Nat.le_of_ble_eq_true rfl⟩ 3 rfl rfl rfl rfl (Nat.le_of_ble_eq_true rfl) ⟨Nat.zero_le _, Nat.zero_le _⟩ d_C_other_34 37 rfl rfl ?_
  refine j_aload_n hC 0 38 rfl d_C_other_37 rfl rfl ?_
  refine j_iload_n hC 1 39 rfl d_C_other_38 rfl rfl ?_
  refine j_callVi hC jE_loc jT_good (As := [_]) c_C_oldestLoadFromMemory yk_C_oldestLoadFromMemory lk_C_195 ⟨rfl, rfl⟩ ⟨Nat.le_of_ble_eq_true rfl, Nat.le_of_ble_eq_true rfl⟩ 0 rfl rfl rfl rfl (Nat.le_of_ble_eq_true rfl) ⟨Nat.zero_le _, Nat.zero_le _⟩ d_C_other_39 42 rfl rfl ?_
  refine j_istore_n (lv' := [(3, _), (0, _), (1, _), (2, _)]) hC 43 rfl d_C_other_42 rfl (by decide) rfl ?_
  refine j_iload_n hC 0 44 rfl d_C_other_43 rfl rfl ?_
  refine j_iconst (v := (-1)) hC 45 rfl d_C_other_44 (by decide) ?_
  refine j_icmp_ne hC 52 48 rfl d_C_other_45 (by decide) (fun c_45 => ?_) (fun c_45 => ?_)
  · refine j_aload_n hC 1 53 rfl d_C_other_52 rfl rfl ?_
    refine j_iload_n hC 0 54 rfl d_C_other_53 rfl rfl ?_
    refine j_callVi hC jE_loc jT_good (As := [_]) c_C_undoWrong yk_C_undoWrong lk_C_115 ⟨rfl, rfl⟩ ⟨Nat.le_of_ble_eq_true rfl, Nat.le_of_ble_eq_true rfl⟩ 0 rfl rfl rfl rfl (Nat.le_of_ble_eq_true rfl) ⟨Nat.zero_le _, Nat.zero_le _⟩ d_C_other_54 57 rfl rfl ?_
    exact j_iret hC hr hlk d_C_other_57 (by simp only [otR, bI1 c_4, c_8, c_15, c_45, reduceIte, Bool.false_eq_true] <;> rfl) (by simp only [otR, bI1 c_4, c_8, c_15, c_45, reduceIte, Bool.false_eq_true] <;> rfl)
  · refine j_iconst (v := 0) hC 49 rfl d_C_other_48 (by decide) ?_
    refine j_goto hC 57 d_C_other_49 (by decide) ?_
    exact j_iret hC hr hlk d_C_other_57 (by simp only [otR, bI1 c_4, c_8, c_15, c_45, reduceIte, Bool.false_eq_true] <;> rfl) (by simp only [otR, bI1 c_4, c_8, c_15, c_45, reduceIte, Bool.false_eq_true] <;> rfl)
set_option maxHeartbeats 4000000 in
set_option maxRecDepth 100000 in
theorem c_C_memory {at0 : Int32} (hm : (!decide (at0 < 0) && !decide (4096 ≤ at0)) = true) : kM l dC dI cI cZ cB cJ y_C_memory b_C_memory 2 (some .int) 1 21 [.ref (ad 0), .int at0] (wC ad cI cZ cB σ β mk ρ) (some (.int (σ 24 (iy at0) &&& 255))) (wC ad cI cZ cB σ β mk ρ) := by
  refine jM.of (lv := [(0, .ref (ad 0)), (1, .int at0)]) (own := R_C) jE_loc (by decide) rfl rfl (Nat.le_of_ble_eq_true rfl) rfl ?_
  intro p e s m args below meth c A hC hr hlk
  refine j_iload_n hC 1 1 rfl d_C_memory_0 rfl rfl ?_
  refine j_callSi hC jE_loc jT_good (As := [_]) c_C_isMemoryByte yk_C_isMemoryByte lk_C_187 ⟨rfl, rfl⟩ ⟨Nat.le_of_ble_eq_true rfl, Nat.le_of_ble_eq_true rfl⟩ rfl (Nat.le_of_ble_eq_true rfl) ⟨Nat.zero_le _, Nat.zero_le _⟩ d_C_memory_1 4 rfl rfl ?_
  refine j_if_ne hC 17 7 rfl d_C_memory_4 (by decide) (fun c_4 => ?_) (fun c_4 => absurd c_4 (by rw [hm]; decide))
  refine j_aload_n hC 0 18 rfl d_C_memory_17 rfl rfl ?_
  refine g_C_mainMemory hC 21 rfl d_C_memory_18 ?_
  refine j_iload_n hC 1 22 rfl d_C_memory_21 rfl rfl ?_
  refine j_callVi hC jE_loc jT_good (As := [_]) c_Y_byteAt yk_Y_byteAt lk_C_200 ⟨rfl, rfl⟩ ⟨Nat.le_of_ble_eq_true rfl, Nat.le_of_ble_eq_true rfl⟩ 3 rfl rfl rfl rfl (Nat.le_of_ble_eq_true rfl) ⟨Nat.zero_le _, Nat.zero_le _⟩ d_C_memory_22 25 rfl rfl ?_
  exact j_iret hC hr hlk d_C_memory_25 rfl rfl
set_option maxHeartbeats 4000000 in
set_option maxRecDepth 100000 in
theorem c_C_forget {op : Int32} (h1 : ¬ op < 0) (h2 : op < σ 0 0) (hw : (!decide (op < σ 1 0) && !decide (σ 0 0 ≤ op)) = true) : kM l dC dI cI cZ cB cJ y_C_forget b_C_forget 3 (some .int) 1 21 [.ref (ad 0), .int op] (wC ad cI cZ cB σ β mk ρ) (some (.int (σ 0 0 - op))) (wC ad cI cZ cB (sS σ 0 op) β mk ρ) := by
  refine jM.of (lv := [(0, .ref (ad 0)), (1, .int op)]) (own := R_C) jE_loc (by decide) rfl rfl (Nat.le_of_ble_eq_true rfl) rfl ?_
  intro p e s m args below meth c A hC hr hlk
  refine j_aload_n hC 0 1 rfl d_C_forget_0 rfl rfl ?_
  refine j_iload_n hC 1 2 rfl d_C_forget_1 rfl rfl ?_
  refine j_callVv hC jE_loc jT_good (As := [_]) (c_C_requireOp h1 h2) yk_C_requireOp lk_C_77 ⟨rfl, rfl⟩ ⟨Nat.le_of_ble_eq_true rfl, Nat.le_of_ble_eq_true rfl⟩ 0 rfl rfl rfl rfl (Nat.le_of_ble_eq_true rfl) ⟨Nat.zero_le _, Nat.zero_le _⟩ d_C_forget_2 5 rfl rfl ?_
  refine j_aload_n hC 0 6 rfl d_C_forget_5 rfl rfl ?_
  refine j_iload_n hC 1 7 rfl d_C_forget_6 rfl rfl ?_
  refine j_callVi hC jE_loc jT_good (As := [_]) c_C_waits yk_C_waits lk_C_81 ⟨rfl, rfl⟩ ⟨Nat.le_of_ble_eq_true rfl, Nat.le_of_ble_eq_true rfl⟩ 0 rfl rfl rfl rfl (Nat.le_of_ble_eq_true rfl) ⟨Nat.zero_le _, Nat.zero_le _⟩ d_C_forget_7 10 rfl rfl ?_
  refine j_if_ne hC 23 13 rfl d_C_forget_10 (by decide) (fun c_10 => ?_) (fun c_10 => absurd c_10 (by rw [hw]; decide))
  refine j_aload_n hC 0 24 rfl d_C_forget_23 rfl rfl ?_
  refine g_C_nextOp hC 27 rfl d_C_forget_24 ?_
  refine j_iload_n hC 1 28 rfl d_C_forget_27 rfl rfl ?_
  refine j_isub hC 29 rfl d_C_forget_28 ?_
  refine j_istore_n (lv' := [(2, _), (0, _), (1, _)]) hC 30 rfl d_C_forget_29 rfl (by decide) rfl ?_
  refine j_aload_n hC 1 31 rfl d_C_forget_30 rfl rfl ?_
  refine j_iload_n hC 2 32 rfl d_C_forget_31 rfl rfl ?_
  refine p_C_nextOp hC 35 rfl d_C_forget_32 ?_
  refine j_iload_n hC 0 36 rfl d_C_forget_35 rfl rfl ?_
  exact j_iret hC hr hlk d_C_forget_36 rfl rfl
end KC
end
section
section KC
variable {l : Launch} {dC : Nat → ClassId} {dI : Nat → Nat → Nat} {cI cZ cB cJ : ClassId} {ad : Nat → Nat} {σ : S2} {β : B2} {mk : Int64} {ρ : va_W} {am : Nat → Nat} {μ : S2} {ν : B2}
set_option maxHeartbeats 4000000 in
set_option maxRecDepth 100000 in
theorem c_M_thrown   : kM l dC dI cI cZ cB cJ y_M_thrown b_M_thrown 1 (some .int) 0 0 [.ref (am 0)] (wM am cI cZ μ ν ρ) (some (.int (μ 0 0))) (wM am cI cZ μ ν ρ) := by
  refine jM.of (lv := [(0, .ref (am 0))]) (own := R_M) jE_loc (by decide) rfl rfl (Nat.le_of_ble_eq_true rfl) rfl ?_
  intro p e s m args below meth c A hC hr hlk
  refine j_aload_n hC 0 1 rfl d_M_thrown_0 rfl rfl ?_
  refine g_M_thrown hC 4 rfl d_M_thrown_1 ?_
  exact j_iret hC hr hlk d_M_thrown_4 rfl rfl
set_option maxHeartbeats 4000000 in
set_option maxRecDepth 100000 in
theorem c_M_isOp {op : Int32}  : kM l dC dI cI cZ cB cJ y_M_isOp b_M_isOp 2 (some .boolean) 0 0 [.ref (am 0), .int op] (wM am cI cZ μ ν ρ) (some (.int (bI (ioM μ op)))) (wM am cI cZ μ ν ρ) := by
  refine jM.of (lv := [(0, .ref (am 0)), (1, .int op)]) (own := R_M) jE_loc (by decide) rfl rfl (Nat.le_of_ble_eq_true rfl) rfl ?_
  intro p e s m args below meth c A hC hr hlk
  refine j_iload_n hC 1 1 rfl d_M_isOp_0 rfl rfl ?_
  refine j_if_lt hC 16 4 rfl d_M_isOp_1 (by decide) (fun c_1 => ?_) (fun c_1 => ?_)
  · refine j_iconst (v := 0) hC 17 rfl d_M_isOp_16 (by decide) ?_
    exact j_zret hC hr hlk d_M_isOp_17 (by simp [bI, ioM, c_1]) rfl
  · refine j_iload_n hC 1 5 rfl d_M_isOp_4 rfl rfl ?_
    refine j_aload_n hC 0 6 rfl d_M_isOp_5 rfl rfl ?_
    refine g_M_total hC 9 rfl d_M_isOp_6 ?_
    refine j_icmp_ge hC 16 12 rfl d_M_isOp_9 (by decide) (fun c_9 => ?_) (fun c_9 => ?_)
    · refine j_iconst (v := 0) hC 17 rfl d_M_isOp_16 (by decide) ?_
      exact j_zret hC hr hlk d_M_isOp_17 (by simp [bI, ioM, c_1, c_9]) rfl
    · refine j_iconst (v := 1) hC 13 rfl d_M_isOp_12 (by decide) ?_
      refine j_goto hC 17 d_M_isOp_13 (by decide) ?_
      exact j_zret hC hr hlk d_M_isOp_17 (by simp [bI, ioM, c_1, c_9]) rfl
set_option maxHeartbeats 4000000 in
set_option maxRecDepth 100000 in
theorem c_M_waits {op : Int32}  : kM l dC dI cI cZ cB cJ y_M_waits b_M_waits 2 (some .boolean) 0 0 [.ref (am 0), .int op] (wM am cI cZ μ ν ρ) (some (.int (bI (waM μ op)))) (wM am cI cZ μ ν ρ) := by
  refine jM.of (lv := [(0, .ref (am 0)), (1, .int op)]) (own := R_M) jE_loc (by decide) rfl rfl (Nat.le_of_ble_eq_true rfl) rfl ?_
  intro p e s m args below meth c A hC hr hlk
  refine j_iload_n hC 1 1 rfl d_M_waits_0 rfl rfl ?_
  refine j_aload_n hC 0 2 rfl d_M_waits_1 rfl rfl ?_
  refine g_M_oldest hC 5 rfl d_M_waits_2 ?_
  refine j_icmp_lt hC 20 8 rfl d_M_waits_5 (by decide) (fun c_5 => ?_) (fun c_5 => ?_)
  · refine j_iconst (v := 0) hC 21 rfl d_M_waits_20 (by decide) ?_
    exact j_zret hC hr hlk d_M_waits_21 (by simp [bI, waM, c_5]) rfl
  · refine j_iload_n hC 1 9 rfl d_M_waits_8 rfl rfl ?_
    refine j_aload_n hC 0 10 rfl d_M_waits_9 rfl rfl ?_
    refine g_M_total hC 13 rfl d_M_waits_10 ?_
    refine j_icmp_ge hC 20 16 rfl d_M_waits_13 (by decide) (fun c_13 => ?_) (fun c_13 => ?_)
    · refine j_iconst (v := 0) hC 21 rfl d_M_waits_20 (by decide) ?_
      exact j_zret hC hr hlk d_M_waits_21 (by simp [bI, waM, c_5, c_13]) rfl
    · refine j_iconst (v := 1) hC 17 rfl d_M_waits_16 (by decide) ?_
      refine j_goto hC 21 d_M_waits_17 (by decide) ?_
      exact j_zret hC hr hlk d_M_waits_21 (by simp [bI, waM, c_5, c_13]) rfl
set_option maxHeartbeats 4000000 in
set_option maxRecDepth 100000 in
theorem c_M_isSize {kind size : Int32}  : kM l dC dI cI cZ cB cJ y_M_isSize b_M_isSize 2 (some .boolean) 0 0 [.int kind, .int size] (wM am cI cZ μ ν ρ) (some (.int (bI (iszM kind size)))) (wM am cI cZ μ ν ρ) := by
  refine jM.of (lv := [(0, .int kind), (1, .int size)]) (own := R_M) jE_loc (by decide) rfl rfl (Nat.le_of_ble_eq_true rfl) rfl ?_
  intro p e s m args below meth c A hC hr hlk
  refine j_iload_n hC 0 1 rfl d_M_isSize_0 rfl rfl ?_
  refine j_iconst (v := 2) hC 2 rfl d_M_isSize_1 (by decide) ?_
  refine j_icmp_ne hC 17 5 rfl d_M_isSize_2 (by decide) (fun c_2 => ?_) (fun c_2 => ?_)
  · refine j_iload_n hC 1 18 rfl d_M_isSize_17 rfl rfl ?_
    refine j_iconst (v := 1) hC 19 rfl d_M_isSize_18 (by decide) ?_
    refine j_icmp_eq hC 32 22 rfl d_M_isSize_19 (by decide) (fun c_19 => ?_) (fun c_19 => ?_)
    · refine j_iconst (v := 1) hC 33 rfl d_M_isSize_32 (by decide) ?_
      refine j_goto hC 37 d_M_isSize_33 (by decide) ?_
      exact j_zret hC hr hlk d_M_isSize_37 (by simp [bI, iszM, c_2, c_19]) rfl
    · refine j_iload_n hC 1 23 rfl d_M_isSize_22 rfl rfl ?_
      refine j_iconst (v := 2) hC 24 rfl d_M_isSize_23 (by decide) ?_
      refine j_icmp_eq hC 32 27 rfl d_M_isSize_24 (by decide) (fun c_24 => ?_) (fun c_24 => ?_)
      · refine j_iconst (v := 1) hC 33 rfl d_M_isSize_32 (by decide) ?_
        refine j_goto hC 37 d_M_isSize_33 (by decide) ?_
        exact j_zret hC hr hlk d_M_isSize_37 (by simp [bI, iszM, c_2, c_19, c_24]) rfl
      · refine j_iload_n hC 1 28 rfl d_M_isSize_27 rfl rfl ?_
        refine j_iconst (v := 4) hC 29 rfl d_M_isSize_28 (by decide) ?_
        refine j_icmp_ne hC 36 32 rfl d_M_isSize_29 (by decide) (fun c_29 => ?_) (fun c_29 => ?_)
        · refine j_iconst (v := 0) hC 37 rfl d_M_isSize_36 (by decide) ?_
          exact j_zret hC hr hlk d_M_isSize_37 (by simp [bI, iszM, c_2, c_19, c_24, c_29]) rfl
        · refine j_iconst (v := 1) hC 33 rfl d_M_isSize_32 (by decide) ?_
          refine j_goto hC 37 d_M_isSize_33 (by decide) ?_
          exact j_zret hC hr hlk d_M_isSize_37 (by simp [bI, iszM, c_2, c_19, c_24, c_29]) rfl
  · refine j_iload_n hC 1 6 rfl d_M_isSize_5 rfl rfl ?_
    refine j_if_ne hC 13 9 rfl d_M_isSize_6 (by decide) (fun c_6 => ?_) (fun c_6 => ?_)
    · refine j_iconst (v := 0) hC 14 rfl d_M_isSize_13 (by decide) ?_
      refine j_goto hC 37 d_M_isSize_14 (by decide) ?_
      exact j_zret hC hr hlk d_M_isSize_37 (by simp [bI, iszM, c_2, c_6]) rfl
    · refine j_iconst (v := 1) hC 10 rfl d_M_isSize_9 (by decide) ?_
      refine j_goto hC 37 d_M_isSize_10 (by decide) ?_
      exact j_zret hC hr hlk d_M_isSize_37 (by simp [bI, iszM, c_2, c_6]) rfl
set_option maxHeartbeats 4000000 in
set_option maxRecDepth 100000 in
theorem c_M_byteOf {v s k : Int32}  : kM l dC dI cI cZ cB cJ y_M_byteOf b_M_byteOf 3 (some .int) 0 0 [.int v, .int s, .int k] (wM am cI cZ μ ν ρ) (some (.int (bom v s k))) (wM am cI cZ μ ν ρ) := by
  refine jM.of (lv := [(0, .int v), (1, .int s), (2, .int k)]) (own := R_M) jE_loc (by decide) rfl rfl (Nat.le_of_ble_eq_true rfl) rfl ?_
  intro p e s m args below meth c A hC hr hlk
  refine j_iload_n hC 0 1 rfl d_M_byteOf_0 rfl rfl ?_
  refine j_bipush (v := 8) hC 3 rfl d_M_byteOf_1 (by decide) ?_
  refine j_iload_n hC 1 4 rfl d_M_byteOf_3 rfl rfl ?_
  refine j_iconst (v := 1) hC 5 rfl d_M_byteOf_4 (by decide) ?_
  refine j_isub hC 6 rfl d_M_byteOf_5 ?_
  refine j_iload_n hC 2 7 rfl d_M_byteOf_6 rfl rfl ?_
  refine j_isub hC 8 rfl d_M_byteOf_7 ?_
  refine j_imul hC 9 rfl d_M_byteOf_8 ?_
  refine j_ishr hC 10 rfl d_M_byteOf_9 ?_
  refine j_sipush (v := 255) hC 13 rfl d_M_byteOf_10 (by decide) ?_
  refine j_iand hC 14 rfl d_M_byteOf_13 ?_
  exact j_iret hC hr hlk d_M_byteOf_14 rfl rfl
set_option maxHeartbeats 4000000 in
set_option maxRecDepth 100000 in
theorem c_M_covers {pl sz at0 : Int32}  : kM l dC dI cI cZ cB cJ y_M_covers b_M_covers 3 (some .boolean) 0 0 [.int pl, .int sz, .int at0] (wM am cI cZ μ ν ρ) (some (.int (bI (cvM pl sz at0)))) (wM am cI cZ μ ν ρ) := by
  refine jM.of (lv := [(0, .int pl), (1, .int sz), (2, .int at0)]) (own := R_M) jE_loc (by decide) rfl rfl (Nat.le_of_ble_eq_true rfl) rfl ?_
  intro p e s m args below meth c A hC hr hlk
  refine j_iload_n hC 2 1 rfl d_M_covers_0 rfl rfl ?_
  refine j_iload_n hC 0 2 rfl d_M_covers_1 rfl rfl ?_
  refine j_icmp_lt hC 16 5 rfl d_M_covers_2 (by decide) (fun c_2 => ?_) (fun c_2 => ?_)
  · refine j_iconst (v := 0) hC 17 rfl d_M_covers_16 (by decide) ?_
    exact j_zret hC hr hlk d_M_covers_17 (by simp [bI, cvM, c_2]) rfl
  · refine j_iload_n hC 2 6 rfl d_M_covers_5 rfl rfl ?_
    refine j_iload_n hC 0 7 rfl d_M_covers_6 rfl rfl ?_
    refine j_iload_n hC 1 8 rfl d_M_covers_7 rfl rfl ?_
    refine j_iadd hC 9 rfl d_M_covers_8 ?_
    refine j_icmp_ge hC 16 12 rfl d_M_covers_9 (by decide) (fun c_9 => ?_) (fun c_9 => ?_)
    · refine j_iconst (v := 0) hC 17 rfl d_M_covers_16 (by decide) ?_
      exact j_zret hC hr hlk d_M_covers_17 (by simp [bI, cvM, c_2, c_9]) rfl
    · refine j_iconst (v := 1) hC 13 rfl d_M_covers_12 (by decide) ?_
      refine j_goto hC 17 d_M_covers_13 (by decide) ?_
      exact j_zret hC hr hlk d_M_covers_17 (by simp [bI, cvM, c_2, c_9]) rfl
set_option maxHeartbeats 4000000 in
set_option maxRecDepth 100000 in
theorem c_M_has {i at0 : Int32} (hi : vp_in i 128) : kM l dC dI cI cZ cB cJ y_M_has b_M_has 3 (some .boolean) 1 22 [.ref (am 0), .int i, .int at0] (wM am cI cZ μ ν ρ) (some (.int (bI (haM μ i.toNatClampNeg at0)))) (wM am cI cZ μ ν ρ) := by
  refine jM.of (lv := [(0, .ref (am 0)), (1, .int i), (2, .int at0)]) (own := R_M) jE_loc (by decide) rfl rfl (Nat.le_of_ble_eq_true rfl) rfl ?_
  intro p e s m args below meth c A hC hr hlk
  refine j_aload_n hC 0 1 rfl d_M_has_0 rfl rfl ?_
  refine g_M_places hC 4 rfl d_M_has_1 ?_
  refine j_iload_n hC 1 5 rfl d_M_has_4 rfl rfl ?_
  refine ld_M_places hC hi 6 rfl d_M_has_5 ?_
  refine j_if_lt hC 32 9 rfl d_M_has_6 (by decide) (fun c_6 => ?_) (fun c_6 => ?_)
  · refine j_iconst (v := 0) hC 33 rfl d_M_has_32 (by decide) ?_
    exact j_zret hC hr hlk d_M_has_33 (by simp [bI, haM, c_6]) rfl
  · refine j_aload_n hC 0 10 rfl d_M_has_9 rfl rfl ?_
    refine g_M_places hC 13 rfl d_M_has_10 ?_
    refine j_iload_n hC 1 14 rfl d_M_has_13 rfl rfl ?_
    refine ld_M_places hC hi 15 rfl d_M_has_14 ?_
    refine j_aload_n hC 0 16 rfl d_M_has_15 rfl rfl ?_
    refine g_M_sizes hC 19 rfl d_M_has_16 ?_
    refine j_iload_n hC 1 20 rfl d_M_has_19 rfl rfl ?_
    refine ld_M_sizes hC hi 21 rfl d_M_has_20 ?_
    refine j_iload_n hC 2 22 rfl d_M_has_21 rfl rfl ?_
    refine j_callSi hC jE_loc jT_good (As := [_, _, _]) c_M_covers yk_M_covers lk_M_74 ⟨rfl, rfl⟩ ⟨Nat.le_of_ble_eq_true rfl, Nat.le_of_ble_eq_true rfl⟩ rfl (Nat.le_of_ble_eq_true rfl) ⟨Nat.zero_le _, Nat.zero_le _⟩ d_M_has_22 25 rfl rfl ?_
    refine j_if_eq hC 32 28 rfl d_M_has_25 (by decide) (fun c_25 => ?_) (fun c_25 => ?_)
    · refine j_iconst (v := 0) hC 33 rfl d_M_has_32 (by decide) ?_
      exact j_zret hC hr hlk d_M_has_33 (by simp [bI, haM, c_6, bI0 c_25]) rfl
    · refine j_iconst (v := 1) hC 29 rfl d_M_has_28 (by decide) ?_
      refine j_goto hC 33 d_M_has_29 (by decide) ?_
      exact j_zret hC hr hlk d_M_has_33 (by simp [bI, haM, c_6, bI1 c_25]) rfl
set_option maxHeartbeats 4000000 in
set_option maxRecDepth 100000 in
theorem c_M_write {pl sz v : Int32} (hp : ∀ k : Int32, 0 ≤ k → ¬ sz ≤ k → vp_in (pl + k) 4096) : kM l dC dI cI cZ cB cJ y_M_write b_M_write 5 none 1 22 [.ref (am 0), .int pl, .int sz, .int v] (wM am cI cZ μ ν ρ) none (wM am cI cZ (wrL pl sz v 0 μ) ν ρ) := by
  refine jM.of (lv := [(0, .ref (am 0)), (1, .int pl), (2, .int sz), (3, .int v)]) (own := R_M) jE_loc (by decide) rfl rfl (Nat.le_of_ble_eq_true rfl) rfl ?_
  intro p e s m args below meth c A hC hr hlk
  have loop : ∀ (n : Nat) (k : Int32) (τ : S2), 0 ≤ k → dist k sz < n → wrL pl sz v k τ = wrL pl sz v 0 μ → kJ l dC dI p e s m args below meth c A 1 22 5 none (wM am cI cZ (wrL pl sz v 0 μ) ν ρ) (wM am cI cZ τ ν ρ) 3 [(4, .int k), (0, .ref (am 0)), (1, .int pl), (2, .int sz), (3, .int v)] [] := by
    intro n
    induction n with
    | zero => intro k τ hk hd hR; exact absurd hd (Nat.not_lt_zero _)
    | succ n ih =>
      intro k τ hk hd hR
      refine j_iload hC 0 5 rfl d_M_write_3 rfl ?_
      refine j_iload_n hC 3 6 rfl d_M_write_5 rfl rfl ?_
      refine j_icmp_ge hC 31 9 rfl d_M_write_6 (by decide) (fun c_6 => ?_) (fun c_6 => ?_)
      · exact j_vret hC hr hlk d_M_write_31 (by rw [← hR, wrL_out c_6])
      · refine j_aload_n hC 1 10 rfl d_M_write_9 rfl rfl ?_
        refine g_M_bytes hC 13 rfl d_M_write_10 ?_
        refine j_iload_n hC 2 14 rfl d_M_write_13 rfl rfl ?_
        refine j_iload hC 0 16 rfl d_M_write_14 rfl ?_
        refine j_iadd hC 17 rfl d_M_write_16 ?_
        refine j_iload_n hC 4 18 rfl d_M_write_17 rfl rfl ?_
        refine j_iload_n hC 3 19 rfl d_M_write_18 rfl rfl ?_
        refine j_iload hC 0 21 rfl d_M_write_19 rfl ?_
        refine j_callSi hC jE_loc jT_good (As := [_, _, _]) c_M_byteOf yk_M_byteOf lk_M_70 ⟨rfl, rfl⟩ ⟨Nat.le_of_ble_eq_true rfl, Nat.le_of_ble_eq_true rfl⟩ rfl (Nat.le_of_ble_eq_true rfl) ⟨Nat.zero_le _, Nat.zero_le _⟩ d_M_write_21 24 rfl rfl ?_
        refine st_M_bytes hC (hp _ hk c_6) 25 rfl d_M_write_24 ?_
        refine j_iinc (lv' := [(4, _), (0, _), (1, _), (2, _), (3, _)]) hC 0 28 rfl d_M_write_25 rfl (inc1 _) (by decide) rfl ?_
        refine j_goto hC 3 d_M_write_28 (by decide) ?_
        exact ih _ _ (nn1 hk c_6) (dist_lt c_6 hd) (by rw [← hR, wrL_in c_6] <;> rfl)
  refine j_iconst (v := 0) hC 1 rfl d_M_write_0 (by decide) ?_
  refine j_istore (lv' := [(4, _), (0, _), (1, _), (2, _), (3, _)]) hC 3 rfl d_M_write_1 (by decide) rfl ?_
  exact loop _ 0 _ (by decide) (Nat.lt_succ_self _) rfl
set_option maxHeartbeats 4000000 in
set_option maxRecDepth 100000 in
theorem c_M_storeOf {op at0 : Int32} (h0 : 0 ≤ μ 2 0) : kM l dC dI cI cZ cB cJ y_M_storeOf b_M_storeOf 4 (some .int) 2 44 [.ref (am 0), .int op, .int at0] (wM am cI cZ μ ν ρ) (some (.int (soM μ op at0))) (wM am cI cZ μ ν ρ) := by
  refine jM.of (lv := [(0, .ref (am 0)), (1, .int op), (2, .int at0)]) (own := R_M) jE_loc (by decide) rfl rfl (Nat.le_of_ble_eq_true rfl) rfl ?_
  intro p e s m args below meth c A hC hr hlk
  have loop : ∀ (n : Nat) (i : Int32), dnst (μ 2 0) i < n → soM μ op at0 = laL (soP μ at0) (μ 2 0) i → kJ l dC dI p e s m args below meth c A 2 44 4 (some (.int (soM μ op at0))) (wM am cI cZ μ ν ρ) (wM am cI cZ μ ν ρ) 4 [(3, .int i), (0, .ref (am 0)), (1, .int op), (2, .int at0)] [] := by
    intro n
    induction n with
    | zero => intro i hd hR; exact absurd hd (Nat.not_lt_zero _)
    | succ n ih =>
      intro i hd hR
      refine j_iload_n hC 0 5 rfl d_M_storeOf_4 rfl rfl ?_
      refine j_aload_n hC 1 6 rfl d_M_storeOf_5 rfl rfl ?_
      refine g_M_oldest hC 9 rfl d_M_storeOf_6 ?_
      refine j_icmp_lt hC 45 12 rfl d_M_storeOf_9 (by decide) (fun c_9 => ?_) (fun c_9 => ?_)
      · refine j_iconst (v := (-1)) hC 46 rfl d_M_storeOf_45 (by decide) ?_
        exact j_iret hC hr hlk d_M_storeOf_46 (by rw [hR, laL_out c_9]) rfl
      · refine j_aload_n hC 1 13 rfl d_M_storeOf_12 rfl rfl ?_
        refine g_M_kinds hC 16 rfl d_M_storeOf_13 ?_
        refine j_iload_n hC 0 17 rfl d_M_storeOf_16 rfl rfl ?_
        refine j_bipush (v := 127) hC 19 rfl d_M_storeOf_17 (by decide) ?_
        refine j_iand hC 20 rfl d_M_storeOf_19 ?_
        refine ld_M_kinds hC (ix_in _) 21 rfl d_M_storeOf_20 ?_
        refine j_iconst (v := 1) hC 22 rfl d_M_storeOf_21 (by decide) ?_
        refine j_icmp_ne hC 39 25 rfl d_M_storeOf_22 (by decide) (fun c_22 => ?_) (fun c_22 => ?_)
        · refine j_iinc (lv' := [(3, _), (0, _), (1, _), (2, _)]) hC 0 42 rfl d_M_storeOf_39 rfl (dec1 _) (by decide) rfl ?_
          refine j_goto hC 4 d_M_storeOf_42 (by decide) ?_
          exact ih _ (dnst_lt h0 c_9 hd) (by rw [hR, laL_in h0 c_9]; simp [soP, ix, c_9, c_22])
        · refine j_aload_n hC 1 26 rfl d_M_storeOf_25 rfl rfl ?_
          refine j_iload_n hC 0 27 rfl d_M_storeOf_26 rfl rfl ?_
          refine j_bipush (v := 127) hC 29 rfl d_M_storeOf_27 (by decide) ?_
          refine j_iand hC 30 rfl d_M_storeOf_29 ?_
          refine j_iload_n hC 3 31 rfl d_M_storeOf_30 rfl rfl ?_
          refine j_callVi hC jE_loc jT_good (As := [_, _]) (c_M_has (ix_in _)) yk_M_has lk_M_78 ⟨rfl, rfl⟩ ⟨Nat.le_of_ble_eq_true rfl, Nat.le_of_ble_eq_true rfl⟩ 0 rfl rfl rfl rfl (Nat.le_of_ble_eq_true rfl) ⟨Nat.zero_le _, Nat.zero_le _⟩ d_M_storeOf_31 34 rfl rfl ?_
          refine j_if_eq hC 39 37 rfl d_M_storeOf_34 (by decide) (fun c_34 => ?_) (fun c_34 => ?_)
          · refine j_iinc (lv' := [(3, _), (0, _), (1, _), (2, _)]) hC 0 42 rfl d_M_storeOf_39 rfl (dec1 _) (by decide) rfl ?_
            refine j_goto hC 4 d_M_storeOf_42 (by decide) ?_
            exact ih _ (dnst_lt h0 c_9 hd) (by rw [hR, laL_in h0 c_9]; simp [soP, ix, c_9, c_22, bI0 c_34])
          · refine j_iload_n hC 0 38 rfl d_M_storeOf_37 rfl rfl ?_
            exact j_iret hC hr hlk d_M_storeOf_38 (by rw [hR, laL_in h0 c_9]; simp [soP, ix, c_9, c_22, bI1 c_34]) rfl
  refine j_iload_n hC 1 1 rfl d_M_storeOf_0 rfl rfl ?_
  refine j_iconst (v := 1) hC 2 rfl d_M_storeOf_1 (by decide) ?_
  refine j_isub hC 3 rfl d_M_storeOf_2 ?_
  refine j_istore_n (lv' := [(3, _), (0, _), (1, _), (2, _)]) hC 4 rfl d_M_storeOf_3 rfl (by decide) rfl ?_
  exact loop _ _ (Nat.lt_succ_self _) rfl
set_option maxHeartbeats 4000000 in
set_option maxRecDepth 100000 in
theorem c_M_bufferOf {at0 : Int32} (hb : μ 7 0 ≤ 4) : kM l dC dI cI cZ cB cJ y_M_bufferOf b_M_bufferOf 4 (some .int) 1 22 [.ref (am 0), .int at0] (wM am cI cZ μ ν ρ) (some (.int (buL μ at0 0 (-1)))) (wM am cI cZ μ ν ρ) := by
  refine jM.of (lv := [(0, .ref (am 0)), (1, .int at0)]) (own := R_M) jE_loc (by decide) rfl rfl (Nat.le_of_ble_eq_true rfl) rfl ?_
  intro p e s m args below meth c A hC hr hlk
  have loop : ∀ (n : Nat) (i x : Int32), 0 ≤ i → dist i (μ 7 0) < n → buL μ at0 i x = buL μ at0 0 (-1) → kJ l dC dI p e s m args below meth c A 1 22 4 (some (.int (buL μ at0 0 (-1)))) (wM am cI cZ μ ν ρ) (wM am cI cZ μ ν ρ) 4 [(3, .int i), (2, .int x), (0, .ref (am 0)), (1, .int at0)] [] := by
    intro n
    induction n with
    | zero => intro i x hi0 hd hR; exact absurd hd (Nat.not_lt_zero _)
    | succ n ih =>
      intro i x hi0 hd hR
      refine j_iload_n hC 0 5 rfl d_M_bufferOf_4 rfl rfl ?_
      refine j_aload_n hC 2 6 rfl d_M_bufferOf_5 rfl rfl ?_
      refine g_M_buffered hC 9 rfl d_M_bufferOf_6 ?_
      refine j_icmp_ge hC 43 12 rfl d_M_bufferOf_9 (by decide) (fun c_9 => ?_) (fun c_9 => ?_)
      · refine j_iload_n hC 1 44 rfl d_M_bufferOf_43 rfl rfl ?_
        exact j_iret hC hr hlk d_M_bufferOf_44 (by rw [← hR, buL_out c_9]) rfl
      · refine j_aload_n hC 2 13 rfl d_M_bufferOf_12 rfl rfl ?_
        refine g_M_waitPlace hC 16 rfl d_M_bufferOf_13 ?_
        refine j_iload_n hC 0 17 rfl d_M_bufferOf_16 rfl rfl ?_
        refine ld_M_waitPlace hC (in4b hi0 c_9 hb) 18 rfl d_M_bufferOf_17 ?_
        refine j_aload_n hC 2 19 rfl d_M_bufferOf_18 rfl rfl ?_
        refine g_M_waitSize hC 22 rfl d_M_bufferOf_19 ?_
        refine j_iload_n hC 0 23 rfl d_M_bufferOf_22 rfl rfl ?_
        refine ld_M_waitSize hC (in4b hi0 c_9 hb) 24 rfl d_M_bufferOf_23 ?_
        refine j_iload_n hC 3 25 rfl d_M_bufferOf_24 rfl rfl ?_
        refine j_callSi hC jE_loc jT_good (As := [_, _, _]) c_M_covers yk_M_covers lk_M_74 ⟨rfl, rfl⟩ ⟨Nat.le_of_ble_eq_true rfl, Nat.le_of_ble_eq_true rfl⟩ rfl (Nat.le_of_ble_eq_true rfl) ⟨Nat.zero_le _, Nat.zero_le _⟩ d_M_bufferOf_25 28 rfl rfl ?_
        refine j_if_eq hC 35 31 rfl d_M_bufferOf_28 (by decide) (fun c_28 => ?_) (fun c_28 => ?_)
        · refine j_iload_n hC 1 36 rfl d_M_bufferOf_35 rfl rfl ?_
          refine j_istore_n (lv' := [(2, _), (3, _), (0, _), (1, _)]) hC 37 rfl d_M_bufferOf_36 rfl (by decide) rfl ?_
          refine j_iinc (lv' := [(3, _), (2, _), (0, _), (1, _)]) hC 1 40 rfl d_M_bufferOf_37 rfl (inc1 _) (by decide) rfl ?_
          refine j_goto hC 4 d_M_bufferOf_40 (by decide) ?_
          exact ih _ _ (nn1 hi0 c_9) (dist_lt c_9 hd) (by rw [← hR, buL_in c_9]; simp [c_9, bI0 c_28])
        · refine j_iload_n hC 0 32 rfl d_M_bufferOf_31 rfl rfl ?_
          refine j_goto hC 36 d_M_bufferOf_32 (by decide) ?_
          refine j_istore_n (lv' := [(2, _), (3, _), (0, _), (1, _)]) hC 37 rfl d_M_bufferOf_36 rfl (by decide) rfl ?_
          refine j_iinc (lv' := [(3, _), (2, _), (0, _), (1, _)]) hC 1 40 rfl d_M_bufferOf_37 rfl (inc1 _) (by decide) rfl ?_
          refine j_goto hC 4 d_M_bufferOf_40 (by decide) ?_
          exact ih _ _ (nn1 hi0 c_9) (dist_lt c_9 hd) (by rw [← hR, buL_in c_9]; simp [c_9, bI1 c_28])
  refine j_iconst (v := (-1)) hC 1 rfl d_M_bufferOf_0 (by decide) ?_
  refine j_istore_n (lv' := [(2, _), (0, _), (1, _)]) hC 2 rfl d_M_bufferOf_1 rfl (by decide) rfl ?_
  refine j_iconst (v := 0) hC 3 rfl d_M_bufferOf_2 (by decide) ?_
  refine j_istore_n (lv' := [(3, _), (2, _), (0, _), (1, _)]) hC 4 rfl d_M_bufferOf_3 rfl (by decide) rfl ?_
  exact loop _ 0 (-1) (by decide) (Nat.lt_succ_self _) rfl
set_option maxHeartbeats 4000000 in
set_option maxRecDepth 100000 in
theorem c_M_canBe {op at0 : Int32}  : kM l dC dI cI cZ cB cJ y_M_canBe b_M_canBe 4 (some .boolean) 1 21 [.ref (am 0), .int op, .int at0] (wM am cI cZ μ ν ρ) (some (.int (bI (cbM μ op at0)))) (wM am cI cZ μ ν ρ) := by
  refine jM.of (lv := [(0, .ref (am 0)), (1, .int op), (2, .int at0)]) (own := R_M) jE_loc (by decide) rfl rfl (Nat.le_of_ble_eq_true rfl) rfl ?_
  intro p e s m args below meth c A hC hr hlk
  refine j_iload_n hC 1 1 rfl d_M_canBe_0 rfl rfl ?_
  refine j_bipush (v := 127) hC 3 rfl d_M_canBe_1 (by decide) ?_
  refine j_iand hC 4 rfl d_M_canBe_3 ?_
  refine j_istore_n (lv' := [(3, _), (0, _), (1, _), (2, _)]) hC 5 rfl d_M_canBe_4 rfl (by decide) rfl ?_
  refine j_aload_n hC 1 6 rfl d_M_canBe_5 rfl rfl ?_
  refine j_iload_n hC 2 7 rfl d_M_canBe_6 rfl rfl ?_
  refine j_callVi hC jE_loc jT_good (As := [_]) c_M_waits yk_M_waits lk_M_84 ⟨rfl, rfl⟩ ⟨Nat.le_of_ble_eq_true rfl, Nat.le_of_ble_eq_true rfl⟩ 0 rfl rfl rfl rfl (Nat.le_of_ble_eq_true rfl) ⟨Nat.zero_le _, Nat.zero_le _⟩ d_M_canBe_7 10 rfl rfl ?_
  refine j_if_eq hC 51 13 rfl d_M_canBe_10 (by decide) (fun c_10 => ?_) (fun c_10 => ?_)
  · refine j_iconst (v := 0) hC 52 rfl d_M_canBe_51 (by decide) ?_
    exact j_zret hC hr hlk d_M_canBe_52 (by simp [bI, cbM, ix, bI0 c_10]) rfl
  · refine j_aload_n hC 1 14 rfl d_M_canBe_13 rfl rfl ?_
    refine g_M_kinds hC 17 rfl d_M_canBe_14 ?_
    refine j_iload_n hC 0 18 rfl d_M_canBe_17 rfl rfl ?_
    refine ld_M_kinds hC (ix_in _) 19 rfl d_M_canBe_18 ?_
    refine j_iconst (v := 2) hC 20 rfl d_M_canBe_19 (by decide) ?_
    refine j_icmp_eq hC 51 23 rfl d_M_canBe_20 (by decide) (fun c_20 => ?_) (fun c_20 => ?_)
    · refine j_iconst (v := 0) hC 52 rfl d_M_canBe_51 (by decide) ?_
      exact j_zret hC hr hlk d_M_canBe_52 (by simp [bI, cbM, ix, bI1 c_10, c_20]) rfl
    · refine j_aload_n hC 1 24 rfl d_M_canBe_23 rfl rfl ?_
      refine g_M_places hC 27 rfl d_M_canBe_24 ?_
      refine j_iload_n hC 0 28 rfl d_M_canBe_27 rfl rfl ?_
      refine ld_M_places hC (ix_in _) 29 rfl d_M_canBe_28 ?_
      refine j_iconst (v := (-1)) hC 30 rfl d_M_canBe_29 (by decide) ?_
      refine j_icmp_ne hC 51 33 rfl d_M_canBe_30 (by decide) (fun c_30 => ?_) (fun c_30 => ?_)
      · refine j_iconst (v := 0) hC 52 rfl d_M_canBe_51 (by decide) ?_
        exact j_zret hC hr hlk d_M_canBe_52 (by simp [bI, cbM, ix, bI1 c_10, c_20, c_30]) rfl
      · refine j_iload_n hC 3 34 rfl d_M_canBe_33 rfl rfl ?_
        refine j_if_lt hC 51 37 rfl d_M_canBe_34 (by decide) (fun c_34 => ?_) (fun c_34 => ?_)
        · refine j_iconst (v := 0) hC 52 rfl d_M_canBe_51 (by decide) ?_
          exact j_zret hC hr hlk d_M_canBe_52 (by simp [bI, cbM, ix, bI1 c_10, c_20, c_30, c_34]) rfl
        · refine j_iload_n hC 3 38 rfl d_M_canBe_37 rfl rfl ?_
          refine j_sipush (v := 4096) hC 41 rfl d_M_canBe_38 (by decide) ?_
          refine j_aload_n hC 1 42 rfl d_M_canBe_41 rfl rfl ?_
          refine g_M_sizes hC 45 rfl d_M_canBe_42 ?_
          refine j_iload_n hC 0 46 rfl d_M_canBe_45 rfl rfl ?_
          refine ld_M_sizes hC (ix_in _) 47 rfl d_M_canBe_46 ?_
          refine j_isub hC 48 rfl d_M_canBe_47 ?_
          refine j_icmp_le hC 53 51 rfl d_M_canBe_48 (by decide) (fun c_48 => ?_) (fun c_48 => ?_)
          · refine j_iload_n hC 3 54 rfl d_M_canBe_53 rfl rfl ?_
            refine j_sipush (v := 3072) hC 57 rfl d_M_canBe_54 (by decide) ?_
            refine j_icmp_ge hC 74 60 rfl d_M_canBe_57 (by decide) (fun c_57 => ?_) (fun c_57 => ?_)
            · refine j_iconst (v := 1) hC 75 rfl d_M_canBe_74 (by decide) ?_
              refine j_goto hC 79 d_M_canBe_75 (by decide) ?_
              exact j_zret hC hr hlk d_M_canBe_79 (by simp [bI, cbM, ix, bI1 c_10, c_20, c_30, c_34, c_48, c_57]) rfl
            · refine j_iload_n hC 3 61 rfl d_M_canBe_60 rfl rfl ?_
              refine j_aload_n hC 1 62 rfl d_M_canBe_61 rfl rfl ?_
              refine g_M_sizes hC 65 rfl d_M_canBe_62 ?_
              refine j_iload_n hC 0 66 rfl d_M_canBe_65 rfl rfl ?_
              refine ld_M_sizes hC (ix_in _) 67 rfl d_M_canBe_66 ?_
              refine j_iadd hC 68 rfl d_M_canBe_67 ?_
              refine j_sipush (v := 3072) hC 71 rfl d_M_canBe_68 (by decide) ?_
              refine j_icmp_gt hC 78 74 rfl d_M_canBe_71 (by decide) (fun c_71 => ?_) (fun c_71 => ?_)
              · refine j_iconst (v := 0) hC 79 rfl d_M_canBe_78 (by decide) ?_
                exact j_zret hC hr hlk d_M_canBe_79 (by simp [bI, cbM, ix, bI1 c_10, c_20, c_30, c_34, c_48, c_57, c_71]) rfl
              · refine j_iconst (v := 1) hC 75 rfl d_M_canBe_74 (by decide) ?_
                refine j_goto hC 79 d_M_canBe_75 (by decide) ?_
                exact j_zret hC hr hlk d_M_canBe_79 (by simp [bI, cbM, ix, bI1 c_10, c_20, c_30, c_34, c_48, c_57, c_71]) rfl
          · refine j_iconst (v := 0) hC 52 rfl d_M_canBe_51 (by decide) ?_
            exact j_zret hC hr hlk d_M_canBe_52 (by simp [bI, cbM, ix, bI1 c_10, c_20, c_30, c_34, c_48]) rfl
set_option maxHeartbeats 4000000 in
set_option maxRecDepth 100000 in
theorem c_M_isDone {op : Int32}  : kM l dC dI cI cZ cB cJ y_M_isDone b_M_isDone 2 (some .boolean) 0 0 [.ref (am 0), .int op] (wM am cI cZ μ ν ρ) (some (.int (bI (idM μ ν op)))) (wM am cI cZ μ ν ρ) := by
  refine jM.of (lv := [(0, .ref (am 0)), (1, .int op)]) (own := R_M) jE_loc (by decide) rfl rfl (Nat.le_of_ble_eq_true rfl) rfl ?_
  intro p e s m args below meth c A hC hr hlk
  refine j_aload_n hC 0 1 rfl d_M_isDone_0 rfl rfl ?_
  refine g_M_kinds hC 4 rfl d_M_isDone_1 ?_
  refine j_iload_n hC 1 5 rfl d_M_isDone_4 rfl rfl ?_
  refine j_bipush (v := 127) hC 7 rfl d_M_isDone_5 (by decide) ?_
  refine j_iand hC 8 rfl d_M_isDone_7 ?_
  refine ld_M_kinds hC (ix_in _) 9 rfl d_M_isDone_8 ?_
  refine j_if_ne hC 28 12 rfl d_M_isDone_9 (by decide) (fun c_9 => ?_) (fun c_9 => ?_)
  · refine j_iconst (v := 0) hC 29 rfl d_M_isDone_28 (by decide) ?_
    exact j_zret hC hr hlk d_M_isDone_29 (by simp [bI, idM, ix, c_9]) rfl
  · refine j_aload_n hC 0 13 rfl d_M_isDone_12 rfl rfl ?_
    refine g_M_done hC 16 rfl d_M_isDone_13 ?_
    refine j_iload_n hC 1 17 rfl d_M_isDone_16 rfl rfl ?_
    refine j_bipush (v := 127) hC 19 rfl d_M_isDone_17 (by decide) ?_
    refine j_iand hC 20 rfl d_M_isDone_19 ?_
    refine ld_M_done hC (ix_in _) 21 rfl d_M_isDone_20 ?_
    refine j_if_eq hC 28 24 rfl d_M_isDone_21 (by decide) (fun c_21 => ?_) (fun c_21 => ?_)
    · refine j_iconst (v := 0) hC 29 rfl d_M_isDone_28 (by decide) ?_
      exact j_zret hC hr hlk d_M_isDone_29 (by simp [bI, idM, ix, c_9, bI0 c_21]) rfl
    · refine j_iconst (v := 1) hC 25 rfl d_M_isDone_24 (by decide) ?_
      refine j_goto hC 29 d_M_isDone_25 (by decide) ?_
      exact j_zret hC hr hlk d_M_isDone_29 (by simp [bI, idM, ix, c_9, bI1 c_21]) rfl
set_option maxHeartbeats 4000000 in
set_option maxRecDepth 100000 in
theorem c_M_tookOlder {load st : Int32} (hz : ∀ i, μ 13 i ≤ 4) : kM l dC dI cI cZ cB cJ y_M_tookOlder b_M_tookOlder 6 (some .boolean) 2 44 [.ref (am 0), .int load, .int st] (wM am cI cZ μ ν ρ) (some (.int (bI (toM μ load st)))) (wM am cI cZ μ ν ρ) := by
  refine jM.of (lv := [(0, .ref (am 0)), (1, .int load), (2, .int st)]) (own := R_M) jE_loc (by decide) rfl rfl (Nat.le_of_ble_eq_true rfl) rfl ?_
  intro p e s m args below meth c A hC hr hlk
  have loop : ∀ (n : Nat) (k : Int32) (x : Bool), 0 ≤ k → dist k (μ 13 (ix load)) < n → toM μ load st = (x || exL (toP μ load st) k (μ 13 (ix load))) → kJ l dC dI p e s m args below meth c A 2 44 6 (some (.int (bI (toM μ load st)))) (wM am cI cZ μ ν ρ) (wM am cI cZ μ ν ρ) 11 [(5, .int k), (4, .int (bI x)), (3, .int (load &&& 127)), (0, .ref (am 0)), (1, .int load), (2, .int st)] [] := by
    intro n
    induction n with
    | zero => intro k x hk hd hR; exact absurd hd (Nat.not_lt_zero _)
    | succ n ih =>
      intro k x hk hd hR
      refine j_iload hC 0 13 rfl d_M_tookOlder_11 rfl ?_
      refine j_aload_n hC 3 14 rfl d_M_tookOlder_13 rfl rfl ?_
      refine g_M_sizes hC 17 rfl d_M_tookOlder_14 ?_
      refine j_iload_n hC 2 18 rfl d_M_tookOlder_17 rfl rfl ?_
      refine ld_M_sizes hC (ix_in _) 19 rfl d_M_tookOlder_18 ?_
      refine j_icmp_ge hC 75 22 rfl d_M_tookOlder_19 (by decide) (fun c_19 => ?_) (fun c_19 => ?_)
      · refine j_iload hC 1 77 rfl d_M_tookOlder_75 rfl ?_
        exact j_zret hC hr hlk d_M_tookOlder_77 (by rw [hR, exL_out (b := μ 13 (ix load)) c_19]; simp) rfl
      · refine j_iload hC 1 24 rfl d_M_tookOlder_22 rfl ?_
        refine j_if_ne hC 62 27 rfl d_M_tookOlder_24 (by decide) (fun c_24 => ?_) (fun c_24 => ?_)
        · refine j_iconst (v := (bI true)) hC 63 rfl d_M_tookOlder_62 rfl ?_
          refine j_goto hC 67 d_M_tookOlder_63 (by decide) ?_
          refine j_istore (lv' := [(4, _), (5, _), (3, _), (0, _), (1, _), (2, _)]) hC 69 rfl d_M_tookOlder_67 (by decide) rfl ?_
          refine j_iinc (lv' := [(5, _), (4, _), (3, _), (0, _), (1, _), (2, _)]) hC 1 72 rfl d_M_tookOlder_69 rfl (inc1 _) (by decide) rfl ?_
          refine j_goto hC 11 d_M_tookOlder_72 (by decide) ?_
          exact ih _ _ (nn1 hk c_19) (dist_lt c_19 hd) (by rw [hR, exL_in (b := μ 13 (ix load)) c_19]; simp [toP, ix, c_19, bI1 c_24])
        · refine j_aload_n hC 3 28 rfl d_M_tookOlder_27 rfl rfl ?_
          refine j_iload_n hC 5 29 rfl d_M_tookOlder_28 rfl rfl ?_
          refine j_bipush (v := 127) hC 31 rfl d_M_tookOlder_29 (by decide) ?_
          refine j_iand hC 32 rfl d_M_tookOlder_31 ?_
          refine j_aload_n hC 3 33 rfl d_M_tookOlder_32 rfl rfl ?_
          refine g_M_places hC 36 rfl d_M_tookOlder_33 ?_
          refine j_iload_n hC 2 37 rfl d_M_tookOlder_36 rfl rfl ?_
          refine ld_M_places hC (ix_in _) 38 rfl d_M_tookOlder_37 ?_
          refine j_iload hC 0 40 rfl d_M_tookOlder_38 rfl ?_
          refine j_iadd hC 41 rfl d_M_tookOlder_40 ?_
          refine j_callVi hC jE_loc jT_good (As := [_, _]) (c_M_has (ix_in _)) yk_M_has lk_M_78 ⟨rfl, rfl⟩ ⟨Nat.le_of_ble_eq_true rfl, Nat.le_of_ble_eq_true rfl⟩ 0 rfl rfl rfl rfl (Nat.le_of_ble_eq_true rfl) ⟨Nat.zero_le _, Nat.zero_le _⟩ d_M_tookOlder_41 44 rfl rfl ?_
          refine j_if_eq hC 66 47 rfl d_M_tookOlder_44 (by decide) (fun c_44 => ?_) (fun c_44 => ?_)
          · refine j_iconst (v := (bI false)) hC 67 rfl d_M_tookOlder_66 rfl ?_
            refine j_istore (lv' := [(4, _), (5, _), (3, _), (0, _), (1, _), (2, _)]) hC 69 rfl d_M_tookOlder_67 (by decide) rfl ?_
            refine j_iinc (lv' := [(5, _), (4, _), (3, _), (0, _), (1, _), (2, _)]) hC 1 72 rfl d_M_tookOlder_69 rfl (inc1 _) (by decide) rfl ?_
            refine j_goto hC 11 d_M_tookOlder_72 (by decide) ?_
            exact ih _ _ (nn1 hk c_19) (dist_lt c_19 hd) (by rw [hR, exL_in (b := μ 13 (ix load)) c_19]; simp [toP, ix, c_19, bI0 c_24, bI0 c_44])
          · refine j_aload_n hC 3 48 rfl d_M_tookOlder_47 rfl rfl ?_
            refine g_M_from hC 51 rfl d_M_tookOlder_48 ?_
            refine j_iconst (v := 4) hC 52 rfl d_M_tookOlder_51 (by decide) ?_
            refine j_iload_n hC 2 53 rfl d_M_tookOlder_52 rfl rfl ?_
            refine j_imul hC 54 rfl d_M_tookOlder_53 ?_
            refine j_iload hC 0 56 rfl d_M_tookOlder_54 rfl ?_
            refine j_iadd hC 57 rfl d_M_tookOlder_56 ?_
            refine ld_M_from hC (fr_in hk c_19 (hz _)) 58 rfl d_M_tookOlder_57 ?_
            refine j_iload_n hC 5 59 rfl d_M_tookOlder_58 rfl rfl ?_
            refine j_icmp_ge hC 66 62 rfl d_M_tookOlder_59 (by decide) (fun c_59 => ?_) (fun c_59 => ?_)
            · refine j_iconst (v := (bI false)) hC 67 rfl d_M_tookOlder_66 rfl ?_
              refine j_istore (lv' := [(4, _), (5, _), (3, _), (0, _), (1, _), (2, _)]) hC 69 rfl d_M_tookOlder_67 (by decide) rfl ?_
              refine j_iinc (lv' := [(5, _), (4, _), (3, _), (0, _), (1, _), (2, _)]) hC 1 72 rfl d_M_tookOlder_69 rfl (inc1 _) (by decide) rfl ?_
              refine j_goto hC 11 d_M_tookOlder_72 (by decide) ?_
              exact ih _ _ (nn1 hk c_19) (dist_lt c_19 hd) (by rw [hR, exL_in (b := μ 13 (ix load)) c_19]; simp [toP, ix, c_19, bI0 c_24, bI1 c_44, c_59])
            · refine j_iconst (v := (bI true)) hC 63 rfl d_M_tookOlder_62 rfl ?_
              refine j_goto hC 67 d_M_tookOlder_63 (by decide) ?_
              refine j_istore (lv' := [(4, _), (5, _), (3, _), (0, _), (1, _), (2, _)]) hC 69 rfl d_M_tookOlder_67 (by decide) rfl ?_
              refine j_iinc (lv' := [(5, _), (4, _), (3, _), (0, _), (1, _), (2, _)]) hC 1 72 rfl d_M_tookOlder_69 rfl (inc1 _) (by decide) rfl ?_
              refine j_goto hC 11 d_M_tookOlder_72 (by decide) ?_
              exact ih _ _ (nn1 hk c_19) (dist_lt c_19 hd) (by rw [hR, exL_in (b := μ 13 (ix load)) c_19]; simp [toP, ix, c_19, bI0 c_24, bI1 c_44, c_59])
  refine j_iload_n hC 1 1 rfl d_M_tookOlder_0 rfl rfl ?_
  refine j_bipush (v := 127) hC 3 rfl d_M_tookOlder_1 (by decide) ?_
  refine j_iand hC 4 rfl d_M_tookOlder_3 ?_
  refine j_istore_n (lv' := [(3, _), (0, _), (1, _), (2, _)]) hC 5 rfl d_M_tookOlder_4 rfl (by decide) rfl ?_
  refine j_iconst (v := (bI false)) hC 6 rfl d_M_tookOlder_5 rfl ?_
  refine j_istore (lv' := [(4, _), (3, _), (0, _), (1, _), (2, _)]) hC 8 rfl d_M_tookOlder_6 (by decide) rfl ?_
  refine j_iconst (v := 0) hC 9 rfl d_M_tookOlder_8 (by decide) ?_
  refine j_istore (lv' := [(5, _), (4, _), (3, _), (0, _), (1, _), (2, _)]) hC 11 rfl d_M_tookOlder_9 (by decide) rfl ?_
  exact loop _ 0 false (by decide) (Nat.lt_succ_self _) (by simp [toM])
set_option maxHeartbeats 4000000 in
set_option maxRecDepth 100000 in
theorem c_M_undo {fi : Int32}  : kM l dC dI cI cZ cB cJ y_M_undo b_M_undo 4 (some .int) 1 21 [.ref (am 0), .int fi] (wM am cI cZ μ ν ρ) (some (.int ((udL μ fi (μ 1 0) ν 0).2))) (wM am cI cZ (sS (sS μ 4 (μ 4 0 + 1)) 3 (μ 3 0 + (udL μ fi (μ 1 0) ν 0).2)) (udL μ fi (μ 1 0) ν 0).1 ρ) := by
  refine jM.of (lv := [(0, .ref (am 0)), (1, .int fi)]) (own := R_M) jE_loc (by decide) rfl rfl (Nat.le_of_ble_eq_true rfl) rfl ?_
  intro p e s m args below meth c A hC hr hlk
  have loop : ∀ (n : Nat) (i x : Int32) (δ : B2), dist i (μ 1 0) < n → udL μ fi (μ 1 0) ν 0 = udL μ i (μ 1 0) δ x → kJ l dC dI p e s m args below meth c A 1 21 4 (some (.int ((udL μ fi (μ 1 0) ν 0).2))) (wM am cI cZ (sS (sS μ 4 (μ 4 0 + 1)) 3 (μ 3 0 + (udL μ fi (μ 1 0) ν 0).2)) (udL μ fi (μ 1 0) ν 0).1 ρ) (wM am cI cZ μ δ ρ) 4 [(3, .int i), (2, .int x), (0, .ref (am 0)), (1, .int fi)] [] := by
    intro n
    induction n with
    | zero => intro i x δ hd hR; exact absurd hd (Nat.not_lt_zero _)
    | succ n ih =>
      intro i x δ hd hR
      refine j_iload_n hC 0 5 rfl d_M_undo_4 rfl rfl ?_
      refine j_aload_n hC 2 6 rfl d_M_undo_5 rfl rfl ?_
      refine g_M_total hC 9 rfl d_M_undo_6 ?_
      refine j_icmp_ge hC 42 12 rfl d_M_undo_9 (by decide) (fun c_9 => ?_) (fun c_9 => ?_)
      · refine j_aload_n hC 2 43 rfl d_M_undo_42 rfl rfl ?_
        refine j_dup hC 44 rfl d_M_undo_43 rfl ?_
        refine g_M_wrong hC 47 rfl d_M_undo_44 ?_
        refine j_iconst (v := 1) hC 48 rfl d_M_undo_47 (by decide) ?_
        refine j_iadd hC 49 rfl d_M_undo_48 ?_
        refine p_M_wrong hC 52 rfl d_M_undo_49 ?_
        refine j_aload_n hC 2 53 rfl d_M_undo_52 rfl rfl ?_
        refine j_dup hC 54 rfl d_M_undo_53 rfl ?_
        refine g_M_undone hC 57 rfl d_M_undo_54 ?_
        refine j_iload_n hC 1 58 rfl d_M_undo_57 rfl rfl ?_
        refine j_iadd hC 59 rfl d_M_undo_58 ?_
        refine p_M_undone hC 62 rfl d_M_undo_59 ?_
        refine j_iload_n hC 1 63 rfl d_M_undo_62 rfl rfl ?_
        exact j_iret hC hr hlk d_M_undo_63 (by rw [hR, udL_out c_9]) (by rw [hR, udL_out c_9] <;> rfl)
      · refine j_aload_n hC 2 13 rfl d_M_undo_12 rfl rfl ?_
        refine j_iload_n hC 0 14 rfl d_M_undo_13 rfl rfl ?_
        refine j_callVi hC jE_loc jT_good (As := [_]) c_M_isDone yk_M_isDone lk_M_94 ⟨rfl, rfl⟩ ⟨Nat.le_of_ble_eq_true rfl, Nat.le_of_ble_eq_true rfl⟩ 0 rfl rfl rfl rfl (Nat.le_of_ble_eq_true rfl) ⟨Nat.zero_le _, Nat.zero_le _⟩ d_M_undo_14 17 rfl rfl ?_
        refine j_if_ne hC 23 20 rfl d_M_undo_17 (by decide) (fun c_17 => ?_) (fun c_17 => ?_)
        · refine j_aload_n hC 2 24 rfl d_M_undo_23 rfl rfl ?_
          refine g_M_done hC 27 rfl d_M_undo_24 ?_
          refine j_iload_n hC 0 28 rfl d_M_undo_27 rfl rfl ?_
          refine j_bipush (v := 127) hC 30 rfl d_M_undo_28 (by decide) ?_
          refine j_iand hC 31 rfl d_M_undo_30 ?_
          refine j_iconst (v := 0) hC 32 rfl d_M_undo_31 (by decide) ?_
          refine st_M_done hC (ix_in _) (b := false) rfl 33 rfl d_M_undo_32 ?_
          refine j_iinc (lv' := [(2, _), (3, _), (0, _), (1, _)]) hC 1 36 rfl d_M_undo_33 rfl (inc1 _) (by decide) rfl ?_
          refine j_iinc (lv' := [(3, _), (2, _), (0, _), (1, _)]) hC 1 39 rfl d_M_undo_36 rfl (inc1 _) (by decide) rfl ?_
          refine j_goto hC 4 d_M_undo_39 (by decide) ?_
          exact ih _ _ _ (dist_lt c_9 hd) (by rw [hR, udL_in c_9]; simp [c_9, bI1 c_17] <;> rfl)
        · refine j_goto hC 36 d_M_undo_20 (by decide) ?_
          refine j_iinc (lv' := [(3, _), (2, _), (0, _), (1, _)]) hC 0 39 rfl d_M_undo_36 rfl (inc1 _) (by decide) rfl ?_
          refine j_goto hC 4 d_M_undo_39 (by decide) ?_
          exact ih _ _ _ (dist_lt c_9 hd) (by rw [hR, udL_in c_9]; simp [c_9, bI0 c_17] <;> rfl)
  refine j_iconst (v := 0) hC 1 rfl d_M_undo_0 (by decide) ?_
  refine j_istore_n (lv' := [(2, _), (0, _), (1, _)]) hC 2 rfl d_M_undo_1 rfl (by decide) rfl ?_
  refine j_iload_n hC 2 3 rfl d_M_undo_2 rfl rfl ?_
  refine j_istore_n (lv' := [(3, _), (2, _), (0, _), (1, _)]) hC 4 rfl d_M_undo_3 rfl (by decide) rfl ?_
  exact loop _ _ _ _ (Nat.lt_succ_self _) rfl
end KC
end
section
def opTh (μ : S2) (kind size : Int32) : Int32 := if (decide (kind < 0) || (decide (3 < kind) || !iszM kind size)) = true then 1 else if μ 1 0 - μ 2 0 = 32 then 2 else 0
def adTh (μ : S2) (op at0 : Int32) : Int32 := if ioM μ op = true then (if cbM μ op at0 = true then 0 else 2) else 1
def apM (μ : S2) (ν : B2) (op j : Int32) : Bool := idM μ ν j && toM μ j op
def adR (μ : S2) (ν : B2) (op : Int32) : Int32 × S2 × B2 := if μ 12 (ix op) = 1 then (if frL (apM μ ν op) (op + 1) (μ 1 0) = -1 then (0, μ, ν) else
  ((udL μ (frL (apM μ ν op) (op + 1) (μ 1 0)) (μ 1 0) (bA ν 0 (μ 14 (ix (frL (apM μ ν op) (op + 1) (μ 1 0)))).toNatClampNeg true) 0).2,
    sS (sS μ 4 (μ 4 0 + 1)) 3 (μ 3 0 + (udL μ (frL (apM μ ν op) (op + 1) (μ 1 0)) (μ 1 0) (bA ν 0 (μ 14 (ix (frL (apM μ ν op) (op + 1) (μ 1 0)))).toNatClampNeg true) 0).2),
    (udL μ (frL (apM μ ν op) (op + 1) (μ 1 0)) (μ 1 0) (bA ν 0 (μ 14 (ix (frL (apM μ ν op) (op + 1) (μ 1 0)))).toNatClampNeg true) 0).1)) else (0, μ, ν)
theorem nm1 {x : Int32} (h : 0 ≤ x) : ¬ x = -1 := fun q => by
  rw [q] at h
  exact absurd h (by decide)
def cnM (μ : S2) (ν : B2) (op : Int32) : Bool := waM μ op && ((decide (μ 12 (ix op) = 1) || decide (μ 12 (ix op) = 3)) && !ν 1 (ix op))
def nuTh (μ : S2) (ν : B2) (op : Int32) : Int32 := if ioM μ op = true then (if cnM μ ν op = true then 0 else 2) else 1
theorem frL_hit {P : Int32 → Bool} {i b : Int32} (c : ¬ b ≤ i) (h : P i = true) : frL P i b = i := by rw [frL_in c, if_pos h]
def hbPM (μ : S2) (j : Int32) : Bool := decide (μ 12 (ix j) = 2) || decide (μ 12 (ix j) = 3)
def hdM (μ : S2) (op : Int32) : Bool := exL (hbPM μ) (μ 2 0) op || (!decide (μ 15 (ix op) < 3072) && (!decide (op = μ 2 0) || !decide (μ 7 0 ≤ 0)))
def unPM (μ : S2) (j : Int32) : Bool := decide (μ 12 (ix j) = 1) && decide (μ 15 (ix j) = -1)
theorem buU_rng {μ : S2} {at0 : Int32} (hb : μ 7 0 ≤ 4) : ∀ (k : Nat) (i n : Int32), k = dist i (μ 7 0) → 0 ≤ i → (n = -1 ∨ vp_in n 4) → (buU μ at0 k i n = -1 ∨ vp_in (buU μ at0 k i n) 4)
  | 0, _, _, _, _, h => h
  | k + 1, i, n, hk, hi, h => by
    have c : ¬ μ 7 0 ≤ i := fun q => by
      have := dist_out q
      omega
    have e := dist_in c
    refine buU_rng hb k (i + 1) _ (by omega) (nn1 hi c) ?_
    split
    · exact Or.inr (in4b hi c hb)
    · exact h
theorem buL_rng {μ : S2} {at0 : Int32} (hb : μ 7 0 ≤ 4) (h : ¬ buL μ at0 0 (-1) < 0) : vp_in (buL μ at0 0 (-1)) 4 := by
  rcases buU_rng (at0 := at0) hb _ 0 (-1) rfl (by decide) (Or.inl rfl) with q | q
  · have q' : buL μ at0 0 (-1) = -1 := q
    rw [q'] at h
    exact absurd (by decide) h
  · exact q
def tkV (μ : S2) (op k : Int32) : Int32 := if soM μ op (μ 15 (ix op) + k) < 0 then (if buL μ (μ 15 (ix op) + k) 0 (-1) < 0 then μ 10 (μ 15 (ix op) + k).toNatClampNeg else
    bom (μ 24 (buL μ (μ 15 (ix op) + k) 0 (-1)).toNatClampNeg) (μ 23 (buL μ (μ 15 (ix op) + k) 0 (-1)).toNatClampNeg) (μ 15 (ix op) + k - μ 22 (buL μ (μ 15 (ix op) + k) 0 (-1)).toNatClampNeg))
  else bom (μ 16 (ix (soM μ op (μ 15 (ix op) + k)))) (μ 13 (ix (soM μ op (μ 15 (ix op) + k)))) (μ 15 (ix op) + k - μ 15 (ix (soM μ op (μ 15 (ix op) + k))))
def tkT (μ : S2) (op k : Int32) : S2 := if soM μ op (μ 15 (ix op) + k) < 0 then (if buL μ (μ 15 (ix op) + k) 0 (-1) < 0 then sS (sS (sA μ 20 (4 * (op &&& 127) + k).toNatClampNeg (-1)) 5 (μ 5 0 + 0)) 6 (μ 6 0 + 1)
    else sS (sS (sA μ 20 (4 * (op &&& 127) + k).toNatClampNeg (-2)) 5 (μ 5 0 + 0)) 6 (μ 6 0 + 1))
  else sS (sS (sA μ 20 (4 * (op &&& 127) + k).toNatClampNeg (soM μ op (μ 15 (ix op) + k))) 5 (μ 5 0 + 1)) 6 (μ 6 0 + 0)
theorem tkT_j {μ : S2} {op k : Int32} {j : Nat} (h : j ≠ 5 ∧ j ≠ 6 ∧ j ≠ 20) : tkT μ op k j = μ j := by
  unfold tkT
  split
  · split <;> simp [sA, sS, va_up, h]
  · simp [sA, sS, va_up, h]
def ctM (μ : S2) (ν : B2) (op : Int32) : Bool := waM μ op && (decide (μ 12 (ix op) = 0) && (!decide (μ 15 (ix op) < 0) && !ν 2 (ix op)))
def trTh (μ : S2) (ν : B2) (op : Int32) : Int32 := if ioM μ op = true then (if ctM μ ν op = true then 0 else 2) else 1
def snM (μ : S2) (ν : B2) (op k : Int32) : Bool := !decide (soM μ op (μ 15 (ix op) + k) < 0) && !ν 1 (ix (soM μ op (μ 15 (ix op) + k)))
def dmS (op k : Int32) (μ : S2) : S2 := sA (tkT μ op k) 17 (ix op) ((μ 17 (ix op) <<< ((8 : Int32) &&& 31)) ||| tkV μ op k)
theorem dmS_jj {μ : S2} {op k : Int32} {j : Nat} (h : j ≠ 5 ∧ j ≠ 6 ∧ j ≠ 20 ∧ j ≠ 17) : dmS op k μ j = μ j := by
  unfold dmS
  rw [sA, va_up_ne _ _ h.2.2.2]
  exact tkT_j ⟨h.1, h.2.1, h.2.2.1⟩
theorem dmS_j {μ : S2} {op k : Int32} {j : Nat} (h : j ≠ 5 ∧ j ≠ 6 ∧ j ≠ 20 ∧ j ≠ 17 := by decide) : dmS op k μ j = μ j := dmS_jj h
def dmU (op : Int32) : Nat → Int32 → S2 → S2
  | 0, _, μ => μ
  | c + 1, k, μ => dmU op c (k + 1) (dmS op k μ)
def dmL (op sz k : Int32) (μ : S2) : S2 := dmU op (dist k sz) k μ
theorem dmL_out {op sz k : Int32} {μ : S2} (c : sz ≤ k) : dmL op sz k μ = μ := by
  unfold dmL
  rw [dist_out c]
  rfl
theorem dmL_in {op sz k : Int32} {μ : S2} (c : ¬ sz ≤ k) : dmL op sz k μ = dmL op sz (k + 1) (dmS op k μ) := by
  unfold dmL
  rw [dist_in c]
  rfl
def tmL (μ : S2) (ν : B2) (op : Int32) : Int32 × S2 × B2 := if exL (snM μ ν op) 0 (μ 13 (ix op)) = true then (4, μ, ν) else (1, dmL op (μ 13 (ix op)) 0 (sA μ 17 (ix op) 0), bA ν 2 (ix op) true)
def tmR (μ : S2) (ν : B2) (op : Int32) : Int32 × S2 × B2 := if hdM μ op = true then (2, μ, ν) else if ν 0 (μ 14 (ix op)).toNatClampNeg = true then (if exL (unPM μ) (μ 2 0) op = true then (3, μ, ν) else tmL μ ν op) else tmL μ ν op
def isM (μ : S2) (ν : B2) (op : Int32) : Bool := (decide (μ 12 (ix op) = 0) && ν 2 (ix op)) || (decide (μ 12 (ix op) = 3) && !decide (μ 2 0 ≤ op))
def loTh (μ : S2) (ν : B2) (op : Int32) : Int32 := if ioM μ op = true then (if μ 1 0 - 1 - op < 64 then (if isM μ ν op = true then 0 else 2) else 3) else 1
def srTh (μ : S2) (ν : B2) (op k : Int32) : Int32 := if ioM μ op = true then (if (waM μ op && idM μ ν op) = true then (if k < 0 then 3 else if k < μ 13 (ix op) then 0 else 3) else 2) else 1
def mlM (μ : S2) (ν : B2) : Bool := if μ 12 (ix (μ 2 0)) = 0 then ν 2 (ix (μ 2 0)) else if μ 12 (ix (μ 2 0)) = 2 then decide (μ 7 0 = 0) else if μ 15 (ix (μ 2 0)) = -1 then false else if ν 1 (ix (μ 2 0)) = true then
  (decide (μ 7 0 = 0) || (decide (μ 12 (ix (μ 2 0)) = 1) && (!decide (3072 ≤ μ 15 (ix (μ 2 0))) && !decide (4 ≤ μ 7 0)))) else false
def ibS (μ : S2) (op : Int32) : S2 := sS (sA (sA (sA (sA μ 21 (μ 7 0).toNatClampNeg op) 22 (μ 7 0).toNatClampNeg (μ 15 (ix op))) 23 (μ 7 0).toNatClampNeg (μ 13 (ix op))) 24 (μ 7 0).toNatClampNeg (μ 16 (ix op))) 7 (μ 7 0 + 1)
def tfM (μ : S2) (ν : B2) (op at0 : Int32) : Bool := idM μ ν op && (!decide (at0 - μ 15 (ix op) < 0) && (!decide (μ 13 (ix op) ≤ at0 - μ 15 (ix op)) && decide (μ 20 (4 * (op &&& 127) + (at0 - μ 15 (ix op))).toNatClampNeg = -1)))
def tfM9 (μ : S2) (ν : B2) (at0 op : Int32) : Bool := tfM μ ν op at0
def otTh (at0 v : Int32) : Int32 := if (decide (at0 < 0) || (decide (4096 ≤ at0) || (decide (v < 0) || !decide (v ≤ 255)))) = true then 1 else 0
def omR (μ : S2) (ν : B2) (at0 : Int32) : Int32 × S2 × B2 := if frL (tfM9 μ ν at0) (μ 2 0) (μ 1 0) = -1 then (0, μ, ν) else
  ((udL μ (frL (tfM9 μ ν at0) (μ 2 0) (μ 1 0)) (μ 1 0) ν 0).2, sS (sS μ 4 (μ 4 0 + 1)) 3 (μ 3 0 + (udL μ (frL (tfM9 μ ν at0) (μ 2 0) (μ 1 0)) (μ 1 0) ν 0).2), (udL μ (frL (tfM9 μ ν at0) (μ 2 0) (μ 1 0)) (μ 1 0) ν 0).1)
def meTh (at0 : Int32) : Int32 := if at0 < 0 then 1 else if at0 < 4096 then 0 else 1
def foTh (μ : S2) (op : Int32) : Int32 := if ioM μ op = true then (if waM μ op = true then 0 else 2) else 1
theorem i6_in (x : Int32) : vp_in (x &&& 63) 64 := pk_andIn x 6 (by decide) (by decide)
theorem wrU_j {pl sz v : Int32} {j : Nat} (h : j ≠ 10) : ∀ (c : Nat) (k : Int32) (μ : S2), wrU pl sz v c k μ j = μ j
  | 0, _, _ => rfl
  | c + 1, k, μ => by rw [wrU, wrU_j h c (k + 1), sA, va_up_ne _ _ h]
theorem wrL_j {pl sz v k : Int32} {μ : S2} {j : Nat} (h : j ≠ 10 := by decide) : wrL pl sz v k μ j = μ j := wrU_j h _ _ _
def xmU (pl : Int32) (i : Nat) : Nat → Int32 → S2 → S2
  | 0, _, μ => μ
  | c + 1, k, μ => xmU pl i c (k + 1) (sA μ 17 i ((μ 17 i <<< ((8 : Int32) &&& 31)) ||| μ 10 (pl + k).toNatClampNeg))
def xmL (pl sz : Int32) (i : Nat) (k : Int32) (μ : S2) : S2 := xmU pl i (dist k sz) k μ
theorem xmL_out {pl sz k : Int32} {i : Nat} {μ : S2} (c : sz ≤ k) : xmL pl sz i k μ = μ := by
  unfold xmL
  rw [dist_out c]
  rfl
theorem xmL_in {pl sz k : Int32} {i : Nat} {μ : S2} (c : ¬ sz ≤ k) : xmL pl sz i k μ = xmL pl sz i (k + 1) (sA μ 17 i ((μ 17 i <<< ((8 : Int32) &&& 31)) ||| μ 10 (pl + k).toNatClampNeg)) := by
  unfold xmL
  rw [dist_in c]
  rfl
end
section
section KC
variable {l : Launch} {dC : Nat → ClassId} {dI : Nat → Nat → Nat} {cI cZ cB cJ : ClassId} {ad : Nat → Nat} {σ : S2} {β : B2} {mk : Int64} {ρ : va_W} {am : Nat → Nat} {μ : S2} {ν : B2}
set_option maxHeartbeats 4000000 in
set_option maxRecDepth 100000 in
theorem c_M_op_thr {t : Int32} {kind size prog : Int32} (ht : opTh μ kind size = t) (h : ¬ t ≤ 0) : kM l dC dI cI cZ cB cJ y_M_op b_M_op 5 (some .int) 1 21 [.ref (am 0), .int kind, .int size, .int prog] (wM am cI cZ μ ν ρ) (some (.int (0))) (wM am cI cZ (sS μ 0 t) ν ρ) := by
  refine jM.of (lv := [(0, .ref (am 0)), (1, .int kind), (2, .int size), (3, .int prog)]) (own := R_M) jE_loc (by decide) rfl rfl (Nat.le_of_ble_eq_true rfl) rfl ?_
  intro p e s m args below meth c A hC hr hlk
  have jn : ∀ x : Int32, x = opTh μ kind size → kJ l dC dI p e s m args below meth c A 1 21 5 (some (.int (0))) (wM am cI cZ (sS μ 0 t) ν ρ) (wM am cI cZ μ ν ρ) 41 [(0, .ref (am 0)), (1, .int kind), (2, .int size), (3, .int prog)] [.int x, .ref (am 0)] := by
    intro x hx
    obtain rfl : x = t := hx.trans ht
    refine p_M_thrown hC 44 rfl d_M_op_41 ?_
    refine j_aload_n hC 0 45 rfl d_M_op_44 rfl rfl ?_
    refine g_M_thrown hC 48 rfl d_M_op_45 ?_
    refine j_if_le hC 53 51 rfl d_M_op_48 (by decide) (fun c_48 => absurd c_48 h) (fun c_48 => ?_)
    refine j_iconst (v := 0) hC 52 rfl d_M_op_51 (by decide) ?_
    exact j_iret hC hr hlk d_M_op_52 rfl rfl
  refine j_aload_n hC 0 1 rfl d_M_op_0 rfl rfl ?_
  refine j_iload_n hC 1 2 rfl d_M_op_1 rfl rfl ?_
  refine j_if_lt hC 18 5 rfl d_M_op_2 (by decide) (fun c_2 => ?_) (fun c_2 => ?_)
  · refine j_iconst (v := 1) hC 19 rfl d_M_op_18 (by decide) ?_
    refine j_goto hC 41 d_M_op_19 (by decide) ?_
    exact jn _ (by simp [opTh, c_2])
  · refine j_iload_n hC 1 6 rfl d_M_op_5 rfl rfl ?_
    refine j_iconst (v := 3) hC 7 rfl d_M_op_6 (by decide) ?_
    refine j_icmp_gt hC 18 10 rfl d_M_op_7 (by decide) (fun c_7 => ?_) (fun c_7 => ?_)
    · refine j_iconst (v := 1) hC 19 rfl d_M_op_18 (by decide) ?_
      refine j_goto hC 41 d_M_op_19 (by decide) ?_
      exact jn _ (by simp [opTh, c_2, c_7])
    · refine j_iload_n hC 1 11 rfl d_M_op_10 rfl rfl ?_
      refine j_iload_n hC 2 12 rfl d_M_op_11 rfl rfl ?_
      refine j_callSi hC jE_loc jT_good (As := [_, _]) c_M_isSize yk_M_isSize lk_M_66 ⟨rfl, rfl⟩ ⟨Nat.le_of_ble_eq_true rfl, Nat.le_of_ble_eq_true rfl⟩ rfl (Nat.le_of_ble_eq_true rfl) ⟨Nat.zero_le _, Nat.zero_le _⟩ d_M_op_12 15 rfl rfl ?_
      refine j_if_ne hC 22 18 rfl d_M_op_15 (by decide) (fun c_15 => ?_) (fun c_15 => ?_)
      · refine j_aload_n hC 0 23 rfl d_M_op_22 rfl rfl ?_
        refine g_M_total hC 26 rfl d_M_op_23 ?_
        refine j_aload_n hC 0 27 rfl d_M_op_26 rfl rfl ?_
        refine g_M_oldest hC 30 rfl d_M_op_27 ?_
        refine j_isub hC 31 rfl d_M_op_30 ?_
        refine j_bipush (v := 32) hC 33 rfl d_M_op_31 (by decide) ?_
        refine j_icmp_ne hC 40 36 rfl d_M_op_33 (by decide) (fun c_33 => ?_) (fun c_33 => ?_)
        · refine j_iconst (v := 0) hC 41 rfl d_M_op_40 (by decide) ?_
          exact jn _ (by simp [opTh, c_2, c_7, bI1 c_15, c_33])
        · refine j_iconst (v := 2) hC 37 rfl d_M_op_36 (by decide) ?_
          refine j_goto hC 41 d_M_op_37 (by decide) ?_
          exact jn _ (by simp [opTh, c_2, c_7, bI1 c_15, c_33])
      · refine j_iconst (v := 1) hC 19 rfl d_M_op_18 (by decide) ?_
        refine j_goto hC 41 d_M_op_19 (by decide) ?_
        exact jn _ (by simp [opTh, c_2, c_7, bI0 c_15])
set_option maxHeartbeats 4000000 in
set_option maxRecDepth 100000 in
theorem c_M_op_ok {kind size prog : Int32} (ht : opTh μ kind size = 0)  : kM l dC dI cI cZ cB cJ y_M_op b_M_op 5 (some .int) 1 21 [.ref (am 0), .int kind, .int size, .int prog] (wM am cI cZ μ ν ρ) (some (.int (μ 1 0 + 1 - 1))) (wM am cI cZ (sS (sA (sA (sA (sA (sS μ 0 0) 12 (ix (μ 1 0)) kind) 13 (ix (μ 1 0)) size) 14 (ix (μ 1 0)) (prog &&& 63)) 15 (ix (μ 1 0)) (-1)) 1 (μ 1 0 + 1)) (bA (bA ν 1 (ix (μ 1 0)) false) 2 (ix (μ 1 0)) false) ρ) := by
  refine jM.of (lv := [(0, .ref (am 0)), (1, .int kind), (2, .int size), (3, .int prog)]) (own := R_M) jE_loc (by decide) rfl rfl (Nat.le_of_ble_eq_true rfl) rfl ?_
  intro p e s m args below meth c A hC hr hlk
  have jn : ∀ x : Int32, x = opTh μ kind size → kJ l dC dI p e s m args below meth c A 1 21 5 (some (.int (μ 1 0 + 1 - 1))) (wM am cI cZ (sS (sA (sA (sA (sA (sS μ 0 0) 12 (ix (μ 1 0)) kind) 13 (ix (μ 1 0)) size) 14 (ix (μ 1 0)) (prog &&& 63)) 15 (ix (μ 1 0)) (-1)) 1 (μ 1 0 + 1)) (bA (bA ν 1 (ix (μ 1 0)) false) 2 (ix (μ 1 0)) false) ρ) (wM am cI cZ μ ν ρ) 41 [(0, .ref (am 0)), (1, .int kind), (2, .int size), (3, .int prog)] [.int x, .ref (am 0)] := by
    intro x hx
    obtain rfl : x = 0 := hx.trans ht
    refine p_M_thrown hC 44 rfl d_M_op_41 ?_
    refine j_aload_n hC 0 45 rfl d_M_op_44 rfl rfl ?_
    refine g_M_thrown hC 48 rfl d_M_op_45 ?_
    refine j_if_le hC 53 51 rfl d_M_op_48 (by decide) (fun c_48 => ?_) (fun c_48 => absurd c_48 (fun q => q (Int32.le_refl 0)))
    refine j_aload_n hC 0 54 rfl d_M_op_53 rfl rfl ?_
    refine g_M_total hC 57 rfl d_M_op_54 ?_
    refine j_bipush (v := 127) hC 59 rfl d_M_op_57 (by decide) ?_
    refine j_iand hC 60 rfl d_M_op_59 ?_
    refine j_istore (lv' := [(4, _), (0, _), (1, _), (2, _), (3, _)]) hC 62 rfl d_M_op_60 (by decide) rfl ?_
    refine j_aload_n hC 1 63 rfl d_M_op_62 rfl rfl ?_
    refine g_M_kinds hC 66 rfl d_M_op_63 ?_
    refine j_iload hC 0 68 rfl d_M_op_66 rfl ?_
    refine j_iload_n hC 2 69 rfl d_M_op_68 rfl rfl ?_
    refine st_M_kinds hC (ix_in _) 70 rfl d_M_op_69 ?_
    refine j_aload_n hC 1 71 rfl d_M_op_70 rfl rfl ?_
    refine g_M_sizes hC 74 rfl d_M_op_71 ?_
    refine j_iload hC 0 76 rfl d_M_op_74 rfl ?_
    refine j_iload_n hC 3 77 rfl d_M_op_76 rfl rfl ?_
    refine st_M_sizes hC (ix_in _) 78 rfl d_M_op_77 ?_
    refine j_aload_n hC 1 79 rfl d_M_op_78 rfl rfl ?_
    refine g_M_programs hC 82 rfl d_M_op_79 ?_
    refine j_iload hC 0 84 rfl d_M_op_82 rfl ?_
    refine j_iload_n hC 4 85 rfl d_M_op_84 rfl rfl ?_
    refine j_bipush (v := 63) hC 87 rfl d_M_op_85 (by decide) ?_
    refine j_iand hC 88 rfl d_M_op_87 ?_
    refine st_M_programs hC (ix_in _) 89 rfl d_M_op_88 ?_
    refine j_aload_n hC 1 90 rfl d_M_op_89 rfl rfl ?_
    refine g_M_places hC 93 rfl d_M_op_90 ?_
    refine j_iload hC 0 95 rfl d_M_op_93 rfl ?_
    refine j_iconst (v := (-1)) hC 96 rfl d_M_op_95 (by decide) ?_
    refine st_M_places hC (ix_in _) 97 rfl d_M_op_96 ?_
    refine j_aload_n hC 1 98 rfl d_M_op_97 rfl rfl ?_
    refine g_M_told hC 101 rfl d_M_op_98 ?_
    refine j_iload hC 0 103 rfl d_M_op_101 rfl ?_
    refine j_iconst (v := 0) hC 104 rfl d_M_op_103 (by decide) ?_
    refine st_M_told hC (ix_in _) (b := false) rfl 105 rfl d_M_op_104 ?_
    refine j_aload_n hC 1 106 rfl d_M_op_105 rfl rfl ?_
    refine g_M_done hC 109 rfl d_M_op_106 ?_
    refine j_iload hC 0 111 rfl d_M_op_109 rfl ?_
    refine j_iconst (v := 0) hC 112 rfl d_M_op_111 (by decide) ?_
    refine st_M_done hC (ix_in _) (b := false) rfl 113 rfl d_M_op_112 ?_
    refine j_aload_n hC 1 114 rfl d_M_op_113 rfl rfl ?_
    refine j_dup hC 115 rfl d_M_op_114 rfl ?_
    refine g_M_total hC 118 rfl d_M_op_115 ?_
    refine j_iconst (v := 1) hC 119 rfl d_M_op_118 (by decide) ?_
    refine j_iadd hC 120 rfl d_M_op_119 ?_
    refine p_M_total hC 123 rfl d_M_op_120 ?_
    refine j_aload_n hC 1 124 rfl d_M_op_123 rfl rfl ?_
    refine g_M_total hC 127 rfl d_M_op_124 ?_
    refine j_iconst (v := 1) hC 128 rfl d_M_op_127 (by decide) ?_
    refine j_isub hC 129 rfl d_M_op_128 ?_
    exact j_iret hC hr hlk d_M_op_129 rfl rfl
  refine j_aload_n hC 0 1 rfl d_M_op_0 rfl rfl ?_
  refine j_iload_n hC 1 2 rfl d_M_op_1 rfl rfl ?_
  refine j_if_lt hC 18 5 rfl d_M_op_2 (by decide) (fun c_2 => ?_) (fun c_2 => ?_)
  · refine j_iconst (v := 1) hC 19 rfl d_M_op_18 (by decide) ?_
    refine j_goto hC 41 d_M_op_19 (by decide) ?_
    exact jn _ (by simp [opTh, c_2])
  · refine j_iload_n hC 1 6 rfl d_M_op_5 rfl rfl ?_
    refine j_iconst (v := 3) hC 7 rfl d_M_op_6 (by decide) ?_
    refine j_icmp_gt hC 18 10 rfl d_M_op_7 (by decide) (fun c_7 => ?_) (fun c_7 => ?_)
    · refine j_iconst (v := 1) hC 19 rfl d_M_op_18 (by decide) ?_
      refine j_goto hC 41 d_M_op_19 (by decide) ?_
      exact jn _ (by simp [opTh, c_2, c_7])
    · refine j_iload_n hC 1 11 rfl d_M_op_10 rfl rfl ?_
      refine j_iload_n hC 2 12 rfl d_M_op_11 rfl rfl ?_
      refine j_callSi hC jE_loc jT_good (As := [_, _]) c_M_isSize yk_M_isSize lk_M_66 ⟨rfl, rfl⟩ ⟨Nat.le_of_ble_eq_true rfl, Nat.le_of_ble_eq_true rfl⟩ rfl (Nat.le_of_ble_eq_true rfl) ⟨Nat.zero_le _, Nat.zero_le _⟩ d_M_op_12 15 rfl rfl ?_
      refine j_if_ne hC 22 18 rfl d_M_op_15 (by decide) (fun c_15 => ?_) (fun c_15 => ?_)
      · refine j_aload_n hC 0 23 rfl d_M_op_22 rfl rfl ?_
        refine g_M_total hC 26 rfl d_M_op_23 ?_
        refine j_aload_n hC 0 27 rfl d_M_op_26 rfl rfl ?_
        refine g_M_oldest hC 30 rfl d_M_op_27 ?_
        refine j_isub hC 31 rfl d_M_op_30 ?_
        refine j_bipush (v := 32) hC 33 rfl d_M_op_31 (by decide) ?_
        refine j_icmp_ne hC 40 36 rfl d_M_op_33 (by decide) (fun c_33 => ?_) (fun c_33 => ?_)
        · refine j_iconst (v := 0) hC 41 rfl d_M_op_40 (by decide) ?_
          exact jn _ (by simp [opTh, c_2, c_7, bI1 c_15, c_33])
        · refine j_iconst (v := 2) hC 37 rfl d_M_op_36 (by decide) ?_
          refine j_goto hC 41 d_M_op_37 (by decide) ?_
          exact jn _ (by simp [opTh, c_2, c_7, bI1 c_15, c_33])
      · refine j_iconst (v := 1) hC 19 rfl d_M_op_18 (by decide) ?_
        refine j_goto hC 41 d_M_op_19 (by decide) ?_
        exact jn _ (by simp [opTh, c_2, c_7, bI0 c_15])
set_option maxHeartbeats 4000000 in
set_option maxRecDepth 100000 in
theorem c_M_address_thr {t : Int32} {op at0 : Int32} (ht : adTh μ op at0 = t) (h : ¬ t ≤ 0) : kM l dC dI cI cZ cB cJ y_M_address b_M_address 4 (some .int) 3 69 [.ref (am 0), .int op, .int at0] (wM am cI cZ μ ν ρ) (some (.int (0))) (wM am cI cZ (sS μ 0 t) ν ρ) := by
  refine jM.of (lv := [(0, .ref (am 0)), (1, .int op), (2, .int at0)]) (own := R_M) jE_loc (by decide) rfl rfl (Nat.le_of_ble_eq_true rfl) rfl ?_
  intro p e s m args below meth c A hC hr hlk
  have jn : ∀ x : Int32, x = adTh μ op at0 → kJ l dC dI p e s m args below meth c A 3 69 4 (some (.int (0))) (wM am cI cZ (sS μ 0 t) ν ρ) (wM am cI cZ μ ν ρ) 27 [(0, .ref (am 0)), (1, .int op), (2, .int at0)] [.int x, .ref (am 0)] := by
    intro x hx
    obtain rfl : x = t := hx.trans ht
    refine p_M_thrown hC 30 rfl d_M_address_27 ?_
    refine j_aload_n hC 0 31 rfl d_M_address_30 rfl rfl ?_
    refine g_M_thrown hC 34 rfl d_M_address_31 ?_
    refine j_if_le hC 39 37 rfl d_M_address_34 (by decide) (fun c_34 => absurd c_34 h) (fun c_34 => ?_)
    refine j_iconst (v := 0) hC 38 rfl d_M_address_37 (by decide) ?_
    exact j_iret hC hr hlk d_M_address_38 rfl rfl
  refine j_aload_n hC 0 1 rfl d_M_address_0 rfl rfl ?_
  refine j_aload_n hC 0 2 rfl d_M_address_1 rfl rfl ?_
  refine j_iload_n hC 1 3 rfl d_M_address_2 rfl rfl ?_
  refine j_callVi hC jE_loc jT_good (As := [_]) c_M_isOp yk_M_isOp lk_M_88 ⟨rfl, rfl⟩ ⟨Nat.le_of_ble_eq_true rfl, Nat.le_of_ble_eq_true rfl⟩ 0 rfl rfl rfl rfl (Nat.le_of_ble_eq_true rfl) ⟨Nat.zero_le _, Nat.zero_le _⟩ d_M_address_3 6 rfl rfl ?_
  refine j_if_ne hC 13 9 rfl d_M_address_6 (by decide) (fun c_6 => ?_) (fun c_6 => ?_)
  · refine j_aload_n hC 0 14 rfl d_M_address_13 rfl rfl ?_
    refine j_iload_n hC 1 15 rfl d_M_address_14 rfl rfl ?_
    refine j_iload_n hC 2 16 rfl d_M_address_15 rfl rfl ?_
    refine j_callVi hC jE_loc jT_good (As := [_, _]) c_M_canBe yk_M_canBe lk_M_91 ⟨rfl, rfl⟩ ⟨Nat.le_of_ble_eq_true rfl, Nat.le_of_ble_eq_true rfl⟩ 0 rfl rfl rfl rfl (Nat.le_of_ble_eq_true rfl) ⟨Nat.zero_le _, Nat.zero_le _⟩ d_M_address_16 19 rfl rfl ?_
    refine j_if_ne hC 26 22 rfl d_M_address_19 (by decide) (fun c_19 => ?_) (fun c_19 => ?_)
    · refine j_iconst (v := 0) hC 27 rfl d_M_address_26 (by decide) ?_
      exact jn _ (by simp [adTh, bI1 c_6, bI1 c_19])
    · refine j_iconst (v := 2) hC 23 rfl d_M_address_22 (by decide) ?_
      refine j_goto hC 27 d_M_address_23 (by decide) ?_
      exact jn _ (by simp [adTh, bI1 c_6, bI0 c_19])
  · refine j_iconst (v := 1) hC 10 rfl d_M_address_9 (by decide) ?_
    refine j_goto hC 27 d_M_address_10 (by decide) ?_
    exact jn _ (by simp [adTh, bI0 c_6])
set_option maxHeartbeats 4000000 in
set_option maxRecDepth 100000 in
theorem c_M_address_ok {op at0 : Int32} (ht : adTh μ op at0 = 0) (h1 : ¬ op < 0) (h2 : ¬ μ 1 0 ≤ op) (hz : ∀ i, μ 13 i ≤ 4) (hp : ∀ i, vp_in (μ 14 i) 64) : kM l dC dI cI cZ cB cJ y_M_address b_M_address 4 (some .int) 3 69 [.ref (am 0), .int op, .int at0] (wM am cI cZ μ ν ρ) (some (.int ((adR (sA (sS μ 0 0) 15 (ix op) at0) ν op).1))) (wM am cI cZ (adR (sA (sS μ 0 0) 15 (ix op) at0) ν op).2.1 (adR (sA (sS μ 0 0) 15 (ix op) at0) ν op).2.2 ρ) := by
  refine jM.of (lv := [(0, .ref (am 0)), (1, .int op), (2, .int at0)]) (own := R_M) jE_loc (by decide) rfl rfl (Nat.le_of_ble_eq_true rfl) rfl ?_
  intro p e s m args below meth c A hC hr hlk
  have loop : (sA (sS μ 0 0) 15 (ix op) at0) 12 (ix op) = 1 → ∀ (n : Nat) (i : Int32), 0 ≤ i → dist i ((sA (sS μ 0 0) 15 (ix op) at0) 1 0) < n → frL (apM (sA (sS μ 0 0) 15 (ix op) at0) ν op) (op + 1) ((sA (sS μ 0 0) 15 (ix op) at0) 1 0) = frL (apM (sA (sS μ 0 0) 15 (ix op) at0) ν op) i ((sA (sS μ 0 0) 15 (ix op) at0) 1 0) → kJ l dC dI p e s m args below meth c A 3 69 4 (some (.int ((adR (sA (sS μ 0 0) 15 (ix op) at0) ν op).1))) (wM am cI cZ (adR (sA (sS μ 0 0) 15 (ix op) at0) ν op).2.1 (adR (sA (sS μ 0 0) 15 (ix op) at0) ν op).2.2 ρ) (wM am cI cZ (sA (sS μ 0 0) 15 (ix op) at0) ν ρ) 68 [(3, .int i), (0, .ref (am 0)), (1, .int op), (2, .int at0)] [] := by
    intro c_59 n
    induction n with
    | zero => intro i hi hd hR; exact absurd hd (Nat.not_lt_zero _)
    | succ n ih =>
      intro i hi hd hR
      refine j_iload_n hC 0 69 rfl d_M_address_68 rfl rfl ?_
      refine j_aload_n hC 1 70 rfl d_M_address_69 rfl rfl ?_
      refine g_M_total hC 73 rfl d_M_address_70 ?_
      refine j_icmp_ge hC 123 76 rfl d_M_address_73 (by decide) (fun c_73 => ?_) (fun c_73 => ?_)
      · refine j_iconst (v := 0) hC 124 rfl d_M_address_123 (by decide) ?_
        exact j_iret hC hr hlk d_M_address_124 (by rw [adR, if_pos c_59, hR, frL_out c_73] <;> rfl) (by rw [adR, if_pos c_59, hR, frL_out c_73] <;> rfl)
      · refine j_aload_n hC 1 77 rfl d_M_address_76 rfl rfl ?_
        refine j_iload_n hC 0 78 rfl d_M_address_77 rfl rfl ?_
        refine j_callVi hC jE_loc jT_good (As := [_]) c_M_isDone yk_M_isDone lk_M_94 ⟨rfl, rfl⟩ ⟨Nat.le_of_ble_eq_true rfl, Nat.le_of_ble_eq_true rfl⟩ 0 rfl rfl rfl rfl (Nat.le_of_ble_eq_true rfl) ⟨Nat.zero_le _, Nat.zero_le _⟩ d_M_address_78 81 rfl rfl ?_
        refine j_if_eq hC 117 84 rfl d_M_address_81 (by decide) (fun c_81 => ?_) (fun c_81 => ?_)
        · refine j_iinc (lv' := [(3, _), (0, _), (1, _), (2, _)]) hC 0 120 rfl d_M_address_117 rfl (inc1 _) (by decide) rfl ?_
          refine j_goto hC 68 d_M_address_120 (by decide) ?_
          exact ih _ (nn1 hi c_73) (dist_lt c_73 hd) (by rw [hR, frL_in c_73]; simp [apM, c_73, bI0 c_81])
        · refine j_aload_n hC 1 85 rfl d_M_address_84 rfl rfl ?_
          refine j_iload_n hC 0 86 rfl d_M_address_85 rfl rfl ?_
          refine j_iload_n hC 2 87 rfl d_M_address_86 rfl rfl ?_
          refine j_callVi hC jE_loc jT_good (As := [_, _]) (c_M_tookOlder (μ := (sA (sS μ 0 0) 15 (ix op) at0)) hz) yk_M_tookOlder lk_M_97 ⟨rfl, rfl⟩ ⟨Nat.le_of_ble_eq_true rfl, Nat.le_of_ble_eq_true rfl⟩ 0 rfl rfl rfl rfl (Nat.le_of_ble_eq_true rfl) ⟨Nat.zero_le _, Nat.zero_le _⟩ d_M_address_87 90 rfl rfl ?_
          refine j_if_ne hC 96 93 rfl d_M_address_90 (by decide) (fun c_90 => ?_) (fun c_90 => ?_)
          · refine j_aload_n hC 1 97 rfl d_M_address_96 rfl rfl ?_
            refine g_M_marks hC 100 rfl d_M_address_97 ?_
            refine j_aload_n hC 1 101 rfl d_M_address_100 rfl rfl ?_
            refine g_M_programs hC 104 rfl d_M_address_101 ?_
            refine j_iload_n hC 0 105 rfl d_M_address_104 rfl rfl ?_
            refine j_bipush (v := 127) hC 107 rfl d_M_address_105 (by decide) ?_
            refine j_iand hC 108 rfl d_M_address_107 ?_
            refine ld_M_programs hC (ix_in _) 109 rfl d_M_address_108 ?_
            refine j_iconst (v := 1) hC 110 rfl d_M_address_109 (by decide) ?_
            refine st_M_marks hC (hp _) (b := true) rfl 111 rfl d_M_address_110 ?_
            refine j_aload_n hC 1 112 rfl d_M_address_111 rfl rfl ?_
            refine j_iload_n hC 0 113 rfl d_M_address_112 rfl rfl ?_
            refine j_callVi hC jE_loc jT_good (As := [_]) c_M_undo yk_M_undo lk_M_100 ⟨rfl, rfl⟩ ⟨Nat.le_of_ble_eq_true rfl, Nat.le_of_ble_eq_true rfl⟩ 0 rfl rfl rfl rfl (Nat.le_of_ble_eq_true rfl) ⟨Nat.zero_le _, Nat.zero_le _⟩ d_M_address_113 116 rfl rfl ?_
            exact j_iret hC hr hlk d_M_address_116 (by rw [adR, if_pos c_59, hR, frL_hit (P := apM (sA (sS μ 0 0) 15 (ix op) at0) ν op) c_73 (by simp [apM, c_73, bI1 c_81, bI1 c_90]), if_neg (nm1 hi)] <;> rfl) (by rw [adR, if_pos c_59, hR, frL_hit (P := apM (sA (sS μ 0 0) 15 (ix op) at0) ν op) c_73 (by simp [apM, c_73, bI1 c_81, bI1 c_90]), if_neg (nm1 hi)] <;> rfl)
          · refine j_goto hC 117 d_M_address_93 (by decide) ?_
            refine j_iinc (lv' := [(3, _), (0, _), (1, _), (2, _)]) hC 0 120 rfl d_M_address_117 rfl (inc1 _) (by decide) rfl ?_
            refine j_goto hC 68 d_M_address_120 (by decide) ?_
            exact ih _ (nn1 hi c_73) (dist_lt c_73 hd) (by rw [hR, frL_in c_73]; simp [apM, c_73, bI1 c_81, bI0 c_90])
  have jn : ∀ x : Int32, x = adTh μ op at0 → kJ l dC dI p e s m args below meth c A 3 69 4 (some (.int ((adR (sA (sS μ 0 0) 15 (ix op) at0) ν op).1))) (wM am cI cZ (adR (sA (sS μ 0 0) 15 (ix op) at0) ν op).2.1 (adR (sA (sS μ 0 0) 15 (ix op) at0) ν op).2.2 ρ) (wM am cI cZ μ ν ρ) 27 [(0, .ref (am 0)), (1, .int op), (2, .int at0)] [.int x, .ref (am 0)] := by
    intro x hx
    obtain rfl : x = 0 := hx.trans ht
    refine p_M_thrown hC 30 rfl d_M_address_27 ?_
    refine j_aload_n hC 0 31 rfl d_M_address_30 rfl rfl ?_
    refine g_M_thrown hC 34 rfl d_M_address_31 ?_
    refine j_if_le hC 39 37 rfl d_M_address_34 (by decide) (fun c_34 => ?_) (fun c_34 => absurd c_34 (fun q => q (Int32.le_refl 0)))
    refine j_aload_n hC 0 40 rfl d_M_address_39 rfl rfl ?_
    refine g_M_places hC 43 rfl d_M_address_40 ?_
    refine j_iload_n hC 1 44 rfl d_M_address_43 rfl rfl ?_
    refine j_bipush (v := 127) hC 46 rfl d_M_address_44 (by decide) ?_
    refine j_iand hC 47 rfl d_M_address_46 ?_
    refine j_iload_n hC 2 48 rfl d_M_address_47 rfl rfl ?_
    refine st_M_places hC (ix_in _) 49 rfl d_M_address_48 ?_
    refine j_aload_n hC 0 50 rfl d_M_address_49 rfl rfl ?_
    refine g_M_kinds hC 53 rfl d_M_address_50 ?_
    refine j_iload_n hC 1 54 rfl d_M_address_53 rfl rfl ?_
    refine j_bipush (v := 127) hC 56 rfl d_M_address_54 (by decide) ?_
    refine j_iand hC 57 rfl d_M_address_56 ?_
    refine ld_M_kinds hC (ix_in _) 58 rfl d_M_address_57 ?_
    refine j_iconst (v := 1) hC 59 rfl d_M_address_58 (by decide) ?_
    refine j_icmp_eq hC 64 62 rfl d_M_address_59 (by decide) (fun c_59 => ?_) (fun c_59 => ?_)
    · refine j_iload_n hC 1 65 rfl d_M_address_64 rfl rfl ?_
      refine j_iconst (v := 1) hC 66 rfl d_M_address_65 (by decide) ?_
      refine j_iadd hC 67 rfl d_M_address_66 ?_
      refine j_istore_n (lv' := [(3, _), (0, _), (1, _), (2, _)]) hC 68 rfl d_M_address_67 rfl (by decide) rfl ?_
      exact loop c_59 _ _ (nn1 (Int32.not_lt.mp h1) h2) (Nat.lt_succ_self _) rfl
    · refine j_iconst (v := 0) hC 63 rfl d_M_address_62 (by decide) ?_
      exact j_iret hC hr hlk d_M_address_63 (by rw [adR, if_neg (c := (sA (sS μ 0 0) 15 (ix op) at0) 12 (ix op) = 1) c_59] <;> rfl) (by rw [adR, if_neg (c := (sA (sS μ 0 0) 15 (ix op) at0) 12 (ix op) = 1) c_59] <;> rfl)
  refine j_aload_n hC 0 1 rfl d_M_address_0 rfl rfl ?_
  refine j_aload_n hC 0 2 rfl d_M_address_1 rfl rfl ?_
  refine j_iload_n hC 1 3 rfl d_M_address_2 rfl rfl ?_
  refine j_callVi hC jE_loc jT_good (As := [_]) c_M_isOp yk_M_isOp lk_M_88 ⟨rfl, rfl⟩ ⟨Nat.le_of_ble_eq_true rfl, Nat.le_of_ble_eq_true rfl⟩ 0 rfl rfl rfl rfl (Nat.le_of_ble_eq_true rfl) ⟨Nat.zero_le _, Nat.zero_le _⟩ d_M_address_3 6 rfl rfl ?_
  refine j_if_ne hC 13 9 rfl d_M_address_6 (by decide) (fun c_6 => ?_) (fun c_6 => ?_)
  · refine j_aload_n hC 0 14 rfl d_M_address_13 rfl rfl ?_
    refine j_iload_n hC 1 15 rfl d_M_address_14 rfl rfl ?_
    refine j_iload_n hC 2 16 rfl d_M_address_15 rfl rfl ?_
    refine j_callVi hC jE_loc jT_good (As := [_, _]) c_M_canBe yk_M_canBe lk_M_91 ⟨rfl, rfl⟩ ⟨Nat.le_of_ble_eq_true rfl, Nat.le_of_ble_eq_true rfl⟩ 0 rfl rfl rfl rfl (Nat.le_of_ble_eq_true rfl) ⟨Nat.zero_le _, Nat.zero_le _⟩ d_M_address_16 19 rfl rfl ?_
    refine j_if_ne hC 26 22 rfl d_M_address_19 (by decide) (fun c_19 => ?_) (fun c_19 => ?_)
    · refine j_iconst (v := 0) hC 27 rfl d_M_address_26 (by decide) ?_
      exact jn _ (by simp [adTh, bI1 c_6, bI1 c_19])
    · refine j_iconst (v := 2) hC 23 rfl d_M_address_22 (by decide) ?_
      refine j_goto hC 27 d_M_address_23 (by decide) ?_
      exact jn _ (by simp [adTh, bI1 c_6, bI0 c_19])
  · refine j_iconst (v := 1) hC 10 rfl d_M_address_9 (by decide) ?_
    refine j_goto hC 27 d_M_address_10 (by decide) ?_
    exact jn _ (by simp [adTh, bI0 c_6])
end KC
end
section
section KC
variable {l : Launch} {dC : Nat → ClassId} {dI : Nat → Nat → Nat} {cI cZ cB cJ : ClassId} {ad : Nat → Nat} {σ : S2} {β : B2} {mk : Int64} {ρ : va_W} {am : Nat → Nat} {μ : S2} {ν : B2}
set_option maxHeartbeats 4000000 in
set_option maxRecDepth 100000 in
theorem c_M_number_thr {t : Int32} {op v : Int32} (ht : nuTh μ ν op = t) (h : ¬ t ≤ 0) : kM l dC dI cI cZ cB cJ y_M_number b_M_number 5 (some .int) 1 21 [.ref (am 0), .int op, .int v] (wM am cI cZ μ ν ρ) (some (.int (0))) (wM am cI cZ (sS μ 0 t) ν ρ) := by
  refine jM.of (lv := [(0, .ref (am 0)), (1, .int op), (2, .int v)]) (own := R_M) jE_loc (by decide) rfl rfl (Nat.le_of_ble_eq_true rfl) rfl ?_
  intro p e s m args below meth c A hC hr hlk
  have jn : ∀ x : Int32, x = nuTh μ ν op → kJ l dC dI p e s m args below meth c A 1 21 5 (some (.int (0))) (wM am cI cZ (sS μ 0 t) ν ρ) (wM am cI cZ μ ν ρ) 72 [(4, .int (bI (cnM μ ν op))), (3, .int (op &&& 127)), (0, .ref (am 0)), (1, .int op), (2, .int v)] [.int x, .ref (am 0)] := by
    intro x hx
    obtain rfl : x = t := hx.trans ht
    refine p_M_thrown hC 75 rfl d_M_number_72 ?_
    refine j_aload_n hC 2 76 rfl d_M_number_75 rfl rfl ?_
    refine g_M_thrown hC 79 rfl d_M_number_76 ?_
    refine j_if_le hC 84 82 rfl d_M_number_79 (by decide) (fun c_79 => absurd c_79 h) (fun c_79 => ?_)
    refine j_iconst (v := 0) hC 83 rfl d_M_number_82 (by decide) ?_
    exact j_iret hC hr hlk d_M_number_83 rfl rfl
  have jb : ∀ b : Bool, b = cnM μ ν op → kJ l dC dI p e s m args below meth c A 1 21 5 (some (.int (0))) (wM am cI cZ (sS μ 0 t) ν ρ) (wM am cI cZ μ ν ρ) 47 [(3, .int (op &&& 127)), (0, .ref (am 0)), (1, .int op), (2, .int v)] [.int (bI b)] := by
    intro b hb
    subst hb
    refine j_istore (lv' := [(4, _), (3, _), (0, _), (1, _), (2, _)]) hC 49 rfl d_M_number_47 (by decide) rfl ?_
    refine j_aload_n hC 2 50 rfl d_M_number_49 rfl rfl ?_
    refine j_aload_n hC 2 51 rfl d_M_number_50 rfl rfl ?_
    refine j_iload_n hC 3 52 rfl d_M_number_51 rfl rfl ?_
    refine j_callVi hC jE_loc jT_good (As := [_]) c_M_isOp yk_M_isOp lk_M_88 ⟨rfl, rfl⟩ ⟨Nat.le_of_ble_eq_true rfl, Nat.le_of_ble_eq_true rfl⟩ 0 rfl rfl rfl rfl (Nat.le_of_ble_eq_true rfl) ⟨Nat.zero_le _, Nat.zero_le _⟩ d_M_number_52 55 rfl rfl ?_
    refine j_if_ne hC 62 58 rfl d_M_number_55 (by decide) (fun c_55 => ?_) (fun c_55 => ?_)
    · refine j_iload hC 0 64 rfl d_M_number_62 rfl ?_
      refine j_if_ne hC 71 67 rfl d_M_number_64 (by decide) (fun c_64 => ?_) (fun c_64 => ?_)
      · refine j_iconst (v := 0) hC 72 rfl d_M_number_71 (by decide) ?_
        exact jn _ (by simp [nuTh, bI1 c_55, bI1 c_64])
      · refine j_iconst (v := 2) hC 68 rfl d_M_number_67 (by decide) ?_
        refine j_goto hC 72 d_M_number_68 (by decide) ?_
        exact jn _ (by simp [nuTh, bI1 c_55, bI0 c_64])
    · refine j_iconst (v := 1) hC 59 rfl d_M_number_58 (by decide) ?_
      refine j_goto hC 72 d_M_number_59 (by decide) ?_
      exact jn _ (by simp [nuTh, bI0 c_55])
  refine j_iload_n hC 1 1 rfl d_M_number_0 rfl rfl ?_
  refine j_bipush (v := 127) hC 3 rfl d_M_number_1 (by decide) ?_
  refine j_iand hC 4 rfl d_M_number_3 ?_
  refine j_istore_n (lv' := [(3, _), (0, _), (1, _), (2, _)]) hC 5 rfl d_M_number_4 rfl (by decide) rfl ?_
  refine j_aload_n hC 1 6 rfl d_M_number_5 rfl rfl ?_
  refine j_iload_n hC 2 7 rfl d_M_number_6 rfl rfl ?_
  refine j_callVi hC jE_loc jT_good (As := [_]) c_M_waits yk_M_waits lk_M_84 ⟨rfl, rfl⟩ ⟨Nat.le_of_ble_eq_true rfl, Nat.le_of_ble_eq_true rfl⟩ 0 rfl rfl rfl rfl (Nat.le_of_ble_eq_true rfl) ⟨Nat.zero_le _, Nat.zero_le _⟩ d_M_number_7 10 rfl rfl ?_
  refine j_if_eq hC 46 13 rfl d_M_number_10 (by decide) (fun c_10 => ?_) (fun c_10 => ?_)
  · refine j_iconst (v := (bI false)) hC 47 rfl d_M_number_46 rfl ?_
    exact jb _ (by simp [cnM, ix, bI0 c_10])
  · refine j_aload_n hC 1 14 rfl d_M_number_13 rfl rfl ?_
    refine g_M_kinds hC 17 rfl d_M_number_14 ?_
    refine j_iload_n hC 0 18 rfl d_M_number_17 rfl rfl ?_
    refine ld_M_kinds hC (ix_in _) 19 rfl d_M_number_18 ?_
    refine j_iconst (v := 1) hC 20 rfl d_M_number_19 (by decide) ?_
    refine j_icmp_eq hC 33 23 rfl d_M_number_20 (by decide) (fun c_20 => ?_) (fun c_20 => ?_)
    · refine j_aload_n hC 1 34 rfl d_M_number_33 rfl rfl ?_
      refine g_M_told hC 37 rfl d_M_number_34 ?_
      refine j_iload_n hC 0 38 rfl d_M_number_37 rfl rfl ?_
      refine ld_M_told hC (ix_in _) 39 rfl d_M_number_38 ?_
      refine j_if_ne hC 46 42 rfl d_M_number_39 (by decide) (fun c_39 => ?_) (fun c_39 => ?_)
      · refine j_iconst (v := (bI false)) hC 47 rfl d_M_number_46 rfl ?_
        exact jb _ (by simp [cnM, ix, bI1 c_10, c_20, bI1 c_39])
      · refine j_iconst (v := (bI true)) hC 43 rfl d_M_number_42 rfl ?_
        refine j_goto hC 47 d_M_number_43 (by decide) ?_
        exact jb _ (by simp [cnM, ix, bI1 c_10, c_20, bI0 c_39])
    · refine j_aload_n hC 1 24 rfl d_M_number_23 rfl rfl ?_
      refine g_M_kinds hC 27 rfl d_M_number_24 ?_
      refine j_iload_n hC 0 28 rfl d_M_number_27 rfl rfl ?_
      refine ld_M_kinds hC (ix_in _) 29 rfl d_M_number_28 ?_
      refine j_iconst (v := 3) hC 30 rfl d_M_number_29 (by decide) ?_
      refine j_icmp_ne hC 46 33 rfl d_M_number_30 (by decide) (fun c_30 => ?_) (fun c_30 => ?_)
      · refine j_iconst (v := (bI false)) hC 47 rfl d_M_number_46 rfl ?_
        exact jb _ (by simp [cnM, ix, bI1 c_10, c_20, c_30])
      · refine j_aload_n hC 1 34 rfl d_M_number_33 rfl rfl ?_
        refine g_M_told hC 37 rfl d_M_number_34 ?_
        refine j_iload_n hC 0 38 rfl d_M_number_37 rfl rfl ?_
        refine ld_M_told hC (ix_in _) 39 rfl d_M_number_38 ?_
        refine j_if_ne hC 46 42 rfl d_M_number_39 (by decide) (fun c_39 => ?_) (fun c_39 => ?_)
        · refine j_iconst (v := (bI false)) hC 47 rfl d_M_number_46 rfl ?_
          exact jb _ (by simp [cnM, ix, bI1 c_10, c_20, c_30, bI1 c_39])
        · refine j_iconst (v := (bI true)) hC 43 rfl d_M_number_42 rfl ?_
          refine j_goto hC 47 d_M_number_43 (by decide) ?_
          exact jb _ (by simp [cnM, ix, bI1 c_10, c_20, c_30, bI0 c_39])
set_option maxHeartbeats 4000000 in
set_option maxRecDepth 100000 in
theorem c_M_number_ok {op v : Int32} (ht : nuTh μ ν op = 0)  : kM l dC dI cI cZ cB cJ y_M_number b_M_number 5 (some .int) 1 21 [.ref (am 0), .int op, .int v] (wM am cI cZ μ ν ρ) (some (.int (μ 13 (ix op)))) (wM am cI cZ (sA (sS μ 0 0) 16 (ix op) v) (bA ν 1 (ix op) true) ρ) := by
  refine jM.of (lv := [(0, .ref (am 0)), (1, .int op), (2, .int v)]) (own := R_M) jE_loc (by decide) rfl rfl (Nat.le_of_ble_eq_true rfl) rfl ?_
  intro p e s m args below meth c A hC hr hlk
  have jn : ∀ x : Int32, x = nuTh μ ν op → kJ l dC dI p e s m args below meth c A 1 21 5 (some (.int (μ 13 (ix op)))) (wM am cI cZ (sA (sS μ 0 0) 16 (ix op) v) (bA ν 1 (ix op) true) ρ) (wM am cI cZ μ ν ρ) 72 [(4, .int (bI (cnM μ ν op))), (3, .int (op &&& 127)), (0, .ref (am 0)), (1, .int op), (2, .int v)] [.int x, .ref (am 0)] := by
    intro x hx
    obtain rfl : x = 0 := hx.trans ht
    refine p_M_thrown hC 75 rfl d_M_number_72 ?_
    refine j_aload_n hC 2 76 rfl d_M_number_75 rfl rfl ?_
    refine g_M_thrown hC 79 rfl d_M_number_76 ?_
    refine j_if_le hC 84 82 rfl d_M_number_79 (by decide) (fun c_79 => ?_) (fun c_79 => absurd c_79 (fun q => q (Int32.le_refl 0)))
    refine j_aload_n hC 2 85 rfl d_M_number_84 rfl rfl ?_
    refine g_M_values hC 88 rfl d_M_number_85 ?_
    refine j_iload_n hC 1 89 rfl d_M_number_88 rfl rfl ?_
    refine j_iload_n hC 4 90 rfl d_M_number_89 rfl rfl ?_
    refine st_M_values hC (ix_in _) 91 rfl d_M_number_90 ?_
    refine j_aload_n hC 2 92 rfl d_M_number_91 rfl rfl ?_
    refine g_M_told hC 95 rfl d_M_number_92 ?_
    refine j_iload_n hC 1 96 rfl d_M_number_95 rfl rfl ?_
    refine j_iconst (v := 1) hC 97 rfl d_M_number_96 (by decide) ?_
    refine st_M_told hC (ix_in _) (b := true) rfl 98 rfl d_M_number_97 ?_
    refine j_aload_n hC 2 99 rfl d_M_number_98 rfl rfl ?_
    refine g_M_sizes hC 102 rfl d_M_number_99 ?_
    refine j_iload_n hC 1 103 rfl d_M_number_102 rfl rfl ?_
    refine ld_M_sizes hC (ix_in _) 104 rfl d_M_number_103 ?_
    exact j_iret hC hr hlk d_M_number_104 rfl rfl
  have jb : ∀ b : Bool, b = cnM μ ν op → kJ l dC dI p e s m args below meth c A 1 21 5 (some (.int (μ 13 (ix op)))) (wM am cI cZ (sA (sS μ 0 0) 16 (ix op) v) (bA ν 1 (ix op) true) ρ) (wM am cI cZ μ ν ρ) 47 [(3, .int (op &&& 127)), (0, .ref (am 0)), (1, .int op), (2, .int v)] [.int (bI b)] := by
    intro b hb
    subst hb
    refine j_istore (lv' := [(4, _), (3, _), (0, _), (1, _), (2, _)]) hC 49 rfl d_M_number_47 (by decide) rfl ?_
    refine j_aload_n hC 2 50 rfl d_M_number_49 rfl rfl ?_
    refine j_aload_n hC 2 51 rfl d_M_number_50 rfl rfl ?_
    refine j_iload_n hC 3 52 rfl d_M_number_51 rfl rfl ?_
    refine j_callVi hC jE_loc jT_good (As := [_]) c_M_isOp yk_M_isOp lk_M_88 ⟨rfl, rfl⟩ ⟨Nat.le_of_ble_eq_true rfl, Nat.le_of_ble_eq_true rfl⟩ 0 rfl rfl rfl rfl (Nat.le_of_ble_eq_true rfl) ⟨Nat.zero_le _, Nat.zero_le _⟩ d_M_number_52 55 rfl rfl ?_
    refine j_if_ne hC 62 58 rfl d_M_number_55 (by decide) (fun c_55 => ?_) (fun c_55 => ?_)
    · refine j_iload hC 0 64 rfl d_M_number_62 rfl ?_
      refine j_if_ne hC 71 67 rfl d_M_number_64 (by decide) (fun c_64 => ?_) (fun c_64 => ?_)
      · refine j_iconst (v := 0) hC 72 rfl d_M_number_71 (by decide) ?_
        exact jn _ (by simp [nuTh, bI1 c_55, bI1 c_64])
      · refine j_iconst (v := 2) hC 68 rfl d_M_number_67 (by decide) ?_
        refine j_goto hC 72 d_M_number_68 (by decide) ?_
        exact jn _ (by simp [nuTh, bI1 c_55, bI0 c_64])
    · refine j_iconst (v := 1) hC 59 rfl d_M_number_58 (by decide) ?_
      refine j_goto hC 72 d_M_number_59 (by decide) ?_
      exact jn _ (by simp [nuTh, bI0 c_55])
  refine j_iload_n hC 1 1 rfl d_M_number_0 rfl rfl ?_
  refine j_bipush (v := 127) hC 3 rfl d_M_number_1 (by decide) ?_
  refine j_iand hC 4 rfl d_M_number_3 ?_
  refine j_istore_n (lv' := [(3, _), (0, _), (1, _), (2, _)]) hC 5 rfl d_M_number_4 rfl (by decide) rfl ?_
  refine j_aload_n hC 1 6 rfl d_M_number_5 rfl rfl ?_
  refine j_iload_n hC 2 7 rfl d_M_number_6 rfl rfl ?_
  refine j_callVi hC jE_loc jT_good (As := [_]) c_M_waits yk_M_waits lk_M_84 ⟨rfl, rfl⟩ ⟨Nat.le_of_ble_eq_true rfl, Nat.le_of_ble_eq_true rfl⟩ 0 rfl rfl rfl rfl (Nat.le_of_ble_eq_true rfl) ⟨Nat.zero_le _, Nat.zero_le _⟩ d_M_number_7 10 rfl rfl ?_
  refine j_if_eq hC 46 13 rfl d_M_number_10 (by decide) (fun c_10 => ?_) (fun c_10 => ?_)
  · refine j_iconst (v := (bI false)) hC 47 rfl d_M_number_46 rfl ?_
    exact jb _ (by simp [cnM, ix, bI0 c_10])
  · refine j_aload_n hC 1 14 rfl d_M_number_13 rfl rfl ?_
    refine g_M_kinds hC 17 rfl d_M_number_14 ?_
    refine j_iload_n hC 0 18 rfl d_M_number_17 rfl rfl ?_
    refine ld_M_kinds hC (ix_in _) 19 rfl d_M_number_18 ?_
    refine j_iconst (v := 1) hC 20 rfl d_M_number_19 (by decide) ?_
    refine j_icmp_eq hC 33 23 rfl d_M_number_20 (by decide) (fun c_20 => ?_) (fun c_20 => ?_)
    · refine j_aload_n hC 1 34 rfl d_M_number_33 rfl rfl ?_
      refine g_M_told hC 37 rfl d_M_number_34 ?_
      refine j_iload_n hC 0 38 rfl d_M_number_37 rfl rfl ?_
      refine ld_M_told hC (ix_in _) 39 rfl d_M_number_38 ?_
      refine j_if_ne hC 46 42 rfl d_M_number_39 (by decide) (fun c_39 => ?_) (fun c_39 => ?_)
      · refine j_iconst (v := (bI false)) hC 47 rfl d_M_number_46 rfl ?_
        exact jb _ (by simp [cnM, ix, bI1 c_10, c_20, bI1 c_39])
      · refine j_iconst (v := (bI true)) hC 43 rfl d_M_number_42 rfl ?_
        refine j_goto hC 47 d_M_number_43 (by decide) ?_
        exact jb _ (by simp [cnM, ix, bI1 c_10, c_20, bI0 c_39])
    · refine j_aload_n hC 1 24 rfl d_M_number_23 rfl rfl ?_
      refine g_M_kinds hC 27 rfl d_M_number_24 ?_
      refine j_iload_n hC 0 28 rfl d_M_number_27 rfl rfl ?_
      refine ld_M_kinds hC (ix_in _) 29 rfl d_M_number_28 ?_
      refine j_iconst (v := 3) hC 30 rfl d_M_number_29 (by decide) ?_
      refine j_icmp_ne hC 46 33 rfl d_M_number_30 (by decide) (fun c_30 => ?_) (fun c_30 => ?_)
      · refine j_iconst (v := (bI false)) hC 47 rfl d_M_number_46 rfl ?_
        exact jb _ (by simp [cnM, ix, bI1 c_10, c_20, c_30])
      · refine j_aload_n hC 1 34 rfl d_M_number_33 rfl rfl ?_
        refine g_M_told hC 37 rfl d_M_number_34 ?_
        refine j_iload_n hC 0 38 rfl d_M_number_37 rfl rfl ?_
        refine ld_M_told hC (ix_in _) 39 rfl d_M_number_38 ?_
        refine j_if_ne hC 46 42 rfl d_M_number_39 (by decide) (fun c_39 => ?_) (fun c_39 => ?_)
        · refine j_iconst (v := (bI false)) hC 47 rfl d_M_number_46 rfl ?_
          exact jb _ (by simp [cnM, ix, bI1 c_10, c_20, c_30, bI1 c_39])
        · refine j_iconst (v := (bI true)) hC 43 rfl d_M_number_42 rfl ?_
          refine j_goto hC 47 d_M_number_43 (by decide) ?_
          exact jb _ (by simp [cnM, ix, bI1 c_10, c_20, c_30, bI0 c_39])
end KC
end
section
section KC
variable {l : Launch} {dC : Nat → ClassId} {dI : Nat → Nat → Nat} {cI cZ cB cJ : ClassId} {ad : Nat → Nat} {σ : S2} {β : B2} {mk : Int64} {ρ : va_W} {am : Nat → Nat} {μ : S2} {ν : B2}
set_option maxHeartbeats 4000000 in
set_option maxRecDepth 100000 in
theorem c_M_isHeld {op : Int32}  : kM l dC dI cI cZ cB cJ y_M_isHeld b_M_isHeld 3 (some .boolean) 0 0 [.ref (am 0), .int op] (wM am cI cZ μ ν ρ) (some (.int (bI (hdM μ op)))) (wM am cI cZ μ ν ρ) := by
  refine jM.of (lv := [(0, .ref (am 0)), (1, .int op)]) (own := R_M) jE_loc (by decide) rfl rfl (Nat.le_of_ble_eq_true rfl) rfl ?_
  intro p e s m args below meth c A hC hr hlk
  have loop : ∀ (n : Nat) (i : Int32), dist i op < n → exL (hbPM μ) (μ 2 0) op = exL (hbPM μ) i op → kJ l dC dI p e s m args below meth c A 0 0 3 (some (.int (bI (hdM μ op)))) (wM am cI cZ μ ν ρ) (wM am cI cZ μ ν ρ) 5 [(2, .int i), (0, .ref (am 0)), (1, .int op)] [] := by
    intro n
    induction n with
    | zero => intro i hd hR; exact absurd hd (Nat.not_lt_zero _)
    | succ n ih =>
      intro i hd hR
      refine j_iload_n hC 0 6 rfl d_M_isHeld_5 rfl rfl ?_
      refine j_iload_n hC 2 7 rfl d_M_isHeld_6 rfl rfl ?_
      refine j_icmp_ge hC 44 10 rfl d_M_isHeld_7 (by decide) (fun c_7 => ?_) (fun c_7 => ?_)
      · refine j_aload_n hC 1 45 rfl d_M_isHeld_44 rfl rfl ?_
        refine g_M_places hC 48 rfl d_M_isHeld_45 ?_
        refine j_iload_n hC 2 49 rfl d_M_isHeld_48 rfl rfl ?_
        refine j_bipush (v := 127) hC 51 rfl d_M_isHeld_49 (by decide) ?_
        refine j_iand hC 52 rfl d_M_isHeld_51 ?_
        refine ld_M_places hC (ix_in _) 53 rfl d_M_isHeld_52 ?_
        refine j_sipush (v := 3072) hC 56 rfl d_M_isHeld_53 (by decide) ?_
        refine j_icmp_lt hC 78 59 rfl d_M_isHeld_56 (by decide) (fun c_56 => ?_) (fun c_56 => ?_)
        · refine j_iconst (v := 0) hC 79 rfl d_M_isHeld_78 (by decide) ?_
          exact j_zret hC hr hlk d_M_isHeld_79 (by rw [hdM, hR, exL_out c_7]; first | (simp [bI, ix, c_7, c_56]; done) | (rw [decide_eq_false (p := μ 15 (ix op) < 3072) c_56]; simp [bI, c_7, c_56])) rfl
        · refine j_iload_n hC 2 60 rfl d_M_isHeld_59 rfl rfl ?_
          refine j_aload_n hC 1 61 rfl d_M_isHeld_60 rfl rfl ?_
          refine g_M_oldest hC 64 rfl d_M_isHeld_61 ?_
          refine j_icmp_ne hC 74 67 rfl d_M_isHeld_64 (by decide) (fun c_64 => ?_) (fun c_64 => ?_)
          · refine j_iconst (v := 1) hC 75 rfl d_M_isHeld_74 (by decide) ?_
            refine j_goto hC 79 d_M_isHeld_75 (by decide) ?_
            exact j_zret hC hr hlk d_M_isHeld_79 (by rw [hdM, hR, exL_out c_7]; first | (simp [bI, ix, c_7, c_56, c_64]; done) | (rw [decide_eq_false (p := μ 15 (ix op) < 3072) c_56]; simp [bI, c_7, c_56, c_64])) rfl
          · refine j_aload_n hC 1 68 rfl d_M_isHeld_67 rfl rfl ?_
            refine g_M_buffered hC 71 rfl d_M_isHeld_68 ?_
            refine j_if_le hC 78 74 rfl d_M_isHeld_71 (by decide) (fun c_71 => ?_) (fun c_71 => ?_)
            · refine j_iconst (v := 0) hC 79 rfl d_M_isHeld_78 (by decide) ?_
              exact j_zret hC hr hlk d_M_isHeld_79 (by rw [hdM, hR, exL_out c_7]; first | (simp [bI, ix, c_7, c_56, c_64, c_71]; done) | (rw [decide_eq_false (p := μ 15 (ix op) < 3072) c_56]; simp [bI, c_7, c_56, c_64, c_71])) rfl
            · refine j_iconst (v := 1) hC 75 rfl d_M_isHeld_74 (by decide) ?_
              refine j_goto hC 79 d_M_isHeld_75 (by decide) ?_
              exact j_zret hC hr hlk d_M_isHeld_79 (by rw [hdM, hR, exL_out c_7]; first | (simp [bI, ix, c_7, c_56, c_64, c_71]; done) | (rw [decide_eq_false (p := μ 15 (ix op) < 3072) c_56]; simp [bI, c_7, c_56, c_64, c_71])) rfl
      · refine j_aload_n hC 1 11 rfl d_M_isHeld_10 rfl rfl ?_
        refine g_M_kinds hC 14 rfl d_M_isHeld_11 ?_
        refine j_iload_n hC 0 15 rfl d_M_isHeld_14 rfl rfl ?_
        refine j_bipush (v := 127) hC 17 rfl d_M_isHeld_15 (by decide) ?_
        refine j_iand hC 18 rfl d_M_isHeld_17 ?_
        refine ld_M_kinds hC (ix_in _) 19 rfl d_M_isHeld_18 ?_
        refine j_iconst (v := 2) hC 20 rfl d_M_isHeld_19 (by decide) ?_
        refine j_icmp_eq hC 36 23 rfl d_M_isHeld_20 (by decide) (fun c_20 => ?_) (fun c_20 => ?_)
        · refine j_iconst (v := 1) hC 37 rfl d_M_isHeld_36 (by decide) ?_
          exact j_zret hC hr hlk d_M_isHeld_37 (by rw [hdM, hR, exL_in c_7]; simp [bI, hbPM, ix, c_7, c_20]) rfl
        · refine j_aload_n hC 1 24 rfl d_M_isHeld_23 rfl rfl ?_
          refine g_M_kinds hC 27 rfl d_M_isHeld_24 ?_
          refine j_iload_n hC 0 28 rfl d_M_isHeld_27 rfl rfl ?_
          refine j_bipush (v := 127) hC 30 rfl d_M_isHeld_28 (by decide) ?_
          refine j_iand hC 31 rfl d_M_isHeld_30 ?_
          refine ld_M_kinds hC (ix_in _) 32 rfl d_M_isHeld_31 ?_
          refine j_iconst (v := 3) hC 33 rfl d_M_isHeld_32 (by decide) ?_
          refine j_icmp_ne hC 38 36 rfl d_M_isHeld_33 (by decide) (fun c_33 => ?_) (fun c_33 => ?_)
          · refine j_iinc (lv' := [(2, _), (0, _), (1, _)]) hC 0 41 rfl d_M_isHeld_38 rfl (inc1 _) (by decide) rfl ?_
            refine j_goto hC 5 d_M_isHeld_41 (by decide) ?_
            exact ih _ (dist_lt c_7 hd) (by rw [hR, exL_in c_7]; simp [hbPM, ix, c_7, c_20, c_33])
          · refine j_iconst (v := 1) hC 37 rfl d_M_isHeld_36 (by decide) ?_
            exact j_zret hC hr hlk d_M_isHeld_37 (by rw [hdM, hR, exL_in c_7]; simp [bI, hbPM, ix, c_7, c_20, c_33]) rfl
  refine j_aload_n hC 0 1 rfl d_M_isHeld_0 rfl rfl ?_
  refine g_M_oldest hC 4 rfl d_M_isHeld_1 ?_
  refine j_istore_n (lv' := [(2, _), (0, _), (1, _)]) hC 5 rfl d_M_isHeld_4 rfl (by decide) rfl ?_
  exact loop _ _ (Nat.lt_succ_self _) rfl
set_option maxHeartbeats 4000000 in
set_option maxRecDepth 100000 in
theorem c_M_hasUnknown {op : Int32}  : kM l dC dI cI cZ cB cJ y_M_hasUnknown b_M_hasUnknown 4 (some .boolean) 0 0 [.ref (am 0), .int op] (wM am cI cZ μ ν ρ) (some (.int (bI (exL (unPM μ) (μ 2 0) op)))) (wM am cI cZ μ ν ρ) := by
  refine jM.of (lv := [(0, .ref (am 0)), (1, .int op)]) (own := R_M) jE_loc (by decide) rfl rfl (Nat.le_of_ble_eq_true rfl) rfl ?_
  intro p e s m args below meth c A hC hr hlk
  have loop : ∀ (n : Nat) (i : Int32) (x : Bool), dist i op < n → exL (unPM μ) (μ 2 0) op = (x || exL (unPM μ) i op) → kJ l dC dI p e s m args below meth c A 0 0 4 (some (.int (bI (exL (unPM μ) (μ 2 0) op)))) (wM am cI cZ μ ν ρ) (wM am cI cZ μ ν ρ) 7 [(3, .int i), (2, .int (bI x)), (0, .ref (am 0)), (1, .int op)] [] := by
    intro n
    induction n with
    | zero => intro i x hd hR; exact absurd hd (Nat.not_lt_zero _)
    | succ n ih =>
      intro i x hd hR
      refine j_iload_n hC 0 8 rfl d_M_hasUnknown_7 rfl rfl ?_
      refine j_iload_n hC 3 9 rfl d_M_hasUnknown_8 rfl rfl ?_
      refine j_icmp_ge hC 54 12 rfl d_M_hasUnknown_9 (by decide) (fun c_9 => ?_) (fun c_9 => ?_)
      · refine j_iload_n hC 1 55 rfl d_M_hasUnknown_54 rfl rfl ?_
        exact j_zret hC hr hlk d_M_hasUnknown_55 (by rw [hR, exL_out c_9]; simp) rfl
      · refine j_iload_n hC 1 13 rfl d_M_hasUnknown_12 rfl rfl ?_
        refine j_if_ne hC 42 16 rfl d_M_hasUnknown_13 (by decide) (fun c_13 => ?_) (fun c_13 => ?_)
        · refine j_iconst (v := (bI true)) hC 43 rfl d_M_hasUnknown_42 rfl ?_
          refine j_goto hC 47 d_M_hasUnknown_43 (by decide) ?_
          refine j_istore_n (lv' := [(2, _), (3, _), (0, _), (1, _)]) hC 48 rfl d_M_hasUnknown_47 rfl (by decide) rfl ?_
          refine j_iinc (lv' := [(3, _), (2, _), (0, _), (1, _)]) hC 1 51 rfl d_M_hasUnknown_48 rfl (inc1 _) (by decide) rfl ?_
          refine j_goto hC 7 d_M_hasUnknown_51 (by decide) ?_
          exact ih _ _ (dist_lt c_9 hd) (by rw [hR, exL_in c_9]; simp [unPM, ix, c_9, bI1 c_13])
        · refine j_aload_n hC 2 17 rfl d_M_hasUnknown_16 rfl rfl ?_
          refine g_M_kinds hC 20 rfl d_M_hasUnknown_17 ?_
          refine j_iload_n hC 0 21 rfl d_M_hasUnknown_20 rfl rfl ?_
          refine j_bipush (v := 127) hC 23 rfl d_M_hasUnknown_21 (by decide) ?_
          refine j_iand hC 24 rfl d_M_hasUnknown_23 ?_
          refine ld_M_kinds hC (ix_in _) 25 rfl d_M_hasUnknown_24 ?_
          refine j_iconst (v := 1) hC 26 rfl d_M_hasUnknown_25 (by decide) ?_
          refine j_icmp_ne hC 46 29 rfl d_M_hasUnknown_26 (by decide) (fun c_26 => ?_) (fun c_26 => ?_)
          · refine j_iconst (v := (bI false)) hC 47 rfl d_M_hasUnknown_46 rfl ?_
            refine j_istore_n (lv' := [(2, _), (3, _), (0, _), (1, _)]) hC 48 rfl d_M_hasUnknown_47 rfl (by decide) rfl ?_
            refine j_iinc (lv' := [(3, _), (2, _), (0, _), (1, _)]) hC 1 51 rfl d_M_hasUnknown_48 rfl (inc1 _) (by decide) rfl ?_
            refine j_goto hC 7 d_M_hasUnknown_51 (by decide) ?_
            exact ih _ _ (dist_lt c_9 hd) (by rw [hR, exL_in c_9]; simp [unPM, ix, c_9, bI0 c_13, c_26])
          · refine j_aload_n hC 2 30 rfl d_M_hasUnknown_29 rfl rfl ?_
            refine g_M_places hC 33 rfl d_M_hasUnknown_30 ?_
            refine j_iload_n hC 0 34 rfl d_M_hasUnknown_33 rfl rfl ?_
            refine j_bipush (v := 127) hC 36 rfl d_M_hasUnknown_34 (by decide) ?_
            refine j_iand hC 37 rfl d_M_hasUnknown_36 ?_
            refine ld_M_places hC (ix_in _) 38 rfl d_M_hasUnknown_37 ?_
            refine j_iconst (v := (-1)) hC 39 rfl d_M_hasUnknown_38 (by decide) ?_
            refine j_icmp_ne hC 46 42 rfl d_M_hasUnknown_39 (by decide) (fun c_39 => ?_) (fun c_39 => ?_)
            · refine j_iconst (v := (bI false)) hC 47 rfl d_M_hasUnknown_46 rfl ?_
              refine j_istore_n (lv' := [(2, _), (3, _), (0, _), (1, _)]) hC 48 rfl d_M_hasUnknown_47 rfl (by decide) rfl ?_
              refine j_iinc (lv' := [(3, _), (2, _), (0, _), (1, _)]) hC 1 51 rfl d_M_hasUnknown_48 rfl (inc1 _) (by decide) rfl ?_
              refine j_goto hC 7 d_M_hasUnknown_51 (by decide) ?_
              exact ih _ _ (dist_lt c_9 hd) (by rw [hR, exL_in c_9]; simp [unPM, ix, c_9, bI0 c_13, c_26, c_39])
            · refine j_iconst (v := (bI true)) hC 43 rfl d_M_hasUnknown_42 rfl ?_
              refine j_goto hC 47 d_M_hasUnknown_43 (by decide) ?_
              refine j_istore_n (lv' := [(2, _), (3, _), (0, _), (1, _)]) hC 48 rfl d_M_hasUnknown_47 rfl (by decide) rfl ?_
              refine j_iinc (lv' := [(3, _), (2, _), (0, _), (1, _)]) hC 1 51 rfl d_M_hasUnknown_48 rfl (inc1 _) (by decide) rfl ?_
              refine j_goto hC 7 d_M_hasUnknown_51 (by decide) ?_
              exact ih _ _ (dist_lt c_9 hd) (by rw [hR, exL_in c_9]; simp [unPM, ix, c_9, bI0 c_13, c_26, c_39])
  refine j_iconst (v := (bI false)) hC 1 rfl d_M_hasUnknown_0 rfl ?_
  refine j_istore_n (lv' := [(2, _), (0, _), (1, _)]) hC 2 rfl d_M_hasUnknown_1 rfl (by decide) rfl ?_
  refine j_aload_n hC 1 3 rfl d_M_hasUnknown_2 rfl rfl ?_
  refine g_M_oldest hC 6 rfl d_M_hasUnknown_3 ?_
  refine j_istore_n (lv' := [(3, _), (2, _), (0, _), (1, _)]) hC 7 rfl d_M_hasUnknown_6 rfl (by decide) rfl ?_
  exact loop _ _ false (Nat.lt_succ_self _) (by simp)
set_option maxHeartbeats 4000000 in
set_option maxRecDepth 100000 in
theorem c_M_taken {op k : Int32} (h0 : 0 ≤ μ 2 0) (hb : μ 7 0 ≤ 4) (hz : ∀ i, μ 13 i ≤ 4) (hk : 0 ≤ k) (hk2 : ¬ μ 13 (ix op) ≤ k) (ha : vp_in (μ 15 (ix op) + k) 4096) : kM l dC dI cI cZ cB cJ y_M_taken b_M_taken 8 (some .int) 3 67 [.ref (am 0), .int op, .int k] (wM am cI cZ μ ν ρ) (some (.int (tkV μ op k))) (wM am cI cZ (tkT μ op k) ν ρ) := by
  refine jM.of (lv := [(0, .ref (am 0)), (1, .int op), (2, .int k)]) (own := R_M) jE_loc (by decide) rfl rfl (Nat.le_of_ble_eq_true rfl) rfl ?_
  intro p e s m args below meth c A hC hr hlk
  refine j_iload_n hC 1 1 rfl d_M_taken_0 rfl rfl ?_
  refine j_bipush (v := 127) hC 3 rfl d_M_taken_1 (by decide) ?_
  refine j_iand hC 4 rfl d_M_taken_3 ?_
  refine j_istore_n (lv' := [(3, _), (0, _), (1, _), (2, _)]) hC 5 rfl d_M_taken_4 rfl (by decide) rfl ?_
  refine j_aload_n hC 1 6 rfl d_M_taken_5 rfl rfl ?_
  refine g_M_places hC 9 rfl d_M_taken_6 ?_
  refine j_iload_n hC 0 10 rfl d_M_taken_9 rfl rfl ?_
  refine ld_M_places hC (ix_in _) 11 rfl d_M_taken_10 ?_
  refine j_iload_n hC 3 12 rfl d_M_taken_11 rfl rfl ?_
  refine j_iadd hC 13 rfl d_M_taken_12 ?_
  refine j_istore (lv' := [(4, _), (3, _), (0, _), (1, _), (2, _)]) hC 15 rfl d_M_taken_13 (by decide) rfl ?_
  refine j_aload_n hC 2 16 rfl d_M_taken_15 rfl rfl ?_
  refine j_iload_n hC 3 17 rfl d_M_taken_16 rfl rfl ?_
  refine j_iload hC 0 19 rfl d_M_taken_17 rfl ?_
  refine j_callVi hC jE_loc jT_good (As := [_, _]) (c_M_storeOf h0) yk_M_storeOf lk_M_116 ⟨rfl, rfl⟩ ⟨Nat.le_of_ble_eq_true rfl, Nat.le_of_ble_eq_true rfl⟩ 0 rfl rfl rfl rfl (Nat.le_of_ble_eq_true rfl) ⟨Nat.zero_le _, Nat.zero_le _⟩ d_M_taken_19 22 rfl rfl ?_
  refine j_istore (lv' := [(5, _), (4, _), (3, _), (0, _), (1, _), (2, _)]) hC 24 rfl d_M_taken_22 (by decide) rfl ?_
  refine j_aload_n hC 3 25 rfl d_M_taken_24 rfl rfl ?_
  refine j_iload hC 1 27 rfl d_M_taken_25 rfl ?_
  refine j_callVi hC jE_loc jT_good (As := [_]) (c_M_bufferOf hb) yk_M_bufferOf lk_M_123 ⟨rfl, rfl⟩ ⟨Nat.le_of_ble_eq_true rfl, Nat.le_of_ble_eq_true rfl⟩ 0 rfl rfl rfl rfl (Nat.le_of_ble_eq_true rfl) ⟨Nat.zero_le _, Nat.zero_le _⟩ d_M_taken_27 30 rfl rfl ?_
  refine j_istore (lv' := [(6, _), (5, _), (4, _), (3, _), (0, _), (1, _), (2, _)]) hC 32 rfl d_M_taken_30 (by decide) rfl ?_
  refine j_aload_n hC 4 33 rfl d_M_taken_32 rfl rfl ?_
  refine g_M_from hC 36 rfl d_M_taken_33 ?_
  refine j_iconst (v := 4) hC 37 rfl d_M_taken_36 (by decide) ?_
  refine j_iload_n hC 3 38 rfl d_M_taken_37 rfl rfl ?_
  refine j_imul hC 39 rfl d_M_taken_38 ?_
  refine j_iload_n hC 6 40 rfl d_M_taken_39 rfl rfl ?_
  refine j_iadd hC 41 rfl d_M_taken_40 ?_
  refine j_iload hC 1 43 rfl d_M_taken_41 rfl ?_
  refine j_if_lt hC 51 46 rfl d_M_taken_43 (by decide) (fun c_43 => ?_) (fun c_43 => ?_)
  · refine j_iload hC 0 53 rfl d_M_taken_51 rfl ?_
    refine j_if_lt hC 61 56 rfl d_M_taken_53 (by decide) (fun c_53 => ?_) (fun c_53 => ?_)
    · refine j_iconst (v := (-1)) hC 62 rfl d_M_taken_61 (by decide) ?_
      refine st_M_from hC (fr_in hk hk2 (hz _)) 63 rfl d_M_taken_62 ?_
      refine j_aload_n hC 4 64 rfl d_M_taken_63 rfl rfl ?_
      refine j_dup hC 65 rfl d_M_taken_64 rfl ?_
      refine g_M_ofStores hC 68 rfl d_M_taken_65 ?_
      refine j_iload hC 1 70 rfl d_M_taken_68 rfl ?_
      refine j_if_lt hC 77 73 rfl d_M_taken_70 (by decide) (fun c_70 => ?_) (fun c_70 => absurd c_70 (fun q => q c_43))
      refine j_iconst (v := 0) hC 78 rfl d_M_taken_77 (by decide) ?_
      refine j_iadd hC 79 rfl d_M_taken_78 ?_
      refine p_M_ofStores hC 82 rfl d_M_taken_79 ?_
      refine j_aload_n hC 4 83 rfl d_M_taken_82 rfl rfl ?_
      refine j_dup hC 84 rfl d_M_taken_83 rfl ?_
      refine g_M_ofOthers hC 87 rfl d_M_taken_84 ?_
      refine j_iload hC 1 89 rfl d_M_taken_87 rfl ?_
      refine j_if_lt hC 96 92 rfl d_M_taken_89 (by decide) (fun c_89 => ?_) (fun c_89 => absurd c_89 (fun q => q c_43))
      refine j_iconst (v := 1) hC 97 rfl d_M_taken_96 (by decide) ?_
      refine j_iadd hC 98 rfl d_M_taken_97 ?_
      refine p_M_ofOthers hC 101 rfl d_M_taken_98 ?_
      refine j_iload hC 1 103 rfl d_M_taken_101 rfl ?_
      refine j_bipush (v := 127) hC 105 rfl d_M_taken_103 (by decide) ?_
      refine j_iand hC 106 rfl d_M_taken_105 ?_
      refine j_istore (lv' := [(7, _), (6, _), (5, _), (4, _), (3, _), (0, _), (1, _), (2, _)]) hC 108 rfl d_M_taken_106 (by decide) rfl ?_
      refine j_iload hC 2 110 rfl d_M_taken_108 rfl ?_
      refine j_if_lt hC 141 113 rfl d_M_taken_110 (by decide) (fun c_110 => ?_) (fun c_110 => absurd c_110 (fun q => q c_43))
      refine j_iload hC 1 143 rfl d_M_taken_141 rfl ?_
      refine j_if_lt hC 176 146 rfl d_M_taken_143 (by decide) (fun c_143 => ?_) (fun c_143 => ?_)
      · refine j_aload_n hC 5 177 rfl d_M_taken_176 rfl rfl ?_
        refine g_M_bytes hC 180 rfl d_M_taken_177 ?_
        refine j_iload hC 3 182 rfl d_M_taken_180 rfl ?_
        refine ld_M_bytes hC ha 183 rfl d_M_taken_182 ?_
        exact j_iret hC hr hlk d_M_taken_183 (by rw [tkV, if_pos (c := soM μ op (μ 15 (ix op) + k) < 0) c_43]; first | (rw [if_pos (c := buL μ (μ 15 (ix op) + k) 0 (-1) < 0) c_143] <;> rfl) | (rw [if_neg (c := buL μ (μ 15 (ix op) + k) 0 (-1) < 0) c_143] <;> rfl)) (by rw [tkT, if_pos (c := soM μ op (μ 15 (ix op) + k) < 0) c_43]; first | (rw [if_pos (c := buL μ (μ 15 (ix op) + k) 0 (-1) < 0) c_53] <;> rfl) | (rw [if_neg (c := buL μ (μ 15 (ix op) + k) 0 (-1) < 0) c_53] <;> rfl))
      · refine j_aload_n hC 5 147 rfl d_M_taken_146 rfl rfl ?_
        refine g_M_waitValue hC 150 rfl d_M_taken_147 ?_
        refine j_iload hC 1 152 rfl d_M_taken_150 rfl ?_
        refine ld_M_waitValue hC (buL_rng hb c_143) 153 rfl d_M_taken_152 ?_
        refine j_aload_n hC 5 154 rfl d_M_taken_153 rfl rfl ?_
        refine g_M_waitSize hC 157 rfl d_M_taken_154 ?_
        refine j_iload hC 1 159 rfl d_M_taken_157 rfl ?_
        refine ld_M_waitSize hC (buL_rng hb c_143) 160 rfl d_M_taken_159 ?_
        refine j_iload hC 3 162 rfl d_M_taken_160 rfl ?_
        refine j_aload_n hC 5 163 rfl d_M_taken_162 rfl rfl ?_
        refine g_M_waitPlace hC 166 rfl d_M_taken_163 ?_
        refine j_iload hC 1 168 rfl d_M_taken_166 rfl ?_
        refine ld_M_waitPlace hC (buL_rng hb c_143) 169 rfl d_M_taken_168 ?_
        refine j_isub hC 170 rfl d_M_taken_169 ?_
        refine j_callSi hC jE_loc jT_good (As := [_, _, _]) c_M_byteOf yk_M_byteOf lk_M_70 ⟨rfl, rfl⟩ ⟨Nat.le_of_ble_eq_true rfl, Nat.le_of_ble_eq_true rfl⟩ rfl (Nat.le_of_ble_eq_true rfl) ⟨Nat.zero_le _, Nat.zero_le _⟩ d_M_taken_170 173 rfl rfl ?_
        refine j_goto hC 183 d_M_taken_173 (by decide) ?_
        exact j_iret hC hr hlk d_M_taken_183 (by rw [tkV, if_pos (c := soM μ op (μ 15 (ix op) + k) < 0) c_43]; first | (rw [if_pos (c := buL μ (μ 15 (ix op) + k) 0 (-1) < 0) c_143] <;> rfl) | (rw [if_neg (c := buL μ (μ 15 (ix op) + k) 0 (-1) < 0) c_143] <;> rfl)) (by rw [tkT, if_pos (c := soM μ op (μ 15 (ix op) + k) < 0) c_43]; first | (rw [if_pos (c := buL μ (μ 15 (ix op) + k) 0 (-1) < 0) c_53] <;> rfl) | (rw [if_neg (c := buL μ (μ 15 (ix op) + k) 0 (-1) < 0) c_53] <;> rfl))
    · refine j_bipush (v := (-2)) hC 58 rfl d_M_taken_56 (by decide) ?_
      refine j_goto hC 62 d_M_taken_58 (by decide) ?_
      refine st_M_from hC (fr_in hk hk2 (hz _)) 63 rfl d_M_taken_62 ?_
      refine j_aload_n hC 4 64 rfl d_M_taken_63 rfl rfl ?_
      refine j_dup hC 65 rfl d_M_taken_64 rfl ?_
      refine g_M_ofStores hC 68 rfl d_M_taken_65 ?_
      refine j_iload hC 1 70 rfl d_M_taken_68 rfl ?_
      refine j_if_lt hC 77 73 rfl d_M_taken_70 (by decide) (fun c_70 => ?_) (fun c_70 => absurd c_70 (fun q => q c_43))
      refine j_iconst (v := 0) hC 78 rfl d_M_taken_77 (by decide) ?_
      refine j_iadd hC 79 rfl d_M_taken_78 ?_
      refine p_M_ofStores hC 82 rfl d_M_taken_79 ?_
      refine j_aload_n hC 4 83 rfl d_M_taken_82 rfl rfl ?_
      refine j_dup hC 84 rfl d_M_taken_83 rfl ?_
      refine g_M_ofOthers hC 87 rfl d_M_taken_84 ?_
      refine j_iload hC 1 89 rfl d_M_taken_87 rfl ?_
      refine j_if_lt hC 96 92 rfl d_M_taken_89 (by decide) (fun c_89 => ?_) (fun c_89 => absurd c_89 (fun q => q c_43))
      refine j_iconst (v := 1) hC 97 rfl d_M_taken_96 (by decide) ?_
      refine j_iadd hC 98 rfl d_M_taken_97 ?_
      refine p_M_ofOthers hC 101 rfl d_M_taken_98 ?_
      refine j_iload hC 1 103 rfl d_M_taken_101 rfl ?_
      refine j_bipush (v := 127) hC 105 rfl d_M_taken_103 (by decide) ?_
      refine j_iand hC 106 rfl d_M_taken_105 ?_
      refine j_istore (lv' := [(7, _), (6, _), (5, _), (4, _), (3, _), (0, _), (1, _), (2, _)]) hC 108 rfl d_M_taken_106 (by decide) rfl ?_
      refine j_iload hC 2 110 rfl d_M_taken_108 rfl ?_
      refine j_if_lt hC 141 113 rfl d_M_taken_110 (by decide) (fun c_110 => ?_) (fun c_110 => absurd c_110 (fun q => q c_43))
      refine j_iload hC 1 143 rfl d_M_taken_141 rfl ?_
      refine j_if_lt hC 176 146 rfl d_M_taken_143 (by decide) (fun c_143 => ?_) (fun c_143 => ?_)
      · refine j_aload_n hC 5 177 rfl d_M_taken_176 rfl rfl ?_
        refine g_M_bytes hC 180 rfl d_M_taken_177 ?_
        refine j_iload hC 3 182 rfl d_M_taken_180 rfl ?_
        refine ld_M_bytes hC ha 183 rfl d_M_taken_182 ?_
        exact j_iret hC hr hlk d_M_taken_183 (by rw [tkV, if_pos (c := soM μ op (μ 15 (ix op) + k) < 0) c_43]; first | (rw [if_pos (c := buL μ (μ 15 (ix op) + k) 0 (-1) < 0) c_143] <;> rfl) | (rw [if_neg (c := buL μ (μ 15 (ix op) + k) 0 (-1) < 0) c_143] <;> rfl)) (by rw [tkT, if_pos (c := soM μ op (μ 15 (ix op) + k) < 0) c_43]; first | (rw [if_pos (c := buL μ (μ 15 (ix op) + k) 0 (-1) < 0) c_53] <;> rfl) | (rw [if_neg (c := buL μ (μ 15 (ix op) + k) 0 (-1) < 0) c_53] <;> rfl))
      · refine j_aload_n hC 5 147 rfl d_M_taken_146 rfl rfl ?_
        refine g_M_waitValue hC 150 rfl d_M_taken_147 ?_
        refine j_iload hC 1 152 rfl d_M_taken_150 rfl ?_
        refine ld_M_waitValue hC (buL_rng hb c_143) 153 rfl d_M_taken_152 ?_
        refine j_aload_n hC 5 154 rfl d_M_taken_153 rfl rfl ?_
        refine g_M_waitSize hC 157 rfl d_M_taken_154 ?_
        refine j_iload hC 1 159 rfl d_M_taken_157 rfl ?_
        refine ld_M_waitSize hC (buL_rng hb c_143) 160 rfl d_M_taken_159 ?_
        refine j_iload hC 3 162 rfl d_M_taken_160 rfl ?_
        refine j_aload_n hC 5 163 rfl d_M_taken_162 rfl rfl ?_
        refine g_M_waitPlace hC 166 rfl d_M_taken_163 ?_
        refine j_iload hC 1 168 rfl d_M_taken_166 rfl ?_
        refine ld_M_waitPlace hC (buL_rng hb c_143) 169 rfl d_M_taken_168 ?_
        refine j_isub hC 170 rfl d_M_taken_169 ?_
        refine j_callSi hC jE_loc jT_good (As := [_, _, _]) c_M_byteOf yk_M_byteOf lk_M_70 ⟨rfl, rfl⟩ ⟨Nat.le_of_ble_eq_true rfl, Nat.le_of_ble_eq_true rfl⟩ rfl (Nat.le_of_ble_eq_true rfl) ⟨Nat.zero_le _, Nat.zero_le _⟩ d_M_taken_170 173 rfl rfl ?_
        refine j_goto hC 183 d_M_taken_173 (by decide) ?_
        exact j_iret hC hr hlk d_M_taken_183 (by rw [tkV, if_pos (c := soM μ op (μ 15 (ix op) + k) < 0) c_43]; first | (rw [if_pos (c := buL μ (μ 15 (ix op) + k) 0 (-1) < 0) c_143] <;> rfl) | (rw [if_neg (c := buL μ (μ 15 (ix op) + k) 0 (-1) < 0) c_143] <;> rfl)) (by rw [tkT, if_pos (c := soM μ op (μ 15 (ix op) + k) < 0) c_43]; first | (rw [if_pos (c := buL μ (μ 15 (ix op) + k) 0 (-1) < 0) c_53] <;> rfl) | (rw [if_neg (c := buL μ (μ 15 (ix op) + k) 0 (-1) < 0) c_53] <;> rfl))
  · refine j_iload hC 1 48 rfl d_M_taken_46 rfl ?_
    refine j_goto hC 62 d_M_taken_48 (by decide) ?_
    refine st_M_from hC (fr_in hk hk2 (hz _)) 63 rfl d_M_taken_62 ?_
    refine j_aload_n hC 4 64 rfl d_M_taken_63 rfl rfl ?_
    refine j_dup hC 65 rfl d_M_taken_64 rfl ?_
    refine g_M_ofStores hC 68 rfl d_M_taken_65 ?_
    refine j_iload hC 1 70 rfl d_M_taken_68 rfl ?_
    refine j_if_lt hC 77 73 rfl d_M_taken_70 (by decide) (fun c_70 => absurd c_70 c_43) (fun c_70 => ?_)
    refine j_iconst (v := 1) hC 74 rfl d_M_taken_73 (by decide) ?_
    refine j_goto hC 78 d_M_taken_74 (by decide) ?_
    refine j_iadd hC 79 rfl d_M_taken_78 ?_
    refine p_M_ofStores hC 82 rfl d_M_taken_79 ?_
    refine j_aload_n hC 4 83 rfl d_M_taken_82 rfl rfl ?_
    refine j_dup hC 84 rfl d_M_taken_83 rfl ?_
    refine g_M_ofOthers hC 87 rfl d_M_taken_84 ?_
    refine j_iload hC 1 89 rfl d_M_taken_87 rfl ?_
    refine j_if_lt hC 96 92 rfl d_M_taken_89 (by decide) (fun c_89 => absurd c_89 c_43) (fun c_89 => ?_)
    refine j_iconst (v := 0) hC 93 rfl d_M_taken_92 (by decide) ?_
    refine j_goto hC 97 d_M_taken_93 (by decide) ?_
    refine j_iadd hC 98 rfl d_M_taken_97 ?_
    refine p_M_ofOthers hC 101 rfl d_M_taken_98 ?_
    refine j_iload hC 1 103 rfl d_M_taken_101 rfl ?_
    refine j_bipush (v := 127) hC 105 rfl d_M_taken_103 (by decide) ?_
    refine j_iand hC 106 rfl d_M_taken_105 ?_
    refine j_istore (lv' := [(7, _), (6, _), (5, _), (4, _), (3, _), (0, _), (1, _), (2, _)]) hC 108 rfl d_M_taken_106 (by decide) rfl ?_
    refine j_iload hC 2 110 rfl d_M_taken_108 rfl ?_
    refine j_if_lt hC 141 113 rfl d_M_taken_110 (by decide) (fun c_110 => absurd c_110 c_43) (fun c_110 => ?_)
    refine j_aload_n hC 5 114 rfl d_M_taken_113 rfl rfl ?_
    refine g_M_values hC 117 rfl d_M_taken_114 ?_
    refine j_iload hC 0 119 rfl d_M_taken_117 rfl ?_
    refine ld_M_values hC (ix_in _) 120 rfl d_M_taken_119 ?_
    refine j_aload_n hC 5 121 rfl d_M_taken_120 rfl rfl ?_
    refine g_M_sizes hC 124 rfl d_M_taken_121 ?_
    refine j_iload hC 0 126 rfl d_M_taken_124 rfl ?_
    refine ld_M_sizes hC (ix_in _) 127 rfl d_M_taken_126 ?_
    refine j_iload hC 3 129 rfl d_M_taken_127 rfl ?_
    refine j_aload_n hC 5 130 rfl d_M_taken_129 rfl rfl ?_
    refine g_M_places hC 133 rfl d_M_taken_130 ?_
    refine j_iload hC 0 135 rfl d_M_taken_133 rfl ?_
    refine ld_M_places hC (ix_in _) 136 rfl d_M_taken_135 ?_
    refine j_isub hC 137 rfl d_M_taken_136 ?_
    refine j_callSi hC jE_loc jT_good (As := [_, _, _]) c_M_byteOf yk_M_byteOf lk_M_70 ⟨rfl, rfl⟩ ⟨Nat.le_of_ble_eq_true rfl, Nat.le_of_ble_eq_true rfl⟩ rfl (Nat.le_of_ble_eq_true rfl) ⟨Nat.zero_le _, Nat.zero_le _⟩ d_M_taken_137 140 rfl rfl ?_
    exact j_iret hC hr hlk d_M_taken_140 (by rw [tkV, if_neg (c := soM μ op (μ 15 (ix op) + k) < 0) c_43] <;> rfl) (by rw [tkT, if_neg (c := soM μ op (μ 15 (ix op) + k) < 0) c_43] <;> rfl)
set_option maxHeartbeats 4000000 in
set_option maxRecDepth 100000 in
theorem c_M_tried_thr {t : Int32} {op : Int32} (ht : trTh μ ν op = t) (h : ¬ t ≤ 0) : kM l dC dI cI cZ cB cJ y_M_tried b_M_tried 6 (some .int) 4 94 [.ref (am 0), .int op] (wM am cI cZ μ ν ρ) (some (.int (0))) (wM am cI cZ (sS μ 0 t) ν ρ) := by
  refine jM.of (lv := [(0, .ref (am 0)), (1, .int op)]) (own := R_M) jE_loc (by decide) rfl rfl (Nat.le_of_ble_eq_true rfl) rfl ?_
  intro p e s m args below meth c A hC hr hlk
  have jn : ∀ x : Int32, x = trTh μ ν op → kJ l dC dI p e s m args below meth c A 4 94 6 (some (.int (0))) (wM am cI cZ (sS μ 0 t) ν ρ) (wM am cI cZ μ ν ρ) 68 [(3, .int (bI (ctM μ ν op))), (2, .int (op &&& 127)), (0, .ref (am 0)), (1, .int op)] [.int x, .ref (am 0)] := by
    intro x hx
    obtain rfl : x = t := hx.trans ht
    refine p_M_thrown hC 71 rfl d_M_tried_68 ?_
    refine j_aload_n hC 2 72 rfl d_M_tried_71 rfl rfl ?_
    refine g_M_thrown hC 75 rfl d_M_tried_72 ?_
    refine j_if_le hC 80 78 rfl d_M_tried_75 (by decide) (fun c_75 => absurd c_75 h) (fun c_75 => ?_)
    refine j_iconst (v := 0) hC 79 rfl d_M_tried_78 (by decide) ?_
    exact j_iret hC hr hlk d_M_tried_79 rfl rfl
  have jb : ∀ b : Bool, b = ctM μ ν op → kJ l dC dI p e s m args below meth c A 4 94 6 (some (.int (0))) (wM am cI cZ (sS μ 0 t) ν ρ) (wM am cI cZ μ ν ρ) 45 [(2, .int (op &&& 127)), (0, .ref (am 0)), (1, .int op)] [.int (bI b)] := by
    intro b hb9
    subst hb9
    refine j_istore_n (lv' := [(3, _), (2, _), (0, _), (1, _)]) hC 46 rfl d_M_tried_45 rfl (by decide) rfl ?_
    refine j_aload_n hC 2 47 rfl d_M_tried_46 rfl rfl ?_
    refine j_aload_n hC 2 48 rfl d_M_tried_47 rfl rfl ?_
    refine j_iload_n hC 3 49 rfl d_M_tried_48 rfl rfl ?_
    refine j_callVi hC jE_loc jT_good (As := [_]) c_M_isOp yk_M_isOp lk_M_88 ⟨rfl, rfl⟩ ⟨Nat.le_of_ble_eq_true rfl, Nat.le_of_ble_eq_true rfl⟩ 0 rfl rfl rfl rfl (Nat.le_of_ble_eq_true rfl) ⟨Nat.zero_le _, Nat.zero_le _⟩ d_M_tried_49 52 rfl rfl ?_
    refine j_if_ne hC 59 55 rfl d_M_tried_52 (by decide) (fun c_52 => ?_) (fun c_52 => ?_)
    · refine j_iload_n hC 0 60 rfl d_M_tried_59 rfl rfl ?_
      refine j_if_ne hC 67 63 rfl d_M_tried_60 (by decide) (fun c_60 => ?_) (fun c_60 => ?_)
      · refine j_iconst (v := 0) hC 68 rfl d_M_tried_67 (by decide) ?_
        exact jn _ (by simp [trTh, bI1 c_52, bI1 c_60])
      · refine j_iconst (v := 2) hC 64 rfl d_M_tried_63 (by decide) ?_
        refine j_goto hC 68 d_M_tried_64 (by decide) ?_
        exact jn _ (by simp [trTh, bI1 c_52, bI0 c_60])
    · refine j_iconst (v := 1) hC 56 rfl d_M_tried_55 (by decide) ?_
      refine j_goto hC 68 d_M_tried_56 (by decide) ?_
      exact jn _ (by simp [trTh, bI0 c_52])
  refine j_iload_n hC 1 1 rfl d_M_tried_0 rfl rfl ?_
  refine j_bipush (v := 127) hC 3 rfl d_M_tried_1 (by decide) ?_
  refine j_iand hC 4 rfl d_M_tried_3 ?_
  refine j_istore_n (lv' := [(2, _), (0, _), (1, _)]) hC 5 rfl d_M_tried_4 rfl (by decide) rfl ?_
  refine j_aload_n hC 1 6 rfl d_M_tried_5 rfl rfl ?_
  refine j_iload_n hC 2 7 rfl d_M_tried_6 rfl rfl ?_
  refine j_callVi hC jE_loc jT_good (As := [_]) c_M_waits yk_M_waits lk_M_84 ⟨rfl, rfl⟩ ⟨Nat.le_of_ble_eq_true rfl, Nat.le_of_ble_eq_true rfl⟩ 0 rfl rfl rfl rfl (Nat.le_of_ble_eq_true rfl) ⟨Nat.zero_le _, Nat.zero_le _⟩ d_M_tried_7 10 rfl rfl ?_
  refine j_if_eq hC 44 13 rfl d_M_tried_10 (by decide) (fun c_10 => ?_) (fun c_10 => ?_)
  · refine j_iconst (v := (bI false)) hC 45 rfl d_M_tried_44 rfl ?_
    exact jb _ (by simp [ctM, ix, bI0 c_10])
  · refine j_aload_n hC 1 14 rfl d_M_tried_13 rfl rfl ?_
    refine g_M_kinds hC 17 rfl d_M_tried_14 ?_
    refine j_iload_n hC 0 18 rfl d_M_tried_17 rfl rfl ?_
    refine ld_M_kinds hC (ix_in _) 19 rfl d_M_tried_18 ?_
    refine j_if_ne hC 44 22 rfl d_M_tried_19 (by decide) (fun c_19 => ?_) (fun c_19 => ?_)
    · refine j_iconst (v := (bI false)) hC 45 rfl d_M_tried_44 rfl ?_
      exact jb _ (by simp [ctM, ix, bI1 c_10, c_19])
    · refine j_aload_n hC 1 23 rfl d_M_tried_22 rfl rfl ?_
      refine g_M_places hC 26 rfl d_M_tried_23 ?_
      refine j_iload_n hC 0 27 rfl d_M_tried_26 rfl rfl ?_
      refine ld_M_places hC (ix_in _) 28 rfl d_M_tried_27 ?_
      refine j_if_lt hC 44 31 rfl d_M_tried_28 (by decide) (fun c_28 => ?_) (fun c_28 => ?_)
      · refine j_iconst (v := (bI false)) hC 45 rfl d_M_tried_44 rfl ?_
        exact jb _ (by simp [ctM, ix, bI1 c_10, c_19, c_28])
      · refine j_aload_n hC 1 32 rfl d_M_tried_31 rfl rfl ?_
        refine g_M_done hC 35 rfl d_M_tried_32 ?_
        refine j_iload_n hC 0 36 rfl d_M_tried_35 rfl rfl ?_
        refine ld_M_done hC (ix_in _) 37 rfl d_M_tried_36 ?_
        refine j_if_ne hC 44 40 rfl d_M_tried_37 (by decide) (fun c_37 => ?_) (fun c_37 => ?_)
        · refine j_iconst (v := (bI false)) hC 45 rfl d_M_tried_44 rfl ?_
          exact jb _ (by simp [ctM, ix, bI1 c_10, c_19, c_28, bI1 c_37])
        · refine j_iconst (v := (bI true)) hC 41 rfl d_M_tried_40 rfl ?_
          refine j_goto hC 45 d_M_tried_41 (by decide) ?_
          exact jb _ (by simp [ctM, ix, bI1 c_10, c_19, c_28, bI0 c_37])
set_option maxHeartbeats 4000000 in
set_option maxRecDepth 100000 in
theorem c_M_tried_ok {op : Int32} (ht : trTh μ ν op = 0) (h0 : 0 ≤ μ 2 0) (hb : μ 7 0 ≤ 4) (hz : ∀ i, μ 13 i ≤ 4) (hp : ∀ i, vp_in (μ 14 i) 64) (ha : ∀ k : Int32, 0 ≤ k → ¬ μ 13 (ix op) ≤ k → vp_in (μ 15 (ix op) + k) 4096) : kM l dC dI cI cZ cB cJ y_M_tried b_M_tried 6 (some .int) 4 94 [.ref (am 0), .int op] (wM am cI cZ μ ν ρ) (some (.int ((tmR (sS μ 0 0) ν op).1))) (wM am cI cZ (tmR (sS μ 0 0) ν op).2.1 (tmR (sS μ 0 0) ν op).2.2 ρ) := by
  refine jM.of (lv := [(0, .ref (am 0)), (1, .int op)]) (own := R_M) jE_loc (by decide) rfl rfl (Nat.le_of_ble_eq_true rfl) rfl ?_
  intro p e s m args below meth c A hC hr hlk
  have loop2 : tmR (sS μ 0 0) ν op = tmL (sS μ 0 0) ν op → ¬ exL (snM (sS μ 0 0) ν op) 0 ((sS μ 0 0) 13 (ix op)) = true → ∀ (n : Nat) (k : Int32) (τ : S2), 0 ≤ k → (τ 2 = μ 2 ∧ τ 7 = μ 7 ∧ τ 13 = μ 13 ∧ τ 15 = μ 15) → dist k ((sS μ 0 0) 13 (ix op)) < n → dmL op ((sS μ 0 0) 13 (ix op)) k τ = dmL op ((sS μ 0 0) 13 (ix op)) 0 (sA (sS μ 0 0) 17 (ix op) 0) → kJ l dC dI p e s m args below meth c A 4 94 6 (some (.int ((tmR (sS μ 0 0) ν op).1))) (wM am cI cZ (tmR (sS μ 0 0) ν op).2.1 (tmR (sS μ 0 0) ν op).2.2 ρ) (wM am cI cZ τ ν ρ) 180 [(4, .int k), (3, .int (bI (ctM μ ν op))), (2, .int (op &&& 127)), (0, .ref (am 0)), (1, .int op)] [] := by
    intro hq hx9 n
    induction n with
    | zero => intro k τ hk hs hd hR; exact absurd hd (Nat.not_lt_zero _)
    | succ n ih =>
      intro k τ hk hs hd hR
      refine j_iload hC 0 182 rfl d_M_tried_180 rfl ?_
      refine j_aload_n hC 3 183 rfl d_M_tried_182 rfl rfl ?_
      refine g_M_sizes hC 186 rfl d_M_tried_183 ?_
      refine j_iload_n hC 2 187 rfl d_M_tried_186 rfl rfl ?_
      refine ld_M_sizes hC (ix_in _) 188 rfl d_M_tried_187 ?_
      refine j_eqi (show τ 13 (ix op) = (sS μ 0 0) 13 (ix op) by rw [hs.2.2.1] <;> rfl) ?_
      refine j_icmp_ge hC 220 191 rfl d_M_tried_188 (by decide) (fun c_188 => ?_) (fun c_188 => ?_)
      · refine j_aload_n hC 3 221 rfl d_M_tried_220 rfl rfl ?_
        refine g_M_done hC 224 rfl d_M_tried_221 ?_
        refine j_iload_n hC 2 225 rfl d_M_tried_224 rfl rfl ?_
        refine j_iconst (v := 1) hC 226 rfl d_M_tried_225 (by decide) ?_
        refine st_M_done hC (ix_in _) (b := true) rfl 227 rfl d_M_tried_226 ?_
        refine j_iconst (v := 1) hC 228 rfl d_M_tried_227 (by decide) ?_
        exact j_iret hC hr hlk d_M_tried_228 (by rw [hq, tmL, if_neg hx9] <;> rfl) (by rw [hq, tmL, if_neg hx9, ← hR, dmL_out c_188] <;> rfl)
      · refine j_aload_n hC 3 192 rfl d_M_tried_191 rfl rfl ?_
        refine g_M_results hC 195 rfl d_M_tried_192 ?_
        refine j_iload_n hC 2 196 rfl d_M_tried_195 rfl rfl ?_
        refine j_aload_n hC 3 197 rfl d_M_tried_196 rfl rfl ?_
        refine g_M_results hC 200 rfl d_M_tried_197 ?_
        refine j_iload_n hC 2 201 rfl d_M_tried_200 rfl rfl ?_
        refine ld_M_results hC (ix_in _) 202 rfl d_M_tried_201 ?_
        refine j_bipush (v := 8) hC 204 rfl d_M_tried_202 (by decide) ?_
        refine j_ishl hC 205 rfl d_M_tried_204 ?_
        refine j_aload_n hC 3 206 rfl d_M_tried_205 rfl rfl ?_
        refine j_iload_n hC 4 207 rfl d_M_tried_206 rfl rfl ?_
        refine j_iload hC 0 209 rfl d_M_tried_207 rfl ?_
        refine j_callVi hC jE_loc jT_good (As := [_, _]) (c_M_taken (by rw [hs.1]; exact h0) (by rw [hs.2.1]; exact hb) (by rw [hs.2.2.1]; exact hz) hk (by rw [hs.2.2.1]; exact c_188) (by rw [hs.2.2.2]; exact ha _ hk c_188)) yk_M_taken lk_M_120 ⟨rfl, rfl⟩ ⟨Nat.le_of_ble_eq_true rfl, Nat.le_of_ble_eq_true rfl⟩ 0 rfl rfl rfl rfl (Nat.le_of_ble_eq_true rfl) ⟨Nat.zero_le _, Nat.zero_le _⟩ d_M_tried_209 212 rfl rfl ?_
        refine j_ior hC 213 rfl d_M_tried_212 ?_
        refine st_M_results hC (ix_in _) 214 rfl d_M_tried_213 ?_
        refine j_iinc (lv' := [(4, _), (3, _), (2, _), (0, _), (1, _)]) hC 0 217 rfl d_M_tried_214 rfl (inc1 _) (by decide) rfl ?_
        refine j_goto hC 180 d_M_tried_217 (by decide) ?_
        exact ih _ _ (nn1 hk c_188) ⟨(dmS_jj (by decide)).trans hs.1, (dmS_jj (by decide)).trans hs.2.1, (dmS_jj (by decide)).trans hs.2.2.1, (dmS_jj (by decide)).trans hs.2.2.2⟩ (dist_lt c_188 hd) (by rw [← hR, dmL_in c_188] <;> rfl)
  have loop : tmR (sS μ 0 0) ν op = tmL (sS μ 0 0) ν op → ∀ (n : Nat) (i : Int32), 0 ≤ i → dist i ((sS μ 0 0) 13 (ix op)) < n → exL (snM (sS μ 0 0) ν op) 0 ((sS μ 0 0) 13 (ix op)) = exL (snM (sS μ 0 0) ν op) i ((sS μ 0 0) 13 (ix op)) → kJ l dC dI p e s m args below meth c A 4 94 6 (some (.int ((tmR (sS μ 0 0) ν op).1))) (wM am cI cZ (tmR (sS μ 0 0) ν op).2.1 (tmR (sS μ 0 0) ν op).2.2 ρ) (wM am cI cZ (sS μ 0 0) ν ρ) 117 [(4, .int i), (3, .int (bI (ctM μ ν op))), (2, .int (op &&& 127)), (0, .ref (am 0)), (1, .int op)] [] := by
    intro hq n
    induction n with
    | zero => intro i hi hd hR; exact absurd hd (Nat.not_lt_zero _)
    | succ n ih =>
      intro i hi hd hR
      refine j_iload hC 0 119 rfl d_M_tried_117 rfl ?_
      refine j_aload_n hC 3 120 rfl d_M_tried_119 rfl rfl ?_
      refine g_M_sizes hC 123 rfl d_M_tried_120 ?_
      refine j_iload_n hC 2 124 rfl d_M_tried_123 rfl rfl ?_
      refine ld_M_sizes hC (ix_in _) 125 rfl d_M_tried_124 ?_
      refine j_icmp_ge hC 170 128 rfl d_M_tried_125 (by decide) (fun c_125 => ?_) (fun c_125 => ?_)
      · refine j_aload_n hC 3 171 rfl d_M_tried_170 rfl rfl ?_
        refine g_M_results hC 174 rfl d_M_tried_171 ?_
        refine j_iload_n hC 2 175 rfl d_M_tried_174 rfl rfl ?_
        refine j_iconst (v := 0) hC 176 rfl d_M_tried_175 (by decide) ?_
        refine st_M_results hC (ix_in _) 177 rfl d_M_tried_176 ?_
        refine j_iconst (v := 0) hC 178 rfl d_M_tried_177 (by decide) ?_
        refine j_istore (lv' := [(4, _), (3, _), (2, _), (0, _), (1, _)]) hC 180 rfl d_M_tried_178 (by decide) rfl ?_
        exact loop2 hq (by rw [hR, exL_out (b := (sS μ 0 0) 13 (ix op)) c_125]; decide) _ 0 _ (by decide) ⟨rfl, rfl, rfl, rfl⟩ (Nat.lt_succ_self _) rfl
      · refine j_aload_n hC 3 129 rfl d_M_tried_128 rfl rfl ?_
        refine j_iload_n hC 4 130 rfl d_M_tried_129 rfl rfl ?_
        refine j_aload_n hC 3 131 rfl d_M_tried_130 rfl rfl ?_
        refine g_M_places hC 134 rfl d_M_tried_131 ?_
        refine j_iload_n hC 2 135 rfl d_M_tried_134 rfl rfl ?_
        refine ld_M_places hC (ix_in _) 136 rfl d_M_tried_135 ?_
        refine j_iload hC 0 138 rfl d_M_tried_136 rfl ?_
        refine j_iadd hC 139 rfl d_M_tried_138 ?_
        refine j_callVi hC jE_loc jT_good (As := [_, _]) (c_M_storeOf (μ := (sS μ 0 0)) h0) yk_M_storeOf lk_M_116 ⟨rfl, rfl⟩ ⟨Nat.le_of_ble_eq_true rfl, Nat.le_of_ble_eq_true rfl⟩ 0 rfl rfl rfl rfl (Nat.le_of_ble_eq_true rfl) ⟨Nat.zero_le _, Nat.zero_le _⟩ d_M_tried_139 142 rfl rfl ?_
        refine j_istore (lv' := [(5, _), (4, _), (3, _), (2, _), (0, _), (1, _)]) hC 144 rfl d_M_tried_142 (by decide) rfl ?_
        refine j_iload hC 0 146 rfl d_M_tried_144 rfl ?_
        refine j_if_lt hC 164 149 rfl d_M_tried_146 (by decide) (fun c_146 => ?_) (fun c_146 => ?_)
        · refine j_iinc (lv' := [(4, _), (5, _), (3, _), (2, _), (0, _), (1, _)]) hC 1 167 rfl d_M_tried_164 rfl (inc1 _) (by decide) rfl ?_
          refine j_goto hC 117 d_M_tried_167 (by decide) ?_
          refine j_sub (lv' := [(4, _), (3, _), (2, _), (0, _), (1, _)]) [0, 2, 3, 4, 5] rfl ?_
          exact ih _ (nn1 hi c_125) (dist_lt c_125 hd) (by rw [hR, exL_in (b := (sS μ 0 0) 13 (ix op)) c_125]; simp [snM, ix, c_125, c_146])
        · refine j_aload_n hC 4 150 rfl d_M_tried_149 rfl rfl ?_
          refine g_M_told hC 153 rfl d_M_tried_150 ?_
          refine j_iload hC 0 155 rfl d_M_tried_153 rfl ?_
          refine j_bipush (v := 127) hC 157 rfl d_M_tried_155 (by decide) ?_
          refine j_iand hC 158 rfl d_M_tried_157 ?_
          refine ld_M_told hC (ix_in _) 159 rfl d_M_tried_158 ?_
          refine j_if_ne hC 164 162 rfl d_M_tried_159 (by decide) (fun c_159 => ?_) (fun c_159 => ?_)
          · refine j_iinc (lv' := [(4, _), (5, _), (3, _), (2, _), (0, _), (1, _)]) hC 1 167 rfl d_M_tried_164 rfl (inc1 _) (by decide) rfl ?_
            refine j_goto hC 117 d_M_tried_167 (by decide) ?_
            refine j_sub (lv' := [(4, _), (3, _), (2, _), (0, _), (1, _)]) [0, 2, 3, 4, 5] rfl ?_
            exact ih _ (nn1 hi c_125) (dist_lt c_125 hd) (by rw [hR, exL_in (b := (sS μ 0 0) 13 (ix op)) c_125]; simp [snM, ix, c_125, c_146, bI1 c_159])
          · refine j_iconst (v := 4) hC 163 rfl d_M_tried_162 (by decide) ?_
            exact j_iret hC hr hlk d_M_tried_163 (by rw [hq, tmL, if_pos (by rw [hR, exL_in (b := (sS μ 0 0) 13 (ix op)) c_125]; simp [snM, ix, c_125, c_146, bI0 c_159])] <;> rfl) (by rw [hq, tmL, if_pos (by rw [hR, exL_in (b := (sS μ 0 0) 13 (ix op)) c_125]; simp [snM, ix, c_125, c_146, bI0 c_159])] <;> rfl)
  have jn : ∀ x : Int32, x = trTh μ ν op → kJ l dC dI p e s m args below meth c A 4 94 6 (some (.int ((tmR (sS μ 0 0) ν op).1))) (wM am cI cZ (tmR (sS μ 0 0) ν op).2.1 (tmR (sS μ 0 0) ν op).2.2 ρ) (wM am cI cZ μ ν ρ) 68 [(3, .int (bI (ctM μ ν op))), (2, .int (op &&& 127)), (0, .ref (am 0)), (1, .int op)] [.int x, .ref (am 0)] := by
    intro x hx
    obtain rfl : x = 0 := hx.trans ht
    refine p_M_thrown hC 71 rfl d_M_tried_68 ?_
    refine j_aload_n hC 2 72 rfl d_M_tried_71 rfl rfl ?_
    refine g_M_thrown hC 75 rfl d_M_tried_72 ?_
    refine j_if_le hC 80 78 rfl d_M_tried_75 (by decide) (fun c_75 => ?_) (fun c_75 => absurd c_75 (fun q => q (Int32.le_refl 0)))
    refine j_aload_n hC 2 81 rfl d_M_tried_80 rfl rfl ?_
    refine j_iload_n hC 3 82 rfl d_M_tried_81 rfl rfl ?_
    refine j_callVi hC jE_loc jT_good (As := [_]) c_M_isHeld yk_M_isHeld lk_M_110 ⟨rfl, rfl⟩ ⟨Nat.le_of_ble_eq_true rfl, Nat.le_of_ble_eq_true rfl⟩ 0 rfl rfl rfl rfl (Nat.le_of_ble_eq_true rfl) ⟨Nat.zero_le _, Nat.zero_le _⟩ d_M_tried_82 85 rfl rfl ?_
    refine j_if_eq hC 90 88 rfl d_M_tried_85 (by decide) (fun c_85 => ?_) (fun c_85 => ?_)
    · refine j_aload_n hC 2 91 rfl d_M_tried_90 rfl rfl ?_
      refine g_M_marks hC 94 rfl d_M_tried_91 ?_
      refine j_aload_n hC 2 95 rfl d_M_tried_94 rfl rfl ?_
      refine g_M_programs hC 98 rfl d_M_tried_95 ?_
      refine j_iload_n hC 1 99 rfl d_M_tried_98 rfl rfl ?_
      refine ld_M_programs hC (ix_in _) 100 rfl d_M_tried_99 ?_
      refine ld_M_marks hC (hp _) 101 rfl d_M_tried_100 ?_
      refine j_if_eq hC 114 104 rfl d_M_tried_101 (by decide) (fun c_101 => ?_) (fun c_101 => ?_)
      · refine j_iconst (v := 0) hC 115 rfl d_M_tried_114 (by decide) ?_
        refine j_istore (lv' := [(4, _), (3, _), (2, _), (0, _), (1, _)]) hC 117 rfl d_M_tried_115 (by decide) rfl ?_
        exact loop (by simp only [tmR, ix, c_75, bI0 c_85, bI0 c_101, reduceIte, Bool.false_eq_true]) _ 0 (by decide) (Nat.lt_succ_self _) rfl
      · refine j_aload_n hC 2 105 rfl d_M_tried_104 rfl rfl ?_
        refine j_iload_n hC 3 106 rfl d_M_tried_105 rfl rfl ?_
        refine j_callVi hC jE_loc jT_good (As := [_]) c_M_hasUnknown yk_M_hasUnknown lk_M_113 ⟨rfl, rfl⟩ ⟨Nat.le_of_ble_eq_true rfl, Nat.le_of_ble_eq_true rfl⟩ 0 rfl rfl rfl rfl (Nat.le_of_ble_eq_true rfl) ⟨Nat.zero_le _, Nat.zero_le _⟩ d_M_tried_106 109 rfl rfl ?_
        refine j_if_eq hC 114 112 rfl d_M_tried_109 (by decide) (fun c_109 => ?_) (fun c_109 => ?_)
        · refine j_iconst (v := 0) hC 115 rfl d_M_tried_114 (by decide) ?_
          refine j_istore (lv' := [(4, _), (3, _), (2, _), (0, _), (1, _)]) hC 117 rfl d_M_tried_115 (by decide) rfl ?_
          exact loop (by simp only [tmR, ix, c_75, bI0 c_85, bI1 c_101, bI0 c_109, reduceIte, Bool.false_eq_true]) _ 0 (by decide) (Nat.lt_succ_self _) rfl
        · refine j_iconst (v := 3) hC 113 rfl d_M_tried_112 (by decide) ?_
          exact j_iret hC hr hlk d_M_tried_113 (by simp only [tmR, ix, c_75, bI0 c_85, bI1 c_101, bI1 c_109, reduceIte, Bool.false_eq_true] <;> rfl) (by simp only [tmR, ix, c_75, bI0 c_85, bI1 c_101, bI1 c_109, reduceIte, Bool.false_eq_true] <;> rfl)
    · refine j_iconst (v := 2) hC 89 rfl d_M_tried_88 (by decide) ?_
      exact j_iret hC hr hlk d_M_tried_89 (by simp only [tmR, ix, c_75, bI1 c_85, reduceIte, Bool.false_eq_true] <;> rfl) (by simp only [tmR, ix, c_75, bI1 c_85, reduceIte, Bool.false_eq_true] <;> rfl)
  have jb : ∀ b : Bool, b = ctM μ ν op → kJ l dC dI p e s m args below meth c A 4 94 6 (some (.int ((tmR (sS μ 0 0) ν op).1))) (wM am cI cZ (tmR (sS μ 0 0) ν op).2.1 (tmR (sS μ 0 0) ν op).2.2 ρ) (wM am cI cZ μ ν ρ) 45 [(2, .int (op &&& 127)), (0, .ref (am 0)), (1, .int op)] [.int (bI b)] := by
    intro b hb9
    subst hb9
    refine j_istore_n (lv' := [(3, _), (2, _), (0, _), (1, _)]) hC 46 rfl d_M_tried_45 rfl (by decide) rfl ?_
    refine j_aload_n hC 2 47 rfl d_M_tried_46 rfl rfl ?_
    refine j_aload_n hC 2 48 rfl d_M_tried_47 rfl rfl ?_
    refine j_iload_n hC 3 49 rfl d_M_tried_48 rfl rfl ?_
    refine j_callVi hC jE_loc jT_good (As := [_]) c_M_isOp yk_M_isOp lk_M_88 ⟨rfl, rfl⟩ ⟨Nat.le_of_ble_eq_true rfl, Nat.le_of_ble_eq_true rfl⟩ 0 rfl rfl rfl rfl (Nat.le_of_ble_eq_true rfl) ⟨Nat.zero_le _, Nat.zero_le _⟩ d_M_tried_49 52 rfl rfl ?_
    refine j_if_ne hC 59 55 rfl d_M_tried_52 (by decide) (fun c_52 => ?_) (fun c_52 => ?_)
    · refine j_iload_n hC 0 60 rfl d_M_tried_59 rfl rfl ?_
      refine j_if_ne hC 67 63 rfl d_M_tried_60 (by decide) (fun c_60 => ?_) (fun c_60 => ?_)
      · refine j_iconst (v := 0) hC 68 rfl d_M_tried_67 (by decide) ?_
        exact jn _ (by simp [trTh, bI1 c_52, bI1 c_60])
      · refine j_iconst (v := 2) hC 64 rfl d_M_tried_63 (by decide) ?_
        refine j_goto hC 68 d_M_tried_64 (by decide) ?_
        exact jn _ (by simp [trTh, bI1 c_52, bI0 c_60])
    · refine j_iconst (v := 1) hC 56 rfl d_M_tried_55 (by decide) ?_
      refine j_goto hC 68 d_M_tried_56 (by decide) ?_
      exact jn _ (by simp [trTh, bI0 c_52])
  refine j_iload_n hC 1 1 rfl d_M_tried_0 rfl rfl ?_
  refine j_bipush (v := 127) hC 3 rfl d_M_tried_1 (by decide) ?_
  refine j_iand hC 4 rfl d_M_tried_3 ?_
  refine j_istore_n (lv' := [(2, _), (0, _), (1, _)]) hC 5 rfl d_M_tried_4 rfl (by decide) rfl ?_
  refine j_aload_n hC 1 6 rfl d_M_tried_5 rfl rfl ?_
  refine j_iload_n hC 2 7 rfl d_M_tried_6 rfl rfl ?_
  refine j_callVi hC jE_loc jT_good (As := [_]) c_M_waits yk_M_waits lk_M_84 ⟨rfl, rfl⟩ ⟨Nat.le_of_ble_eq_true rfl, Nat.le_of_ble_eq_true rfl⟩ 0 rfl rfl rfl rfl (Nat.le_of_ble_eq_true rfl) ⟨Nat.zero_le _, Nat.zero_le _⟩ d_M_tried_7 10 rfl rfl ?_
  refine j_if_eq hC 44 13 rfl d_M_tried_10 (by decide) (fun c_10 => ?_) (fun c_10 => ?_)
  · refine j_iconst (v := (bI false)) hC 45 rfl d_M_tried_44 rfl ?_
    exact jb _ (by simp [ctM, ix, bI0 c_10])
  · refine j_aload_n hC 1 14 rfl d_M_tried_13 rfl rfl ?_
    refine g_M_kinds hC 17 rfl d_M_tried_14 ?_
    refine j_iload_n hC 0 18 rfl d_M_tried_17 rfl rfl ?_
    refine ld_M_kinds hC (ix_in _) 19 rfl d_M_tried_18 ?_
    refine j_if_ne hC 44 22 rfl d_M_tried_19 (by decide) (fun c_19 => ?_) (fun c_19 => ?_)
    · refine j_iconst (v := (bI false)) hC 45 rfl d_M_tried_44 rfl ?_
      exact jb _ (by simp [ctM, ix, bI1 c_10, c_19])
    · refine j_aload_n hC 1 23 rfl d_M_tried_22 rfl rfl ?_
      refine g_M_places hC 26 rfl d_M_tried_23 ?_
      refine j_iload_n hC 0 27 rfl d_M_tried_26 rfl rfl ?_
      refine ld_M_places hC (ix_in _) 28 rfl d_M_tried_27 ?_
      refine j_if_lt hC 44 31 rfl d_M_tried_28 (by decide) (fun c_28 => ?_) (fun c_28 => ?_)
      · refine j_iconst (v := (bI false)) hC 45 rfl d_M_tried_44 rfl ?_
        exact jb _ (by simp [ctM, ix, bI1 c_10, c_19, c_28])
      · refine j_aload_n hC 1 32 rfl d_M_tried_31 rfl rfl ?_
        refine g_M_done hC 35 rfl d_M_tried_32 ?_
        refine j_iload_n hC 0 36 rfl d_M_tried_35 rfl rfl ?_
        refine ld_M_done hC (ix_in _) 37 rfl d_M_tried_36 ?_
        refine j_if_ne hC 44 40 rfl d_M_tried_37 (by decide) (fun c_37 => ?_) (fun c_37 => ?_)
        · refine j_iconst (v := (bI false)) hC 45 rfl d_M_tried_44 rfl ?_
          exact jb _ (by simp [ctM, ix, bI1 c_10, c_19, c_28, bI1 c_37])
        · refine j_iconst (v := (bI true)) hC 41 rfl d_M_tried_40 rfl ?_
          refine j_goto hC 45 d_M_tried_41 (by decide) ?_
          exact jb _ (by simp [ctM, ix, bI1 c_10, c_19, c_28, bI0 c_37])
end KC
end
section
section KC
variable {l : Launch} {dC : Nat → ClassId} {dI : Nat → Nat → Nat} {cI cZ cB cJ : ClassId} {ad : Nat → Nat} {σ : S2} {β : B2} {mk : Int64} {ρ : va_W} {am : Nat → Nat} {μ : S2} {ν : B2}
set_option maxHeartbeats 4000000 in
set_option maxRecDepth 100000 in
theorem c_M_loaded_thr {t : Int32} {op : Int32} (ht : loTh μ ν op = t) (h : ¬ t ≤ 0) : kM l dC dI cI cZ cB cJ y_M_loaded b_M_loaded 4 (some .int) 1 21 [.ref (am 0), .int op] (wM am cI cZ μ ν ρ) (some (.int (0))) (wM am cI cZ (sS μ 0 t) ν ρ) := by
  refine jM.of (lv := [(0, .ref (am 0)), (1, .int op)]) (own := R_M) jE_loc (by decide) rfl rfl (Nat.le_of_ble_eq_true rfl) rfl ?_
  intro p e s m args below meth c A hC hr hlk
  have jn : ∀ x : Int32, x = loTh μ ν op → kJ l dC dI p e s m args below meth c A 1 21 4 (some (.int (0))) (wM am cI cZ (sS μ 0 t) ν ρ) (wM am cI cZ μ ν ρ) 86 [(3, .int (bI (isM μ ν op))), (2, .int (op &&& 127)), (0, .ref (am 0)), (1, .int op)] [.int x, .ref (am 0)] := by
    intro x hx
    obtain rfl : x = t := hx.trans ht
    refine p_M_thrown hC 89 rfl d_M_loaded_86 ?_
    refine j_aload_n hC 2 90 rfl d_M_loaded_89 rfl rfl ?_
    refine g_M_thrown hC 93 rfl d_M_loaded_90 ?_
    refine j_if_le hC 100 96 rfl d_M_loaded_93 (by decide) (fun c_93 => absurd c_93 h) (fun c_93 => ?_)
    refine j_iconst (v := 0) hC 97 rfl d_M_loaded_96 (by decide) ?_
    refine j_goto hC 106 d_M_loaded_97 (by decide) ?_
    exact j_iret hC hr hlk d_M_loaded_106 rfl rfl
  have jb : ∀ b : Bool, b = isM μ ν op → kJ l dC dI p e s m args below meth c A 1 21 4 (some (.int (0))) (wM am cI cZ (sS μ 0 t) ν ρ) (wM am cI cZ μ ν ρ) 46 [(2, .int (op &&& 127)), (0, .ref (am 0)), (1, .int op)] [.int (bI b)] := by
    intro b hb9
    subst hb9
    refine j_istore_n (lv' := [(3, _), (2, _), (0, _), (1, _)]) hC 47 rfl d_M_loaded_46 rfl (by decide) rfl ?_
    refine j_aload_n hC 2 48 rfl d_M_loaded_47 rfl rfl ?_
    refine j_aload_n hC 2 49 rfl d_M_loaded_48 rfl rfl ?_
    refine j_iload_n hC 3 50 rfl d_M_loaded_49 rfl rfl ?_
    refine j_callVi hC jE_loc jT_good (As := [_]) c_M_isOp yk_M_isOp lk_M_88 ⟨rfl, rfl⟩ ⟨Nat.le_of_ble_eq_true rfl, Nat.le_of_ble_eq_true rfl⟩ 0 rfl rfl rfl rfl (Nat.le_of_ble_eq_true rfl) ⟨Nat.zero_le _, Nat.zero_le _⟩ d_M_loaded_50 53 rfl rfl ?_
    refine j_if_ne hC 60 56 rfl d_M_loaded_53 (by decide) (fun c_53 => ?_) (fun c_53 => ?_)
    · refine j_aload_n hC 2 61 rfl d_M_loaded_60 rfl rfl ?_
      refine g_M_total hC 64 rfl d_M_loaded_61 ?_
      refine j_iconst (v := 1) hC 65 rfl d_M_loaded_64 (by decide) ?_
      refine j_isub hC 66 rfl d_M_loaded_65 ?_
      refine j_iload_n hC 3 67 rfl d_M_loaded_66 rfl rfl ?_
      refine j_isub hC 68 rfl d_M_loaded_67 ?_
      refine j_bipush (v := 64) hC 70 rfl d_M_loaded_68 (by decide) ?_
      refine j_icmp_lt hC 77 73 rfl d_M_loaded_70 (by decide) (fun c_70 => ?_) (fun c_70 => ?_)
      · refine j_iload_n hC 0 78 rfl d_M_loaded_77 rfl rfl ?_
        refine j_if_ne hC 85 81 rfl d_M_loaded_78 (by decide) (fun c_78 => ?_) (fun c_78 => ?_)
        · refine j_iconst (v := 0) hC 86 rfl d_M_loaded_85 (by decide) ?_
          exact jn _ (by simp [loTh, bI1 c_53, c_70, bI1 c_78])
        · refine j_iconst (v := 2) hC 82 rfl d_M_loaded_81 (by decide) ?_
          refine j_goto hC 86 d_M_loaded_82 (by decide) ?_
          exact jn _ (by simp [loTh, bI1 c_53, c_70, bI0 c_78])
      · refine j_iconst (v := 3) hC 74 rfl d_M_loaded_73 (by decide) ?_
        refine j_goto hC 86 d_M_loaded_74 (by decide) ?_
        exact jn _ (by simp [loTh, bI1 c_53, c_70])
    · refine j_iconst (v := 1) hC 57 rfl d_M_loaded_56 (by decide) ?_
      refine j_goto hC 86 d_M_loaded_57 (by decide) ?_
      exact jn _ (by simp [loTh, bI0 c_53])
  refine j_iload_n hC 1 1 rfl d_M_loaded_0 rfl rfl ?_
  refine j_bipush (v := 127) hC 3 rfl d_M_loaded_1 (by decide) ?_
  refine j_iand hC 4 rfl d_M_loaded_3 ?_
  refine j_istore_n (lv' := [(2, _), (0, _), (1, _)]) hC 5 rfl d_M_loaded_4 rfl (by decide) rfl ?_
  refine j_aload_n hC 1 6 rfl d_M_loaded_5 rfl rfl ?_
  refine g_M_kinds hC 9 rfl d_M_loaded_6 ?_
  refine j_iload_n hC 0 10 rfl d_M_loaded_9 rfl rfl ?_
  refine ld_M_kinds hC (ix_in _) 11 rfl d_M_loaded_10 ?_
  refine j_if_ne hC 23 14 rfl d_M_loaded_11 (by decide) (fun c_11 => ?_) (fun c_11 => ?_)
  · refine j_aload_n hC 1 24 rfl d_M_loaded_23 rfl rfl ?_
    refine g_M_kinds hC 27 rfl d_M_loaded_24 ?_
    refine j_iload_n hC 0 28 rfl d_M_loaded_27 rfl rfl ?_
    refine ld_M_kinds hC (ix_in _) 29 rfl d_M_loaded_28 ?_
    refine j_iconst (v := 3) hC 30 rfl d_M_loaded_29 (by decide) ?_
    refine j_icmp_ne hC 45 33 rfl d_M_loaded_30 (by decide) (fun c_30 => ?_) (fun c_30 => ?_)
    · refine j_iconst (v := (bI false)) hC 46 rfl d_M_loaded_45 rfl ?_
      exact jb _ (by first | (simp [isM, ix, c_11, c_30]; done) | exact absurd (c_11.symm.trans c_30) (by decide))
    · refine j_iload_n hC 2 34 rfl d_M_loaded_33 rfl rfl ?_
      refine j_aload_n hC 1 35 rfl d_M_loaded_34 rfl rfl ?_
      refine g_M_oldest hC 38 rfl d_M_loaded_35 ?_
      refine j_icmp_ge hC 45 41 rfl d_M_loaded_38 (by decide) (fun c_38 => ?_) (fun c_38 => ?_)
      · refine j_iconst (v := (bI false)) hC 46 rfl d_M_loaded_45 rfl ?_
        exact jb _ (by first | (simp [isM, ix, c_11, c_30, c_38]; done) | exact absurd (c_11.symm.trans c_30) (by decide))
      · refine j_iconst (v := (bI true)) hC 42 rfl d_M_loaded_41 rfl ?_
        refine j_goto hC 46 d_M_loaded_42 (by decide) ?_
        exact jb _ (by first | (simp [isM, ix, c_11, c_30, c_38]; done) | exact absurd (c_11.symm.trans c_30) (by decide))
  · refine j_aload_n hC 1 15 rfl d_M_loaded_14 rfl rfl ?_
    refine g_M_done hC 18 rfl d_M_loaded_15 ?_
    refine j_iload_n hC 0 19 rfl d_M_loaded_18 rfl rfl ?_
    refine ld_M_done hC (ix_in _) 20 rfl d_M_loaded_19 ?_
    refine j_if_ne hC 41 23 rfl d_M_loaded_20 (by decide) (fun c_20 => ?_) (fun c_20 => ?_)
    · refine j_iconst (v := (bI true)) hC 42 rfl d_M_loaded_41 rfl ?_
      refine j_goto hC 46 d_M_loaded_42 (by decide) ?_
      exact jb _ (by first | (simp [isM, ix, c_11, bI1 c_20]; done) | exact absurd (c_11.symm.trans c_30) (by decide))
    · refine j_aload_n hC 1 24 rfl d_M_loaded_23 rfl rfl ?_
      refine g_M_kinds hC 27 rfl d_M_loaded_24 ?_
      refine j_iload_n hC 0 28 rfl d_M_loaded_27 rfl rfl ?_
      refine ld_M_kinds hC (ix_in _) 29 rfl d_M_loaded_28 ?_
      refine j_iconst (v := 3) hC 30 rfl d_M_loaded_29 (by decide) ?_
      refine j_icmp_ne hC 45 33 rfl d_M_loaded_30 (by decide) (fun c_30 => ?_) (fun c_30 => ?_)
      · refine j_iconst (v := (bI false)) hC 46 rfl d_M_loaded_45 rfl ?_
        exact jb _ (by first | (simp [isM, ix, c_11, bI0 c_20, c_30]; done) | exact absurd (c_11.symm.trans c_30) (by decide))
      · refine j_iload_n hC 2 34 rfl d_M_loaded_33 rfl rfl ?_
        refine j_aload_n hC 1 35 rfl d_M_loaded_34 rfl rfl ?_
        refine g_M_oldest hC 38 rfl d_M_loaded_35 ?_
        refine j_icmp_ge hC 45 41 rfl d_M_loaded_38 (by decide) (fun c_38 => ?_) (fun c_38 => ?_)
        · refine j_iconst (v := (bI false)) hC 46 rfl d_M_loaded_45 rfl ?_
          exact jb _ (by first | (simp [isM, ix, c_11, bI0 c_20, c_30, c_38]; done) | exact absurd (c_11.symm.trans c_30) (by decide))
        · refine j_iconst (v := (bI true)) hC 42 rfl d_M_loaded_41 rfl ?_
          refine j_goto hC 46 d_M_loaded_42 (by decide) ?_
          exact jb _ (by first | (simp [isM, ix, c_11, bI0 c_20, c_30, c_38]; done) | exact absurd (c_11.symm.trans c_30) (by decide))
set_option maxHeartbeats 4000000 in
set_option maxRecDepth 100000 in
theorem c_M_loaded_ok {op : Int32} (ht : loTh μ ν op = 0)  : kM l dC dI cI cZ cB cJ y_M_loaded b_M_loaded 4 (some .int) 1 21 [.ref (am 0), .int op] (wM am cI cZ μ ν ρ) (some (.int (μ 17 (ix op)))) (wM am cI cZ (sS μ 0 0) ν ρ) := by
  refine jM.of (lv := [(0, .ref (am 0)), (1, .int op)]) (own := R_M) jE_loc (by decide) rfl rfl (Nat.le_of_ble_eq_true rfl) rfl ?_
  intro p e s m args below meth c A hC hr hlk
  have jn : ∀ x : Int32, x = loTh μ ν op → kJ l dC dI p e s m args below meth c A 1 21 4 (some (.int (μ 17 (ix op)))) (wM am cI cZ (sS μ 0 0) ν ρ) (wM am cI cZ μ ν ρ) 86 [(3, .int (bI (isM μ ν op))), (2, .int (op &&& 127)), (0, .ref (am 0)), (1, .int op)] [.int x, .ref (am 0)] := by
    intro x hx
    obtain rfl : x = 0 := hx.trans ht
    refine p_M_thrown hC 89 rfl d_M_loaded_86 ?_
    refine j_aload_n hC 2 90 rfl d_M_loaded_89 rfl rfl ?_
    refine g_M_thrown hC 93 rfl d_M_loaded_90 ?_
    refine j_if_le hC 100 96 rfl d_M_loaded_93 (by decide) (fun c_93 => ?_) (fun c_93 => absurd c_93 (fun q => q (Int32.le_refl 0)))
    refine j_aload_n hC 2 101 rfl d_M_loaded_100 rfl rfl ?_
    refine g_M_results hC 104 rfl d_M_loaded_101 ?_
    refine j_iload_n hC 1 105 rfl d_M_loaded_104 rfl rfl ?_
    refine ld_M_results hC (ix_in _) 106 rfl d_M_loaded_105 ?_
    exact j_iret hC hr hlk d_M_loaded_106 rfl rfl
  have jb : ∀ b : Bool, b = isM μ ν op → kJ l dC dI p e s m args below meth c A 1 21 4 (some (.int (μ 17 (ix op)))) (wM am cI cZ (sS μ 0 0) ν ρ) (wM am cI cZ μ ν ρ) 46 [(2, .int (op &&& 127)), (0, .ref (am 0)), (1, .int op)] [.int (bI b)] := by
    intro b hb9
    subst hb9
    refine j_istore_n (lv' := [(3, _), (2, _), (0, _), (1, _)]) hC 47 rfl d_M_loaded_46 rfl (by decide) rfl ?_
    refine j_aload_n hC 2 48 rfl d_M_loaded_47 rfl rfl ?_
    refine j_aload_n hC 2 49 rfl d_M_loaded_48 rfl rfl ?_
    refine j_iload_n hC 3 50 rfl d_M_loaded_49 rfl rfl ?_
    refine j_callVi hC jE_loc jT_good (As := [_]) c_M_isOp yk_M_isOp lk_M_88 ⟨rfl, rfl⟩ ⟨Nat.le_of_ble_eq_true rfl, Nat.le_of_ble_eq_true rfl⟩ 0 rfl rfl rfl rfl (Nat.le_of_ble_eq_true rfl) ⟨Nat.zero_le _, Nat.zero_le _⟩ d_M_loaded_50 53 rfl rfl ?_
    refine j_if_ne hC 60 56 rfl d_M_loaded_53 (by decide) (fun c_53 => ?_) (fun c_53 => ?_)
    · refine j_aload_n hC 2 61 rfl d_M_loaded_60 rfl rfl ?_
      refine g_M_total hC 64 rfl d_M_loaded_61 ?_
      refine j_iconst (v := 1) hC 65 rfl d_M_loaded_64 (by decide) ?_
      refine j_isub hC 66 rfl d_M_loaded_65 ?_
      refine j_iload_n hC 3 67 rfl d_M_loaded_66 rfl rfl ?_
      refine j_isub hC 68 rfl d_M_loaded_67 ?_
      refine j_bipush (v := 64) hC 70 rfl d_M_loaded_68 (by decide) ?_
      refine j_icmp_lt hC 77 73 rfl d_M_loaded_70 (by decide) (fun c_70 => ?_) (fun c_70 => ?_)
      · refine j_iload_n hC 0 78 rfl d_M_loaded_77 rfl rfl ?_
        refine j_if_ne hC 85 81 rfl d_M_loaded_78 (by decide) (fun c_78 => ?_) (fun c_78 => ?_)
        · refine j_iconst (v := 0) hC 86 rfl d_M_loaded_85 (by decide) ?_
          exact jn _ (by simp [loTh, bI1 c_53, c_70, bI1 c_78])
        · refine j_iconst (v := 2) hC 82 rfl d_M_loaded_81 (by decide) ?_
          refine j_goto hC 86 d_M_loaded_82 (by decide) ?_
          exact jn _ (by simp [loTh, bI1 c_53, c_70, bI0 c_78])
      · refine j_iconst (v := 3) hC 74 rfl d_M_loaded_73 (by decide) ?_
        refine j_goto hC 86 d_M_loaded_74 (by decide) ?_
        exact jn _ (by simp [loTh, bI1 c_53, c_70])
    · refine j_iconst (v := 1) hC 57 rfl d_M_loaded_56 (by decide) ?_
      refine j_goto hC 86 d_M_loaded_57 (by decide) ?_
      exact jn _ (by simp [loTh, bI0 c_53])
  refine j_iload_n hC 1 1 rfl d_M_loaded_0 rfl rfl ?_
  refine j_bipush (v := 127) hC 3 rfl d_M_loaded_1 (by decide) ?_
  refine j_iand hC 4 rfl d_M_loaded_3 ?_
  refine j_istore_n (lv' := [(2, _), (0, _), (1, _)]) hC 5 rfl d_M_loaded_4 rfl (by decide) rfl ?_
  refine j_aload_n hC 1 6 rfl d_M_loaded_5 rfl rfl ?_
  refine g_M_kinds hC 9 rfl d_M_loaded_6 ?_
  refine j_iload_n hC 0 10 rfl d_M_loaded_9 rfl rfl ?_
  refine ld_M_kinds hC (ix_in _) 11 rfl d_M_loaded_10 ?_
  refine j_if_ne hC 23 14 rfl d_M_loaded_11 (by decide) (fun c_11 => ?_) (fun c_11 => ?_)
  · refine j_aload_n hC 1 24 rfl d_M_loaded_23 rfl rfl ?_
    refine g_M_kinds hC 27 rfl d_M_loaded_24 ?_
    refine j_iload_n hC 0 28 rfl d_M_loaded_27 rfl rfl ?_
    refine ld_M_kinds hC (ix_in _) 29 rfl d_M_loaded_28 ?_
    refine j_iconst (v := 3) hC 30 rfl d_M_loaded_29 (by decide) ?_
    refine j_icmp_ne hC 45 33 rfl d_M_loaded_30 (by decide) (fun c_30 => ?_) (fun c_30 => ?_)
    · refine j_iconst (v := (bI false)) hC 46 rfl d_M_loaded_45 rfl ?_
      exact jb _ (by first | (simp [isM, ix, c_11, c_30]; done) | exact absurd (c_11.symm.trans c_30) (by decide))
    · refine j_iload_n hC 2 34 rfl d_M_loaded_33 rfl rfl ?_
      refine j_aload_n hC 1 35 rfl d_M_loaded_34 rfl rfl ?_
      refine g_M_oldest hC 38 rfl d_M_loaded_35 ?_
      refine j_icmp_ge hC 45 41 rfl d_M_loaded_38 (by decide) (fun c_38 => ?_) (fun c_38 => ?_)
      · refine j_iconst (v := (bI false)) hC 46 rfl d_M_loaded_45 rfl ?_
        exact jb _ (by first | (simp [isM, ix, c_11, c_30, c_38]; done) | exact absurd (c_11.symm.trans c_30) (by decide))
      · refine j_iconst (v := (bI true)) hC 42 rfl d_M_loaded_41 rfl ?_
        refine j_goto hC 46 d_M_loaded_42 (by decide) ?_
        exact jb _ (by first | (simp [isM, ix, c_11, c_30, c_38]; done) | exact absurd (c_11.symm.trans c_30) (by decide))
  · refine j_aload_n hC 1 15 rfl d_M_loaded_14 rfl rfl ?_
    refine g_M_done hC 18 rfl d_M_loaded_15 ?_
    refine j_iload_n hC 0 19 rfl d_M_loaded_18 rfl rfl ?_
    refine ld_M_done hC (ix_in _) 20 rfl d_M_loaded_19 ?_
    refine j_if_ne hC 41 23 rfl d_M_loaded_20 (by decide) (fun c_20 => ?_) (fun c_20 => ?_)
    · refine j_iconst (v := (bI true)) hC 42 rfl d_M_loaded_41 rfl ?_
      refine j_goto hC 46 d_M_loaded_42 (by decide) ?_
      exact jb _ (by first | (simp [isM, ix, c_11, bI1 c_20]; done) | exact absurd (c_11.symm.trans c_30) (by decide))
    · refine j_aload_n hC 1 24 rfl d_M_loaded_23 rfl rfl ?_
      refine g_M_kinds hC 27 rfl d_M_loaded_24 ?_
      refine j_iload_n hC 0 28 rfl d_M_loaded_27 rfl rfl ?_
      refine ld_M_kinds hC (ix_in _) 29 rfl d_M_loaded_28 ?_
      refine j_iconst (v := 3) hC 30 rfl d_M_loaded_29 (by decide) ?_
      refine j_icmp_ne hC 45 33 rfl d_M_loaded_30 (by decide) (fun c_30 => ?_) (fun c_30 => ?_)
      · refine j_iconst (v := (bI false)) hC 46 rfl d_M_loaded_45 rfl ?_
        exact jb _ (by first | (simp [isM, ix, c_11, bI0 c_20, c_30]; done) | exact absurd (c_11.symm.trans c_30) (by decide))
      · refine j_iload_n hC 2 34 rfl d_M_loaded_33 rfl rfl ?_
        refine j_aload_n hC 1 35 rfl d_M_loaded_34 rfl rfl ?_
        refine g_M_oldest hC 38 rfl d_M_loaded_35 ?_
        refine j_icmp_ge hC 45 41 rfl d_M_loaded_38 (by decide) (fun c_38 => ?_) (fun c_38 => ?_)
        · refine j_iconst (v := (bI false)) hC 46 rfl d_M_loaded_45 rfl ?_
          exact jb _ (by first | (simp [isM, ix, c_11, bI0 c_20, c_30, c_38]; done) | exact absurd (c_11.symm.trans c_30) (by decide))
        · refine j_iconst (v := (bI true)) hC 42 rfl d_M_loaded_41 rfl ?_
          refine j_goto hC 46 d_M_loaded_42 (by decide) ?_
          exact jb _ (by first | (simp [isM, ix, c_11, bI0 c_20, c_30, c_38]; done) | exact absurd (c_11.symm.trans c_30) (by decide))
set_option maxHeartbeats 4000000 in
set_option maxRecDepth 100000 in
theorem c_M_source_thr {t : Int32} {op k : Int32} (ht : srTh μ ν op k = t) (h : ¬ t ≤ 0) : kM l dC dI cI cZ cB cJ y_M_source b_M_source 4 (some .int) 1 21 [.ref (am 0), .int op, .int k] (wM am cI cZ μ ν ρ) (some (.int (0))) (wM am cI cZ (sS μ 0 t) ν ρ) := by
  refine jM.of (lv := [(0, .ref (am 0)), (1, .int op), (2, .int k)]) (own := R_M) jE_loc (by decide) rfl rfl (Nat.le_of_ble_eq_true rfl) rfl ?_
  intro p e s m args below meth c A hC hr hlk
  have jn : ∀ x : Int32, x = srTh μ ν op k → kJ l dC dI p e s m args below meth c A 1 21 4 (some (.int (0))) (wM am cI cZ (sS μ 0 t) ν ρ) (wM am cI cZ μ ν ρ) 57 [(3, .int (op &&& 127)), (0, .ref (am 0)), (1, .int op), (2, .int k)] [.int x, .ref (am 0)] := by
    intro x hx
    obtain rfl : x = t := hx.trans ht
    refine p_M_thrown hC 60 rfl d_M_source_57 ?_
    refine j_aload_n hC 1 61 rfl d_M_source_60 rfl rfl ?_
    refine g_M_thrown hC 64 rfl d_M_source_61 ?_
    refine j_if_le hC 69 67 rfl d_M_source_64 (by decide) (fun c_64 => absurd c_64 h) (fun c_64 => ?_)
    refine j_iconst (v := 0) hC 68 rfl d_M_source_67 (by decide) ?_
    exact j_iret hC hr hlk d_M_source_68 rfl rfl
  refine j_iload_n hC 1 1 rfl d_M_source_0 rfl rfl ?_
  refine j_bipush (v := 127) hC 3 rfl d_M_source_1 (by decide) ?_
  refine j_iand hC 4 rfl d_M_source_3 ?_
  refine j_istore_n (lv' := [(3, _), (0, _), (1, _), (2, _)]) hC 5 rfl d_M_source_4 rfl (by decide) rfl ?_
  refine j_aload_n hC 1 6 rfl d_M_source_5 rfl rfl ?_
  refine j_aload_n hC 1 7 rfl d_M_source_6 rfl rfl ?_
  refine j_iload_n hC 2 8 rfl d_M_source_7 rfl rfl ?_
  refine j_callVi hC jE_loc jT_good (As := [_]) c_M_isOp yk_M_isOp lk_M_88 ⟨rfl, rfl⟩ ⟨Nat.le_of_ble_eq_true rfl, Nat.le_of_ble_eq_true rfl⟩ 0 rfl rfl rfl rfl (Nat.le_of_ble_eq_true rfl) ⟨Nat.zero_le _, Nat.zero_le _⟩ d_M_source_8 11 rfl rfl ?_
  refine j_if_ne hC 18 14 rfl d_M_source_11 (by decide) (fun c_11 => ?_) (fun c_11 => ?_)
  · refine j_aload_n hC 1 19 rfl d_M_source_18 rfl rfl ?_
    refine j_iload_n hC 2 20 rfl d_M_source_19 rfl rfl ?_
    refine j_callVi hC jE_loc jT_good (As := [_]) c_M_waits yk_M_waits lk_M_84 ⟨rfl, rfl⟩ ⟨Nat.le_of_ble_eq_true rfl, Nat.le_of_ble_eq_true rfl⟩ 0 rfl rfl rfl rfl (Nat.le_of_ble_eq_true rfl) ⟨Nat.zero_le _, Nat.zero_le _⟩ d_M_source_20 23 rfl rfl ?_
    refine j_if_eq hC 34 26 rfl d_M_source_23 (by decide) (fun c_23 => ?_) (fun c_23 => ?_)
    · refine j_iconst (v := 2) hC 35 rfl d_M_source_34 (by decide) ?_
      refine j_goto hC 57 d_M_source_35 (by decide) ?_
      exact jn _ (by simp [srTh, ix, bI1 c_11, bI0 c_23])
    · refine j_aload_n hC 1 27 rfl d_M_source_26 rfl rfl ?_
      refine j_iload_n hC 2 28 rfl d_M_source_27 rfl rfl ?_
      refine j_callVi hC jE_loc jT_good (As := [_]) c_M_isDone yk_M_isDone lk_M_94 ⟨rfl, rfl⟩ ⟨Nat.le_of_ble_eq_true rfl, Nat.le_of_ble_eq_true rfl⟩ 0 rfl rfl rfl rfl (Nat.le_of_ble_eq_true rfl) ⟨Nat.zero_le _, Nat.zero_le _⟩ d_M_source_28 31 rfl rfl ?_
      refine j_if_ne hC 38 34 rfl d_M_source_31 (by decide) (fun c_31 => ?_) (fun c_31 => ?_)
      · refine j_iload_n hC 3 39 rfl d_M_source_38 rfl rfl ?_
        refine j_if_lt hC 52 42 rfl d_M_source_39 (by decide) (fun c_39 => ?_) (fun c_39 => ?_)
        · refine j_iconst (v := 3) hC 53 rfl d_M_source_52 (by decide) ?_
          refine j_goto hC 57 d_M_source_53 (by decide) ?_
          exact jn _ (by simp [srTh, ix, bI1 c_11, bI1 c_23, bI1 c_31, c_39])
        · refine j_iload_n hC 3 43 rfl d_M_source_42 rfl rfl ?_
          refine j_aload_n hC 1 44 rfl d_M_source_43 rfl rfl ?_
          refine g_M_sizes hC 47 rfl d_M_source_44 ?_
          refine j_iload_n hC 0 48 rfl d_M_source_47 rfl rfl ?_
          refine ld_M_sizes hC (ix_in _) 49 rfl d_M_source_48 ?_
          refine j_icmp_lt hC 56 52 rfl d_M_source_49 (by decide) (fun c_49 => ?_) (fun c_49 => ?_)
          · refine j_iconst (v := 0) hC 57 rfl d_M_source_56 (by decide) ?_
            exact jn _ (by simp [srTh, ix, bI1 c_11, bI1 c_23, bI1 c_31, c_39, c_49])
          · refine j_iconst (v := 3) hC 53 rfl d_M_source_52 (by decide) ?_
            refine j_goto hC 57 d_M_source_53 (by decide) ?_
            exact jn _ (by simp [srTh, ix, bI1 c_11, bI1 c_23, bI1 c_31, c_39, c_49])
      · refine j_iconst (v := 2) hC 35 rfl d_M_source_34 (by decide) ?_
        refine j_goto hC 57 d_M_source_35 (by decide) ?_
        exact jn _ (by simp [srTh, ix, bI1 c_11, bI1 c_23, bI0 c_31])
  · refine j_iconst (v := 1) hC 15 rfl d_M_source_14 (by decide) ?_
    refine j_goto hC 57 d_M_source_15 (by decide) ?_
    exact jn _ (by simp [srTh, ix, bI0 c_11])
set_option maxHeartbeats 4000000 in
set_option maxRecDepth 100000 in
theorem c_M_source_ok {op k : Int32} (ht : srTh μ ν op k = 0) (hz : ∀ i, μ 13 i ≤ 4) (hk : 0 ≤ k) (hk2 : ¬ μ 13 (ix op) ≤ k) : kM l dC dI cI cZ cB cJ y_M_source b_M_source 4 (some .int) 1 21 [.ref (am 0), .int op, .int k] (wM am cI cZ μ ν ρ) (some (.int (if μ 20 (4 * (op &&& 127) + k).toNatClampNeg < 0 then -1 else μ 20 (4 * (op &&& 127) + k).toNatClampNeg))) (wM am cI cZ (sS μ 0 0) ν ρ) := by
  refine jM.of (lv := [(0, .ref (am 0)), (1, .int op), (2, .int k)]) (own := R_M) jE_loc (by decide) rfl rfl (Nat.le_of_ble_eq_true rfl) rfl ?_
  intro p e s m args below meth c A hC hr hlk
  have jn : ∀ x : Int32, x = srTh μ ν op k → kJ l dC dI p e s m args below meth c A 1 21 4 (some (.int (if μ 20 (4 * (op &&& 127) + k).toNatClampNeg < 0 then -1 else μ 20 (4 * (op &&& 127) + k).toNatClampNeg))) (wM am cI cZ (sS μ 0 0) ν ρ) (wM am cI cZ μ ν ρ) 57 [(3, .int (op &&& 127)), (0, .ref (am 0)), (1, .int op), (2, .int k)] [.int x, .ref (am 0)] := by
    intro x hx
    obtain rfl : x = 0 := hx.trans ht
    refine p_M_thrown hC 60 rfl d_M_source_57 ?_
    refine j_aload_n hC 1 61 rfl d_M_source_60 rfl rfl ?_
    refine g_M_thrown hC 64 rfl d_M_source_61 ?_
    refine j_if_le hC 69 67 rfl d_M_source_64 (by decide) (fun c_64 => ?_) (fun c_64 => absurd c_64 (fun q => q (Int32.le_refl 0)))
    refine j_aload_n hC 1 70 rfl d_M_source_69 rfl rfl ?_
    refine g_M_from hC 73 rfl d_M_source_70 ?_
    refine j_iconst (v := 4) hC 74 rfl d_M_source_73 (by decide) ?_
    refine j_iload_n hC 0 75 rfl d_M_source_74 rfl rfl ?_
    refine j_imul hC 76 rfl d_M_source_75 ?_
    refine j_iload_n hC 3 77 rfl d_M_source_76 rfl rfl ?_
    refine j_iadd hC 78 rfl d_M_source_77 ?_
    refine ld_M_from hC (fr_in hk hk2 (hz _)) 79 rfl d_M_source_78 ?_
    refine j_if_lt hC 95 82 rfl d_M_source_79 (by decide) (fun c_79 => ?_) (fun c_79 => ?_)
    · refine j_iconst (v := (-1)) hC 96 rfl d_M_source_95 (by decide) ?_
      exact j_iret hC hr hlk d_M_source_96 (by first | exact (if_pos (c := μ 20 (4 * (op &&& 127) + k).toNatClampNeg < 0) c_79).symm | exact (if_neg (c := μ 20 (4 * (op &&& 127) + k).toNatClampNeg < 0) c_79).symm) rfl
    · refine j_aload_n hC 1 83 rfl d_M_source_82 rfl rfl ?_
      refine g_M_from hC 86 rfl d_M_source_83 ?_
      refine j_iconst (v := 4) hC 87 rfl d_M_source_86 (by decide) ?_
      refine j_iload_n hC 0 88 rfl d_M_source_87 rfl rfl ?_
      refine j_imul hC 89 rfl d_M_source_88 ?_
      refine j_iload_n hC 3 90 rfl d_M_source_89 rfl rfl ?_
      refine j_iadd hC 91 rfl d_M_source_90 ?_
      refine ld_M_from hC (fr_in hk hk2 (hz _)) 92 rfl d_M_source_91 ?_
      refine j_goto hC 96 d_M_source_92 (by decide) ?_
      exact j_iret hC hr hlk d_M_source_96 (by first | exact (if_pos (c := μ 20 (4 * (op &&& 127) + k).toNatClampNeg < 0) c_79).symm | exact (if_neg (c := μ 20 (4 * (op &&& 127) + k).toNatClampNeg < 0) c_79).symm) rfl
  refine j_iload_n hC 1 1 rfl d_M_source_0 rfl rfl ?_
  refine j_bipush (v := 127) hC 3 rfl d_M_source_1 (by decide) ?_
  refine j_iand hC 4 rfl d_M_source_3 ?_
  refine j_istore_n (lv' := [(3, _), (0, _), (1, _), (2, _)]) hC 5 rfl d_M_source_4 rfl (by decide) rfl ?_
  refine j_aload_n hC 1 6 rfl d_M_source_5 rfl rfl ?_
  refine j_aload_n hC 1 7 rfl d_M_source_6 rfl rfl ?_
  refine j_iload_n hC 2 8 rfl d_M_source_7 rfl rfl ?_
  refine j_callVi hC jE_loc jT_good (As := [_]) c_M_isOp yk_M_isOp lk_M_88 ⟨rfl, rfl⟩ ⟨Nat.le_of_ble_eq_true rfl, Nat.le_of_ble_eq_true rfl⟩ 0 rfl rfl rfl rfl (Nat.le_of_ble_eq_true rfl) ⟨Nat.zero_le _, Nat.zero_le _⟩ d_M_source_8 11 rfl rfl ?_
  refine j_if_ne hC 18 14 rfl d_M_source_11 (by decide) (fun c_11 => ?_) (fun c_11 => ?_)
  · refine j_aload_n hC 1 19 rfl d_M_source_18 rfl rfl ?_
    refine j_iload_n hC 2 20 rfl d_M_source_19 rfl rfl ?_
    refine j_callVi hC jE_loc jT_good (As := [_]) c_M_waits yk_M_waits lk_M_84 ⟨rfl, rfl⟩ ⟨Nat.le_of_ble_eq_true rfl, Nat.le_of_ble_eq_true rfl⟩ 0 rfl rfl rfl rfl (Nat.le_of_ble_eq_true rfl) ⟨Nat.zero_le _, Nat.zero_le _⟩ d_M_source_20 23 rfl rfl ?_
    refine j_if_eq hC 34 26 rfl d_M_source_23 (by decide) (fun c_23 => ?_) (fun c_23 => ?_)
    · refine j_iconst (v := 2) hC 35 rfl d_M_source_34 (by decide) ?_
      refine j_goto hC 57 d_M_source_35 (by decide) ?_
      exact jn _ (by simp [srTh, ix, bI1 c_11, bI0 c_23])
    · refine j_aload_n hC 1 27 rfl d_M_source_26 rfl rfl ?_
      refine j_iload_n hC 2 28 rfl d_M_source_27 rfl rfl ?_
      refine j_callVi hC jE_loc jT_good (As := [_]) c_M_isDone yk_M_isDone lk_M_94 ⟨rfl, rfl⟩ ⟨Nat.le_of_ble_eq_true rfl, Nat.le_of_ble_eq_true rfl⟩ 0 rfl rfl rfl rfl (Nat.le_of_ble_eq_true rfl) ⟨Nat.zero_le _, Nat.zero_le _⟩ d_M_source_28 31 rfl rfl ?_
      refine j_if_ne hC 38 34 rfl d_M_source_31 (by decide) (fun c_31 => ?_) (fun c_31 => ?_)
      · refine j_iload_n hC 3 39 rfl d_M_source_38 rfl rfl ?_
        refine j_if_lt hC 52 42 rfl d_M_source_39 (by decide) (fun c_39 => ?_) (fun c_39 => ?_)
        · refine j_iconst (v := 3) hC 53 rfl d_M_source_52 (by decide) ?_
          refine j_goto hC 57 d_M_source_53 (by decide) ?_
          exact jn _ (by simp [srTh, ix, bI1 c_11, bI1 c_23, bI1 c_31, c_39])
        · refine j_iload_n hC 3 43 rfl d_M_source_42 rfl rfl ?_
          refine j_aload_n hC 1 44 rfl d_M_source_43 rfl rfl ?_
          refine g_M_sizes hC 47 rfl d_M_source_44 ?_
          refine j_iload_n hC 0 48 rfl d_M_source_47 rfl rfl ?_
          refine ld_M_sizes hC (ix_in _) 49 rfl d_M_source_48 ?_
          refine j_icmp_lt hC 56 52 rfl d_M_source_49 (by decide) (fun c_49 => ?_) (fun c_49 => ?_)
          · refine j_iconst (v := 0) hC 57 rfl d_M_source_56 (by decide) ?_
            exact jn _ (by simp [srTh, ix, bI1 c_11, bI1 c_23, bI1 c_31, c_39, c_49])
          · refine j_iconst (v := 3) hC 53 rfl d_M_source_52 (by decide) ?_
            refine j_goto hC 57 d_M_source_53 (by decide) ?_
            exact jn _ (by simp [srTh, ix, bI1 c_11, bI1 c_23, bI1 c_31, c_39, c_49])
      · refine j_iconst (v := 2) hC 35 rfl d_M_source_34 (by decide) ?_
        refine j_goto hC 57 d_M_source_35 (by decide) ?_
        exact jn _ (by simp [srTh, ix, bI1 c_11, bI1 c_23, bI0 c_31])
  · refine j_iconst (v := 1) hC 15 rfl d_M_source_14 (by decide) ?_
    refine j_goto hC 57 d_M_source_15 (by decide) ?_
    exact jn _ (by simp [srTh, ix, bI0 c_11])
set_option maxHeartbeats 4000000 in
set_option maxRecDepth 100000 in
theorem c_M_mayLeave   : kM l dC dI cI cZ cB cJ y_M_mayLeave b_M_mayLeave 2 (some .boolean) 0 0 [.ref (am 0)] (wM am cI cZ μ ν ρ) (some (.int (bI (mlM μ ν)))) (wM am cI cZ μ ν ρ) := by
  refine jM.of (lv := [(0, .ref (am 0))]) (own := R_M) jE_loc (by decide) rfl rfl (Nat.le_of_ble_eq_true rfl) rfl ?_
  intro p e s m args below meth c A hC hr hlk
  refine j_aload_n hC 0 1 rfl d_M_mayLeave_0 rfl rfl ?_
  refine g_M_oldest hC 4 rfl d_M_mayLeave_1 ?_
  refine j_bipush (v := 127) hC 6 rfl d_M_mayLeave_4 (by decide) ?_
  refine j_iand hC 7 rfl d_M_mayLeave_6 ?_
  refine j_istore_n (lv' := [(1, _), (0, _)]) hC 8 rfl d_M_mayLeave_7 rfl (by decide) rfl ?_
  refine j_aload_n hC 1 9 rfl d_M_mayLeave_8 rfl rfl ?_
  refine g_M_kinds hC 12 rfl d_M_mayLeave_9 ?_
  refine j_iload_n hC 0 13 rfl d_M_mayLeave_12 rfl rfl ?_
  refine ld_M_kinds hC (ix_in _) 14 rfl d_M_mayLeave_13 ?_
  refine j_if_ne hC 24 17 rfl d_M_mayLeave_14 (by decide) (fun c_14 => ?_) (fun c_14 => ?_)
  · refine j_aload_n hC 1 25 rfl d_M_mayLeave_24 rfl rfl ?_
    refine g_M_kinds hC 28 rfl d_M_mayLeave_25 ?_
    refine j_iload_n hC 0 29 rfl d_M_mayLeave_28 rfl rfl ?_
    refine ld_M_kinds hC (ix_in _) 30 rfl d_M_mayLeave_29 ?_
    refine j_iconst (v := 2) hC 31 rfl d_M_mayLeave_30 (by decide) ?_
    refine j_icmp_ne hC 47 34 rfl d_M_mayLeave_31 (by decide) (fun c_31 => ?_) (fun c_31 => ?_)
    · refine j_aload_n hC 1 48 rfl d_M_mayLeave_47 rfl rfl ?_
      refine g_M_places hC 51 rfl d_M_mayLeave_48 ?_
      refine j_iload_n hC 0 52 rfl d_M_mayLeave_51 rfl rfl ?_
      refine ld_M_places hC (ix_in _) 53 rfl d_M_mayLeave_52 ?_
      refine j_iconst (v := (-1)) hC 54 rfl d_M_mayLeave_53 (by decide) ?_
      refine j_icmp_eq hC 66 57 rfl d_M_mayLeave_54 (by decide) (fun c_54 => ?_) (fun c_54 => ?_)
      · refine j_iconst (v := 0) hC 67 rfl d_M_mayLeave_66 (by decide) ?_
        exact j_zret hC hr hlk d_M_mayLeave_67 (by simp [bI, mlM, ix, c_14, c_31, c_54]) rfl
      · refine j_aload_n hC 1 58 rfl d_M_mayLeave_57 rfl rfl ?_
        refine g_M_told hC 61 rfl d_M_mayLeave_58 ?_
        refine j_iload_n hC 0 62 rfl d_M_mayLeave_61 rfl rfl ?_
        refine ld_M_told hC (ix_in _) 63 rfl d_M_mayLeave_62 ?_
        refine j_if_ne hC 68 66 rfl d_M_mayLeave_63 (by decide) (fun c_63 => ?_) (fun c_63 => ?_)
        · refine j_aload_n hC 1 69 rfl d_M_mayLeave_68 rfl rfl ?_
          refine g_M_buffered hC 72 rfl d_M_mayLeave_69 ?_
          refine j_if_eq hC 105 75 rfl d_M_mayLeave_72 (by decide) (fun c_72 => ?_) (fun c_72 => ?_)
          · refine j_iconst (v := 1) hC 106 rfl d_M_mayLeave_105 (by decide) ?_
            refine j_goto hC 110 d_M_mayLeave_106 (by decide) ?_
            exact j_zret hC hr hlk d_M_mayLeave_110 (by simp [bI, mlM, ix, c_14, c_31, c_54, bI1 c_63, c_72]) rfl
          · refine j_aload_n hC 1 76 rfl d_M_mayLeave_75 rfl rfl ?_
            refine g_M_kinds hC 79 rfl d_M_mayLeave_76 ?_
            refine j_iload_n hC 0 80 rfl d_M_mayLeave_79 rfl rfl ?_
            refine ld_M_kinds hC (ix_in _) 81 rfl d_M_mayLeave_80 ?_
            refine j_iconst (v := 1) hC 82 rfl d_M_mayLeave_81 (by decide) ?_
            refine j_icmp_ne hC 109 85 rfl d_M_mayLeave_82 (by decide) (fun c_82 => ?_) (fun c_82 => ?_)
            · refine j_iconst (v := 0) hC 110 rfl d_M_mayLeave_109 (by decide) ?_
              exact j_zret hC hr hlk d_M_mayLeave_110 (by simp [bI, mlM, ix, c_14, c_31, c_54, bI1 c_63, c_72, c_82]) rfl
            · refine j_aload_n hC 1 86 rfl d_M_mayLeave_85 rfl rfl ?_
              refine g_M_places hC 89 rfl d_M_mayLeave_86 ?_
              refine j_iload_n hC 0 90 rfl d_M_mayLeave_89 rfl rfl ?_
              refine ld_M_places hC (ix_in _) 91 rfl d_M_mayLeave_90 ?_
              refine j_sipush (v := 3072) hC 94 rfl d_M_mayLeave_91 (by decide) ?_
              refine j_icmp_ge hC 109 97 rfl d_M_mayLeave_94 (by decide) (fun c_94 => ?_) (fun c_94 => ?_)
              · refine j_iconst (v := 0) hC 110 rfl d_M_mayLeave_109 (by decide) ?_
                exact j_zret hC hr hlk d_M_mayLeave_110 (by simp [bI, mlM, ix, c_14, c_31, c_54, bI1 c_63, c_72, c_82, c_94]) rfl
              · refine j_aload_n hC 1 98 rfl d_M_mayLeave_97 rfl rfl ?_
                refine g_M_buffered hC 101 rfl d_M_mayLeave_98 ?_
                refine j_iconst (v := 4) hC 102 rfl d_M_mayLeave_101 (by decide) ?_
                refine j_icmp_ge hC 109 105 rfl d_M_mayLeave_102 (by decide) (fun c_102 => ?_) (fun c_102 => ?_)
                · refine j_iconst (v := 0) hC 110 rfl d_M_mayLeave_109 (by decide) ?_
                  exact j_zret hC hr hlk d_M_mayLeave_110 (by simp [bI, mlM, ix, c_14, c_31, c_54, bI1 c_63, c_72, c_82, c_94, c_102]) rfl
                · refine j_iconst (v := 1) hC 106 rfl d_M_mayLeave_105 (by decide) ?_
                  refine j_goto hC 110 d_M_mayLeave_106 (by decide) ?_
                  exact j_zret hC hr hlk d_M_mayLeave_110 (by simp [bI, mlM, ix, c_14, c_31, c_54, bI1 c_63, c_72, c_82, c_94, c_102]) rfl
        · refine j_iconst (v := 0) hC 67 rfl d_M_mayLeave_66 (by decide) ?_
          exact j_zret hC hr hlk d_M_mayLeave_67 (by simp [bI, mlM, ix, c_14, c_31, c_54, bI0 c_63]) rfl
    · refine j_aload_n hC 1 35 rfl d_M_mayLeave_34 rfl rfl ?_
      refine g_M_buffered hC 38 rfl d_M_mayLeave_35 ?_
      refine j_if_ne hC 45 41 rfl d_M_mayLeave_38 (by decide) (fun c_38 => ?_) (fun c_38 => ?_)
      · refine j_iconst (v := 0) hC 46 rfl d_M_mayLeave_45 (by decide) ?_
        exact j_zret hC hr hlk d_M_mayLeave_46 (by simp [bI, mlM, ix, c_14, c_31, c_38]) rfl
      · refine j_iconst (v := 1) hC 42 rfl d_M_mayLeave_41 (by decide) ?_
        refine j_goto hC 46 d_M_mayLeave_42 (by decide) ?_
        exact j_zret hC hr hlk d_M_mayLeave_46 (by simp [bI, mlM, ix, c_14, c_31, c_38]) rfl
  · refine j_aload_n hC 1 18 rfl d_M_mayLeave_17 rfl rfl ?_
    refine g_M_done hC 21 rfl d_M_mayLeave_18 ?_
    refine j_iload_n hC 0 22 rfl d_M_mayLeave_21 rfl rfl ?_
    refine ld_M_done hC (ix_in _) 23 rfl d_M_mayLeave_22 ?_
    exact j_zret hC hr hlk d_M_mayLeave_23 (by rw [mlM, if_pos (c := μ 12 (ix (μ 2 0)) = 0) c_14] <;> rfl) rfl
set_option maxHeartbeats 4000000 in
set_option maxRecDepth 100000 in
theorem c_M_intoBuffer {op : Int32} (hb : vp_in (μ 7 0) 4) : kM l dC dI cI cZ cB cJ y_M_intoBuffer b_M_intoBuffer 3 none 0 0 [.ref (am 0), .int op] (wM am cI cZ μ ν ρ) none (wM am cI cZ (ibS μ op) ν ρ) := by
  refine jM.of (lv := [(0, .ref (am 0)), (1, .int op)]) (own := R_M) jE_loc (by decide) rfl rfl (Nat.le_of_ble_eq_true rfl) rfl ?_
  intro p e s m args below meth c A hC hr hlk
  refine j_iload_n hC 1 1 rfl d_M_intoBuffer_0 rfl rfl ?_
  refine j_bipush (v := 127) hC 3 rfl d_M_intoBuffer_1 (by decide) ?_
  refine j_iand hC 4 rfl d_M_intoBuffer_3 ?_
  refine j_istore_n (lv' := [(2, _), (0, _), (1, _)]) hC 5 rfl d_M_intoBuffer_4 rfl (by decide) rfl ?_
  refine j_aload_n hC 1 6 rfl d_M_intoBuffer_5 rfl rfl ?_
  refine g_M_waiting hC 9 rfl d_M_intoBuffer_6 ?_
  refine j_aload_n hC 1 10 rfl d_M_intoBuffer_9 rfl rfl ?_
  refine g_M_buffered hC 13 rfl d_M_intoBuffer_10 ?_
  refine j_iload_n hC 2 14 rfl d_M_intoBuffer_13 rfl rfl ?_
  refine st_M_waiting hC hb 15 rfl d_M_intoBuffer_14 ?_
  refine j_aload_n hC 1 16 rfl d_M_intoBuffer_15 rfl rfl ?_
  refine g_M_waitPlace hC 19 rfl d_M_intoBuffer_16 ?_
  refine j_aload_n hC 1 20 rfl d_M_intoBuffer_19 rfl rfl ?_
  refine g_M_buffered hC 23 rfl d_M_intoBuffer_20 ?_
  refine j_aload_n hC 1 24 rfl d_M_intoBuffer_23 rfl rfl ?_
  refine g_M_places hC 27 rfl d_M_intoBuffer_24 ?_
  refine j_iload_n hC 0 28 rfl d_M_intoBuffer_27 rfl rfl ?_
  refine ld_M_places hC (ix_in _) 29 rfl d_M_intoBuffer_28 ?_
  refine st_M_waitPlace hC hb 30 rfl d_M_intoBuffer_29 ?_
  refine j_aload_n hC 1 31 rfl d_M_intoBuffer_30 rfl rfl ?_
  refine g_M_waitSize hC 34 rfl d_M_intoBuffer_31 ?_
  refine j_aload_n hC 1 35 rfl d_M_intoBuffer_34 rfl rfl ?_
  refine g_M_buffered hC 38 rfl d_M_intoBuffer_35 ?_
  refine j_aload_n hC 1 39 rfl d_M_intoBuffer_38 rfl rfl ?_
  refine g_M_sizes hC 42 rfl d_M_intoBuffer_39 ?_
  refine j_iload_n hC 0 43 rfl d_M_intoBuffer_42 rfl rfl ?_
  refine ld_M_sizes hC (ix_in _) 44 rfl d_M_intoBuffer_43 ?_
  refine st_M_waitSize hC hb 45 rfl d_M_intoBuffer_44 ?_
  refine j_aload_n hC 1 46 rfl d_M_intoBuffer_45 rfl rfl ?_
  refine g_M_waitValue hC 49 rfl d_M_intoBuffer_46 ?_
  refine j_aload_n hC 1 50 rfl d_M_intoBuffer_49 rfl rfl ?_
  refine g_M_buffered hC 53 rfl d_M_intoBuffer_50 ?_
  refine j_aload_n hC 1 54 rfl d_M_intoBuffer_53 rfl rfl ?_
  refine g_M_values hC 57 rfl d_M_intoBuffer_54 ?_
  refine j_iload_n hC 0 58 rfl d_M_intoBuffer_57 rfl rfl ?_
  refine ld_M_values hC (ix_in _) 59 rfl d_M_intoBuffer_58 ?_
  refine st_M_waitValue hC hb 60 rfl d_M_intoBuffer_59 ?_
  refine j_aload_n hC 1 61 rfl d_M_intoBuffer_60 rfl rfl ?_
  refine j_dup hC 62 rfl d_M_intoBuffer_61 rfl ?_
  refine g_M_buffered hC 65 rfl d_M_intoBuffer_62 ?_
  refine j_iconst (v := 1) hC 66 rfl d_M_intoBuffer_65 (by decide) ?_
  refine j_iadd hC 67 rfl d_M_intoBuffer_66 ?_
  refine p_M_buffered hC 70 rfl d_M_intoBuffer_67 ?_
  exact j_vret hC hr hlk d_M_intoBuffer_70 rfl
set_option maxHeartbeats 4000000 in
set_option maxRecDepth 100000 in
theorem c_M_tookFromMemory {op at0 : Int32} (hz : ∀ i, μ 13 i ≤ 4) : kM l dC dI cI cZ cB cJ y_M_tookFromMemory b_M_tookFromMemory 5 (some .boolean) 1 21 [.ref (am 0), .int op, .int at0] (wM am cI cZ μ ν ρ) (some (.int (bI (tfM μ ν op at0)))) (wM am cI cZ μ ν ρ) := by
  refine jM.of (lv := [(0, .ref (am 0)), (1, .int op), (2, .int at0)]) (own := R_M) jE_loc (by decide) rfl rfl (Nat.le_of_ble_eq_true rfl) rfl ?_
  intro p e s m args below meth c A hC hr hlk
  refine j_iload_n hC 1 1 rfl d_M_tookFromMemory_0 rfl rfl ?_
  refine j_bipush (v := 127) hC 3 rfl d_M_tookFromMemory_1 (by decide) ?_
  refine j_iand hC 4 rfl d_M_tookFromMemory_3 ?_
  refine j_istore_n (lv' := [(3, _), (0, _), (1, _), (2, _)]) hC 5 rfl d_M_tookFromMemory_4 rfl (by decide) rfl ?_
  refine j_iload_n hC 3 6 rfl d_M_tookFromMemory_5 rfl rfl ?_
  refine j_aload_n hC 1 7 rfl d_M_tookFromMemory_6 rfl rfl ?_
  refine g_M_places hC 10 rfl d_M_tookFromMemory_7 ?_
  refine j_iload_n hC 0 11 rfl d_M_tookFromMemory_10 rfl rfl ?_
  refine ld_M_places hC (ix_in _) 12 rfl d_M_tookFromMemory_11 ?_
  refine j_isub hC 13 rfl d_M_tookFromMemory_12 ?_
  refine j_istore (lv' := [(4, _), (3, _), (0, _), (1, _), (2, _)]) hC 15 rfl d_M_tookFromMemory_13 (by decide) rfl ?_
  refine j_aload_n hC 2 16 rfl d_M_tookFromMemory_15 rfl rfl ?_
  refine j_iload_n hC 3 17 rfl d_M_tookFromMemory_16 rfl rfl ?_
  refine j_callVi hC jE_loc jT_good (As := [_]) c_M_isDone yk_M_isDone lk_M_94 ⟨rfl, rfl⟩ ⟨Nat.le_of_ble_eq_true rfl, Nat.le_of_ble_eq_true rfl⟩ 0 rfl rfl rfl rfl (Nat.le_of_ble_eq_true rfl) ⟨Nat.zero_le _, Nat.zero_le _⟩ d_M_tookFromMemory_17 20 rfl rfl ?_
  refine j_if_eq hC 58 23 rfl d_M_tookFromMemory_20 (by decide) (fun c_20 => ?_) (fun c_20 => ?_)
  · refine j_iconst (v := 0) hC 59 rfl d_M_tookFromMemory_58 (by decide) ?_
    exact j_zret hC hr hlk d_M_tookFromMemory_59 (by simp [bI, tfM, ix, bI0 c_20]) rfl
  · refine j_iload hC 0 25 rfl d_M_tookFromMemory_23 rfl ?_
    refine j_if_lt hC 58 28 rfl d_M_tookFromMemory_25 (by decide) (fun c_25 => ?_) (fun c_25 => ?_)
    · refine j_iconst (v := 0) hC 59 rfl d_M_tookFromMemory_58 (by decide) ?_
      exact j_zret hC hr hlk d_M_tookFromMemory_59 (by simp [bI, tfM, ix, bI1 c_20, c_25]) rfl
    · refine j_iload hC 0 30 rfl d_M_tookFromMemory_28 rfl ?_
      refine j_aload_n hC 2 31 rfl d_M_tookFromMemory_30 rfl rfl ?_
      refine g_M_sizes hC 34 rfl d_M_tookFromMemory_31 ?_
      refine j_iload_n hC 1 35 rfl d_M_tookFromMemory_34 rfl rfl ?_
      refine ld_M_sizes hC (ix_in _) 36 rfl d_M_tookFromMemory_35 ?_
      refine j_icmp_ge hC 58 39 rfl d_M_tookFromMemory_36 (by decide) (fun c_36 => ?_) (fun c_36 => ?_)
      · refine j_iconst (v := 0) hC 59 rfl d_M_tookFromMemory_58 (by decide) ?_
        exact j_zret hC hr hlk d_M_tookFromMemory_59 (by simp [bI, tfM, ix, bI1 c_20, c_25, c_36]) rfl
      · refine j_aload_n hC 2 40 rfl d_M_tookFromMemory_39 rfl rfl ?_
        refine g_M_from hC 43 rfl d_M_tookFromMemory_40 ?_
        refine j_iconst (v := 4) hC 44 rfl d_M_tookFromMemory_43 (by decide) ?_
        refine j_iload_n hC 1 45 rfl d_M_tookFromMemory_44 rfl rfl ?_
        refine j_imul hC 46 rfl d_M_tookFromMemory_45 ?_
        refine j_iload hC 0 48 rfl d_M_tookFromMemory_46 rfl ?_
        refine j_iadd hC 49 rfl d_M_tookFromMemory_48 ?_
        refine ld_M_from hC (fr_in (Int32.not_lt.mp c_25) c_36 (hz _)) 50 rfl d_M_tookFromMemory_49 ?_
        refine j_iconst (v := (-1)) hC 51 rfl d_M_tookFromMemory_50 (by decide) ?_
        refine j_icmp_ne hC 58 54 rfl d_M_tookFromMemory_51 (by decide) (fun c_51 => ?_) (fun c_51 => ?_)
        · refine j_iconst (v := 0) hC 59 rfl d_M_tookFromMemory_58 (by decide) ?_
          exact j_zret hC hr hlk d_M_tookFromMemory_59 (by simp [bI, tfM, ix, bI1 c_20, c_25, c_36, c_51]) rfl
        · refine j_iconst (v := 1) hC 55 rfl d_M_tookFromMemory_54 (by decide) ?_
          refine j_goto hC 59 d_M_tookFromMemory_55 (by decide) ?_
          exact j_zret hC hr hlk d_M_tookFromMemory_59 (by simp [bI, tfM, ix, bI1 c_20, c_25, c_36, c_51]) rfl
set_option maxHeartbeats 4000000 in
set_option maxRecDepth 100000 in
theorem c_M_other_thr {t : Int32} {at0 v : Int32} (ht : otTh at0 v = t) (h : ¬ t ≤ 0) : kM l dC dI cI cZ cB cJ y_M_other b_M_other 4 (some .int) 2 45 [.ref (am 0), .int at0, .int v] (wM am cI cZ μ ν ρ) (some (.int (0))) (wM am cI cZ (sS μ 0 t) ν ρ) := by
  refine jM.of (lv := [(0, .ref (am 0)), (1, .int at0), (2, .int v)]) (own := R_M) jE_loc (by decide) rfl rfl (Nat.le_of_ble_eq_true rfl) rfl ?_
  intro p e s m args below meth c A hC hr hlk
  have jn : ∀ x : Int32, x = otTh at0 v → kJ l dC dI p e s m args below meth c A 2 45 4 (some (.int (0))) (wM am cI cZ (sS μ 0 t) ν ρ) (wM am cI cZ μ ν ρ) 28 [(0, .ref (am 0)), (1, .int at0), (2, .int v)] [.int x, .ref (am 0)] := by
    intro x hx
    obtain rfl : x = t := hx.trans ht
    refine p_M_thrown hC 31 rfl d_M_other_28 ?_
    refine j_aload_n hC 0 32 rfl d_M_other_31 rfl rfl ?_
    refine g_M_thrown hC 35 rfl d_M_other_32 ?_
    refine j_if_le hC 40 38 rfl d_M_other_35 (by decide) (fun c_35 => absurd c_35 h) (fun c_35 => ?_)
    refine j_iconst (v := 0) hC 39 rfl d_M_other_38 (by decide) ?_
    exact j_iret hC hr hlk d_M_other_39 rfl rfl
  refine j_aload_n hC 0 1 rfl d_M_other_0 rfl rfl ?_
  refine j_iload_n hC 1 2 rfl d_M_other_1 rfl rfl ?_
  refine j_if_lt hC 23 5 rfl d_M_other_2 (by decide) (fun c_2 => ?_) (fun c_2 => ?_)
  · refine j_iconst (v := 1) hC 24 rfl d_M_other_23 (by decide) ?_
    refine j_goto hC 28 d_M_other_24 (by decide) ?_
    exact jn _ (by simp [otTh, c_2])
  · refine j_iload_n hC 1 6 rfl d_M_other_5 rfl rfl ?_
    refine j_sipush (v := 4096) hC 9 rfl d_M_other_6 (by decide) ?_
    refine j_icmp_ge hC 23 12 rfl d_M_other_9 (by decide) (fun c_9 => ?_) (fun c_9 => ?_)
    · refine j_iconst (v := 1) hC 24 rfl d_M_other_23 (by decide) ?_
      refine j_goto hC 28 d_M_other_24 (by decide) ?_
      exact jn _ (by simp [otTh, c_2, c_9])
    · refine j_iload_n hC 2 13 rfl d_M_other_12 rfl rfl ?_
      refine j_if_lt hC 23 16 rfl d_M_other_13 (by decide) (fun c_13 => ?_) (fun c_13 => ?_)
      · refine j_iconst (v := 1) hC 24 rfl d_M_other_23 (by decide) ?_
        refine j_goto hC 28 d_M_other_24 (by decide) ?_
        exact jn _ (by simp [otTh, c_2, c_9, c_13])
      · refine j_iload_n hC 2 17 rfl d_M_other_16 rfl rfl ?_
        refine j_sipush (v := 255) hC 20 rfl d_M_other_17 (by decide) ?_
        refine j_icmp_le hC 27 23 rfl d_M_other_20 (by decide) (fun c_20 => ?_) (fun c_20 => ?_)
        · refine j_iconst (v := 0) hC 28 rfl d_M_other_27 (by decide) ?_
          exact jn _ (by simp [otTh, c_2, c_9, c_13, c_20])
        · refine j_iconst (v := 1) hC 24 rfl d_M_other_23 (by decide) ?_
          refine j_goto hC 28 d_M_other_24 (by decide) ?_
          exact jn _ (by simp [otTh, c_2, c_9, c_13, c_20])
set_option maxHeartbeats 4000000 in
set_option maxRecDepth 100000 in
theorem c_M_other_ok {at0 v : Int32} (ht : otTh at0 v = 0) (h0 : 0 ≤ μ 2 0) (hz : ∀ i, μ 13 i ≤ 4) (ha : vp_in at0 4096) : kM l dC dI cI cZ cB cJ y_M_other b_M_other 4 (some .int) 2 45 [.ref (am 0), .int at0, .int v] (wM am cI cZ μ ν ρ) (some (.int ((omR (sA (sS μ 0 0) 10 at0.toNatClampNeg v) ν at0).1))) (wM am cI cZ (omR (sA (sS μ 0 0) 10 at0.toNatClampNeg v) ν at0).2.1 (omR (sA (sS μ 0 0) 10 at0.toNatClampNeg v) ν at0).2.2 ρ) := by
  refine jM.of (lv := [(0, .ref (am 0)), (1, .int at0), (2, .int v)]) (own := R_M) jE_loc (by decide) rfl rfl (Nat.le_of_ble_eq_true rfl) rfl ?_
  intro p e s m args below meth c A hC hr hlk
  have loop : ∀ (n : Nat) (i : Int32), 0 ≤ i → dist i ((sA (sS μ 0 0) 10 at0.toNatClampNeg v) 1 0) < n → frL (tfM9 (sA (sS μ 0 0) 10 at0.toNatClampNeg v) ν at0) ((sA (sS μ 0 0) 10 at0.toNatClampNeg v) 2 0) ((sA (sS μ 0 0) 10 at0.toNatClampNeg v) 1 0) = frL (tfM9 (sA (sS μ 0 0) 10 at0.toNatClampNeg v) ν at0) i ((sA (sS μ 0 0) 10 at0.toNatClampNeg v) 1 0) → kJ l dC dI p e s m args below meth c A 2 45 4 (some (.int ((omR (sA (sS μ 0 0) 10 at0.toNatClampNeg v) ν at0).1))) (wM am cI cZ (omR (sA (sS μ 0 0) 10 at0.toNatClampNeg v) ν at0).2.1 (omR (sA (sS μ 0 0) 10 at0.toNatClampNeg v) ν at0).2.2 ρ) (wM am cI cZ (sA (sS μ 0 0) 10 at0.toNatClampNeg v) ν ρ) 52 [(3, .int i), (0, .ref (am 0)), (1, .int at0), (2, .int v)] [] := by
    intro n
    induction n with
    | zero => intro i hi hd hR; exact absurd hd (Nat.not_lt_zero _)
    | succ n ih =>
      intro i hi hd hR
      refine j_iload_n hC 0 53 rfl d_M_other_52 rfl rfl ?_
      refine j_aload_n hC 1 54 rfl d_M_other_53 rfl rfl ?_
      refine g_M_total hC 57 rfl d_M_other_54 ?_
      refine j_icmp_ge hC 81 60 rfl d_M_other_57 (by decide) (fun c_57 => ?_) (fun c_57 => ?_)
      · refine j_iconst (v := 0) hC 82 rfl d_M_other_81 (by decide) ?_
        exact j_iret hC hr hlk d_M_other_82 (by rw [omR, hR, frL_out c_57] <;> rfl) (by rw [omR, hR, frL_out c_57] <;> rfl)
      · refine j_aload_n hC 1 61 rfl d_M_other_60 rfl rfl ?_
        refine j_iload_n hC 0 62 rfl d_M_other_61 rfl rfl ?_
        refine j_iload_n hC 2 63 rfl d_M_other_62 rfl rfl ?_
        refine j_callVi hC jE_loc jT_good (As := [_, _]) (c_M_tookFromMemory (μ := (sA (sS μ 0 0) 10 at0.toNatClampNeg v)) hz) yk_M_tookFromMemory lk_M_144 ⟨rfl, rfl⟩ ⟨Nat.le_of_ble_eq_true rfl, Nat.le_of_ble_eq_true rfl⟩ 0 rfl rfl rfl rfl (Nat.le_of_ble_eq_true rfl) ⟨Nat.zero_le _, Nat.zero_le _⟩ d_M_other_63 66 rfl rfl ?_
        refine j_if_eq hC 75 69 rfl d_M_other_66 (by decide) (fun c_66 => ?_) (fun c_66 => ?_)
        · refine j_iinc (lv' := [(3, _), (0, _), (1, _), (2, _)]) hC 0 78 rfl d_M_other_75 rfl (inc1 _) (by decide) rfl ?_
          refine j_goto hC 52 d_M_other_78 (by decide) ?_
          exact ih _ (nn1 hi c_57) (dist_lt c_57 hd) (by rw [hR, frL_in c_57]; simp [tfM9, c_57, bI0 c_66])
        · refine j_aload_n hC 1 70 rfl d_M_other_69 rfl rfl ?_
          refine j_iload_n hC 0 71 rfl d_M_other_70 rfl rfl ?_
          refine j_callVi hC jE_loc jT_good (As := [_]) c_M_undo yk_M_undo lk_M_100 ⟨rfl, rfl⟩ ⟨Nat.le_of_ble_eq_true rfl, Nat.le_of_ble_eq_true rfl⟩ 0 rfl rfl rfl rfl (Nat.le_of_ble_eq_true rfl) ⟨Nat.zero_le _, Nat.zero_le _⟩ d_M_other_71 74 rfl rfl ?_
          exact j_iret hC hr hlk d_M_other_74 (by rw [omR, hR, frL_hit (P := tfM9 (sA (sS μ 0 0) 10 at0.toNatClampNeg v) ν at0) c_57 (bI1 c_66), if_neg (nm1 hi)] <;> rfl) (by rw [omR, hR, frL_hit (P := tfM9 (sA (sS μ 0 0) 10 at0.toNatClampNeg v) ν at0) c_57 (bI1 c_66), if_neg (nm1 hi)] <;> rfl)
  have jn : ∀ x : Int32, x = otTh at0 v → kJ l dC dI p e s m args below meth c A 2 45 4 (some (.int ((omR (sA (sS μ 0 0) 10 at0.toNatClampNeg v) ν at0).1))) (wM am cI cZ (omR (sA (sS μ 0 0) 10 at0.toNatClampNeg v) ν at0).2.1 (omR (sA (sS μ 0 0) 10 at0.toNatClampNeg v) ν at0).2.2 ρ) (wM am cI cZ μ ν ρ) 28 [(0, .ref (am 0)), (1, .int at0), (2, .int v)] [.int x, .ref (am 0)] := by
    intro x hx
    obtain rfl : x = 0 := hx.trans ht
    refine p_M_thrown hC 31 rfl d_M_other_28 ?_
    refine j_aload_n hC 0 32 rfl d_M_other_31 rfl rfl ?_
    refine g_M_thrown hC 35 rfl d_M_other_32 ?_
    refine j_if_le hC 40 38 rfl d_M_other_35 (by decide) (fun c_35 => ?_) (fun c_35 => absurd c_35 (fun q => q (Int32.le_refl 0)))
    refine j_aload_n hC 0 41 rfl d_M_other_40 rfl rfl ?_
    refine g_M_bytes hC 44 rfl d_M_other_41 ?_
    refine j_iload_n hC 1 45 rfl d_M_other_44 rfl rfl ?_
    refine j_iload_n hC 2 46 rfl d_M_other_45 rfl rfl ?_
    refine st_M_bytes hC ha 47 rfl d_M_other_46 ?_
    refine j_aload_n hC 0 48 rfl d_M_other_47 rfl rfl ?_
    refine g_M_oldest hC 51 rfl d_M_other_48 ?_
    refine j_istore_n (lv' := [(3, _), (0, _), (1, _), (2, _)]) hC 52 rfl d_M_other_51 rfl (by decide) rfl ?_
    exact loop _ _ h0 (Nat.lt_succ_self _) rfl
  refine j_aload_n hC 0 1 rfl d_M_other_0 rfl rfl ?_
  refine j_iload_n hC 1 2 rfl d_M_other_1 rfl rfl ?_
  refine j_if_lt hC 23 5 rfl d_M_other_2 (by decide) (fun c_2 => ?_) (fun c_2 => ?_)
  · refine j_iconst (v := 1) hC 24 rfl d_M_other_23 (by decide) ?_
    refine j_goto hC 28 d_M_other_24 (by decide) ?_
    exact jn _ (by simp [otTh, c_2])
  · refine j_iload_n hC 1 6 rfl d_M_other_5 rfl rfl ?_
    refine j_sipush (v := 4096) hC 9 rfl d_M_other_6 (by decide) ?_
    refine j_icmp_ge hC 23 12 rfl d_M_other_9 (by decide) (fun c_9 => ?_) (fun c_9 => ?_)
    · refine j_iconst (v := 1) hC 24 rfl d_M_other_23 (by decide) ?_
      refine j_goto hC 28 d_M_other_24 (by decide) ?_
      exact jn _ (by simp [otTh, c_2, c_9])
    · refine j_iload_n hC 2 13 rfl d_M_other_12 rfl rfl ?_
      refine j_if_lt hC 23 16 rfl d_M_other_13 (by decide) (fun c_13 => ?_) (fun c_13 => ?_)
      · refine j_iconst (v := 1) hC 24 rfl d_M_other_23 (by decide) ?_
        refine j_goto hC 28 d_M_other_24 (by decide) ?_
        exact jn _ (by simp [otTh, c_2, c_9, c_13])
      · refine j_iload_n hC 2 17 rfl d_M_other_16 rfl rfl ?_
        refine j_sipush (v := 255) hC 20 rfl d_M_other_17 (by decide) ?_
        refine j_icmp_le hC 27 23 rfl d_M_other_20 (by decide) (fun c_20 => ?_) (fun c_20 => ?_)
        · refine j_iconst (v := 0) hC 28 rfl d_M_other_27 (by decide) ?_
          exact jn _ (by simp [otTh, c_2, c_9, c_13, c_20])
        · refine j_iconst (v := 1) hC 24 rfl d_M_other_23 (by decide) ?_
          refine j_goto hC 28 d_M_other_24 (by decide) ?_
          exact jn _ (by simp [otTh, c_2, c_9, c_13, c_20])
set_option maxHeartbeats 4000000 in
set_option maxRecDepth 100000 in
theorem c_M_memory_thr {t : Int32} {at0 : Int32} (ht : meTh at0 = t) (h : ¬ t ≤ 0) : kM l dC dI cI cZ cB cJ y_M_memory b_M_memory 2 (some .int) 0 0 [.ref (am 0), .int at0] (wM am cI cZ μ ν ρ) (some (.int (0))) (wM am cI cZ (sS μ 0 t) ν ρ) := by
  refine jM.of (lv := [(0, .ref (am 0)), (1, .int at0)]) (own := R_M) jE_loc (by decide) rfl rfl (Nat.le_of_ble_eq_true rfl) rfl ?_
  intro p e s m args below meth c A hC hr hlk
  have jn : ∀ x : Int32, x = meTh at0 → kJ l dC dI p e s m args below meth c A 0 0 2 (some (.int (0))) (wM am cI cZ (sS μ 0 t) ν ρ) (wM am cI cZ μ ν ρ) 17 [(0, .ref (am 0)), (1, .int at0)] [.int x, .ref (am 0)] := by
    intro x hx
    obtain rfl : x = t := hx.trans ht
    refine p_M_thrown hC 20 rfl d_M_memory_17 ?_
    refine j_aload_n hC 0 21 rfl d_M_memory_20 rfl rfl ?_
    refine g_M_thrown hC 24 rfl d_M_memory_21 ?_
    refine j_if_le hC 31 27 rfl d_M_memory_24 (by decide) (fun c_24 => absurd c_24 h) (fun c_24 => ?_)
    refine j_iconst (v := 0) hC 28 rfl d_M_memory_27 (by decide) ?_
    refine j_goto hC 37 d_M_memory_28 (by decide) ?_
    exact j_iret hC hr hlk d_M_memory_37 rfl rfl
  refine j_aload_n hC 0 1 rfl d_M_memory_0 rfl rfl ?_
  refine j_iload_n hC 1 2 rfl d_M_memory_1 rfl rfl ?_
  refine j_if_lt hC 12 5 rfl d_M_memory_2 (by decide) (fun c_2 => ?_) (fun c_2 => ?_)
  · refine j_iconst (v := 1) hC 13 rfl d_M_memory_12 (by decide) ?_
    refine j_goto hC 17 d_M_memory_13 (by decide) ?_
    exact jn _ (by simp [meTh, c_2])
  · refine j_iload_n hC 1 6 rfl d_M_memory_5 rfl rfl ?_
    refine j_sipush (v := 4096) hC 9 rfl d_M_memory_6 (by decide) ?_
    refine j_icmp_lt hC 16 12 rfl d_M_memory_9 (by decide) (fun c_9 => ?_) (fun c_9 => ?_)
    · refine j_iconst (v := 0) hC 17 rfl d_M_memory_16 (by decide) ?_
      exact jn _ (by simp [meTh, c_2, c_9])
    · refine j_iconst (v := 1) hC 13 rfl d_M_memory_12 (by decide) ?_
      refine j_goto hC 17 d_M_memory_13 (by decide) ?_
      exact jn _ (by simp [meTh, c_2, c_9])
set_option maxHeartbeats 4000000 in
set_option maxRecDepth 100000 in
theorem c_M_memory_ok {at0 : Int32} (ht : meTh at0 = 0) (ha : vp_in at0 4096) : kM l dC dI cI cZ cB cJ y_M_memory b_M_memory 2 (some .int) 0 0 [.ref (am 0), .int at0] (wM am cI cZ μ ν ρ) (some (.int (μ 10 at0.toNatClampNeg))) (wM am cI cZ (sS μ 0 0) ν ρ) := by
  refine jM.of (lv := [(0, .ref (am 0)), (1, .int at0)]) (own := R_M) jE_loc (by decide) rfl rfl (Nat.le_of_ble_eq_true rfl) rfl ?_
  intro p e s m args below meth c A hC hr hlk
  have jn : ∀ x : Int32, x = meTh at0 → kJ l dC dI p e s m args below meth c A 0 0 2 (some (.int (μ 10 at0.toNatClampNeg))) (wM am cI cZ (sS μ 0 0) ν ρ) (wM am cI cZ μ ν ρ) 17 [(0, .ref (am 0)), (1, .int at0)] [.int x, .ref (am 0)] := by
    intro x hx
    obtain rfl : x = 0 := hx.trans ht
    refine p_M_thrown hC 20 rfl d_M_memory_17 ?_
    refine j_aload_n hC 0 21 rfl d_M_memory_20 rfl rfl ?_
    refine g_M_thrown hC 24 rfl d_M_memory_21 ?_
    refine j_if_le hC 31 27 rfl d_M_memory_24 (by decide) (fun c_24 => ?_) (fun c_24 => absurd c_24 (fun q => q (Int32.le_refl 0)))
    refine j_aload_n hC 0 32 rfl d_M_memory_31 rfl rfl ?_
    refine g_M_bytes hC 35 rfl d_M_memory_32 ?_
    refine j_iload_n hC 1 36 rfl d_M_memory_35 rfl rfl ?_
    refine ld_M_bytes hC ha 37 rfl d_M_memory_36 ?_
    exact j_iret hC hr hlk d_M_memory_37 rfl rfl
  refine j_aload_n hC 0 1 rfl d_M_memory_0 rfl rfl ?_
  refine j_iload_n hC 1 2 rfl d_M_memory_1 rfl rfl ?_
  refine j_if_lt hC 12 5 rfl d_M_memory_2 (by decide) (fun c_2 => ?_) (fun c_2 => ?_)
  · refine j_iconst (v := 1) hC 13 rfl d_M_memory_12 (by decide) ?_
    refine j_goto hC 17 d_M_memory_13 (by decide) ?_
    exact jn _ (by simp [meTh, c_2])
  · refine j_iload_n hC 1 6 rfl d_M_memory_5 rfl rfl ?_
    refine j_sipush (v := 4096) hC 9 rfl d_M_memory_6 (by decide) ?_
    refine j_icmp_lt hC 16 12 rfl d_M_memory_9 (by decide) (fun c_9 => ?_) (fun c_9 => ?_)
    · refine j_iconst (v := 0) hC 17 rfl d_M_memory_16 (by decide) ?_
      exact jn _ (by simp [meTh, c_2, c_9])
    · refine j_iconst (v := 1) hC 13 rfl d_M_memory_12 (by decide) ?_
      refine j_goto hC 17 d_M_memory_13 (by decide) ?_
      exact jn _ (by simp [meTh, c_2, c_9])
set_option maxHeartbeats 4000000 in
set_option maxRecDepth 100000 in
theorem c_M_forget_thr {t : Int32} {op : Int32} (ht : foTh μ op = t) (h : ¬ t ≤ 0) : kM l dC dI cI cZ cB cJ y_M_forget b_M_forget 3 (some .int) 1 21 [.ref (am 0), .int op] (wM am cI cZ μ ν ρ) (some (.int (0))) (wM am cI cZ (sS μ 0 t) ν ρ) := by
  refine jM.of (lv := [(0, .ref (am 0)), (1, .int op)]) (own := R_M) jE_loc (by decide) rfl rfl (Nat.le_of_ble_eq_true rfl) rfl ?_
  intro p e s m args below meth c A hC hr hlk
  have jn : ∀ x : Int32, x = foTh μ op → kJ l dC dI p e s m args below meth c A 1 21 3 (some (.int (0))) (wM am cI cZ (sS μ 0 t) ν ρ) (wM am cI cZ μ ν ρ) 26 [(0, .ref (am 0)), (1, .int op)] [.int x, .ref (am 0)] := by
    intro x hx
    obtain rfl : x = t := hx.trans ht
    refine p_M_thrown hC 29 rfl d_M_forget_26 ?_
    refine j_aload_n hC 0 30 rfl d_M_forget_29 rfl rfl ?_
    refine g_M_thrown hC 33 rfl d_M_forget_30 ?_
    refine j_if_le hC 38 36 rfl d_M_forget_33 (by decide) (fun c_33 => absurd c_33 h) (fun c_33 => ?_)
    refine j_iconst (v := 0) hC 37 rfl d_M_forget_36 (by decide) ?_
    exact j_iret hC hr hlk d_M_forget_37 rfl rfl
  refine j_aload_n hC 0 1 rfl d_M_forget_0 rfl rfl ?_
  refine j_aload_n hC 0 2 rfl d_M_forget_1 rfl rfl ?_
  refine j_iload_n hC 1 3 rfl d_M_forget_2 rfl rfl ?_
  refine j_callVi hC jE_loc jT_good (As := [_]) c_M_isOp yk_M_isOp lk_M_88 ⟨rfl, rfl⟩ ⟨Nat.le_of_ble_eq_true rfl, Nat.le_of_ble_eq_true rfl⟩ 0 rfl rfl rfl rfl (Nat.le_of_ble_eq_true rfl) ⟨Nat.zero_le _, Nat.zero_le _⟩ d_M_forget_3 6 rfl rfl ?_
  refine j_if_ne hC 13 9 rfl d_M_forget_6 (by decide) (fun c_6 => ?_) (fun c_6 => ?_)
  · refine j_aload_n hC 0 14 rfl d_M_forget_13 rfl rfl ?_
    refine j_iload_n hC 1 15 rfl d_M_forget_14 rfl rfl ?_
    refine j_callVi hC jE_loc jT_good (As := [_]) c_M_waits yk_M_waits lk_M_84 ⟨rfl, rfl⟩ ⟨Nat.le_of_ble_eq_true rfl, Nat.le_of_ble_eq_true rfl⟩ 0 rfl rfl rfl rfl (Nat.le_of_ble_eq_true rfl) ⟨Nat.zero_le _, Nat.zero_le _⟩ d_M_forget_15 18 rfl rfl ?_
    refine j_if_ne hC 25 21 rfl d_M_forget_18 (by decide) (fun c_18 => ?_) (fun c_18 => ?_)
    · refine j_iconst (v := 0) hC 26 rfl d_M_forget_25 (by decide) ?_
      exact jn _ (by simp [foTh, bI1 c_6, bI1 c_18])
    · refine j_iconst (v := 2) hC 22 rfl d_M_forget_21 (by decide) ?_
      refine j_goto hC 26 d_M_forget_22 (by decide) ?_
      exact jn _ (by simp [foTh, bI1 c_6, bI0 c_18])
  · refine j_iconst (v := 1) hC 10 rfl d_M_forget_9 (by decide) ?_
    refine j_goto hC 26 d_M_forget_10 (by decide) ?_
    exact jn _ (by simp [foTh, bI0 c_6])
set_option maxHeartbeats 4000000 in
set_option maxRecDepth 100000 in
theorem c_M_forget_ok {op : Int32} (ht : foTh μ op = 0)  : kM l dC dI cI cZ cB cJ y_M_forget b_M_forget 3 (some .int) 1 21 [.ref (am 0), .int op] (wM am cI cZ μ ν ρ) (some (.int (μ 1 0 - op))) (wM am cI cZ (sS (sS μ 0 0) 1 op) ν ρ) := by
  refine jM.of (lv := [(0, .ref (am 0)), (1, .int op)]) (own := R_M) jE_loc (by decide) rfl rfl (Nat.le_of_ble_eq_true rfl) rfl ?_
  intro p e s m args below meth c A hC hr hlk
  have jn : ∀ x : Int32, x = foTh μ op → kJ l dC dI p e s m args below meth c A 1 21 3 (some (.int (μ 1 0 - op))) (wM am cI cZ (sS (sS μ 0 0) 1 op) ν ρ) (wM am cI cZ μ ν ρ) 26 [(0, .ref (am 0)), (1, .int op)] [.int x, .ref (am 0)] := by
    intro x hx
    obtain rfl : x = 0 := hx.trans ht
    refine p_M_thrown hC 29 rfl d_M_forget_26 ?_
    refine j_aload_n hC 0 30 rfl d_M_forget_29 rfl rfl ?_
    refine g_M_thrown hC 33 rfl d_M_forget_30 ?_
    refine j_if_le hC 38 36 rfl d_M_forget_33 (by decide) (fun c_33 => ?_) (fun c_33 => absurd c_33 (fun q => q (Int32.le_refl 0)))
    refine j_aload_n hC 0 39 rfl d_M_forget_38 rfl rfl ?_
    refine g_M_total hC 42 rfl d_M_forget_39 ?_
    refine j_iload_n hC 1 43 rfl d_M_forget_42 rfl rfl ?_
    refine j_isub hC 44 rfl d_M_forget_43 ?_
    refine j_istore_n (lv' := [(2, _), (0, _), (1, _)]) hC 45 rfl d_M_forget_44 rfl (by decide) rfl ?_
    refine j_aload_n hC 1 46 rfl d_M_forget_45 rfl rfl ?_
    refine j_iload_n hC 2 47 rfl d_M_forget_46 rfl rfl ?_
    refine p_M_total hC 50 rfl d_M_forget_47 ?_
    refine j_iload_n hC 0 51 rfl d_M_forget_50 rfl rfl ?_
    exact j_iret hC hr hlk d_M_forget_51 rfl rfl
  refine j_aload_n hC 0 1 rfl d_M_forget_0 rfl rfl ?_
  refine j_aload_n hC 0 2 rfl d_M_forget_1 rfl rfl ?_
  refine j_iload_n hC 1 3 rfl d_M_forget_2 rfl rfl ?_
  refine j_callVi hC jE_loc jT_good (As := [_]) c_M_isOp yk_M_isOp lk_M_88 ⟨rfl, rfl⟩ ⟨Nat.le_of_ble_eq_true rfl, Nat.le_of_ble_eq_true rfl⟩ 0 rfl rfl rfl rfl (Nat.le_of_ble_eq_true rfl) ⟨Nat.zero_le _, Nat.zero_le _⟩ d_M_forget_3 6 rfl rfl ?_
  refine j_if_ne hC 13 9 rfl d_M_forget_6 (by decide) (fun c_6 => ?_) (fun c_6 => ?_)
  · refine j_aload_n hC 0 14 rfl d_M_forget_13 rfl rfl ?_
    refine j_iload_n hC 1 15 rfl d_M_forget_14 rfl rfl ?_
    refine j_callVi hC jE_loc jT_good (As := [_]) c_M_waits yk_M_waits lk_M_84 ⟨rfl, rfl⟩ ⟨Nat.le_of_ble_eq_true rfl, Nat.le_of_ble_eq_true rfl⟩ 0 rfl rfl rfl rfl (Nat.le_of_ble_eq_true rfl) ⟨Nat.zero_le _, Nat.zero_le _⟩ d_M_forget_15 18 rfl rfl ?_
    refine j_if_ne hC 25 21 rfl d_M_forget_18 (by decide) (fun c_18 => ?_) (fun c_18 => ?_)
    · refine j_iconst (v := 0) hC 26 rfl d_M_forget_25 (by decide) ?_
      exact jn _ (by simp [foTh, bI1 c_6, bI1 c_18])
    · refine j_iconst (v := 2) hC 22 rfl d_M_forget_21 (by decide) ?_
      refine j_goto hC 26 d_M_forget_22 (by decide) ?_
      exact jn _ (by simp [foTh, bI1 c_6, bI0 c_18])
  · refine j_iconst (v := 1) hC 10 rfl d_M_forget_9 (by decide) ?_
    refine j_goto hC 26 d_M_forget_10 (by decide) ?_
    exact jn _ (by simp [foTh, bI0 c_6])
set_option maxHeartbeats 4000000 in
set_option maxRecDepth 100000 in
theorem c_M_marked {prog : Int32}  : kM l dC dI cI cZ cB cJ y_M_marked b_M_marked 2 (some .boolean) 0 0 [.ref (am 0), .int prog] (wM am cI cZ μ ν ρ) (some (.int (bI (ν 0 (prog &&& 63).toNatClampNeg)))) (wM am cI cZ (sS μ 0 0) ν ρ) := by
  refine jM.of (lv := [(0, .ref (am 0)), (1, .int prog)]) (own := R_M) jE_loc (by decide) rfl rfl (Nat.le_of_ble_eq_true rfl) rfl ?_
  intro p e s m args below meth c A hC hr hlk
  refine j_aload_n hC 0 1 rfl d_M_marked_0 rfl rfl ?_
  refine j_iconst (v := 0) hC 2 rfl d_M_marked_1 (by decide) ?_
  refine p_M_thrown hC 5 rfl d_M_marked_2 ?_
  refine j_aload_n hC 0 6 rfl d_M_marked_5 rfl rfl ?_
  refine g_M_marks hC 9 rfl d_M_marked_6 ?_
  refine j_iload_n hC 1 10 rfl d_M_marked_9 rfl rfl ?_
  refine j_bipush (v := 63) hC 12 rfl d_M_marked_10 (by decide) ?_
  refine j_iand hC 13 rfl d_M_marked_12 ?_
  refine ld_M_marks hC (i6_in _) 14 rfl d_M_marked_13 ?_
  exact j_zret hC hr hlk d_M_marked_14 rfl rfl
end KC
end
section
section KC
variable {l : Launch} {dC : Nat → ClassId} {dI : Nat → Nat → Nat} {cI cZ cB cJ : ClassId} {ad : Nat → Nat} {σ : S2} {β : B2} {mk : Int64} {ρ : va_W} {am : Nat → Nat} {μ : S2} {ν : B2}
set_option maxHeartbeats 4000000 in
set_option maxRecDepth 100000 in
theorem c_M_leave_no  (h : μ 2 0 = μ 1 0 ∨ mlM (sS μ 0 0) ν = false) : kM l dC dI cI cZ cB cJ y_M_leave b_M_leave 3 (some .int) 2 46 [.ref (am 0)] (wM am cI cZ μ ν ρ) (some (.int (-1))) (wM am cI cZ (sS μ 0 0) ν ρ) := by
  refine jM.of (lv := [(0, .ref (am 0))]) (own := R_M) jE_loc (by decide) rfl rfl (Nat.le_of_ble_eq_true rfl) rfl ?_
  intro p e s m args below meth c A hC hr hlk
  refine j_aload_n hC 0 1 rfl d_M_leave_0 rfl rfl ?_
  refine j_iconst (v := 0) hC 2 rfl d_M_leave_1 (by decide) ?_
  refine p_M_thrown hC 5 rfl d_M_leave_2 ?_
  refine j_aload_n hC 0 6 rfl d_M_leave_5 rfl rfl ?_
  refine g_M_oldest hC 9 rfl d_M_leave_6 ?_
  refine j_aload_n hC 0 10 rfl d_M_leave_9 rfl rfl ?_
  refine g_M_total hC 13 rfl d_M_leave_10 ?_
  refine j_icmp_eq hC 23 16 rfl d_M_leave_13 (by decide) (fun c_13 => ?_) (fun c_13 => ?_)
  · refine j_iconst (v := (-1)) hC 24 rfl d_M_leave_23 (by decide) ?_
    exact j_iret hC hr hlk d_M_leave_24 rfl rfl
  · refine j_aload_n hC 0 17 rfl d_M_leave_16 rfl rfl ?_
    refine j_callVi hC jE_loc jT_good (As := []) c_M_mayLeave yk_M_mayLeave lk_M_132 ⟨rfl, rfl⟩ ⟨Nat.le_of_ble_eq_true rfl, Nat.le_of_ble_eq_true rfl⟩ 0 rfl rfl rfl rfl (Nat.le_of_ble_eq_true rfl) ⟨Nat.zero_le _, Nat.zero_le _⟩ d_M_leave_17 20 rfl rfl ?_
    refine j_if_ne hC 25 23 rfl d_M_leave_20 (by decide) (fun c_20 => ?_) (fun c_20 => ?_)
    · exact absurd h (by rintro (q | q); exact c_13 q; rw [bI1 c_20] at q; cases q)
    · refine j_iconst (v := (-1)) hC 24 rfl d_M_leave_23 (by decide) ?_
      exact j_iret hC hr hlk d_M_leave_24 rfl rfl
set_option maxHeartbeats 4000000 in
set_option maxRecDepth 100000 in
theorem c_M_leave_none  (h : ¬ μ 2 0 = μ 1 0) (hm : mlM (sS μ 0 0) ν = true) (k1 : ¬ μ 12 (ix (μ 2 0)) = 1) (k3 : ¬ μ 12 (ix (μ 2 0)) = 3) : kM l dC dI cI cZ cB cJ y_M_leave b_M_leave 3 (some .int) 2 46 [.ref (am 0)] (wM am cI cZ μ ν ρ) (some (.int (μ 2 0 + 1 - 1))) (wM am cI cZ (sS (sS μ 0 0) 2 (μ 2 0 + 1)) ν ρ) := by
  refine jM.of (lv := [(0, .ref (am 0))]) (own := R_M) jE_loc (by decide) rfl rfl (Nat.le_of_ble_eq_true rfl) rfl ?_
  intro p e s m args below meth c A hC hr hlk
  refine j_aload_n hC 0 1 rfl d_M_leave_0 rfl rfl ?_
  refine j_iconst (v := 0) hC 2 rfl d_M_leave_1 (by decide) ?_
  refine p_M_thrown hC 5 rfl d_M_leave_2 ?_
  refine j_aload_n hC 0 6 rfl d_M_leave_5 rfl rfl ?_
  refine g_M_oldest hC 9 rfl d_M_leave_6 ?_
  refine j_aload_n hC 0 10 rfl d_M_leave_9 rfl rfl ?_
  refine g_M_total hC 13 rfl d_M_leave_10 ?_
  refine j_icmp_eq hC 23 16 rfl d_M_leave_13 (by decide) (fun c_13 => absurd c_13 h) (fun c_13 => ?_)
  refine j_aload_n hC 0 17 rfl d_M_leave_16 rfl rfl ?_
  refine j_callVi hC jE_loc jT_good (As := []) c_M_mayLeave yk_M_mayLeave lk_M_132 ⟨rfl, rfl⟩ ⟨Nat.le_of_ble_eq_true rfl, Nat.le_of_ble_eq_true rfl⟩ 0 rfl rfl rfl rfl (Nat.le_of_ble_eq_true rfl) ⟨Nat.zero_le _, Nat.zero_le _⟩ d_M_leave_17 20 rfl rfl ?_
  refine j_if_ne hC 25 23 rfl d_M_leave_20 (by decide) (fun c_20 => ?_) (fun c_20 => absurd c_20 (by rw [hm]; decide))
  refine j_aload_n hC 0 26 rfl d_M_leave_25 rfl rfl ?_
  refine g_M_oldest hC 29 rfl d_M_leave_26 ?_
  refine j_bipush (v := 127) hC 31 rfl d_M_leave_29 (by decide) ?_
  refine j_iand hC 32 rfl d_M_leave_31 ?_
  refine j_istore_n (lv' := [(1, _), (0, _)]) hC 33 rfl d_M_leave_32 rfl (by decide) rfl ?_
  refine j_aload_n hC 1 34 rfl d_M_leave_33 rfl rfl ?_
  refine g_M_kinds hC 37 rfl d_M_leave_34 ?_
  refine j_iload_n hC 0 38 rfl d_M_leave_37 rfl rfl ?_
  refine ld_M_kinds hC (ix_in _) 39 rfl d_M_leave_38 ?_
  refine j_iconst (v := 3) hC 40 rfl d_M_leave_39 (by decide) ?_
  refine j_icmp_ne hC 97 43 rfl d_M_leave_40 (by decide) (fun c_40 => ?_) (fun c_40 => absurd c_40 k3)
  refine j_aload_n hC 1 98 rfl d_M_leave_97 rfl rfl ?_
  refine g_M_kinds hC 101 rfl d_M_leave_98 ?_
  refine j_iload_n hC 0 102 rfl d_M_leave_101 rfl rfl ?_
  refine ld_M_kinds hC (ix_in _) 103 rfl d_M_leave_102 ?_
  refine j_iconst (v := 1) hC 104 rfl d_M_leave_103 (by decide) ?_
  refine j_icmp_ne hC 130 107 rfl d_M_leave_104 (by decide) (fun c_104 => ?_) (fun c_104 => absurd c_104 k1)
  refine j_aload_n hC 1 131 rfl d_M_leave_130 rfl rfl ?_
  refine g_M_kinds hC 134 rfl d_M_leave_131 ?_
  refine j_iload_n hC 0 135 rfl d_M_leave_134 rfl rfl ?_
  refine ld_M_kinds hC (ix_in _) 136 rfl d_M_leave_135 ?_
  refine j_iconst (v := 1) hC 137 rfl d_M_leave_136 (by decide) ?_
  refine j_icmp_eq hC 150 140 rfl d_M_leave_137 (by decide) (fun c_137 => absurd c_137 k1) (fun c_137 => ?_)
  refine j_aload_n hC 1 141 rfl d_M_leave_140 rfl rfl ?_
  refine g_M_kinds hC 144 rfl d_M_leave_141 ?_
  refine j_iload_n hC 0 145 rfl d_M_leave_144 rfl rfl ?_
  refine ld_M_kinds hC (ix_in _) 146 rfl d_M_leave_145 ?_
  refine j_iconst (v := 3) hC 147 rfl d_M_leave_146 (by decide) ?_
  refine j_icmp_ne hC 172 150 rfl d_M_leave_147 (by decide) (fun c_147 => ?_) (fun c_147 => absurd c_147 k3)
  refine j_aload_n hC 1 173 rfl d_M_leave_172 rfl rfl ?_
  refine j_dup hC 174 rfl d_M_leave_173 rfl ?_
  refine g_M_oldest hC 177 rfl d_M_leave_174 ?_
  refine j_iconst (v := 1) hC 178 rfl d_M_leave_177 (by decide) ?_
  refine j_iadd hC 179 rfl d_M_leave_178 ?_
  refine p_M_oldest hC 182 rfl d_M_leave_179 ?_
  refine j_aload_n hC 1 183 rfl d_M_leave_182 rfl rfl ?_
  refine g_M_oldest hC 186 rfl d_M_leave_183 ?_
  refine j_iconst (v := 1) hC 187 rfl d_M_leave_186 (by decide) ?_
  refine j_isub hC 188 rfl d_M_leave_187 ?_
  exact j_iret hC hr hlk d_M_leave_188 rfl rfl
set_option maxHeartbeats 4000000 in
set_option maxRecDepth 100000 in
theorem c_M_leave_buf  (h : ¬ μ 2 0 = μ 1 0) (hm : mlM (sS μ 0 0) ν = true) (k1 : μ 12 (ix (μ 2 0)) = 1) (hd : ¬ 3072 ≤ μ 15 (ix (μ 2 0))) (hb : vp_in (μ 7 0) 4) : kM l dC dI cI cZ cB cJ y_M_leave b_M_leave 3 (some .int) 2 46 [.ref (am 0)] (wM am cI cZ μ ν ρ) (some (.int (μ 2 0 + 1 - 1))) (wM am cI cZ (sS (ibS (sS μ 0 0) (μ 2 0)) 2 (μ 2 0 + 1)) ν ρ) := by
  refine jM.of (lv := [(0, .ref (am 0))]) (own := R_M) jE_loc (by decide) rfl rfl (Nat.le_of_ble_eq_true rfl) rfl ?_
  intro p e s m args below meth c A hC hr hlk
  refine j_aload_n hC 0 1 rfl d_M_leave_0 rfl rfl ?_
  refine j_iconst (v := 0) hC 2 rfl d_M_leave_1 (by decide) ?_
  refine p_M_thrown hC 5 rfl d_M_leave_2 ?_
  refine j_aload_n hC 0 6 rfl d_M_leave_5 rfl rfl ?_
  refine g_M_oldest hC 9 rfl d_M_leave_6 ?_
  refine j_aload_n hC 0 10 rfl d_M_leave_9 rfl rfl ?_
  refine g_M_total hC 13 rfl d_M_leave_10 ?_
  refine j_icmp_eq hC 23 16 rfl d_M_leave_13 (by decide) (fun c_13 => absurd c_13 h) (fun c_13 => ?_)
  refine j_aload_n hC 0 17 rfl d_M_leave_16 rfl rfl ?_
  refine j_callVi hC jE_loc jT_good (As := []) c_M_mayLeave yk_M_mayLeave lk_M_132 ⟨rfl, rfl⟩ ⟨Nat.le_of_ble_eq_true rfl, Nat.le_of_ble_eq_true rfl⟩ 0 rfl rfl rfl rfl (Nat.le_of_ble_eq_true rfl) ⟨Nat.zero_le _, Nat.zero_le _⟩ d_M_leave_17 20 rfl rfl ?_
  refine j_if_ne hC 25 23 rfl d_M_leave_20 (by decide) (fun c_20 => ?_) (fun c_20 => absurd c_20 (by rw [hm]; decide))
  refine j_aload_n hC 0 26 rfl d_M_leave_25 rfl rfl ?_
  refine g_M_oldest hC 29 rfl d_M_leave_26 ?_
  refine j_bipush (v := 127) hC 31 rfl d_M_leave_29 (by decide) ?_
  refine j_iand hC 32 rfl d_M_leave_31 ?_
  refine j_istore_n (lv' := [(1, _), (0, _)]) hC 33 rfl d_M_leave_32 rfl (by decide) rfl ?_
  refine j_aload_n hC 1 34 rfl d_M_leave_33 rfl rfl ?_
  refine g_M_kinds hC 37 rfl d_M_leave_34 ?_
  refine j_iload_n hC 0 38 rfl d_M_leave_37 rfl rfl ?_
  refine ld_M_kinds hC (ix_in _) 39 rfl d_M_leave_38 ?_
  refine j_iconst (v := 3) hC 40 rfl d_M_leave_39 (by decide) ?_
  refine j_icmp_ne hC 97 43 rfl d_M_leave_40 (by decide) (fun c_40 => ?_) (fun c_40 => absurd c_40 (fun q => absurd (k1.symm.trans q) (by decide)))
  refine j_aload_n hC 1 98 rfl d_M_leave_97 rfl rfl ?_
  refine g_M_kinds hC 101 rfl d_M_leave_98 ?_
  refine j_iload_n hC 0 102 rfl d_M_leave_101 rfl rfl ?_
  refine ld_M_kinds hC (ix_in _) 103 rfl d_M_leave_102 ?_
  refine j_iconst (v := 1) hC 104 rfl d_M_leave_103 (by decide) ?_
  refine j_icmp_ne hC 130 107 rfl d_M_leave_104 (by decide) (fun c_104 => absurd c_104 (fun q => q k1)) (fun c_104 => ?_)
  refine j_aload_n hC 1 108 rfl d_M_leave_107 rfl rfl ?_
  refine g_M_places hC 111 rfl d_M_leave_108 ?_
  refine j_iload_n hC 0 112 rfl d_M_leave_111 rfl rfl ?_
  refine ld_M_places hC (ix_in _) 113 rfl d_M_leave_112 ?_
  refine j_sipush (v := 3072) hC 116 rfl d_M_leave_113 (by decide) ?_
  refine j_icmp_ge hC 130 119 rfl d_M_leave_116 (by decide) (fun c_116 => absurd c_116 hd) (fun c_116 => ?_)
  refine j_aload_n hC 1 120 rfl d_M_leave_119 rfl rfl ?_
  refine j_aload_n hC 1 121 rfl d_M_leave_120 rfl rfl ?_
  refine g_M_oldest hC 124 rfl d_M_leave_121 ?_
  refine j_callVv hC jE_loc jT_good (As := [_]) (c_M_intoBuffer (μ := (sS μ 0 0)) hb) yk_M_intoBuffer lk_M_136 ⟨rfl, rfl⟩ ⟨Nat.le_of_ble_eq_true rfl, Nat.le_of_ble_eq_true rfl⟩ 0 rfl rfl rfl rfl (Nat.le_of_ble_eq_true rfl) ⟨Nat.zero_le _, Nat.zero_le _⟩ d_M_leave_124 127 rfl rfl ?_
  refine j_goto hC 172 d_M_leave_127 (by decide) ?_
  refine j_aload_n hC 1 173 rfl d_M_leave_172 rfl rfl ?_
  refine j_dup hC 174 rfl d_M_leave_173 rfl ?_
  refine g_M_oldest hC 177 rfl d_M_leave_174 ?_
  refine j_iconst (v := 1) hC 178 rfl d_M_leave_177 (by decide) ?_
  refine j_iadd hC 179 rfl d_M_leave_178 ?_
  refine p_M_oldest hC 182 rfl d_M_leave_179 ?_
  refine j_aload_n hC 1 183 rfl d_M_leave_182 rfl rfl ?_
  refine g_M_oldest hC 186 rfl d_M_leave_183 ?_
  refine j_iconst (v := 1) hC 187 rfl d_M_leave_186 (by decide) ?_
  refine j_isub hC 188 rfl d_M_leave_187 ?_
  exact j_iret hC hr hlk d_M_leave_188 rfl rfl
set_option maxHeartbeats 4000000 in
set_option maxRecDepth 100000 in
theorem c_M_leave_dev  (h : ¬ μ 2 0 = μ 1 0) (hm : mlM (sS μ 0 0) ν = true) (k1 : μ 12 (ix (μ 2 0)) = 1) (hd : 3072 ≤ μ 15 (ix (μ 2 0))) (ha : ∀ k : Int32, 0 ≤ k → ¬ μ 13 (ix (μ 2 0)) ≤ k → vp_in (μ 15 (ix (μ 2 0)) + k) 4096) : kM l dC dI cI cZ cB cJ y_M_leave b_M_leave 3 (some .int) 2 46 [.ref (am 0)] (wM am cI cZ μ ν ρ) (some (.int (μ 2 0 + 1 - 1))) (wM am cI cZ (sS (wrL (μ 15 (ix (μ 2 0))) (μ 13 (ix (μ 2 0))) (μ 16 (ix (μ 2 0))) 0 (sS μ 0 0)) 2 ((wrL (μ 15 (ix (μ 2 0))) (μ 13 (ix (μ 2 0))) (μ 16 (ix (μ 2 0))) 0 (sS μ 0 0)) 2 0 + 1)) ν ρ) := by
  refine jM.of (lv := [(0, .ref (am 0))]) (own := R_M) jE_loc (by decide) rfl rfl (Nat.le_of_ble_eq_true rfl) rfl ?_
  intro p e s m args below meth c A hC hr hlk
  refine j_aload_n hC 0 1 rfl d_M_leave_0 rfl rfl ?_
  refine j_iconst (v := 0) hC 2 rfl d_M_leave_1 (by decide) ?_
  refine p_M_thrown hC 5 rfl d_M_leave_2 ?_
  refine j_aload_n hC 0 6 rfl d_M_leave_5 rfl rfl ?_
  refine g_M_oldest hC 9 rfl d_M_leave_6 ?_
  refine j_aload_n hC 0 10 rfl d_M_leave_9 rfl rfl ?_
  refine g_M_total hC 13 rfl d_M_leave_10 ?_
  refine j_icmp_eq hC 23 16 rfl d_M_leave_13 (by decide) (fun c_13 => absurd c_13 h) (fun c_13 => ?_)
  refine j_aload_n hC 0 17 rfl d_M_leave_16 rfl rfl ?_
  refine j_callVi hC jE_loc jT_good (As := []) c_M_mayLeave yk_M_mayLeave lk_M_132 ⟨rfl, rfl⟩ ⟨Nat.le_of_ble_eq_true rfl, Nat.le_of_ble_eq_true rfl⟩ 0 rfl rfl rfl rfl (Nat.le_of_ble_eq_true rfl) ⟨Nat.zero_le _, Nat.zero_le _⟩ d_M_leave_17 20 rfl rfl ?_
  refine j_if_ne hC 25 23 rfl d_M_leave_20 (by decide) (fun c_20 => ?_) (fun c_20 => absurd c_20 (by rw [hm]; decide))
  refine j_aload_n hC 0 26 rfl d_M_leave_25 rfl rfl ?_
  refine g_M_oldest hC 29 rfl d_M_leave_26 ?_
  refine j_bipush (v := 127) hC 31 rfl d_M_leave_29 (by decide) ?_
  refine j_iand hC 32 rfl d_M_leave_31 ?_
  refine j_istore_n (lv' := [(1, _), (0, _)]) hC 33 rfl d_M_leave_32 rfl (by decide) rfl ?_
  refine j_aload_n hC 1 34 rfl d_M_leave_33 rfl rfl ?_
  refine g_M_kinds hC 37 rfl d_M_leave_34 ?_
  refine j_iload_n hC 0 38 rfl d_M_leave_37 rfl rfl ?_
  refine ld_M_kinds hC (ix_in _) 39 rfl d_M_leave_38 ?_
  refine j_iconst (v := 3) hC 40 rfl d_M_leave_39 (by decide) ?_
  refine j_icmp_ne hC 97 43 rfl d_M_leave_40 (by decide) (fun c_40 => ?_) (fun c_40 => absurd c_40 (fun q => absurd (k1.symm.trans q) (by decide)))
  refine j_aload_n hC 1 98 rfl d_M_leave_97 rfl rfl ?_
  refine g_M_kinds hC 101 rfl d_M_leave_98 ?_
  refine j_iload_n hC 0 102 rfl d_M_leave_101 rfl rfl ?_
  refine ld_M_kinds hC (ix_in _) 103 rfl d_M_leave_102 ?_
  refine j_iconst (v := 1) hC 104 rfl d_M_leave_103 (by decide) ?_
  refine j_icmp_ne hC 130 107 rfl d_M_leave_104 (by decide) (fun c_104 => absurd c_104 (fun q => q k1)) (fun c_104 => ?_)
  refine j_aload_n hC 1 108 rfl d_M_leave_107 rfl rfl ?_
  refine g_M_places hC 111 rfl d_M_leave_108 ?_
  refine j_iload_n hC 0 112 rfl d_M_leave_111 rfl rfl ?_
  refine ld_M_places hC (ix_in _) 113 rfl d_M_leave_112 ?_
  refine j_sipush (v := 3072) hC 116 rfl d_M_leave_113 (by decide) ?_
  refine j_icmp_ge hC 130 119 rfl d_M_leave_116 (by decide) (fun c_116 => ?_) (fun c_116 => absurd c_116 (fun q => q hd))
  refine j_aload_n hC 1 131 rfl d_M_leave_130 rfl rfl ?_
  refine g_M_kinds hC 134 rfl d_M_leave_131 ?_
  refine j_iload_n hC 0 135 rfl d_M_leave_134 rfl rfl ?_
  refine ld_M_kinds hC (ix_in _) 136 rfl d_M_leave_135 ?_
  refine j_iconst (v := 1) hC 137 rfl d_M_leave_136 (by decide) ?_
  refine j_icmp_eq hC 150 140 rfl d_M_leave_137 (by decide) (fun c_137 => ?_) (fun c_137 => absurd c_137 (fun q => q k1))
  refine j_aload_n hC 1 151 rfl d_M_leave_150 rfl rfl ?_
  refine j_aload_n hC 1 152 rfl d_M_leave_151 rfl rfl ?_
  refine g_M_places hC 155 rfl d_M_leave_152 ?_
  refine j_iload_n hC 0 156 rfl d_M_leave_155 rfl rfl ?_
  refine ld_M_places hC (ix_in _) 157 rfl d_M_leave_156 ?_
  refine j_aload_n hC 1 158 rfl d_M_leave_157 rfl rfl ?_
  refine g_M_sizes hC 161 rfl d_M_leave_158 ?_
  refine j_iload_n hC 0 162 rfl d_M_leave_161 rfl rfl ?_
  refine ld_M_sizes hC (ix_in _) 163 rfl d_M_leave_162 ?_
  refine j_aload_n hC 1 164 rfl d_M_leave_163 rfl rfl ?_
  refine g_M_values hC 167 rfl d_M_leave_164 ?_
  refine j_iload_n hC 0 168 rfl d_M_leave_167 rfl rfl ?_
  refine ld_M_values hC (ix_in _) 169 rfl d_M_leave_168 ?_
  refine j_callVv hC jE_loc jT_good (As := [_, _, _]) (c_M_write ha) yk_M_write lk_M_140 ⟨rfl, rfl⟩ ⟨Nat.le_of_ble_eq_true rfl, Nat.le_of_ble_eq_true rfl⟩ 0 rfl rfl rfl rfl (Nat.le_of_ble_eq_true rfl) ⟨Nat.zero_le _, Nat.zero_le _⟩ d_M_leave_169 172 rfl rfl ?_
  refine j_aload_n hC 1 173 rfl d_M_leave_172 rfl rfl ?_
  refine j_dup hC 174 rfl d_M_leave_173 rfl ?_
  refine g_M_oldest hC 177 rfl d_M_leave_174 ?_
  refine j_iconst (v := 1) hC 178 rfl d_M_leave_177 (by decide) ?_
  refine j_iadd hC 179 rfl d_M_leave_178 ?_
  refine p_M_oldest hC 182 rfl d_M_leave_179 ?_
  refine j_aload_n hC 1 183 rfl d_M_leave_182 rfl rfl ?_
  refine g_M_oldest hC 186 rfl d_M_leave_183 ?_
  refine j_iconst (v := 1) hC 187 rfl d_M_leave_186 (by decide) ?_
  refine j_isub hC 188 rfl d_M_leave_187 ?_
  exact j_iret hC hr hlk d_M_leave_188 (by show (wrL _ _ _ _ _) 2 0 + 1 - 1 = _; rw [wrL_j] <;> rfl) rfl
set_option maxHeartbeats 4000000 in
set_option maxRecDepth 100000 in
theorem c_M_leave_exc  (h : ¬ μ 2 0 = μ 1 0) (hm : mlM (sS μ 0 0) ν = true) (k3 : μ 12 (ix (μ 2 0)) = 3) (ha : ∀ k : Int32, 0 ≤ k → ¬ μ 13 (ix (μ 2 0)) ≤ k → vp_in (μ 15 (ix (μ 2 0)) + k) 4096) : kM l dC dI cI cZ cB cJ y_M_leave b_M_leave 3 (some .int) 2 46 [.ref (am 0)] (wM am cI cZ μ ν ρ) (some (.int (μ 2 0 + 1 - 1))) (wM am cI cZ (sS (wrL (μ 15 (ix (μ 2 0))) (μ 13 (ix (μ 2 0))) (μ 16 (ix (μ 2 0))) 0 (xmL (μ 15 (ix (μ 2 0))) (μ 13 (ix (μ 2 0))) (ix (μ 2 0)) 0 (sA (sS μ 0 0) 17 (ix (μ 2 0)) 0))) 2 ((wrL (μ 15 (ix (μ 2 0))) (μ 13 (ix (μ 2 0))) (μ 16 (ix (μ 2 0))) 0 (xmL (μ 15 (ix (μ 2 0))) (μ 13 (ix (μ 2 0))) (ix (μ 2 0)) 0 (sA (sS μ 0 0) 17 (ix (μ 2 0)) 0))) 2 0 + 1)) ν ρ) := by
  refine jM.of (lv := [(0, .ref (am 0))]) (own := R_M) jE_loc (by decide) rfl rfl (Nat.le_of_ble_eq_true rfl) rfl ?_
  intro p e s m args below meth c A hC hr hlk
  have loop : ∀ (n : Nat) (k : Int32) (τ : S2), 0 ≤ k → (∀ j, j ≠ 0 ∧ j ≠ 17 → τ j = μ j) → dist k (μ 13 (ix (μ 2 0))) < n → xmL (μ 15 (ix (μ 2 0))) (μ 13 (ix (μ 2 0))) (ix (μ 2 0)) k τ = (xmL (μ 15 (ix (μ 2 0))) (μ 13 (ix (μ 2 0))) (ix (μ 2 0)) 0 (sA (sS μ 0 0) 17 (ix (μ 2 0)) 0)) → kJ l dC dI p e s m args below meth c A 2 46 3 (some (.int (μ 2 0 + 1 - 1))) (wM am cI cZ (sS (wrL (μ 15 (ix (μ 2 0))) (μ 13 (ix (μ 2 0))) (μ 16 (ix (μ 2 0))) 0 (xmL (μ 15 (ix (μ 2 0))) (μ 13 (ix (μ 2 0))) (ix (μ 2 0)) 0 (sA (sS μ 0 0) 17 (ix (μ 2 0)) 0))) 2 ((wrL (μ 15 (ix (μ 2 0))) (μ 13 (ix (μ 2 0))) (μ 16 (ix (μ 2 0))) 0 (xmL (μ 15 (ix (μ 2 0))) (μ 13 (ix (μ 2 0))) (ix (μ 2 0)) 0 (sA (sS μ 0 0) 17 (ix (μ 2 0)) 0))) 2 0 + 1)) ν ρ) (wM am cI cZ τ ν ρ) 52 [(2, .int k), (1, .int (μ 2 0 &&& 127)), (0, .ref (am 0))] [] := by
    intro n
    induction n with
    | zero => intro k τ hk hs hd hR; exact absurd hd (Nat.not_lt_zero _)
    | succ n ih =>
      intro k τ hk hs hd hR
      refine j_iload_n hC 0 53 rfl d_M_leave_52 rfl rfl ?_
      refine j_aload_n hC 2 54 rfl d_M_leave_53 rfl rfl ?_
      refine g_M_sizes hC 57 rfl d_M_leave_54 ?_
      refine j_iload_n hC 1 58 rfl d_M_leave_57 rfl rfl ?_
      refine ld_M_sizes hC (ix_in _) 59 rfl d_M_leave_58 ?_
      refine j_eqi (show τ 13 (ix (μ 2 0)) = μ 13 (ix (μ 2 0)) by rw [hs _ (by decide)]) ?_
      refine j_icmp_ge hC 97 62 rfl d_M_leave_59 (by decide) (fun c_59 => ?_) (fun c_59 => ?_)
      · refine j_aload_n hC 2 98 rfl d_M_leave_97 rfl rfl ?_
        refine g_M_kinds hC 101 rfl d_M_leave_98 ?_
        refine j_iload_n hC 1 102 rfl d_M_leave_101 rfl rfl ?_
        refine ld_M_kinds hC (ix_in _) 103 rfl d_M_leave_102 ?_
        refine j_eqi (show τ 12 (ix (μ 2 0)) = μ 12 (ix (μ 2 0)) by rw [hs _ (by decide)]) ?_
        refine j_iconst (v := 1) hC 104 rfl d_M_leave_103 (by decide) ?_
        refine j_icmp_ne hC 130 107 rfl d_M_leave_104 (by decide) (fun c_104 => ?_) (fun c_104 => absurd c_104 (fun q => absurd (q.symm.trans k3) (by decide)))
        refine j_aload_n hC 2 131 rfl d_M_leave_130 rfl rfl ?_
        refine g_M_kinds hC 134 rfl d_M_leave_131 ?_
        refine j_iload_n hC 1 135 rfl d_M_leave_134 rfl rfl ?_
        refine ld_M_kinds hC (ix_in _) 136 rfl d_M_leave_135 ?_
        refine j_eqi (show τ 12 (ix (μ 2 0)) = μ 12 (ix (μ 2 0)) by rw [hs _ (by decide)]) ?_
        refine j_iconst (v := 1) hC 137 rfl d_M_leave_136 (by decide) ?_
        refine j_icmp_eq hC 150 140 rfl d_M_leave_137 (by decide) (fun c_137 => absurd c_137 (fun q => absurd (q.symm.trans k3) (by decide))) (fun c_137 => ?_)
        refine j_aload_n hC 2 141 rfl d_M_leave_140 rfl rfl ?_
        refine g_M_kinds hC 144 rfl d_M_leave_141 ?_
        refine j_iload_n hC 1 145 rfl d_M_leave_144 rfl rfl ?_
        refine ld_M_kinds hC (ix_in _) 146 rfl d_M_leave_145 ?_
        refine j_eqi (show τ 12 (ix (μ 2 0)) = μ 12 (ix (μ 2 0)) by rw [hs _ (by decide)]) ?_
        refine j_iconst (v := 3) hC 147 rfl d_M_leave_146 (by decide) ?_
        refine j_icmp_ne hC 172 150 rfl d_M_leave_147 (by decide) (fun c_147 => absurd c_147 (fun q => q k3)) (fun c_147 => ?_)
        refine j_aload_n hC 2 151 rfl d_M_leave_150 rfl rfl ?_
        refine j_aload_n hC 2 152 rfl d_M_leave_151 rfl rfl ?_
        refine g_M_places hC 155 rfl d_M_leave_152 ?_
        refine j_iload_n hC 1 156 rfl d_M_leave_155 rfl rfl ?_
        refine ld_M_places hC (ix_in _) 157 rfl d_M_leave_156 ?_
        refine j_eqi (show τ 15 (ix (μ 2 0)) = μ 15 (ix (μ 2 0)) by rw [hs _ (by decide)]) ?_
        refine j_aload_n hC 2 158 rfl d_M_leave_157 rfl rfl ?_
        refine g_M_sizes hC 161 rfl d_M_leave_158 ?_
        refine j_iload_n hC 1 162 rfl d_M_leave_161 rfl rfl ?_
        refine ld_M_sizes hC (ix_in _) 163 rfl d_M_leave_162 ?_
        refine j_eqi (show τ 13 (ix (μ 2 0)) = μ 13 (ix (μ 2 0)) by rw [hs _ (by decide)]) ?_
        refine j_aload_n hC 2 164 rfl d_M_leave_163 rfl rfl ?_
        refine g_M_values hC 167 rfl d_M_leave_164 ?_
        refine j_iload_n hC 1 168 rfl d_M_leave_167 rfl rfl ?_
        refine ld_M_values hC (ix_in _) 169 rfl d_M_leave_168 ?_
        refine j_eqi (show τ 16 (ix (μ 2 0)) = μ 16 (ix (μ 2 0)) by rw [hs _ (by decide)]) ?_
        refine j_callVv hC jE_loc jT_good (As := [_, _, _]) (c_M_write ha) yk_M_write lk_M_140 ⟨rfl, rfl⟩ ⟨Nat.le_of_ble_eq_true rfl, Nat.le_of_ble_eq_true rfl⟩ 0 rfl rfl rfl rfl (Nat.le_of_ble_eq_true rfl) ⟨Nat.zero_le _, Nat.zero_le _⟩ d_M_leave_169 172 rfl rfl ?_
        refine j_aload_n hC 2 173 rfl d_M_leave_172 rfl rfl ?_
        refine j_dup hC 174 rfl d_M_leave_173 rfl ?_
        refine g_M_oldest hC 177 rfl d_M_leave_174 ?_
        refine j_iconst (v := 1) hC 178 rfl d_M_leave_177 (by decide) ?_
        refine j_iadd hC 179 rfl d_M_leave_178 ?_
        refine p_M_oldest hC 182 rfl d_M_leave_179 ?_
        refine j_aload_n hC 2 183 rfl d_M_leave_182 rfl rfl ?_
        refine g_M_oldest hC 186 rfl d_M_leave_183 ?_
        refine j_iconst (v := 1) hC 187 rfl d_M_leave_186 (by decide) ?_
        refine j_isub hC 188 rfl d_M_leave_187 ?_
        exact j_iret hC hr hlk d_M_leave_188 (by show (wrL _ _ _ _ τ) 2 0 + 1 - 1 = _; rw [wrL_j (by decide), hs _ (by decide)]) (by rw [← hR, xmL_out c_59] <;> rfl)
      · refine j_aload_n hC 2 63 rfl d_M_leave_62 rfl rfl ?_
        refine g_M_results hC 66 rfl d_M_leave_63 ?_
        refine j_iload_n hC 1 67 rfl d_M_leave_66 rfl rfl ?_
        refine j_aload_n hC 2 68 rfl d_M_leave_67 rfl rfl ?_
        refine g_M_results hC 71 rfl d_M_leave_68 ?_
        refine j_iload_n hC 1 72 rfl d_M_leave_71 rfl rfl ?_
        refine ld_M_results hC (ix_in _) 73 rfl d_M_leave_72 ?_
        refine j_bipush (v := 8) hC 75 rfl d_M_leave_73 (by decide) ?_
        refine j_ishl hC 76 rfl d_M_leave_75 ?_
        refine j_aload_n hC 2 77 rfl d_M_leave_76 rfl rfl ?_
        refine g_M_bytes hC 80 rfl d_M_leave_77 ?_
        refine j_aload_n hC 2 81 rfl d_M_leave_80 rfl rfl ?_
        refine g_M_places hC 84 rfl d_M_leave_81 ?_
        refine j_iload_n hC 1 85 rfl d_M_leave_84 rfl rfl ?_
        refine ld_M_places hC (ix_in _) 86 rfl d_M_leave_85 ?_
        refine j_eqi (show τ 15 (ix (μ 2 0)) = μ 15 (ix (μ 2 0)) by rw [hs _ (by decide)]) ?_
        refine j_iload_n hC 0 87 rfl d_M_leave_86 rfl rfl ?_
        refine j_iadd hC 88 rfl d_M_leave_87 ?_
        refine ld_M_bytes hC (ha _ hk c_59) 89 rfl d_M_leave_88 ?_
        refine j_ior hC 90 rfl d_M_leave_89 ?_
        refine st_M_results hC (ix_in _) 91 rfl d_M_leave_90 ?_
        refine j_iinc (lv' := [(2, _), (1, _), (0, _)]) hC 0 94 rfl d_M_leave_91 rfl (inc1 _) (by decide) rfl ?_
        refine j_goto hC 52 d_M_leave_94 (by decide) ?_
        exact ih _ _ (nn1 hk c_59) (fun j h => by rw [sA, va_up_ne _ _ h.2]; exact hs j h) (dist_lt c_59 hd) (by rw [← hR, xmL_in c_59] <;> rfl)
  refine j_aload_n hC 0 1 rfl d_M_leave_0 rfl rfl ?_
  refine j_iconst (v := 0) hC 2 rfl d_M_leave_1 (by decide) ?_
  refine p_M_thrown hC 5 rfl d_M_leave_2 ?_
  refine j_aload_n hC 0 6 rfl d_M_leave_5 rfl rfl ?_
  refine g_M_oldest hC 9 rfl d_M_leave_6 ?_
  refine j_aload_n hC 0 10 rfl d_M_leave_9 rfl rfl ?_
  refine g_M_total hC 13 rfl d_M_leave_10 ?_
  refine j_icmp_eq hC 23 16 rfl d_M_leave_13 (by decide) (fun c_13 => absurd c_13 h) (fun c_13 => ?_)
  refine j_aload_n hC 0 17 rfl d_M_leave_16 rfl rfl ?_
  refine j_callVi hC jE_loc jT_good (As := []) c_M_mayLeave yk_M_mayLeave lk_M_132 ⟨rfl, rfl⟩ ⟨Nat.le_of_ble_eq_true rfl, Nat.le_of_ble_eq_true rfl⟩ 0 rfl rfl rfl rfl (Nat.le_of_ble_eq_true rfl) ⟨Nat.zero_le _, Nat.zero_le _⟩ d_M_leave_17 20 rfl rfl ?_
  refine j_if_ne hC 25 23 rfl d_M_leave_20 (by decide) (fun c_20 => ?_) (fun c_20 => absurd c_20 (by rw [hm]; decide))
  refine j_aload_n hC 0 26 rfl d_M_leave_25 rfl rfl ?_
  refine g_M_oldest hC 29 rfl d_M_leave_26 ?_
  refine j_bipush (v := 127) hC 31 rfl d_M_leave_29 (by decide) ?_
  refine j_iand hC 32 rfl d_M_leave_31 ?_
  refine j_istore_n (lv' := [(1, _), (0, _)]) hC 33 rfl d_M_leave_32 rfl (by decide) rfl ?_
  refine j_aload_n hC 1 34 rfl d_M_leave_33 rfl rfl ?_
  refine g_M_kinds hC 37 rfl d_M_leave_34 ?_
  refine j_iload_n hC 0 38 rfl d_M_leave_37 rfl rfl ?_
  refine ld_M_kinds hC (ix_in _) 39 rfl d_M_leave_38 ?_
  refine j_iconst (v := 3) hC 40 rfl d_M_leave_39 (by decide) ?_
  refine j_icmp_ne hC 97 43 rfl d_M_leave_40 (by decide) (fun c_40 => absurd c_40 (fun q => q k3)) (fun c_40 => ?_)
  refine j_aload_n hC 1 44 rfl d_M_leave_43 rfl rfl ?_
  refine g_M_results hC 47 rfl d_M_leave_44 ?_
  refine j_iload_n hC 0 48 rfl d_M_leave_47 rfl rfl ?_
  refine j_iconst (v := 0) hC 49 rfl d_M_leave_48 (by decide) ?_
  refine st_M_results hC (ix_in _) 50 rfl d_M_leave_49 ?_
  refine j_iconst (v := 0) hC 51 rfl d_M_leave_50 (by decide) ?_
  refine j_istore_n (lv' := [(2, _), (1, _), (0, _)]) hC 52 rfl d_M_leave_51 rfl (by decide) rfl ?_
  exact loop _ 0 _ (by decide) (fun j h => by simp [sA, sS, va_up, h]) (Nat.lt_succ_self _) rfl
end KC
end
