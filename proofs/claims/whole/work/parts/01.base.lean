/-! the judgement of a walk over a world w: locals lv, stack st -/
section JB
variable {p : Program} {l : Launch} {e : Env} {R : Room} {s : State} {m : MethodId} {args : Array Value} {below : List Frame} {meth : Method} {c : Code} {cells slots : Nat} {Q : State → Prop}
variable {D : va_G} {cl : List vw_C} {tys : List (ClassId × FieldType)} {A : Nat → Prop} {Sx : Heap → List Loc → Prop} {E : State → Prop} {nL : Nat} {cc : ByteArray} {own : String} {Ts : List Cond} {w : va_W} {pc : Nat} {lv : List (Nat × Value)} {rest : List Value}
def jJ (p : Program) (l : Launch) (e : Env) (R : Room) (s : State) (m : MethodId) (args : Array Value) (below : List Frame) (meth : Method) (c : Code) (cells slots : Nat) (Q : State → Prop) (D : va_G) (cl : List vw_C) (A : Nat → Prop) (Sx : Heap → List Loc → Prop) (nL : Nat) (w : va_W) (pc : Nat) (lv : List (Nat × Value)) (st : List Value) : Prop :=
  ∀ (H : Heap) (locs : List Loc) (ls : Array Slot), va_P D cl w H → va_D A w → Sx H locs → lv_has ls nL lv → W p l e R s m args below meth c H locs cells slots Q (F0 m pc ls st)
def jC (p : Program) (s : State) (m : MethodId) (args : Array Value) (c : Code) (cc : ByteArray) (nL : Nat) (own : String) (Ts : List Cond) (D : va_G) (cl : List vw_C) (tys : List (ClassId × FieldType)) (A : Nat → Prop) (Sx : Heap → List Loc → Prop) (E : State → Prop) : Prop :=
  p.tables.exec = Jvm.exec ∧ c.code = cc ∧ c.maxLocals = nL ∧ s.vm.findClass own = some m.cls ∧ (∀ w ∈ Ts, w.before args s = true) ∧ va_K D cl tys s ∧ (∀ q : Nat, s.heap.size ≤ q → A q) ∧ (∀ U : State, (∀ q : Nat, q < s.heap.size → ¬ A q → U.heap[q]? = s.heap[q]?) → s.WarmedH U.vm → E U) ∧ (∀ (H : Heap) (locs : List Loc), Sx H locs → va_S A s.heap H locs)
theorem jC.x (C : jC p s m args c cc nL own Ts D cl tys A Sx E) : p.tables.exec = Jvm.exec := C.1
theorem jC.b (C : jC p s m args c cc nL own Ts D cl tys A Sx E) : c.code = cc := C.2.1
theorem jC.ml (C : jC p s m args c cc nL own Ts D cl tys A Sx E) : c.maxLocals = nL := C.2.2.1
theorem jC.o (C : jC p s m args c cc nL own Ts D cl tys A Sx E) : s.vm.findClass own = some m.cls := C.2.2.2.1
theorem jC.t (C : jC p s m args c cc nL own Ts D cl tys A Sx E) : ∀ w ∈ Ts, w.before args s = true := C.2.2.2.2.1
theorem jC.k (C : jC p s m args c cc nL own Ts D cl tys A Sx E) : va_K D cl tys s := C.2.2.2.2.2.1
theorem jC.a (C : jC p s m args c cc nL own Ts D cl tys A Sx E) : ∀ q : Nat, s.heap.size ≤ q → A q := C.2.2.2.2.2.2.1
theorem jC.ev (C : jC p s m args c cc nL own Ts D cl tys A Sx E) : ∀ U : State, (∀ q : Nat, q < s.heap.size → ¬ A q → U.heap[q]? = s.heap[q]?) → s.WarmedH U.vm → E U := C.2.2.2.2.2.2.2.1
theorem jC.sx (C : jC p s m args c cc nL own Ts D cl tys A Sx E) : ∀ (H : Heap) (locs : List Loc), Sx H locs → va_S A s.heap H locs := C.2.2.2.2.2.2.2.2
def rd (s : State) : Heap → List Loc → Prop := fun H locs => H = s.heap ∧ locs = []
theorem rd_S {A : Nat → Prop} : ∀ (H : Heap) (locs : List Loc), rd s H locs → va_S A s.heap H locs := fun H locs h => by
  obtain ⟨rfl, rfl⟩ := h
  exact va_S.rf
def jLoc (D : va_G) (cl : List vw_C) (E : State → Prop) : Prop := (∀ (a : Array Value) (U : State) (g : JFrame) (mk : MethodId), E U → E (U.calling g mk a)) ∧
  ∀ (s U : State) (w : va_W), E s → va_P D cl w s.heap → (∀ q : Nat, q < s.heap.size → ¬ va_A w s.heap.size q → U.heap[q]? = s.heap[q]?) → s.WarmedH U.vm → E U
theorem j_iadd (C : jC p s m args c cc nL own Ts D cl tys A Sx E) {x y : Int32} (pn : Nat) (hpn : pc + 1 = pn) (hdg : decode cc pc = .ok (.iadd, 1)) (k : jJ p l e R s m args below meth c cells slots Q D cl A Sx nL w (pn) lv (.int (x + y) :: rest)) : jJ p l e R s m args below meth c cells slots Q D cl A Sx nL w (pc) lv (.int y :: .int x :: rest) := by
  subst hpn
  exact fun H locs ls h1 h2 h3 h4 => lv_iadd C.x C.b hdg (k H locs ls h1 h2 h3 h4)
theorem j_isub (C : jC p s m args c cc nL own Ts D cl tys A Sx E) {x y : Int32} (pn : Nat) (hpn : pc + 1 = pn) (hdg : decode cc pc = .ok (.isub, 1)) (k : jJ p l e R s m args below meth c cells slots Q D cl A Sx nL w (pn) lv (.int (x - y) :: rest)) : jJ p l e R s m args below meth c cells slots Q D cl A Sx nL w (pc) lv (.int y :: .int x :: rest) := by
  subst hpn
  exact fun H locs ls h1 h2 h3 h4 => lv_isub C.x C.b hdg (k H locs ls h1 h2 h3 h4)
theorem j_imul (C : jC p s m args c cc nL own Ts D cl tys A Sx E) {x y : Int32} (pn : Nat) (hpn : pc + 1 = pn) (hdg : decode cc pc = .ok (.imul, 1)) (k : jJ p l e R s m args below meth c cells slots Q D cl A Sx nL w (pn) lv (.int (x * y) :: rest)) : jJ p l e R s m args below meth c cells slots Q D cl A Sx nL w (pc) lv (.int y :: .int x :: rest) := by
  subst hpn
  exact fun H locs ls h1 h2 h3 h4 => lv_imul C.x C.b hdg (k H locs ls h1 h2 h3 h4)
theorem j_iand (C : jC p s m args c cc nL own Ts D cl tys A Sx E) {x y : Int32} (pn : Nat) (hpn : pc + 1 = pn) (hdg : decode cc pc = .ok (.iand, 1)) (k : jJ p l e R s m args below meth c cells slots Q D cl A Sx nL w (pn) lv (.int (x &&& y) :: rest)) : jJ p l e R s m args below meth c cells slots Q D cl A Sx nL w (pc) lv (.int y :: .int x :: rest) := by
  subst hpn
  exact fun H locs ls h1 h2 h3 h4 => lv_iand C.x C.b hdg (k H locs ls h1 h2 h3 h4)
theorem j_ior (C : jC p s m args c cc nL own Ts D cl tys A Sx E) {x y : Int32} (pn : Nat) (hpn : pc + 1 = pn) (hdg : decode cc pc = .ok (.ior, 1)) (k : jJ p l e R s m args below meth c cells slots Q D cl A Sx nL w (pn) lv (.int (x ||| y) :: rest)) : jJ p l e R s m args below meth c cells slots Q D cl A Sx nL w (pc) lv (.int y :: .int x :: rest) := by
  subst hpn
  exact fun H locs ls h1 h2 h3 h4 => lv_ior C.x C.b hdg (k H locs ls h1 h2 h3 h4)
theorem j_ixor (C : jC p s m args c cc nL own Ts D cl tys A Sx E) {x y : Int32} (pn : Nat) (hpn : pc + 1 = pn) (hdg : decode cc pc = .ok (.ixor, 1)) (k : jJ p l e R s m args below meth c cells slots Q D cl A Sx nL w (pn) lv (.int (x ^^^ y) :: rest)) : jJ p l e R s m args below meth c cells slots Q D cl A Sx nL w (pc) lv (.int y :: .int x :: rest) := by
  subst hpn
  exact fun H locs ls h1 h2 h3 h4 => lv_ixor C.x C.b hdg (k H locs ls h1 h2 h3 h4)
theorem j_ladd (C : jC p s m args c cc nL own Ts D cl tys A Sx E) {x y : Int64} (pn : Nat) (hpn : pc + 1 = pn) (hdg : decode cc pc = .ok (.ladd, 1)) (k : jJ p l e R s m args below meth c cells slots Q D cl A Sx nL w (pn) lv (.long (x + y) :: rest)) : jJ p l e R s m args below meth c cells slots Q D cl A Sx nL w (pc) lv (.long y :: .long x :: rest) := by
  subst hpn
  exact fun H locs ls h1 h2 h3 h4 => lv_ladd C.x C.b hdg (k H locs ls h1 h2 h3 h4)
theorem j_lsub (C : jC p s m args c cc nL own Ts D cl tys A Sx E) {x y : Int64} (pn : Nat) (hpn : pc + 1 = pn) (hdg : decode cc pc = .ok (.lsub, 1)) (k : jJ p l e R s m args below meth c cells slots Q D cl A Sx nL w (pn) lv (.long (x - y) :: rest)) : jJ p l e R s m args below meth c cells slots Q D cl A Sx nL w (pc) lv (.long y :: .long x :: rest) := by
  subst hpn
  exact fun H locs ls h1 h2 h3 h4 => lv_lsub C.x C.b hdg (k H locs ls h1 h2 h3 h4)
theorem j_land (C : jC p s m args c cc nL own Ts D cl tys A Sx E) {x y : Int64} (pn : Nat) (hpn : pc + 1 = pn) (hdg : decode cc pc = .ok (.land, 1)) (k : jJ p l e R s m args below meth c cells slots Q D cl A Sx nL w (pn) lv (.long (x &&& y) :: rest)) : jJ p l e R s m args below meth c cells slots Q D cl A Sx nL w (pc) lv (.long y :: .long x :: rest) := by
  subst hpn
  exact fun H locs ls h1 h2 h3 h4 => lv_land C.x C.b hdg (k H locs ls h1 h2 h3 h4)
theorem j_lor (C : jC p s m args c cc nL own Ts D cl tys A Sx E) {x y : Int64} (pn : Nat) (hpn : pc + 1 = pn) (hdg : decode cc pc = .ok (.lor, 1)) (k : jJ p l e R s m args below meth c cells slots Q D cl A Sx nL w (pn) lv (.long (x ||| y) :: rest)) : jJ p l e R s m args below meth c cells slots Q D cl A Sx nL w (pc) lv (.long y :: .long x :: rest) := by
  subst hpn
  exact fun H locs ls h1 h2 h3 h4 => lv_lor C.x C.b hdg (k H locs ls h1 h2 h3 h4)
theorem j_ishl (C : jC p s m args c cc nL own Ts D cl tys A Sx E) {x y : Int32} (pn : Nat) (hpn : pc + 1 = pn) (hdg : decode cc pc = .ok (.ishl, 1)) (k : jJ p l e R s m args below meth c cells slots Q D cl A Sx nL w (pn) lv (.int (x <<< (y &&& 31)) :: rest)) : jJ p l e R s m args below meth c cells slots Q D cl A Sx nL w (pc) lv (.int y :: .int x :: rest) := by
  subst hpn
  exact fun H locs ls h1 h2 h3 h4 => lv_ishl C.x C.b hdg (k H locs ls h1 h2 h3 h4)
theorem j_ishr (C : jC p s m args c cc nL own Ts D cl tys A Sx E) {x y : Int32} (pn : Nat) (hpn : pc + 1 = pn) (hdg : decode cc pc = .ok (.ishr, 1)) (k : jJ p l e R s m args below meth c cells slots Q D cl A Sx nL w (pn) lv (.int (x >>> (y &&& 31)) :: rest)) : jJ p l e R s m args below meth c cells slots Q D cl A Sx nL w (pc) lv (.int y :: .int x :: rest) := by
  subst hpn
  exact fun H locs ls h1 h2 h3 h4 => lv_ishr C.x C.b hdg (k H locs ls h1 h2 h3 h4)
theorem j_iushr (C : jC p s m args c cc nL own Ts D cl tys A Sx E) {x y v : Int32} (pn : Nat) (hpn : pc + 1 = pn) (hdg : decode cc pc = .ok (.iushr, 1)) (hv : (x.toUInt32 >>> (y.toUInt32 &&& Int32.toUInt32 31)).toInt32 = v) (k : jJ p l e R s m args below meth c cells slots Q D cl A Sx nL w (pn) lv (.int v :: rest)) : jJ p l e R s m args below meth c cells slots Q D cl A Sx nL w (pc) lv (.int y :: .int x :: rest) := by
  subst hpn
  exact fun H locs ls h1 h2 h3 h4 => lv_iushr C.x C.b hdg hv (k H locs ls h1 h2 h3 h4)
theorem j_lushr (C : jC p s m args c cc nL own Ts D cl tys A Sx E) {x v : Int64} {y : Int32} (pn : Nat) (hpn : pc + 1 = pn) (hdg : decode cc pc = .ok (.lushr, 1)) (hv : (x.toUInt64 >>> (y.toInt64.toUInt64 &&& Int64.toUInt64 63)).toInt64 = v) (k : jJ p l e R s m args below meth c cells slots Q D cl A Sx nL w (pn) lv (.long v :: rest)) : jJ p l e R s m args below meth c cells slots Q D cl A Sx nL w (pc) lv (.int y :: .long x :: rest) := by
  subst hpn
  exact fun H locs ls h1 h2 h3 h4 => lv_lushr C.x C.b hdg hv (k H locs ls h1 h2 h3 h4)
theorem j_lshl (C : jC p s m args c cc nL own Ts D cl tys A Sx E) {x v : Int64} {y : Int32} (pn : Nat) (hpn : pc + 1 = pn) (hdg : decode cc pc = .ok (.lshl, 1)) (hv : x <<< (y.toInt64 &&& 63) = v) (k : jJ p l e R s m args below meth c cells slots Q D cl A Sx nL w (pn) lv (.long v :: rest)) : jJ p l e R s m args below meth c cells slots Q D cl A Sx nL w (pc) lv (.int y :: .long x :: rest) := by
  subst hpn
  exact fun H locs ls h1 h2 h3 h4 => lv_lshl C.x C.b hdg hv (k H locs ls h1 h2 h3 h4)
theorem j_i2l (C : jC p s m args c cc nL own Ts D cl tys A Sx E) {x : Int32} {v : Int64} (pn : Nat) (hpn : pc + 1 = pn) (hdg : decode cc pc = .ok (.i2l, 1)) (hv : x.toInt64 = v) (k : jJ p l e R s m args below meth c cells slots Q D cl A Sx nL w (pn) lv (.long v :: rest)) : jJ p l e R s m args below meth c cells slots Q D cl A Sx nL w (pc) lv (.int x :: rest) := by
  subst hpn
  exact fun H locs ls h1 h2 h3 h4 => lv_i2l C.x C.b hdg hv (k H locs ls h1 h2 h3 h4)
theorem j_l2i (C : jC p s m args c cc nL own Ts D cl tys A Sx E) {x : Int64} {v : Int32} (pn : Nat) (hpn : pc + 1 = pn) (hdg : decode cc pc = .ok (.l2i, 1)) (hv : x.toInt32 = v) (k : jJ p l e R s m args below meth c cells slots Q D cl A Sx nL w (pn) lv (.int v :: rest)) : jJ p l e R s m args below meth c cells slots Q D cl A Sx nL w (pc) lv (.long x :: rest) := by
  subst hpn
  exact fun H locs ls h1 h2 h3 h4 => lv_l2i C.x C.b hdg hv (k H locs ls h1 h2 h3 h4)
theorem j_i2b (C : jC p s m args c cc nL own Ts D cl tys A Sx E) {x v : Int32} (pn : Nat) (hpn : pc + 1 = pn) (hdg : decode cc pc = .ok (.i2b, 1)) (hv : x.toInt8.toInt32 = v) (k : jJ p l e R s m args below meth c cells slots Q D cl A Sx nL w (pn) lv (.int v :: rest)) : jJ p l e R s m args below meth c cells slots Q D cl A Sx nL w (pc) lv (.int x :: rest) := by
  subst hpn
  exact fun H locs ls h1 h2 h3 h4 => lv_i2b C.x C.b hdg hv (k H locs ls h1 h2 h3 h4)
theorem j_iconst (C : jC p s m args c cc nL own Ts D cl tys A Sx E) {n : Int} {v : Int32} (pn : Nat) (hpn : pc + 1 = pn) (hdg : decode cc pc = .ok (.iconst n, 1)) (hv : Int32.ofInt n = v) (k : jJ p l e R s m args below meth c cells slots Q D cl A Sx nL w (pn) lv (.int v :: rest)) : jJ p l e R s m args below meth c cells slots Q D cl A Sx nL w (pc) lv (rest) := by
  subst hpn
  exact fun H locs ls h1 h2 h3 h4 => lv_iconst C.x C.b hdg hv (k H locs ls h1 h2 h3 h4)
theorem j_bipush (C : jC p s m args c cc nL own Ts D cl tys A Sx E) {n : Int} {v : Int32} (pn : Nat) (hpn : pc + 2 = pn) (hdg : decode cc pc = .ok (.bipush n, 2)) (hv : (Int8.ofInt n).toInt32 = v) (k : jJ p l e R s m args below meth c cells slots Q D cl A Sx nL w (pn) lv (.int v :: rest)) : jJ p l e R s m args below meth c cells slots Q D cl A Sx nL w (pc) lv (rest) := by
  subst hpn
  exact fun H locs ls h1 h2 h3 h4 => lv_bipush C.x C.b hdg hv (k H locs ls h1 h2 h3 h4)
theorem j_sipush (C : jC p s m args c cc nL own Ts D cl tys A Sx E) {n : Int} {v : Int32} (pn : Nat) (hpn : pc + 3 = pn) (hdg : decode cc pc = .ok (.sipush n, 3)) (hv : (Int16.ofInt n).toInt32 = v) (k : jJ p l e R s m args below meth c cells slots Q D cl A Sx nL w (pn) lv (.int v :: rest)) : jJ p l e R s m args below meth c cells slots Q D cl A Sx nL w (pc) lv (rest) := by
  subst hpn
  exact fun H locs ls h1 h2 h3 h4 => lv_sipush C.x C.b hdg hv (k H locs ls h1 h2 h3 h4)
theorem j_lconst (C : jC p s m args c cc nL own Ts D cl tys A Sx E) {n : Fin 2} {v : Int64} (pn : Nat) (hpn : pc + 1 = pn) (hdg : decode cc pc = .ok (.lconst n, 1)) (hv : Int64.ofNat (n : Nat) = v) (k : jJ p l e R s m args below meth c cells slots Q D cl A Sx nL w (pn) lv (.long v :: rest)) : jJ p l e R s m args below meth c cells slots Q D cl A Sx nL w (pc) lv (rest) := by
  subst hpn
  exact fun H locs ls h1 h2 h3 h4 => lv_lconst C.x C.b hdg hv (k H locs ls h1 h2 h3 h4)
theorem j_dup (C : jC p s m args c cc nL own Ts D cl tys A Sx E) {va : Value} (pn : Nat) (hpn : pc + 1 = pn) (hdg : decode cc pc = .ok (.dup, 1)) (hva : va.category = 1) (k : jJ p l e R s m args below meth c cells slots Q D cl A Sx nL w (pn) lv (va :: va :: rest)) : jJ p l e R s m args below meth c cells slots Q D cl A Sx nL w (pc) lv (va :: rest) := by
  subst hpn
  exact fun H locs ls h1 h2 h3 h4 => lv_dup C.x C.b hdg hva (k H locs ls h1 h2 h3 h4)
theorem j_pop (C : jC p s m args c cc nL own Ts D cl tys A Sx E) {va : Value} (pn : Nat) (hpn : pc + 1 = pn) (hdg : decode cc pc = .ok (.pop, 1)) (hva : va.category = 1) (k : jJ p l e R s m args below meth c cells slots Q D cl A Sx nL w (pn) lv (rest)) : jJ p l e R s m args below meth c cells slots Q D cl A Sx nL w (pc) lv (va :: rest) := by
  subst hpn
  exact fun H locs ls h1 h2 h3 h4 => lv_pop C.x C.b hdg hva (k H locs ls h1 h2 h3 h4)
theorem j_dup_x1 (C : jC p s m args c cc nL own Ts D cl tys A Sx E) {va vb : Value} (pn : Nat) (hpn : pc + 1 = pn) (hdg : decode cc pc = .ok (.dup_x1, 1)) (hva : va.category = 1) (hvb : vb.category = 1) (k : jJ p l e R s m args below meth c cells slots Q D cl A Sx nL w (pn) lv (va :: vb :: va :: rest)) : jJ p l e R s m args below meth c cells slots Q D cl A Sx nL w (pc) lv (va :: vb :: rest) := by
  subst hpn
  exact fun H locs ls h1 h2 h3 h4 => lv_dup_x1 C.x C.b hdg hva hvb (k H locs ls h1 h2 h3 h4)
theorem j_dup_x2 (C : jC p s m args c cc nL own Ts D cl tys A Sx E) {va vb vd : Value} (pn : Nat) (hpn : pc + 1 = pn) (hdg : decode cc pc = .ok (.dup_x2, 1)) (hva : va.category = 1) (hvb : vb.category = 1) (hvd : vd.category = 1) (k : jJ p l e R s m args below meth c cells slots Q D cl A Sx nL w (pn) lv (va :: vb :: vd :: va :: rest)) : jJ p l e R s m args below meth c cells slots Q D cl A Sx nL w (pc) lv (va :: vb :: vd :: rest) := by
  subst hpn
  exact fun H locs ls h1 h2 h3 h4 => lv_dup_x2 C.x C.b hdg hva hvb hvd (k H locs ls h1 h2 h3 h4)
theorem j_dup2 (C : jC p s m args c cc nL own Ts D cl tys A Sx E) {va vb : Value} (pn : Nat) (hpn : pc + 1 = pn) (hdg : decode cc pc = .ok (.dup2, 1)) (hva : va.category = 1) (hvb : vb.category = 1) (k : jJ p l e R s m args below meth c cells slots Q D cl A Sx nL w (pn) lv (va :: vb :: va :: vb :: rest)) : jJ p l e R s m args below meth c cells slots Q D cl A Sx nL w (pc) lv (va :: vb :: rest) := by
  subst hpn
  exact fun H locs ls h1 h2 h3 h4 => lv_dup2_11 C.x C.b hdg hva hvb (k H locs ls h1 h2 h3 h4)
theorem j_iload_n (C : jC p s m args c cc nL own Ts D cl tys A Sx E) {k : Fin 4} {i : Nat} {x : Int32} (n pn : Nat) (hpn : pc + 1 = pn) (hdg : decode cc pc = .ok (.iload_n k, 1)) (hi : (k : Nat) = i) (hl : lv[n]? = some (i, .int x)) (k : jJ p l e R s m args below meth c cells slots Q D cl A Sx nL w (pn) lv (.int x :: rest)) : jJ p l e R s m args below meth c cells slots Q D cl A Sx nL w (pc) lv (rest) := by
  subst hpn
  exact fun H locs ls h1 h2 h3 h4 => lv_iload_n C.x C.b hdg hi (lv_at h4 n hl) (k H locs ls h1 h2 h3 h4)
theorem j_iload (C : jC p s m args c cc nL own Ts D cl tys A Sx E) {i : Nat} {x : Int32} (n pn : Nat) (hpn : pc + 2 = pn) (hdg : decode cc pc = .ok (.iload i, 2)) (hl : lv[n]? = some (i, .int x)) (k : jJ p l e R s m args below meth c cells slots Q D cl A Sx nL w (pn) lv (.int x :: rest)) : jJ p l e R s m args below meth c cells slots Q D cl A Sx nL w (pc) lv (rest) := by
  subst hpn
  exact fun H locs ls h1 h2 h3 h4 => lv_iload C.x C.b hdg (lv_at h4 n hl) (k H locs ls h1 h2 h3 h4)
theorem j_lload_n (C : jC p s m args c cc nL own Ts D cl tys A Sx E) {k : Fin 4} {i : Nat} {x : Int64} (n pn : Nat) (hpn : pc + 1 = pn) (hdg : decode cc pc = .ok (.lload_n k, 1)) (hi : (k : Nat) = i) (hl : lv[n]? = some (i, .long x)) (k : jJ p l e R s m args below meth c cells slots Q D cl A Sx nL w (pn) lv (.long x :: rest)) : jJ p l e R s m args below meth c cells slots Q D cl A Sx nL w (pc) lv (rest) := by
  subst hpn
  exact fun H locs ls h1 h2 h3 h4 => lv_lload_n C.x C.b hdg hi (lv_at h4 n hl) (k H locs ls h1 h2 h3 h4)
theorem j_lload (C : jC p s m args c cc nL own Ts D cl tys A Sx E) {i : Nat} {x : Int64} (n pn : Nat) (hpn : pc + 2 = pn) (hdg : decode cc pc = .ok (.lload i, 2)) (hl : lv[n]? = some (i, .long x)) (k : jJ p l e R s m args below meth c cells slots Q D cl A Sx nL w (pn) lv (.long x :: rest)) : jJ p l e R s m args below meth c cells slots Q D cl A Sx nL w (pc) lv (rest) := by
  subst hpn
  exact fun H locs ls h1 h2 h3 h4 => lv_lload C.x C.b hdg (lv_at h4 n hl) (k H locs ls h1 h2 h3 h4)
theorem j_aload_n (C : jC p s m args c cc nL own Ts D cl tys A Sx E) {k : Fin 4} {i : Nat} {x : Nat} (n pn : Nat) (hpn : pc + 1 = pn) (hdg : decode cc pc = .ok (.aload_n k, 1)) (hi : (k : Nat) = i) (hl : lv[n]? = some (i, .ref x)) (k : jJ p l e R s m args below meth c cells slots Q D cl A Sx nL w (pn) lv (.ref x :: rest)) : jJ p l e R s m args below meth c cells slots Q D cl A Sx nL w (pc) lv (rest) := by
  subst hpn
  exact fun H locs ls h1 h2 h3 h4 => lv_aload_n C.x C.b hdg hi (lv_at h4 n hl) (k H locs ls h1 h2 h3 h4)
theorem j_aload (C : jC p s m args c cc nL own Ts D cl tys A Sx E) {i : Nat} {x : Nat} (n pn : Nat) (hpn : pc + 2 = pn) (hdg : decode cc pc = .ok (.aload i, 2)) (hl : lv[n]? = some (i, .ref x)) (k : jJ p l e R s m args below meth c cells slots Q D cl A Sx nL w (pn) lv (.ref x :: rest)) : jJ p l e R s m args below meth c cells slots Q D cl A Sx nL w (pc) lv (rest) := by
  subst hpn
  exact fun H locs ls h1 h2 h3 h4 => lv_aload C.x C.b hdg (lv_at h4 n hl) (k H locs ls h1 h2 h3 h4)
theorem j_istore_n (C : jC p s m args c cc nL own Ts D cl tys A Sx E) {k : Fin 4} {i : Nat} {x : Int32} {lv' : List (Nat × Value)} (pn : Nat) (hpn : pc + 1 = pn) (hdg : decode cc pc = .ok (.istore_n k, 1)) (hi : (k : Nat) = i) (hn : i < nL) (hl : (i, Value.int x) :: lv.filter (fun q => !(q.1 == i) && !(q.1 + 1 == i && q.2.category == 2)) = lv') (k : jJ p l e R s m args below meth c cells slots Q D cl A Sx nL w (pn) lv' (rest)) : jJ p l e R s m args below meth c cells slots Q D cl A Sx nL w (pc) lv (.int x :: rest) := by
  subst hpn
  exact fun H locs ls h1 h2 h3 h4 => lv_istore_n C.x C.b hdg hi h4 hn hl (fun ls h4 => k H locs ls h1 h2 h3 h4)
theorem j_istore (C : jC p s m args c cc nL own Ts D cl tys A Sx E) {i : Nat} {x : Int32} {lv' : List (Nat × Value)} (pn : Nat) (hpn : pc + 2 = pn) (hdg : decode cc pc = .ok (.istore i, 2)) (hn : i < nL) (hl : (i, Value.int x) :: lv.filter (fun q => !(q.1 == i) && !(q.1 + 1 == i && q.2.category == 2)) = lv') (k : jJ p l e R s m args below meth c cells slots Q D cl A Sx nL w (pn) lv' (rest)) : jJ p l e R s m args below meth c cells slots Q D cl A Sx nL w (pc) lv (.int x :: rest) := by
  subst hpn
  exact fun H locs ls h1 h2 h3 h4 => lv_istore C.x C.b hdg h4 hn hl (fun ls h4 => k H locs ls h1 h2 h3 h4)
theorem j_lstore_n (C : jC p s m args c cc nL own Ts D cl tys A Sx E) {k : Fin 4} {i : Nat} {x : Int64} {lv' : List (Nat × Value)} (pn : Nat) (hpn : pc + 1 = pn) (hdg : decode cc pc = .ok (.lstore_n k, 1)) (hi : (k : Nat) = i) (hn : i + 1 < nL) (hl : (i, Value.long x) :: lv.filter (fun q => !(q.1 == i) && (!(q.1 == i + 1) && !(q.1 + 1 == i && q.2.category == 2))) = lv') (k : jJ p l e R s m args below meth c cells slots Q D cl A Sx nL w (pn) lv' (rest)) : jJ p l e R s m args below meth c cells slots Q D cl A Sx nL w (pc) lv (.long x :: rest) := by
  subst hpn
  exact fun H locs ls h1 h2 h3 h4 => lv_lstore_n C.x C.b hdg hi h4 hn hl (fun ls h4 => k H locs ls h1 h2 h3 h4)
theorem j_lstore (C : jC p s m args c cc nL own Ts D cl tys A Sx E) {i : Nat} {x : Int64} {lv' : List (Nat × Value)} (pn : Nat) (hpn : pc + 2 = pn) (hdg : decode cc pc = .ok (.lstore i, 2)) (hn : i + 1 < nL) (hl : (i, Value.long x) :: lv.filter (fun q => !(q.1 == i) && (!(q.1 == i + 1) && !(q.1 + 1 == i && q.2.category == 2))) = lv') (k : jJ p l e R s m args below meth c cells slots Q D cl A Sx nL w (pn) lv' (rest)) : jJ p l e R s m args below meth c cells slots Q D cl A Sx nL w (pc) lv (.long x :: rest) := by
  subst hpn
  exact fun H locs ls h1 h2 h3 h4 => lv_lstore C.x C.b hdg h4 hn hl (fun ls h4 => k H locs ls h1 h2 h3 h4)
theorem j_astore_n (C : jC p s m args c cc nL own Ts D cl tys A Sx E) {k : Fin 4} {i : Nat} {x : Nat} {lv' : List (Nat × Value)} (pn : Nat) (hpn : pc + 1 = pn) (hdg : decode cc pc = .ok (.astore_n k, 1)) (hi : (k : Nat) = i) (hn : i < nL) (hl : (i, Value.ref x) :: lv.filter (fun q => !(q.1 == i) && !(q.1 + 1 == i && q.2.category == 2)) = lv') (k : jJ p l e R s m args below meth c cells slots Q D cl A Sx nL w (pn) lv' (rest)) : jJ p l e R s m args below meth c cells slots Q D cl A Sx nL w (pc) lv (.ref x :: rest) := by
  subst hpn
  exact fun H locs ls h1 h2 h3 h4 => lv_astore_n C.x C.b hdg hi h4 hn hl (fun ls h4 => k H locs ls h1 h2 h3 h4)
theorem j_astore (C : jC p s m args c cc nL own Ts D cl tys A Sx E) {i : Nat} {x : Nat} {lv' : List (Nat × Value)} (pn : Nat) (hpn : pc + 2 = pn) (hdg : decode cc pc = .ok (.astore i, 2)) (hn : i < nL) (hl : (i, Value.ref x) :: lv.filter (fun q => !(q.1 == i) && !(q.1 + 1 == i && q.2.category == 2)) = lv') (k : jJ p l e R s m args below meth c cells slots Q D cl A Sx nL w (pn) lv' (rest)) : jJ p l e R s m args below meth c cells slots Q D cl A Sx nL w (pc) lv (.ref x :: rest) := by
  subst hpn
  exact fun H locs ls h1 h2 h3 h4 => lv_astore C.x C.b hdg h4 hn hl (fun ls h4 => k H locs ls h1 h2 h3 h4)
theorem j_iinc (C : jC p s m args c cc nL own Ts D cl tys A Sx E) {i : Nat} {n : Int} {x v : Int32} {lv' : List (Nat × Value)} (k0 pn : Nat) (hpn : pc + 3 = pn) (hdg : decode cc pc = .ok (.iinc i n, 3)) (hk : lv[k0]? = some (i, .int x)) (hv : x + Int32.ofInt n = v) (hn : i < nL) (hl : (i, Value.int v) :: lv.filter (fun q => !(q.1 == i) && !(q.1 + 1 == i && q.2.category == 2)) = lv') (k : jJ p l e R s m args below meth c cells slots Q D cl A Sx nL w (pn) lv' (rest)) : jJ p l e R s m args below meth c cells slots Q D cl A Sx nL w (pc) lv (rest) := by
  subst hpn
  exact fun H locs ls h1 h2 h3 h4 => lv_iinc C.x C.b hdg h4 hk hv hn hl (fun ls h4 => k H locs ls h1 h2 h3 h4)
theorem j_if_eq (C : jC p s m args c cc nL own Ts D cl tys A Sx E) {x : Int32} {off : Int} (tgt pn : Nat) (hpn : pc + 3 = pn) (hdg : decode cc pc = .ok (.ifCond .eq off, 3)) (ht : (pc : Int) + off = (tgt : Int)) (kt : x = 0 → jJ p l e R s m args below meth c cells slots Q D cl A Sx nL w (tgt) lv (rest)) (kf : ¬ x = 0 → jJ p l e R s m args below meth c cells slots Q D cl A Sx nL w (pn) lv (rest)) : jJ p l e R s m args below meth c cells slots Q D cl A Sx nL w (pc) lv (.int x :: rest) := by
  subst hpn
  exact fun H locs ls h1 h2 h3 h4 => lv_if_eq C.x C.b hdg ht (fun q => kt q H locs ls h1 h2 h3 h4) (fun q => kf q H locs ls h1 h2 h3 h4)
theorem j_if_ne (C : jC p s m args c cc nL own Ts D cl tys A Sx E) {x : Int32} {off : Int} (tgt pn : Nat) (hpn : pc + 3 = pn) (hdg : decode cc pc = .ok (.ifCond .ne off, 3)) (ht : (pc : Int) + off = (tgt : Int)) (kt : ¬ x = 0 → jJ p l e R s m args below meth c cells slots Q D cl A Sx nL w (tgt) lv (rest)) (kf : x = 0 → jJ p l e R s m args below meth c cells slots Q D cl A Sx nL w (pn) lv (rest)) : jJ p l e R s m args below meth c cells slots Q D cl A Sx nL w (pc) lv (.int x :: rest) := by
  subst hpn
  exact fun H locs ls h1 h2 h3 h4 => lv_if_ne C.x C.b hdg ht (fun q => kt q H locs ls h1 h2 h3 h4) (fun q => kf q H locs ls h1 h2 h3 h4)
theorem j_if_lt (C : jC p s m args c cc nL own Ts D cl tys A Sx E) {x : Int32} {off : Int} (tgt pn : Nat) (hpn : pc + 3 = pn) (hdg : decode cc pc = .ok (.ifCond .lt off, 3)) (ht : (pc : Int) + off = (tgt : Int)) (kt : x < 0 → jJ p l e R s m args below meth c cells slots Q D cl A Sx nL w (tgt) lv (rest)) (kf : ¬ x < 0 → jJ p l e R s m args below meth c cells slots Q D cl A Sx nL w (pn) lv (rest)) : jJ p l e R s m args below meth c cells slots Q D cl A Sx nL w (pc) lv (.int x :: rest) := by
  subst hpn
  exact fun H locs ls h1 h2 h3 h4 => lv_if_lt C.x C.b hdg ht (fun q => kt q H locs ls h1 h2 h3 h4) (fun q => kf q H locs ls h1 h2 h3 h4)
theorem j_if_ge (C : jC p s m args c cc nL own Ts D cl tys A Sx E) {x : Int32} {off : Int} (tgt pn : Nat) (hpn : pc + 3 = pn) (hdg : decode cc pc = .ok (.ifCond .ge off, 3)) (ht : (pc : Int) + off = (tgt : Int)) (kt : 0 ≤ x → jJ p l e R s m args below meth c cells slots Q D cl A Sx nL w (tgt) lv (rest)) (kf : ¬ 0 ≤ x → jJ p l e R s m args below meth c cells slots Q D cl A Sx nL w (pn) lv (rest)) : jJ p l e R s m args below meth c cells slots Q D cl A Sx nL w (pc) lv (.int x :: rest) := by
  subst hpn
  exact fun H locs ls h1 h2 h3 h4 => lv_if_ge C.x C.b hdg ht (fun q => kt q H locs ls h1 h2 h3 h4) (fun q => kf q H locs ls h1 h2 h3 h4)
theorem j_if_gt (C : jC p s m args c cc nL own Ts D cl tys A Sx E) {x : Int32} {off : Int} (tgt pn : Nat) (hpn : pc + 3 = pn) (hdg : decode cc pc = .ok (.ifCond .gt off, 3)) (ht : (pc : Int) + off = (tgt : Int)) (kt : 0 < x → jJ p l e R s m args below meth c cells slots Q D cl A Sx nL w (tgt) lv (rest)) (kf : ¬ 0 < x → jJ p l e R s m args below meth c cells slots Q D cl A Sx nL w (pn) lv (rest)) : jJ p l e R s m args below meth c cells slots Q D cl A Sx nL w (pc) lv (.int x :: rest) := by
  subst hpn
  exact fun H locs ls h1 h2 h3 h4 => lv_if_gt C.x C.b hdg ht (fun q => kt q H locs ls h1 h2 h3 h4) (fun q => kf q H locs ls h1 h2 h3 h4)
theorem j_if_le (C : jC p s m args c cc nL own Ts D cl tys A Sx E) {x : Int32} {off : Int} (tgt pn : Nat) (hpn : pc + 3 = pn) (hdg : decode cc pc = .ok (.ifCond .le off, 3)) (ht : (pc : Int) + off = (tgt : Int)) (kt : x ≤ 0 → jJ p l e R s m args below meth c cells slots Q D cl A Sx nL w (tgt) lv (rest)) (kf : ¬ x ≤ 0 → jJ p l e R s m args below meth c cells slots Q D cl A Sx nL w (pn) lv (rest)) : jJ p l e R s m args below meth c cells slots Q D cl A Sx nL w (pc) lv (.int x :: rest) := by
  subst hpn
  exact fun H locs ls h1 h2 h3 h4 => lv_if_le C.x C.b hdg ht (fun q => kt q H locs ls h1 h2 h3 h4) (fun q => kf q H locs ls h1 h2 h3 h4)
theorem j_icmp_eq (C : jC p s m args c cc nL own Ts D cl tys A Sx E) {x y : Int32} {off : Int} (tgt pn : Nat) (hpn : pc + 3 = pn) (hdg : decode cc pc = .ok (.if_icmp .eq off, 3)) (ht : (pc : Int) + off = (tgt : Int)) (kt : x = y → jJ p l e R s m args below meth c cells slots Q D cl A Sx nL w (tgt) lv (rest)) (kf : ¬ x = y → jJ p l e R s m args below meth c cells slots Q D cl A Sx nL w (pn) lv (rest)) : jJ p l e R s m args below meth c cells slots Q D cl A Sx nL w (pc) lv (.int y :: .int x :: rest) := by
  subst hpn
  exact fun H locs ls h1 h2 h3 h4 => lv_icmp_eq C.x C.b hdg ht (fun q => kt q H locs ls h1 h2 h3 h4) (fun q => kf q H locs ls h1 h2 h3 h4)
theorem j_icmp_ne (C : jC p s m args c cc nL own Ts D cl tys A Sx E) {x y : Int32} {off : Int} (tgt pn : Nat) (hpn : pc + 3 = pn) (hdg : decode cc pc = .ok (.if_icmp .ne off, 3)) (ht : (pc : Int) + off = (tgt : Int)) (kt : ¬ x = y → jJ p l e R s m args below meth c cells slots Q D cl A Sx nL w (tgt) lv (rest)) (kf : x = y → jJ p l e R s m args below meth c cells slots Q D cl A Sx nL w (pn) lv (rest)) : jJ p l e R s m args below meth c cells slots Q D cl A Sx nL w (pc) lv (.int y :: .int x :: rest) := by
  subst hpn
  exact fun H locs ls h1 h2 h3 h4 => lv_icmp_ne C.x C.b hdg ht (fun q => kt q H locs ls h1 h2 h3 h4) (fun q => kf q H locs ls h1 h2 h3 h4)
theorem j_icmp_lt (C : jC p s m args c cc nL own Ts D cl tys A Sx E) {x y : Int32} {off : Int} (tgt pn : Nat) (hpn : pc + 3 = pn) (hdg : decode cc pc = .ok (.if_icmp .lt off, 3)) (ht : (pc : Int) + off = (tgt : Int)) (kt : x < y → jJ p l e R s m args below meth c cells slots Q D cl A Sx nL w (tgt) lv (rest)) (kf : ¬ x < y → jJ p l e R s m args below meth c cells slots Q D cl A Sx nL w (pn) lv (rest)) : jJ p l e R s m args below meth c cells slots Q D cl A Sx nL w (pc) lv (.int y :: .int x :: rest) := by
  subst hpn
  exact fun H locs ls h1 h2 h3 h4 => lv_icmp_lt C.x C.b hdg ht (fun q => kt q H locs ls h1 h2 h3 h4) (fun q => kf q H locs ls h1 h2 h3 h4)
theorem j_icmp_ge (C : jC p s m args c cc nL own Ts D cl tys A Sx E) {x y : Int32} {off : Int} (tgt pn : Nat) (hpn : pc + 3 = pn) (hdg : decode cc pc = .ok (.if_icmp .ge off, 3)) (ht : (pc : Int) + off = (tgt : Int)) (kt : y ≤ x → jJ p l e R s m args below meth c cells slots Q D cl A Sx nL w (tgt) lv (rest)) (kf : ¬ y ≤ x → jJ p l e R s m args below meth c cells slots Q D cl A Sx nL w (pn) lv (rest)) : jJ p l e R s m args below meth c cells slots Q D cl A Sx nL w (pc) lv (.int y :: .int x :: rest) := by
  subst hpn
  exact fun H locs ls h1 h2 h3 h4 => lv_icmp_ge C.x C.b hdg ht (fun q => kt q H locs ls h1 h2 h3 h4) (fun q => kf q H locs ls h1 h2 h3 h4)
theorem j_icmp_gt (C : jC p s m args c cc nL own Ts D cl tys A Sx E) {x y : Int32} {off : Int} (tgt pn : Nat) (hpn : pc + 3 = pn) (hdg : decode cc pc = .ok (.if_icmp .gt off, 3)) (ht : (pc : Int) + off = (tgt : Int)) (kt : y < x → jJ p l e R s m args below meth c cells slots Q D cl A Sx nL w (tgt) lv (rest)) (kf : ¬ y < x → jJ p l e R s m args below meth c cells slots Q D cl A Sx nL w (pn) lv (rest)) : jJ p l e R s m args below meth c cells slots Q D cl A Sx nL w (pc) lv (.int y :: .int x :: rest) := by
  subst hpn
  exact fun H locs ls h1 h2 h3 h4 => lv_icmp_gt C.x C.b hdg ht (fun q => kt q H locs ls h1 h2 h3 h4) (fun q => kf q H locs ls h1 h2 h3 h4)
theorem j_icmp_le (C : jC p s m args c cc nL own Ts D cl tys A Sx E) {x y : Int32} {off : Int} (tgt pn : Nat) (hpn : pc + 3 = pn) (hdg : decode cc pc = .ok (.if_icmp .le off, 3)) (ht : (pc : Int) + off = (tgt : Int)) (kt : x ≤ y → jJ p l e R s m args below meth c cells slots Q D cl A Sx nL w (tgt) lv (rest)) (kf : ¬ x ≤ y → jJ p l e R s m args below meth c cells slots Q D cl A Sx nL w (pn) lv (rest)) : jJ p l e R s m args below meth c cells slots Q D cl A Sx nL w (pc) lv (.int y :: .int x :: rest) := by
  subst hpn
  exact fun H locs ls h1 h2 h3 h4 => lv_icmp_le C.x C.b hdg ht (fun q => kt q H locs ls h1 h2 h3 h4) (fun q => kf q H locs ls h1 h2 h3 h4)
theorem j_goto (C : jC p s m args c cc nL own Ts D cl tys A Sx E) {off : Int} (tgt : Nat) (hdg : decode cc pc = .ok (.goto off, 3)) (ht : (pc : Int) + off = (tgt : Int)) (k : jJ p l e R s m args below meth c cells slots Q D cl A Sx nL w (tgt) lv (rest)) : jJ p l e R s m args below meth c cells slots Q D cl A Sx nL w (pc) lv (rest) := fun H locs ls h1 h2 h3 h4 => lv_goto C.x C.b hdg ht (k H locs ls h1 h2 h3 h4)
theorem j_lcmp (C : jC p s m args c cc nL own Ts D cl tys A Sx E) {x y : Int64} (pn : Nat) (hpn : pc + 1 = pn) (hdg : decode cc pc = .ok (.lcmp, 1)) (k : jJ p l e R s m args below meth c cells slots Q D cl A Sx nL w (pn) lv (.int (lg_cmp x y) :: rest)) : jJ p l e R s m args below meth c cells slots Q D cl A Sx nL w (pc) lv (.long y :: .long x :: rest) := by
  subst hpn
  exact fun H locs ls h1 h2 h3 h4 => W.lcmp C.x C.b hdg (k H locs ls h1 h2 h3 h4)
theorem j_tswOut (C : jC p s m args c cc nL own Ts D cl tys A Sx E) {dflt lo hi : Int} {offs : Array Int} {len : Nat} {x : Int32} (tgt : Nat) (hdg : decode cc pc = .ok (.tableswitch dflt lo hi offs, len)) (h : x.toInt < lo ∨ hi < x.toInt) (ht : (pc : Int) + dflt = (tgt : Int)) (k : jJ p l e R s m args below meth c cells slots Q D cl A Sx nL w (tgt) lv (rest)) : jJ p l e R s m args below meth c cells slots Q D cl A Sx nL w (pc) lv (.int x :: rest) := fun H locs ls h1 h2 h3 h4 => lv_tableOut C.x C.b hdg h ht (k H locs ls h1 h2 h3 h4)
theorem j_tswIn (C : jC p s m args c cc nL own Ts D cl tys A Sx E) {dflt lo hi : Int} {offs : Array Int} {len : Nat} {x : Int32} {off : Int} (tgt : Nat) (hdg : decode cc pc = .ok (.tableswitch dflt lo hi offs, len)) (g1 : ¬ x.toInt < lo) (g2 : ¬ hi < x.toInt) (ho : offs[(x.toInt - lo).toNat]? = some off) (ht : (pc : Int) + off = (tgt : Int)) (k : jJ p l e R s m args below meth c cells slots Q D cl A Sx nL w (tgt) lv (rest)) : jJ p l e R s m args below meth c cells slots Q D cl A Sx nL w (pc) lv (.int x :: rest) := fun H locs ls h1 h2 h3 h4 => lv_tableIn C.x C.b hdg g1 g2 ho ht (k H locs ls h1 h2 h3 h4)
theorem j_ldc2 (C : jC p s m args c cc nL own Ts D cl tys A Sx E) {index : Nat} {v : Int64} (pn : Nat) (hpn : pc + 3 = pn) (hc : (Jvm.Cond.constantLong own index v) ∈ Ts) (hdg : decode cc pc = .ok (.ldc2_w index, 3)) (k : jJ p l e R s m args below meth c cells slots Q D cl A Sx nL w (pn) lv (.long v :: rest)) : jJ p l e R s m args below meth c cells slots Q D cl A Sx nL w (pc) lv (rest) := by
  subst hpn
  exact fun H locs ls h1 h2 h3 h4 => lv_ldc2 C.x C.b C.o (C.t _ hc) hdg (k H locs ls h1 h2 h3 h4)
theorem j_topi {x : Int32} (k : ∀ y : Int32, y = x → jJ p l e R s m args below meth c cells slots Q D cl A Sx nL w (pc) lv (.int y :: rest)) : jJ p l e R s m args below meth c cells slots Q D cl A Sx nL w (pc) lv (.int x :: rest) := k x rfl
theorem j_eqi {x y : Int32} (h : x = y) (k : jJ p l e R s m args below meth c cells slots Q D cl A Sx nL w (pc) lv (.int y :: rest)) : jJ p l e R s m args below meth c cells slots Q D cl A Sx nL w (pc) lv (.int x :: rest) := h ▸ k
theorem j_eqw {w2 : va_W} (h : w = w2) (k : jJ p l e R s m args below meth c cells slots Q D cl A Sx nL w2 (pc) lv (rest)) : jJ p l e R s m args below meth c cells slots Q D cl A Sx nL w (pc) lv (rest) := h ▸ k
theorem j_widen {k n : Nat} (g1 : cells ≤ k) (g2 : slots ≤ n) (kk : jJ p l e R s m args below meth c k n Q D cl A Sx nL w pc lv rest) : jJ p l e R s m args below meth c cells slots Q D cl A Sx nL w (pc) lv (rest) := fun H locs ls h1 h2 h3 h4 => W.widen g1 g2 (kk H locs ls h1 h2 h3 h4)
theorem j_sub {lv' : List (Nat × Value)} (ks : List Nat) (hl : lv_pick lv ks = lv') (k : jJ p l e R s m args below meth c cells slots Q D cl A Sx nL w (pc) lv' (rest)) : jJ p l e R s m args below meth c cells slots Q D cl A Sx nL w (pc) lv (rest) := fun H locs ls h1 h2 h3 h4 => k H locs ls h1 h2 h3 (lv_sub h4 ks hl)
def jQ (D : va_G) (cl : List vw_C) (v : Option Value) (w' : va_W) (A : Nat → Prop) : Array Value → State → Outcome → State → Prop := fun _ st oc t => oc = .returned v ∧ va_P D cl w' t.heap ∧ va_D A w' ∧ va_F A st t
def jPre (D : va_G) (cl : List vw_C) (tys : List (ClassId × FieldType)) (E : State → Prop) (w : va_W) (sz : Nat) (U : State) : Prop := U.heap.size = sz ∧ va_P D cl w U.heap ∧ va_K D cl tys U ∧ va_D (fun _ => True) w ∧ E U
/-- y, called with av in the world w, answers v and leaves w' -/
def jM (l : Launch) (D : va_G) (cl : List vw_C) (tys : List (ClassId × FieldType)) (E : State → Prop) (y : MethodName) (ws : List Cond) (rm : Room) (av : List Value) (w : va_W) (v : Option Value) (w' : va_W) : Prop :=
  ∀ sz : Nat, Met l y ws rm (va_Pc av (jPre D cl tys E w sz)) (jQ D cl v w' (va_A w sz)) 0 0 (va_A w sz)
theorem jM.of {y : MethodName} {ws ws' : List Cond} {rm : Room} {maxL : Nat} {ret : Option FieldType} {av : List Value} {w' : va_W} {v : Option Value} (hE : jLoc D cl E) (hy : plainName y.cls = true) (ho : y.cls = own) (hw : ws = Cond.code y cc maxL ret :: ws') (hlen : (lg_sl av).length ≤ maxL) (hlv : lv_args 0 av = lv)
    (body : ∀ (p : Program) (e : Env) (s : State) (m : MethodId) (args : Array Value) (below : List Frame) (meth : Method) (c : Code) (A : Nat → Prop), jC p s m args c cc maxL own ws D cl tys A (va_S A s.heap) E → meth.sig.returnType = ret → meth.locks = false →
      jJ p l e rm s m args below meth c 0 0 (MQ below (jQ D cl v w' A) args s 0 0 A) D cl A (va_S A s.heap) maxL w 0 lv []) : jM l D cl tys E y ws rm av w v w' := by
  intro sz
  refine Met.ofW (cc := cc) (maxL := maxL) (ret := ret) hy hw ?_
  intro p e s m args below meth c s₁ B hml hv
  obtain ⟨rfl, hsz, hP, hK, hD0, hE0⟩ := hv
  subst hsz
  have hD := hD0.self (sz := s.heap.size)
  have K := body p e s m av.toArray below meth c (va_A w s.heap.size) ⟨B.exec, B.bytes, hml, by rw [← ho]; exact findClass_of_methodNamed B.named, atoms_spec (ws := ws) B.pre, hK, fun q h => Or.inr h, fun U hq hW => hE.2 s U w hE0 hP hq hW, fun _ _ h => h⟩ B.returns B.notSynchronized
  have hl := lv_entry av (n := maxL) hlen
  rw [hlv] at hl
  rw [lg_entry_eq]
  exact K s.heap [] _ hP hD va_S.rf hl
theorem j_iret (C : jC p s m args c cc nL own Ts D cl tys A Sx E) (hr : meth.sig.returnType = some .int) (hlk : meth.locks = false) {x r : Int32} {w' : va_W} (hdg : decode cc pc = .ok (.ireturn, 1)) (hv : x = r) (hw : w = w') : jJ p l e R s m args below meth c 0 0 (MQ below (jQ D cl (some (.int r)) w' A) args s 0 0 A) D cl A Sx nL w pc lv ([.int x]) := by
  subst hv
  subst hw
  intro H locs ls h1 h2 h3 h4
  exact W.iret C.x C.b hr (fun t ht _ => ⟨rfl, by rw [ht]; exact h1, h2, (C.sx H locs h3).F ht⟩) (C.sx H locs h3).2.2 hdg hlk
def bI (b : Bool) : Int32 := if b then 1 else 0
theorem bI0 {b : Bool} (h : bI b = 0) : b = false := by
  cases b
  · rfl
  · exact absurd h (by decide)
theorem bI1 {b : Bool} (h : ¬ bI b = 0) : b = true := by
  cases b
  · exact absurd rfl h
  · rfl
theorem bI_nar (b : Bool) : narrow .boolean (.int (bI b)) = .int (bI b) := by cases b <;> rfl
theorem j_zret (C : jC p s m args c cc nL own Ts D cl tys A Sx E) (hr : meth.sig.returnType = some .boolean) (hlk : meth.locks = false) {x : Int32} {b : Bool} {w' : va_W} (hdg : decode cc pc = .ok (.ireturn, 1)) (hv : x = bI b) (hw : w = w') : jJ p l e R s m args below meth c 0 0 (MQ below (jQ D cl (some (.int (bI b))) w' A) args s 0 0 A) D cl A Sx nL w pc lv ([.int x]) := by
  subst hv
  subst hw
  intro H locs ls h1 h2 h3 h4
  exact W.zret C.x C.b hr (bI_nar b) (fun t ht _ => ⟨rfl, by rw [ht]; exact h1, h2, (C.sx H locs h3).F ht⟩) (C.sx H locs h3).2.2 hdg hlk
theorem j_vret (C : jC p s m args c cc nL own Ts D cl tys A Sx E) (hr : meth.sig.returnType = none) (hlk : meth.locks = false) {w' : va_W} (hdg : decode cc pc = .ok (.return_, 1)) (hw : w = w') : jJ p l e R s m args below meth c 0 0 (MQ below (jQ D cl none w' A) args s 0 0 A) D cl A Sx nL w pc lv ([]) := by
  subst hw
  intro H locs ls h1 h2 h3 h4
  exact W.vret C.x C.b hr (fun t ht _ => ⟨rfl, by rw [ht]; exact h1, h2, (C.sx H locs h3).F ht⟩) (C.sx H locs h3).2.2 hdg hlk
theorem jS_keep {H H1 : Heap} {locs L : List Loc} {A1 : Nat → Prop} (hS : va_S A s.heap H locs) (hA : ∀ q, A1 q → A q) (hL : ∀ q ∈ L, A1 q.base) (hz : H.size ≤ H1.size) (hk : ∀ q : Nat, q < H.size → ¬ A1 q → H1[q]? = H[q]?) : va_S A s.heap H1 (locs ++ L) :=
  ⟨Nat.le_trans hS.1 hz, fun q h1 h2 => by rw [hk q (Nat.lt_of_lt_of_le h1 hS.1) (fun z => h2 (hA q z))]; exact hS.2.1 q h1 h2, fun q hq => (List.mem_append.mp hq).elim (hS.2.2 q) (fun h => hA _ (hL q h))⟩
theorem jA_sub {H : Heap} {locs : List Loc} (hA : ∀ q : Nat, s.heap.size ≤ q → A q) (hD : va_D A w) (hS : va_S A s.heap H locs) : ∀ q, va_A w H.size q → A q := by
  intro q h
  rcases h with ⟨k, e, h⟩ | h
  · exact hD.2 k (q, e) h
  · exact hA q (Nat.le_trans hS.1 h)
theorem jBlind {av : List Value} {sz : Nat} (hE : jLoc D cl E) : FrameBlind (va_Pc av (jPre D cl tys E w sz)) := fun a U g mk q => by
  obtain ⟨q0, q1, qP, qK, qD, qE⟩ := q
  exact ⟨q0, q1, qP, va_K.moved (u := U) (U := U.calling g mk a) (Vm.Alike.refl U.vm) qK, qD, hE.1 a U g mk qE⟩
theorem jPre_at (C : jC p s m args c cc nL own Ts D cl tys A Sx E) {av : List Value} {H : Heap} {locs : List Loc} (hP : va_P D cl w H) (hD : va_D A w) (hS : va_S A s.heap H locs) : ∀ U : State, U.heap = H → s.WarmedH U.vm → va_Pc av (jPre D cl tys E w H.size) av.toArray U :=
  fun U hU hW => ⟨rfl, by rw [hU], by rw [hU]; exact hP, va_K.moved hW.alike C.k, hD.weaken (fun _ _ _ _ => trivial), C.ev U (fun q h1 h2 => by rw [hU]; exact hS.2.1 q h1 h2) hW⟩
def jY (T : List Cond) (y : MethodName) (bytes : ByteArray) (maxL : Nat) (ret : Option FieldType) (n : Nat) : Prop := Cond.code y bytes maxL ret ∈ T ∧ Cond.instanceMethod y ∈ T ∧ Cond.selects y.cls y y ∈ T ∧ Cond.initialized y.cls ∈ T ∧ (y.cls ≠ "java/lang/invoke/MethodHandle" ∧ y.cls ≠ "java/lang/invoke/VarHandle") ∧ (parseMethodDescriptor y.desc).map (fun d => d.parameters.length) = some n
def jYs (T : List Cond) (y : MethodName) (bytes : ByteArray) (maxL : Nat) (ret : Option FieldType) (n : Nat) : Prop := Cond.code y bytes maxL ret ∈ T ∧ Cond.static y ∈ T ∧ Cond.initialized y.cls ∈ T ∧ (y.cls ≠ "java/lang/invoke/MethodHandle" ∧ y.cls ≠ "java/lang/invoke/VarHandle") ∧ (parseMethodDescriptor y.desc).map (fun d => d.parameters.length) = some n
def jG (T : List Cond) : Prop := ∀ w ∈ T, goodWord w = true
theorem jG.in {T : List Cond} (hG : jG T) {w0 c0 : Cond} (h : w0 ∈ T) : GoodIn (c0 :: T) (w0 :: T) := fun w hw => by
  have hm : w ∈ T := (List.mem_cons.mp hw).elim (fun e => by rw [e]; exact h) id
  exact ⟨List.mem_cons_of_mem _ hm, good_of_word (hG w hm)⟩
theorem jCB {T : List Cond} {c0 : Cond} (hG : jG T) (ht : ∀ w ∈ (c0 :: T), w.before args s = true) {y : MethodName} {bytes : ByteArray} {maxL : Nat} {ret : Option FieldType} {n index : Nat} {rm : Room} (h1 : Cond.code y bytes maxL ret ∈ T) (h2 : Cond.initialized y.cls ∈ T) (h3 : (y.cls ≠ "java/lang/invoke/MethodHandle" ∧ y.cls ≠ "java/lang/invoke/VarHandle") ∧ (parseMethodDescriptor y.desc).map (fun d => d.parameters.length) = some n) (hl : Cond.methodLink own index y ∈ T)
    (hc : rm.cells = 0) (hs : rm.slots = 0) (hR : rm.frames + 1 ≤ R.frames ∧ 8 + (maxL + 11) + rm.locals ≤ R.locals) : CallB R s args own index y bytes maxL ret (Cond.code y bytes maxL ret :: T) rm 0 0 n :=
  callB_of n ht (hG.in h1) rfl hc hs (ht _ (List.mem_cons_of_mem _ h2)) (ht _ (List.mem_cons_of_mem _ hl)) ⟨h3.1.1, h3.1.2, h3.2⟩ hR
theorem j_callV {T : List Cond} {c0 : Cond} (C : jC p s m args c cc nL own (c0 :: T) D cl tys A (va_S A s.heap) E) (hE : jLoc D cl E) (hG : jG T) {y : MethodName} {bytes : ByteArray} {maxL : Nat} {ret : Option FieldType} {n index : Nat} {rm : Room} {b : Nat} {As st' : List Value} {v : Option Value} {w2 : va_W}
    (hM : jM l D cl tys E y (Cond.code y bytes maxL ret :: T) rm (.ref b :: As) w v w2) (hY : jY T y bytes maxL ret n) (hl : Cond.methodLink own index y ∈ T) (hr : rm.cells = 0 ∧ rm.slots = 0) (hR : rm.frames + 1 ≤ R.frames ∧ 8 + (maxL + 11) + rm.locals ≤ R.locals)
    (q0 : Nat) {ci : Nat} {fs : List Value} {qC : vw_C} (he : w[q0]? = some (b, .inr (ci, fs))) (hc : cl[ci]? = some qC) (hq : qC.1 = y.cls) (hn : As.length = n) (hst : (rest.map fun v => v.category).sum ≤ 8) (hf : cells ≤ R.cells ∧ slots ≤ R.slots) (hdg : decode cc pc = .ok (.invokevirtual index, 3)) {st0 : List Value} (pn : Nat) (hpn : pc + 3 = pn) (hs0 : st0 = As.reverse ++ .ref b :: rest) (hs' : v.toList ++ rest = st')
    (k : jJ p l e R s m args below meth c cells slots Q D cl A (va_S A s.heap) nL w2 (pn) lv (st')) : jJ p l e R s m args below meth c cells slots Q D cl A (va_S A s.heap) nL w (pc) lv (st0) := by
  subst hpn
  subst hs0
  intro H locs ls hP hD hS hl4 T0 hT X
  subst hs'
  have hb := va_recv C.k hP hc he
  rw [hq] at hb
  have hA := jA_sub C.a hD hS
  obtain ⟨v1, st₀, t, T', L, h0, X', hL, e1, e2, ⟨hv, hP2, hD2, hz, hk⟩, st⟩ := va_runV (As := As) (rest := rest) ⟨C.x, C.b, C.ml, C.o, C.t⟩ (hM H.size) ⟨jCB hG C.t hY.1 hY.2.2.2.1 hY.2.2.2.2 hl hr.1 hr.2 hR, C.t _ (List.mem_cons_of_mem _ hY.2.1), C.t _ (List.mem_cons_of_mem _ hY.2.2.1)⟩
    ⟨jBlind hE, hb, jPre_at C hP hD hS⟩ rfl hn hl4.1 rfl (lv_room hst) hdg ⟨hf.1, hf.2⟩ T0 hT X
  cases hv
  rw [h0] at hz hk
  obtain ⟨t2, a1, b1⟩ := k T'.heap (locs ++ L) ls (by rw [e1]; exact hP2) (hD2.weaken (fun _ q _ h => hA q.1 h)) (jS_keep hS hA hL (by rw [e1]; exact hz) (fun q g1 g2 => by rw [e1]; exact hk q g1 g2)) hl4 T' rfl X'
  exact ⟨t2, st t2 a1, b1⟩
theorem j_callS {T : List Cond} {c0 : Cond} (C : jC p s m args c cc nL own (c0 :: T) D cl tys A (va_S A s.heap) E) (hE : jLoc D cl E) (hG : jG T) {y : MethodName} {bytes : ByteArray} {maxL : Nat} {ret : Option FieldType} {n index : Nat} {rm : Room} {As st' : List Value} {v : Option Value} {w2 : va_W}
    (hM : jM l D cl tys E y (Cond.code y bytes maxL ret :: T) rm As w v w2) (hY : jYs T y bytes maxL ret n) (hl : Cond.methodLink own index y ∈ T) (hr : rm.cells = 0 ∧ rm.slots = 0) (hR : rm.frames + 1 ≤ R.frames ∧ 8 + (maxL + 11) + rm.locals ≤ R.locals)
    (hn : As.length = n) (hst : (rest.map fun v => v.category).sum ≤ 8) (hf : cells ≤ R.cells ∧ slots ≤ R.slots) (hdg : decode cc pc = .ok (.invokestatic index, 3)) {st0 : List Value} (pn : Nat) (hpn : pc + 3 = pn) (hs0 : st0 = As.reverse ++ rest) (hs' : v.toList ++ rest = st')
    (k : jJ p l e R s m args below meth c cells slots Q D cl A (va_S A s.heap) nL w2 (pn) lv (st')) : jJ p l e R s m args below meth c cells slots Q D cl A (va_S A s.heap) nL w (pc) lv (st0) := by
  subst hpn
  subst hs0
  intro H locs ls hP hD hS hl4 T0 hT X
  subst hs'
  have hA := jA_sub C.a hD hS
  obtain ⟨v1, st₀, t, T', L, h0, X', hL, e1, e2, ⟨hv, hP2, hD2, hz, hk⟩, st⟩ := va_runS (As := As) (rest := rest) ⟨C.x, C.b, C.ml, C.o, C.t⟩ (hM H.size) ⟨jCB hG C.t hY.1 hY.2.2.1 hY.2.2.2 hl hr.1 hr.2 hR, C.t _ (List.mem_cons_of_mem _ hY.2.1)⟩
    ⟨jBlind hE, jPre_at C hP hD hS⟩ rfl hn hl4.1 rfl (lv_room hst) hdg ⟨hf.1, hf.2⟩ T0 hT X
  cases hv
  rw [h0] at hz hk
  obtain ⟨t2, a1, b1⟩ := k T'.heap (locs ++ L) ls (by rw [e1]; exact hP2) (hD2.weaken (fun _ q _ h => hA q.1 h)) (jS_keep hS hA hL (by rw [e1]; exact hz) (fun q g1 g2 => by rw [e1]; exact hk q g1 g2)) hl4 T' rfl X'
  exact ⟨t2, st t2 a1, b1⟩
theorem j_callSN {T : List Cond} {c0 : Cond} (C : jC p s m args c cc nL own (c0 :: T) D cl tys A (va_S A s.heap) E) (hE : jLoc D cl E) (hG : jG T) {y : MethodName} {bytes : ByteArray} {maxL : Nat} {ret : Option FieldType} {n index : Nat} {rm : Room} {host : String} {As st' : List Value} {v : Option Value} {w2 : va_W}
    (hM : jM l D cl tys E y (Cond.code y bytes maxL ret :: T) rm As w v w2) (hY : jYs T y bytes maxL ret n) (hl : (Cond.methodLinkNest own index y host).before args s = true) (hr : rm.cells = 0 ∧ rm.slots = 0) (hR : rm.frames + 1 ≤ R.frames ∧ 8 + (maxL + 11) + rm.locals ≤ R.locals)
    (hn : As.length = n) (hst : (rest.map fun v => v.category).sum ≤ 8) (hf : cells ≤ R.cells ∧ slots ≤ R.slots) (hdg : decode cc pc = .ok (.invokestatic index, 3)) {st0 : List Value} (pn : Nat) (hpn : pc + 3 = pn) (hs0 : st0 = As.reverse ++ rest) (hs' : v.toList ++ rest = st')
    (k : jJ p l e R s m args below meth c cells slots Q D cl A (va_S A s.heap) nL w2 (pn) lv (st')) : jJ p l e R s m args below meth c cells slots Q D cl A (va_S A s.heap) nL w (pc) lv (st0) := by
  subst hpn
  subst hs0
  intro H locs ls hP hD hS hl4 T0 hT X
  subst hs'
  have hA := jA_sub C.a hD hS
  obtain ⟨v1, st₀, t, T', L, h0, X', hL, e1, e2, ⟨hv, hP2, hD2, hz, hk⟩, st⟩ := va_runSN (host := host) (As := As) (rest := rest) ⟨C.x, C.b, C.ml, C.o, C.t⟩ (hM H.size) ⟨⟨⟨hr.1, hr.2, hR.1, hR.2, pay_in C.t (hG.in hY.1), List.mem_cons_self⟩, C.t _ (List.mem_cons_of_mem _ hY.1), C.t _ (List.mem_cons_of_mem _ hY.2.2.1), hY.2.2.2.1, fun sig h => by have h2 := hY.2.2.2.2; rw [h] at h2; exact (Option.some.inj h2).symm, hl⟩, C.t _ (List.mem_cons_of_mem _ hY.2.1), trivial⟩
    ⟨jBlind hE, jPre_at C hP hD hS⟩ rfl hn hl4.1 rfl (lv_room hst) hdg ⟨hf.1, hf.2⟩ T0 hT X
  cases hv
  rw [h0] at hz hk
  obtain ⟨t2, a1, b1⟩ := k T'.heap (locs ++ L) ls (by rw [e1]; exact hP2) (hD2.weaken (fun _ q _ h => hA q.1 h)) (jS_keep hS hA hL (by rw [e1]; exact hz) (fun q g1 g2 => by rw [e1]; exact hk q g1 g2)) hl4 T' rfl X'
  exact ⟨t2, st t2 a1, b1⟩
theorem j_callVi {T : List Cond} {c0 : Cond} (C : jC p s m args c cc nL own (c0 :: T) D cl tys A (va_S A s.heap) E) (hE : jLoc D cl E) (hG : jG T) {y : MethodName} {bytes : ByteArray} {maxL : Nat} {ret : Option FieldType} {n index : Nat} {rm : Room} {b : Nat} {As : List Value} {x : Value} {w2 : va_W} (hM : jM l D cl tys E y (Cond.code y bytes maxL ret :: T) rm (.ref b :: As) w (some x) w2) (hY : jY T y bytes maxL ret n) (hl : Cond.methodLink own index y ∈ T) (hr : rm.cells = 0 ∧ rm.slots = 0) (hR : rm.frames + 1 ≤ R.frames ∧ 8 + (maxL + 11) + rm.locals ≤ R.locals) (q0 : Nat) {ci : Nat} {fs : List Value} {qC : vw_C} (he : w[q0]? = some (b, .inr (ci, fs))) (hc : cl[ci]? = some qC) (hq : qC.1 = y.cls) (hn : As.length = n) (hst : (rest.map fun v => v.category).sum ≤ 8) (hf : cells ≤ R.cells ∧ slots ≤ R.slots) (hdg : decode cc pc = .ok (.invokevirtual index, 3)) {st0 : List Value} (pn : Nat) (hpn : pc + 3 = pn) (hs0 : st0 = As.reverse ++ .ref b :: rest) (k : jJ p l e R s m args below meth c cells slots Q D cl A (va_S A s.heap) nL w2 (pn) lv (x :: rest)) : jJ p l e R s m args below meth c cells slots Q D cl A (va_S A s.heap) nL w (pc) lv (st0) := j_callV C hE hG hM hY hl hr hR q0 he hc hq hn hst hf hdg pn hpn hs0 rfl k
theorem j_callSi {T : List Cond} {c0 : Cond} (C : jC p s m args c cc nL own (c0 :: T) D cl tys A (va_S A s.heap) E) (hE : jLoc D cl E) (hG : jG T) {y : MethodName} {bytes : ByteArray} {maxL : Nat} {ret : Option FieldType} {n index : Nat} {rm : Room} {As : List Value} {x : Value} {w2 : va_W} (hM : jM l D cl tys E y (Cond.code y bytes maxL ret :: T) rm As w (some x) w2) (hY : jYs T y bytes maxL ret n) (hl : Cond.methodLink own index y ∈ T) (hr : rm.cells = 0 ∧ rm.slots = 0) (hR : rm.frames + 1 ≤ R.frames ∧ 8 + (maxL + 11) + rm.locals ≤ R.locals) (hn : As.length = n) (hst : (rest.map fun v => v.category).sum ≤ 8) (hf : cells ≤ R.cells ∧ slots ≤ R.slots) (hdg : decode cc pc = .ok (.invokestatic index, 3)) {st0 : List Value} (pn : Nat) (hpn : pc + 3 = pn) (hs0 : st0 = As.reverse ++ rest) (k : jJ p l e R s m args below meth c cells slots Q D cl A (va_S A s.heap) nL w2 (pn) lv (x :: rest)) : jJ p l e R s m args below meth c cells slots Q D cl A (va_S A s.heap) nL w (pc) lv (st0) := j_callS C hE hG hM hY hl hr hR hn hst hf hdg pn hpn hs0 rfl k
theorem j_callSNi {T : List Cond} {c0 : Cond} (C : jC p s m args c cc nL own (c0 :: T) D cl tys A (va_S A s.heap) E) (hE : jLoc D cl E) (hG : jG T) {y : MethodName} {bytes : ByteArray} {maxL : Nat} {ret : Option FieldType} {n index : Nat} {rm : Room} {host : String} {As : List Value} {x : Value} {w2 : va_W} (hM : jM l D cl tys E y (Cond.code y bytes maxL ret :: T) rm As w (some x) w2) (hY : jYs T y bytes maxL ret n) (hl : (Cond.methodLinkNest own index y host).before args s = true) (hr : rm.cells = 0 ∧ rm.slots = 0) (hR : rm.frames + 1 ≤ R.frames ∧ 8 + (maxL + 11) + rm.locals ≤ R.locals) (hn : As.length = n) (hst : (rest.map fun v => v.category).sum ≤ 8) (hf : cells ≤ R.cells ∧ slots ≤ R.slots) (hdg : decode cc pc = .ok (.invokestatic index, 3)) {st0 : List Value} (pn : Nat) (hpn : pc + 3 = pn) (hs0 : st0 = As.reverse ++ rest) (k : jJ p l e R s m args below meth c cells slots Q D cl A (va_S A s.heap) nL w2 (pn) lv (x :: rest)) : jJ p l e R s m args below meth c cells slots Q D cl A (va_S A s.heap) nL w (pc) lv (st0) := j_callSN C hE hG hM hY hl hr hR hn hst hf hdg pn hpn hs0 rfl k
theorem j_callVv {T : List Cond} {c0 : Cond} (C : jC p s m args c cc nL own (c0 :: T) D cl tys A (va_S A s.heap) E) (hE : jLoc D cl E) (hG : jG T) {y : MethodName} {bytes : ByteArray} {maxL : Nat} {ret : Option FieldType} {n index : Nat} {rm : Room} {b : Nat} {As : List Value} {w2 : va_W} (hM : jM l D cl tys E y (Cond.code y bytes maxL ret :: T) rm (.ref b :: As) w none w2) (hY : jY T y bytes maxL ret n) (hl : Cond.methodLink own index y ∈ T) (hr : rm.cells = 0 ∧ rm.slots = 0) (hR : rm.frames + 1 ≤ R.frames ∧ 8 + (maxL + 11) + rm.locals ≤ R.locals) (q0 : Nat) {ci : Nat} {fs : List Value} {qC : vw_C} (he : w[q0]? = some (b, .inr (ci, fs))) (hc : cl[ci]? = some qC) (hq : qC.1 = y.cls) (hn : As.length = n) (hst : (rest.map fun v => v.category).sum ≤ 8) (hf : cells ≤ R.cells ∧ slots ≤ R.slots) (hdg : decode cc pc = .ok (.invokevirtual index, 3)) {st0 : List Value} (pn : Nat) (hpn : pc + 3 = pn) (hs0 : st0 = As.reverse ++ .ref b :: rest) (k : jJ p l e R s m args below meth c cells slots Q D cl A (va_S A s.heap) nL w2 (pn) lv (rest)) : jJ p l e R s m args below meth c cells slots Q D cl A (va_S A s.heap) nL w (pc) lv (st0) := j_callV C hE hG hM hY hl hr hR q0 he hc hq hn hst hf hdg pn hpn hs0 rfl k
theorem j_callSv {T : List Cond} {c0 : Cond} (C : jC p s m args c cc nL own (c0 :: T) D cl tys A (va_S A s.heap) E) (hE : jLoc D cl E) (hG : jG T) {y : MethodName} {bytes : ByteArray} {maxL : Nat} {ret : Option FieldType} {n index : Nat} {rm : Room} {As : List Value} {w2 : va_W} (hM : jM l D cl tys E y (Cond.code y bytes maxL ret :: T) rm As w none w2) (hY : jYs T y bytes maxL ret n) (hl : Cond.methodLink own index y ∈ T) (hr : rm.cells = 0 ∧ rm.slots = 0) (hR : rm.frames + 1 ≤ R.frames ∧ 8 + (maxL + 11) + rm.locals ≤ R.locals) (hn : As.length = n) (hst : (rest.map fun v => v.category).sum ≤ 8) (hf : cells ≤ R.cells ∧ slots ≤ R.slots) (hdg : decode cc pc = .ok (.invokestatic index, 3)) {st0 : List Value} (pn : Nat) (hpn : pc + 3 = pn) (hs0 : st0 = As.reverse ++ rest) (k : jJ p l e R s m args below meth c cells slots Q D cl A (va_S A s.heap) nL w2 (pn) lv (rest)) : jJ p l e R s m args below meth c cells slots Q D cl A (va_S A s.heap) nL w (pc) lv (st0) := j_callS C hE hG hM hY hl hr hR hn hst hf hdg pn hpn hs0 rfl k
theorem j_callSNv {T : List Cond} {c0 : Cond} (C : jC p s m args c cc nL own (c0 :: T) D cl tys A (va_S A s.heap) E) (hE : jLoc D cl E) (hG : jG T) {y : MethodName} {bytes : ByteArray} {maxL : Nat} {ret : Option FieldType} {n index : Nat} {rm : Room} {host : String} {As : List Value} {w2 : va_W} (hM : jM l D cl tys E y (Cond.code y bytes maxL ret :: T) rm As w none w2) (hY : jYs T y bytes maxL ret n) (hl : (Cond.methodLinkNest own index y host).before args s = true) (hr : rm.cells = 0 ∧ rm.slots = 0) (hR : rm.frames + 1 ≤ R.frames ∧ 8 + (maxL + 11) + rm.locals ≤ R.locals) (hn : As.length = n) (hst : (rest.map fun v => v.category).sum ≤ 8) (hf : cells ≤ R.cells ∧ slots ≤ R.slots) (hdg : decode cc pc = .ok (.invokestatic index, 3)) {st0 : List Value} (pn : Nat) (hpn : pc + 3 = pn) (hs0 : st0 = As.reverse ++ rest) (k : jJ p l e R s m args below meth c cells slots Q D cl A (va_S A s.heap) nL w2 (pn) lv (rest)) : jJ p l e R s m args below meth c cells slots Q D cl A (va_S A s.heap) nL w (pc) lv (st0) := j_callSN C hE hG hM hY hl hr hR hn hst hf hdg pn hpn hs0 rfl k
theorem j_ald (C : jC p s m args c cc nL own Ts D cl tys A Sx E) {a : Nat} (q0 t0 : Nat) {cA : ClassId} {N : Nat} {f : Nat → Int32} (ha : w[q0]? = some (a, .inl (cA, N, .inl f))) (ht : tys[t0]? = some (cA, .int)) {i : Int32} (hin : vp_in i N) (pn : Nat) (hpn : pc + 1 = pn) (hdg : decode cc pc = .ok (.iaload, 1)) (k : jJ p l e R s m args below meth c cells slots Q D cl A Sx nL w (pn) lv (.int (f i.toNatClampNeg) :: rest)) : jJ p l e R s m args below meth c cells slots Q D cl A Sx nL w (pc) lv (.int i :: .ref a :: rest) := by
  subst hpn
  exact fun H locs ls h1 h2 h3 h4 => va_iald C.x C.b C.k h1 q0 t0 ha ht hin hdg (k H locs ls h1 h2 h3 h4)
theorem j_bld (C : jC p s m args c cc nL own Ts D cl tys A Sx E) {a : Nat} (q0 t0 : Nat) {cA : ClassId} {N : Nat} {f : Nat → Int32} (ha : w[q0]? = some (a, .inl (cA, N, .inl f))) (ht : tys[t0]? = some (cA, .byte)) {i : Int32} (hin : vp_in i N) (pn : Nat) (hpn : pc + 1 = pn) (hdg : decode cc pc = .ok (.baload, 1)) (k : jJ p l e R s m args below meth c cells slots Q D cl A Sx nL w (pn) lv (.int (f i.toNatClampNeg) :: rest)) : jJ p l e R s m args below meth c cells slots Q D cl A Sx nL w (pc) lv (.int i :: .ref a :: rest) := by
  subst hpn
  exact fun H locs ls h1 h2 h3 h4 => va_bald C.x C.b C.k h1 q0 t0 ha ht hin hdg (k H locs ls h1 h2 h3 h4)
theorem j_zld (C : jC p s m args c cc nL own Ts D cl tys A Sx E) {a : Nat} (q0 t0 : Nat) {cA : ClassId} {N : Nat} {g : Nat → Bool} (ha : w[q0]? = some (a, .inl (cA, N, .inl (fun i => bI (g i))))) (ht : tys[t0]? = some (cA, .boolean)) {i : Int32} (hin : vp_in i N) (pn : Nat) (hpn : pc + 1 = pn) (hdg : decode cc pc = .ok (.baload, 1)) (k : jJ p l e R s m args below meth c cells slots Q D cl A Sx nL w (pn) lv (.int (bI (g i.toNatClampNeg)) :: rest)) : jJ p l e R s m args below meth c cells slots Q D cl A Sx nL w (pc) lv (.int i :: .ref a :: rest) := by
  subst hpn
  exact fun H locs ls h1 h2 h3 h4 => va_zald C.x C.b C.k h1 q0 t0 ha ht hin hdg (k H locs ls h1 h2 h3 h4)
theorem j_ast (C : jC p s m args c cc nL own Ts D cl tys A (va_S A s.heap) E) {a : Nat} (q0 t0 : Nat) {cA : ClassId} {N : Nat} {f : Nat → Int32} (ha : w[q0]? = some (a, .inl (cA, N, .inl f))) (ht : tys[t0]? = some (cA, .int)) {i x : Int32} (hin : vp_in i N) (pn : Nat) (hpn : pc + 1 = pn) (hdg : decode cc pc = .ok (.iastore, 1)) (k : jJ p l e R s m args below meth c cells slots Q D cl A (va_S A s.heap) nL (w.set q0 (a, .inl (cA, N, .inl (upd f i.toNatClampNeg x)))) (pn) lv (rest)) : jJ p l e R s m args below meth c cells slots Q D cl A (va_S A s.heap) nL w (pc) lv (.int x :: .int i :: .ref a :: rest) := by
  subst hpn
  exact fun H locs ls h1 h2 h3 h4 => va_iast C.x C.b C.k h1 h2 h3 q0 t0 ha ht hin hdg (fun H1 locs1 g1 g2 g3 => k H1 locs1 ls g1 g2 g3 h4)
theorem j_bst (C : jC p s m args c cc nL own Ts D cl tys A (va_S A s.heap) E) {a : Nat} (q0 t0 : Nat) {cA : ClassId} {N : Nat} {f : Nat → Int32} (ha : w[q0]? = some (a, .inl (cA, N, .inl f))) (ht : tys[t0]? = some (cA, .byte)) {i x : Int32} (hin : vp_in i N) (pn : Nat) (hpn : pc + 1 = pn) (hdg : decode cc pc = .ok (.bastore, 1)) (k : jJ p l e R s m args below meth c cells slots Q D cl A (va_S A s.heap) nL (w.set q0 (a, .inl (cA, N, .inl (upd f i.toNatClampNeg x.toInt8.toInt32)))) (pn) lv (rest)) : jJ p l e R s m args below meth c cells slots Q D cl A (va_S A s.heap) nL w (pc) lv (.int x :: .int i :: .ref a :: rest) := by
  subst hpn
  intro H locs ls h1 h2 h3 h4
  refine va_bast C.x C.b C.k h1 h2 h3 q0 t0 ha ht hin hdg (fun H1 locs1 g1 g2 g3 => ?_)
  rw [vp_nar_byte] at g1 g2
  exact k H1 locs1 ls g1 g2 g3 h4
theorem bI_upd (g : Nat → Bool) (n : Nat) (b : Bool) : upd (fun i => bI (g i)) n (vp_nar .boolean (bI b)) = fun i => bI (va_up g n b i) := by
  funext j
  have e : vp_nar .boolean (bI b) = bI b := by cases b <;> rfl
  rw [e]
  by_cases h : j = n
  · simp [upd, va_up, h]
  · simp [upd, va_up, h]
theorem j_zst (C : jC p s m args c cc nL own Ts D cl tys A (va_S A s.heap) E) {a : Nat} (q0 t0 : Nat) {cA : ClassId} {N : Nat} {g : Nat → Bool} (ha : w[q0]? = some (a, .inl (cA, N, .inl (fun i => bI (g i))))) (ht : tys[t0]? = some (cA, .boolean)) {i x : Int32} (hin : vp_in i N) {b : Bool} (hb : x = bI b) (pn : Nat) (hpn : pc + 1 = pn) (hdg : decode cc pc = .ok (.bastore, 1)) (k : jJ p l e R s m args below meth c cells slots Q D cl A (va_S A s.heap) nL (w.set q0 (a, .inl (cA, N, .inl (fun j => bI (va_up g i.toNatClampNeg b j))))) (pn) lv (rest)) : jJ p l e R s m args below meth c cells slots Q D cl A (va_S A s.heap) nL w (pc) lv (.int x :: .int i :: .ref a :: rest) := by
  subst hpn
  subst hb
  intro H locs ls h1 h2 h3 h4
  refine va_zast C.x C.b C.k h1 h2 h3 q0 t0 ha ht hin hdg (fun H1 locs1 g1 g2 g3 => ?_)
  rw [bI_upd] at g1 g2
  exact k H1 locs1 ls g1 g2 g3 h4
theorem j_last (C : jC p s m args c cc nL own Ts D cl tys A (va_S A s.heap) E) {a : Nat} (q0 t0 : Nat) {cA : ClassId} {N : Nat} {f : Nat → Int64} (ha : w[q0]? = some (a, .inl (cA, N, .inr (.inl f)))) (ht : tys[t0]? = some (cA, .long)) {i : Int32} {x : Int64} (hin : vp_in i N) (pn : Nat) (hpn : pc + 1 = pn) (hdg : decode cc pc = .ok (.lastore, 1)) (k : jJ p l e R s m args below meth c cells slots Q D cl A (va_S A s.heap) nL (w.set q0 (a, .inl (cA, N, .inr (.inl (vp_updL f i.toNatClampNeg x))))) (pn) lv (rest)) : jJ p l e R s m args below meth c cells slots Q D cl A (va_S A s.heap) nL w (pc) lv (.long x :: .int i :: .ref a :: rest) := by
  subst hpn
  exact fun H locs ls h1 h2 h3 h4 => va_last C.x C.b C.k h1 h2 h3 q0 t0 ha ht hin hdg (fun H1 locs1 g1 g2 g3 => k H1 locs1 ls g1 g2 g3 h4)
theorem j_lald (C : jC p s m args c cc nL own Ts D cl tys A Sx E) {a : Nat} (q0 t0 : Nat) {cA : ClassId} {N : Nat} {f : Nat → Int64} (ha : w[q0]? = some (a, .inl (cA, N, .inr (.inl f)))) (ht : tys[t0]? = some (cA, .long)) {i : Int32} (hin : vp_in i N) (pn : Nat) (hpn : pc + 1 = pn) (hdg : decode cc pc = .ok (.laload, 1)) (k : jJ p l e R s m args below meth c cells slots Q D cl A Sx nL w (pn) lv (.long (f i.toNatClampNeg) :: rest)) : jJ p l e R s m args below meth c cells slots Q D cl A Sx nL w (pc) lv (.int i :: .ref a :: rest) := by
  subst hpn
  exact fun H locs ls h1 h2 h3 h4 => va_lald C.x C.b C.k h1 q0 t0 ha ht hin hdg (k H locs ls h1 h2 h3 h4)
/-! methods that only read: the heap stays as it is -/
def jQr (v : Option Value) : Array Value → State → Outcome → State → Prop := fun _ st oc t => oc = .returned v ∧ t.heap = st.heap
def jR (l : Launch) (D : va_G) (cl : List vw_C) (tys : List (ClassId × FieldType)) (E : State → Prop) (y : MethodName) (ws : List Cond) (rm : Room) (av : List Value) (w : va_W) (v : Option Value) : Prop :=
  ∀ sz : Nat, Met l y ws rm (va_Pc av (jPre D cl tys E w sz)) (jQr v) 0 0 (fun _ => False)
theorem jR.of {y : MethodName} {ws ws' : List Cond} {rm : Room} {maxL : Nat} {ret : Option FieldType} {av : List Value} {v : Option Value} (hE : jLoc D cl E) (hy : plainName y.cls = true) (ho : y.cls = own) (hw : ws = Cond.code y cc maxL ret :: ws') (hlen : (lg_sl av).length ≤ maxL) (hlv : lv_args 0 av = lv)
    (body : ∀ (p : Program) (e : Env) (s : State) (m : MethodId) (args : Array Value) (below : List Frame) (meth : Method) (c : Code) (A : Nat → Prop), jC p s m args c cc maxL own ws D cl tys A (rd s) E → meth.sig.returnType = ret → meth.locks = false →
      jJ p l e rm s m args below meth c 0 0 (MQ below (jQr v) args s 0 0 (fun _ => False)) D cl A (rd s) maxL w 0 lv []) : jR l D cl tys E y ws rm av w v := by
  intro sz
  refine Met.ofW (cc := cc) (maxL := maxL) (ret := ret) hy hw ?_
  intro p e s m args below meth c s₁ B hml hv
  obtain ⟨rfl, hsz, hP, hK, hD0, hE0⟩ := hv
  subst hsz
  have hD := hD0.self (sz := s.heap.size)
  have K := body p e s m av.toArray below meth c (va_A w s.heap.size) ⟨B.exec, B.bytes, hml, by rw [← ho]; exact findClass_of_methodNamed B.named, atoms_spec (ws := ws) B.pre, hK, fun q h => Or.inr h, fun U hq hW => hE.2 s U w hE0 hP hq hW, rd_S⟩ B.returns B.notSynchronized
  have hl := lv_entry av (n := maxL) hlen
  rw [hlv] at hl
  rw [lg_entry_eq]
  exact K s.heap [] _ hP hD ⟨rfl, rfl⟩ hl
theorem jR.toM {y : MethodName} {ws : List Cond} {rm : Room} {av : List Value} {v : Option Value} (h : jR l D cl tys E y ws rm av w v) : jM l D cl tys E y ws rm av w v w := by
  intro sz p e a1 a2 a3 s m args below g1 g2 g3 g4
  obtain ⟨n, o, k1, k2, k3, ⟨k4, k5⟩, L, k6, k7⟩ := h sz p e a1 a2 a3 s m args below g1 g2 g3 g4
  obtain ⟨-, hsz, hP, -, hD0, -⟩ := g3
  exact ⟨n, o, k1, k2, k3, ⟨k4, by rw [k5]; exact hP, hD0.self, by rw [k5]; exact Nat.le_refl _, fun q _ _ => by rw [k5]⟩, L, k6, fun q hq => (k7 q hq).elim⟩
theorem j_iretR (C : jC p s m args c cc nL own Ts D cl tys A (rd s) E) (hr : meth.sig.returnType = some .int) (hlk : meth.locks = false) {x r : Int32} (hdg : decode cc pc = .ok (.ireturn, 1)) (hv : x = r) : jJ p l e R s m args below meth c 0 0 (MQ below (jQr (some (.int r))) args s 0 0 (fun _ => False)) D cl A (rd s) nL w pc lv ([.int x]) := by
  intro H locs ls h1 h2 h3 h4
  obtain ⟨rfl, rfl⟩ := h3
  subst hv
  exact W.iret C.x C.b hr (fun t ht _ => ⟨rfl, ht⟩) (fun q h => nomatch h) hdg hlk
theorem j_zretR (C : jC p s m args c cc nL own Ts D cl tys A (rd s) E) (hr : meth.sig.returnType = some .boolean) (hlk : meth.locks = false) {x : Int32} {b : Bool} (hdg : decode cc pc = .ok (.ireturn, 1)) (hv : x = bI b) : jJ p l e R s m args below meth c 0 0 (MQ below (jQr (some (.int (bI b)))) args s 0 0 (fun _ => False)) D cl A (rd s) nL w pc lv ([.int x]) := by
  intro H locs ls h1 h2 h3 h4
  obtain ⟨rfl, rfl⟩ := h3
  subst hv
  exact W.zret C.x C.b hr (bI_nar b) (fun t ht _ => ⟨rfl, ht⟩) (fun q h => nomatch h) hdg hlk
theorem j_vretR (C : jC p s m args c cc nL own Ts D cl tys A (rd s) E) (hr : meth.sig.returnType = none) (hlk : meth.locks = false) (hdg : decode cc pc = .ok (.return_, 1)) : jJ p l e R s m args below meth c 0 0 (MQ below (jQr none) args s 0 0 (fun _ => False)) D cl A (rd s) nL w pc lv ([]) := by
  intro H locs ls h1 h2 h3 h4
  obtain ⟨rfl, rfl⟩ := h3
  exact W.vret C.x C.b hr (fun t ht _ => ⟨rfl, ht⟩) (fun q h => nomatch h) hdg hlk
theorem j_callVR {T : List Cond} {c0 : Cond} (C : jC p s m args c cc nL own (c0 :: T) D cl tys A Sx E) (hE : jLoc D cl E) (hG : jG T) {y : MethodName} {bytes : ByteArray} {maxL : Nat} {ret : Option FieldType} {n index : Nat} {rm : Room} {b : Nat} {As st' : List Value} {v : Option Value} (hM : jR l D cl tys E y (Cond.code y bytes maxL ret :: T) rm (.ref b :: As) w v) (hY : jY T y bytes maxL ret n) (hl : Cond.methodLink own index y ∈ T) (hr : rm.cells = 0 ∧ rm.slots = 0) (hR : rm.frames + 1 ≤ R.frames ∧ 8 + (maxL + 11) + rm.locals ≤ R.locals) (q0 : Nat) {ci : Nat} {fs : List Value} {qC : vw_C} (he : w[q0]? = some (b, .inr (ci, fs))) (hc : cl[ci]? = some qC) (hq : qC.1 = y.cls) (hn : As.length = n) (hst : (rest.map fun v => v.category).sum ≤ 8) (hf : cells ≤ R.cells ∧ slots ≤ R.slots) (hdg : decode cc pc = .ok (.invokevirtual index, 3)) {st0 : List Value} (pn : Nat) (hpn : pc + 3 = pn) (hs0 : st0 = As.reverse ++ .ref b :: rest) (hs' : v.toList ++ rest = st') (k : jJ p l e R s m args below meth c cells slots Q D cl A Sx nL w (pn) lv (st')) : jJ p l e R s m args below meth c cells slots Q D cl A Sx nL w (pc) lv (st0) := by
  subst hpn
  subst hs0
  intro H locs ls hP hD hS hl4 T0 hT X
  subst hs'
  have hb := va_recv C.k hP hc he
  rw [hq] at hb
  obtain ⟨v1, st₀, t, T', L, h0, X', hL, e1, e2, ⟨hv, hh⟩, st⟩ := va_runV (As := As) (rest := rest) ⟨C.x, C.b, C.ml, C.o, C.t⟩ (hM H.size) ⟨jCB hG C.t hY.1 hY.2.2.2.1 hY.2.2.2.2 hl hr.1 hr.2 hR, C.t _ (List.mem_cons_of_mem _ hY.2.1), C.t _ (List.mem_cons_of_mem _ hY.2.2.1)⟩
    ⟨jBlind hE, hb, jPre_at C hP hD (C.sx H locs hS)⟩ rfl hn hl4.1 rfl (lv_room hst) hdg ⟨hf.1, hf.2⟩ T0 hT X
  cases hv
  have hL0 : L = [] := by
    cases L with
    | nil => rfl
    | cons a r => exact (hL a List.mem_cons_self).elim
  subst hL0
  rw [List.append_nil] at X'
  obtain ⟨t2, a1, b1⟩ := k H locs ls hP hD hS hl4 T' (by rw [e1, hh, h0]) X'
  exact ⟨t2, st t2 a1, b1⟩
theorem j_callSR {T : List Cond} {c0 : Cond} (C : jC p s m args c cc nL own (c0 :: T) D cl tys A Sx E) (hE : jLoc D cl E) (hG : jG T) {y : MethodName} {bytes : ByteArray} {maxL : Nat} {ret : Option FieldType} {n index : Nat} {rm : Room} {As st' : List Value} {v : Option Value} (hM : jR l D cl tys E y (Cond.code y bytes maxL ret :: T) rm As w v) (hY : jYs T y bytes maxL ret n) (hl : Cond.methodLink own index y ∈ T) (hr : rm.cells = 0 ∧ rm.slots = 0) (hR : rm.frames + 1 ≤ R.frames ∧ 8 + (maxL + 11) + rm.locals ≤ R.locals) (hn : As.length = n) (hst : (rest.map fun v => v.category).sum ≤ 8) (hf : cells ≤ R.cells ∧ slots ≤ R.slots) (hdg : decode cc pc = .ok (.invokestatic index, 3)) {st0 : List Value} (pn : Nat) (hpn : pc + 3 = pn) (hs0 : st0 = As.reverse ++ rest) (hs' : v.toList ++ rest = st') (k : jJ p l e R s m args below meth c cells slots Q D cl A Sx nL w (pn) lv (st')) : jJ p l e R s m args below meth c cells slots Q D cl A Sx nL w (pc) lv (st0) := by
  subst hpn
  subst hs0
  intro H locs ls hP hD hS hl4 T0 hT X
  subst hs'
  obtain ⟨v1, st₀, t, T', L, h0, X', hL, e1, e2, ⟨hv, hh⟩, st⟩ := va_runS (As := As) (rest := rest) ⟨C.x, C.b, C.ml, C.o, C.t⟩ (hM H.size) ⟨jCB hG C.t hY.1 hY.2.2.1 hY.2.2.2 hl hr.1 hr.2 hR, C.t _ (List.mem_cons_of_mem _ hY.2.1)⟩
    ⟨jBlind hE, jPre_at C hP hD (C.sx H locs hS)⟩ rfl hn hl4.1 rfl (lv_room hst) hdg ⟨hf.1, hf.2⟩ T0 hT X
  cases hv
  have hL0 : L = [] := by
    cases L with
    | nil => rfl
    | cons a r => exact (hL a List.mem_cons_self).elim
  subst hL0
  rw [List.append_nil] at X'
  obtain ⟨t2, a1, b1⟩ := k H locs ls hP hD hS hl4 T' (by rw [e1, hh, h0]) X'
  exact ⟨t2, st t2 a1, b1⟩
theorem j_callVRi {T : List Cond} {c0 : Cond} (C : jC p s m args c cc nL own (c0 :: T) D cl tys A Sx E) (hE : jLoc D cl E) (hG : jG T) {y : MethodName} {bytes : ByteArray} {maxL : Nat} {ret : Option FieldType} {n index : Nat} {rm : Room} {b : Nat} {As : List Value} {x : Value} (hM : jR l D cl tys E y (Cond.code y bytes maxL ret :: T) rm (.ref b :: As) w (some x)) (hY : jY T y bytes maxL ret n) (hl : Cond.methodLink own index y ∈ T) (hr : rm.cells = 0 ∧ rm.slots = 0) (hR : rm.frames + 1 ≤ R.frames ∧ 8 + (maxL + 11) + rm.locals ≤ R.locals) (q0 : Nat) {ci : Nat} {fs : List Value} {qC : vw_C} (he : w[q0]? = some (b, .inr (ci, fs))) (hc : cl[ci]? = some qC) (hq : qC.1 = y.cls) (hn : As.length = n) (hst : (rest.map fun v => v.category).sum ≤ 8) (hf : cells ≤ R.cells ∧ slots ≤ R.slots) (hdg : decode cc pc = .ok (.invokevirtual index, 3)) {st0 : List Value} (pn : Nat) (hpn : pc + 3 = pn) (hs0 : st0 = As.reverse ++ .ref b :: rest) (k : jJ p l e R s m args below meth c cells slots Q D cl A Sx nL w (pn) lv (x :: rest)) : jJ p l e R s m args below meth c cells slots Q D cl A Sx nL w (pc) lv (st0) := j_callVR C hE hG hM hY hl hr hR q0 he hc hq hn hst hf hdg pn hpn hs0 rfl k
theorem j_callSRi {T : List Cond} {c0 : Cond} (C : jC p s m args c cc nL own (c0 :: T) D cl tys A Sx E) (hE : jLoc D cl E) (hG : jG T) {y : MethodName} {bytes : ByteArray} {maxL : Nat} {ret : Option FieldType} {n index : Nat} {rm : Room} {As : List Value} {x : Value} (hM : jR l D cl tys E y (Cond.code y bytes maxL ret :: T) rm As w (some x)) (hY : jYs T y bytes maxL ret n) (hl : Cond.methodLink own index y ∈ T) (hr : rm.cells = 0 ∧ rm.slots = 0) (hR : rm.frames + 1 ≤ R.frames ∧ 8 + (maxL + 11) + rm.locals ≤ R.locals) (hn : As.length = n) (hst : (rest.map fun v => v.category).sum ≤ 8) (hf : cells ≤ R.cells ∧ slots ≤ R.slots) (hdg : decode cc pc = .ok (.invokestatic index, 3)) {st0 : List Value} (pn : Nat) (hpn : pc + 3 = pn) (hs0 : st0 = As.reverse ++ rest) (k : jJ p l e R s m args below meth c cells slots Q D cl A Sx nL w (pn) lv (x :: rest)) : jJ p l e R s m args below meth c cells slots Q D cl A Sx nL w (pc) lv (st0) := j_callSR C hE hG hM hY hl hr hR hn hst hf hdg pn hpn hs0 rfl k
theorem j_callVRv {T : List Cond} {c0 : Cond} (C : jC p s m args c cc nL own (c0 :: T) D cl tys A Sx E) (hE : jLoc D cl E) (hG : jG T) {y : MethodName} {bytes : ByteArray} {maxL : Nat} {ret : Option FieldType} {n index : Nat} {rm : Room} {b : Nat} {As : List Value} (hM : jR l D cl tys E y (Cond.code y bytes maxL ret :: T) rm (.ref b :: As) w none) (hY : jY T y bytes maxL ret n) (hl : Cond.methodLink own index y ∈ T) (hr : rm.cells = 0 ∧ rm.slots = 0) (hR : rm.frames + 1 ≤ R.frames ∧ 8 + (maxL + 11) + rm.locals ≤ R.locals) (q0 : Nat) {ci : Nat} {fs : List Value} {qC : vw_C} (he : w[q0]? = some (b, .inr (ci, fs))) (hc : cl[ci]? = some qC) (hq : qC.1 = y.cls) (hn : As.length = n) (hst : (rest.map fun v => v.category).sum ≤ 8) (hf : cells ≤ R.cells ∧ slots ≤ R.slots) (hdg : decode cc pc = .ok (.invokevirtual index, 3)) {st0 : List Value} (pn : Nat) (hpn : pc + 3 = pn) (hs0 : st0 = As.reverse ++ .ref b :: rest) (k : jJ p l e R s m args below meth c cells slots Q D cl A Sx nL w (pn) lv (rest)) : jJ p l e R s m args below meth c cells slots Q D cl A Sx nL w (pc) lv (st0) := j_callVR C hE hG hM hY hl hr hR q0 he hc hq hn hst hf hdg pn hpn hs0 rfl k
theorem j_callSRv {T : List Cond} {c0 : Cond} (C : jC p s m args c cc nL own (c0 :: T) D cl tys A Sx E) (hE : jLoc D cl E) (hG : jG T) {y : MethodName} {bytes : ByteArray} {maxL : Nat} {ret : Option FieldType} {n index : Nat} {rm : Room} {As : List Value} (hM : jR l D cl tys E y (Cond.code y bytes maxL ret :: T) rm As w none) (hY : jYs T y bytes maxL ret n) (hl : Cond.methodLink own index y ∈ T) (hr : rm.cells = 0 ∧ rm.slots = 0) (hR : rm.frames + 1 ≤ R.frames ∧ 8 + (maxL + 11) + rm.locals ≤ R.locals) (hn : As.length = n) (hst : (rest.map fun v => v.category).sum ≤ 8) (hf : cells ≤ R.cells ∧ slots ≤ R.slots) (hdg : decode cc pc = .ok (.invokestatic index, 3)) {st0 : List Value} (pn : Nat) (hpn : pc + 3 = pn) (hs0 : st0 = As.reverse ++ rest) (k : jJ p l e R s m args below meth c cells slots Q D cl A Sx nL w (pn) lv (rest)) : jJ p l e R s m args below meth c cells slots Q D cl A Sx nL w (pc) lv (st0) := j_callSR C hE hG hM hY hl hr hR hn hst hf hdg pn hpn hs0 rfl k
end JB
