/-! the law's body: what its lemmas speak of -/
abbrev lJ (p : Program) (l : Launch) (e : Env) (s : State) (m : MethodId) (below : List Frame) (meth : Method) (c : Code) (dC : Nat → ClassId) (dI : Nat → Nat → Nat) (A : Nat → Prop) (b cells slots : Nat) (w : va_W) (pc : Nat) (lv : List (Nat × Value)) (st : List Value) : Prop :=
  jJ p l e room_1 s m #[Value.ref b] below meth c cells slots (lw_Z below #[Value.ref b] s) (dC, dI) vwCl A (va_S A s.heap) 7 w pc lv st
abbrev lC (p : Program) (s : State) (m : MethodId) (c : Code) (dC : Nat → ClassId) (dI : Nat → Nat → Nat) (cI cZ cB cJ : ClassId) (A : Nat → Prop) (b : Nat) : Prop :=
  jC p s m #[Value.ref b] c code 7 R_L (Cond.tt :: jT) (dC, dI) vwCl (jty cI cZ cB cJ) A (va_S A s.heap) jE2
def w1 (ad : Nat → Nat) (am : Nat → Nat) (ao : Nat) (cI cZ cB cJ : ClassId) (σ : S2) (β : B2) (mk : Int64) (f : Nat → Int64) (μ : S2) (ν : B2) : va_W := wC ad cI cZ cB σ β mk (wo ao cJ f (wM am cI cZ μ ν []))
def w2 (ad : Nat → Nat) (am : Nat → Nat) (ao : Nat) (cI cZ cB cJ : ClassId) (σ : S2) (β : B2) (mk : Int64) (f : Nat → Int64) (μ : S2) (ν : B2) : va_W := wM am cI cZ μ ν (wC ad cI cZ cB σ β mk (wo ao cJ f []))
section LW0
variable {p : Program} {l : Launch} {e : Env} {s : State} {m : MethodId} {below : List Frame} {meth : Method} {c : Code} {cells slots : Nat}
variable {dC : Nat → ClassId} {dI : Nat → Nat → Nat} {cI cZ cB cJ : ClassId} {A : Nat → Prop} {ad am : Nat → Nat} {ao : Nat} {f : Nat → Int64} {σ μ : S2} {β ν : B2} {mk : Int64} {t b L : Nat} {xs : Nat → Int32} {i : Int32}
theorem l_12 {pc : Nat} {lv : List (Nat × Value)} {st : List Value} (k : lJ p l e s m below meth c dC dI A b cells slots (w2 ad am ao cI cZ cB cJ σ β mk f μ ν) pc lv st) : lJ p l e s m below meth c dC dI A b cells slots (w1 ad am ao cI cZ cB cJ σ β mk f μ ν) pc lv st :=
  j_perm [20, 21, 22, 23, 24, 25, 26, 27, 28, 29, 30, 31, 32, 33, 34, 35, 0, 1, 2, 3, 4, 5, 6, 7, 8, 9, 10, 11, 12, 13, 14, 15, 16, 17, 18, 19] rfl rfl rfl k
theorem l_21 {pc : Nat} {lv : List (Nat × Value)} {st : List Value} (k : lJ p l e s m below meth c dC dI A b cells slots (w1 ad am ao cI cZ cB cJ σ β mk f μ ν) pc lv st) : lJ p l e s m below meth c dC dI A b cells slots (w2 ad am ao cI cZ cB cJ σ β mk f μ ν) pc lv st :=
  j_perm [16, 17, 18, 19, 20, 21, 22, 23, 24, 25, 26, 27, 28, 29, 30, 31, 32, 33, 34, 35, 0, 1, 2, 3, 4, 5, 6, 7, 8, 9, 10, 11, 12, 13, 14, 15] rfl rfl rfl k
theorem lg_same (x : Int64) : lg_cmp x x = 0 := by
  unfold lg_cmp
  simp
end LW0
