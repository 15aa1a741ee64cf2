/-! loops over equal conditions -/
theorem dist0 {i b : Int32} (h : dist i b = 0) : b ≤ i := by
  unfold dist at h
  rw [tle]
  omega
theorem distS {i b : Int32} {n : Nat} (h : dist i b = n + 1) : ¬ b ≤ i := fun c => by
  rw [dist_out c] at h
  omega
theorem dist_next {i b : Int32} {n : Nat} (h : dist i b = n + 1) : dist (i + 1) b = n := by
  have := dist_in (distS h)
  omega
theorem t_in {i b : Int32} (c : ¬ b ≤ i) : (i + 1).toInt = i.toInt + 1 := by
  rw [tle] at c
  have h1 := b.toInt_lt
  have h2 := i.le_toInt
  rw [tadd (by rw [i1]; omega) (by rw [i1]; omega), i1]
theorem exL_cg {P Q : Int32 → Bool} {i b : Int32} (h : ∀ j : Int32, i.toInt ≤ j.toInt → j.toInt < b.toInt → P j = Q j) : exL P i b = exL Q i b := by
  induction hn : dist i b generalizing i with
  | zero => rw [exL_out (dist0 hn), exL_out (dist0 hn)]
  | succ n ih =>
    have c := distS hn
    have e := t_in c
    have c' := c
    rw [tle] at c'
    rw [exL_in c, exL_in c, h i (by omega) (by omega), ih (fun j g1 g2 => h j (by omega) g2) (dist_next hn)]
theorem frL_cg {P Q : Int32 → Bool} {i b : Int32} (h : ∀ j : Int32, i.toInt ≤ j.toInt → j.toInt < b.toInt → P j = Q j) : frL P i b = frL Q i b := by
  induction hn : dist i b generalizing i with
  | zero => rw [frL_out (dist0 hn), frL_out (dist0 hn)]
  | succ n ih =>
    have c := distS hn
    have e := t_in c
    have c' := c
    rw [tle] at c'
    rw [frL_in c, frL_in c, h i (by omega) (by omega), ih (fun j g1 g2 => h j (by omega) g2) (dist_next hn)]
theorem cnL_cg {P Q : Int32 → Bool} {i b a : Int32} (h : ∀ j : Int32, i.toInt ≤ j.toInt → j.toInt < b.toInt → P j = Q j) : cnL P i b a = cnL Q i b a := by
  induction hn : dist i b generalizing i a with
  | zero => rw [cnL_out (dist0 hn), cnL_out (dist0 hn)]
  | succ n ih =>
    have c := distS hn
    have e := t_in c
    have c' := c
    rw [tle] at c'
    rw [cnL_in c, cnL_in c, h i (by omega) (by omega), ih (fun j g1 g2 => h j (by omega) g2) (dist_next hn)]
theorem frL_sp {P : Int32 → Bool} {i b : Int32} : frL P i b = -1 ∨ (i.toInt ≤ (frL P i b).toInt ∧ (frL P i b).toInt < b.toInt ∧ P (frL P i b) = true) := by
  induction hn : dist i b generalizing i with
  | zero => exact Or.inl (frL_out (dist0 hn))
  | succ n ih =>
    have c := distS hn
    have e := t_in c
    have c' := c
    rw [tle] at c'
    rw [frL_in c]
    split
    · next hp => exact Or.inr ⟨by omega, by omega, hp⟩
    · rcases ih (dist_next hn) with q | ⟨q1, q2, q3⟩
      · exact Or.inl q
      · exact Or.inr ⟨by omega, q2, q3⟩
theorem dnst0 {a i : Int32} (h : dnst a i = 0) : i < a := by
  unfold dnst at h
  rw [tlt]
  omega
theorem laL_cg {P Q : Int32 → Bool} {a i : Int32} (ha : 0 ≤ a) (h : ∀ j : Int32, a.toInt ≤ j.toInt → j.toInt ≤ i.toInt → P j = Q j) : laL P a i = laL Q a i := by
  induction hn : dnst a i generalizing i with
  | zero => rw [laL_out (dnst0 hn), laL_out (dnst0 hn)]
  | succ n ih =>
    have c : ¬ i < a := fun c => by
      rw [dnst_out c] at hn
      omega
    have hn2 := dnst_in ha c
    have c' := c
    have ha' := ha
    rw [tle, i0] at ha'
    rw [tlt] at c'
    have e : (i - 1).toInt = i.toInt - 1 := by
      have := i.toInt_lt
      rw [tsub (by rw [i1]; omega) (by rw [i1]; omega), i1]
    rw [laL_in ha c, laL_in ha c, h i (by omega) (by omega), ih (fun j g1 g2 => h j g1 (by omega)) (by omega)]
theorem laL_sp {P : Int32 → Bool} {a i : Int32} (ha : 0 ≤ a) : laL P a i = -1 ∨ (a.toInt ≤ (laL P a i).toInt ∧ (laL P a i).toInt ≤ i.toInt ∧ P (laL P a i) = true) := by
  induction hn : dnst a i generalizing i with
  | zero => exact Or.inl (laL_out (dnst0 hn))
  | succ n ih =>
    have c : ¬ i < a := fun c => by
      rw [dnst_out c] at hn
      omega
    have hn2 := dnst_in ha c
    have c' := c
    have ha' := ha
    rw [tle, i0] at ha'
    rw [tlt] at c'
    have e : (i - 1).toInt = i.toInt - 1 := by
      have := i.toInt_lt
      rw [tsub (by rw [i1]; omega) (by rw [i1]; omega), i1]
    rw [laL_in ha c]
    split
    · next hp => exact Or.inr ⟨by omega, by omega, hp⟩
    · rcases ih (i := i - 1) (by omega) with q | ⟨q1, q2, q3⟩
      · exact Or.inl q
      · exact Or.inr ⟨q1, by omega, q3⟩
/-! how the class's state stands to the reference's -/
def wt (σ : S2) (j : Int32) : Prop := (σ 1 0).toInt ≤ j.toInt ∧ j.toInt < (σ 0 0).toInt
def rng (a z : Int32) : Prop := 0 ≤ a.toInt ∧ a.toInt + z.toInt ≤ 4096
def Sc (σ μ : S2) : Prop := σ 0 0 = μ 1 0 ∧ σ 1 0 = μ 2 0 ∧ σ 2 0 = μ 3 0 ∧ σ 3 0 = μ 4 0 ∧ σ 4 0 = μ 5 0 ∧ σ 5 0 = μ 6 0 ∧ σ 6 0 = μ 7 0
def Rw (σ : S2) (β : B2) (μ : S2) (ν : B2) : Prop := σ 10 = μ 12 ∧ σ 11 = μ 13 ∧ (∀ i, μ 14 i = σ 12 i &&& 63) ∧ σ 15 = μ 16 ∧ σ 18 = μ 17 ∧ σ 19 = μ 20 ∧ β 1 = ν 1 ∧ β 2 = ν 2
def Me (σ μ : S2) : Prop := ∀ i, μ 10 i = σ 24 i &&& 255
def Mk (mk : Int64) (ν : B2) : Prop := ∀ q : Int32, mkB mk q = ν 0 (q &&& 63).toNatClampNeg
def Pl (σ : S2) (β : B2) (μ : S2) : Prop := ∀ j : Int32, wt σ j → μ 15 (ix j) = if β 0 (ix j) = true then σ 13 (ix j) else -1
def Bf (σ μ : S2) : Prop := ∀ i : Nat, (i : Int) < (σ 6 0).toInt → (σ 20 i = μ 21 i ∧ σ 21 i = μ 22 i ∧ σ 22 i = μ 23 i ∧ σ 23 i = μ 24 i) ∧ rng (σ 21 i) (σ 22 i) ∧ 0 ≤ (σ 22 i).toInt ∧ (σ 22 i).toInt ≤ 4
def Bd (t : Nat) (σ : S2) : Prop := (0 ≤ (σ 1 0).toInt ∧ (σ 1 0).toInt ≤ (σ 0 0).toInt ∧ (σ 0 0).toInt ≤ (σ 1 0).toInt + 32 ∧ (σ 0 0).toInt ≤ t ∧ t ≤ 1000) ∧ 0 ≤ (σ 6 0).toInt ∧ (σ 6 0).toInt ≤ 4
def Oc (σ : S2) (β : B2) : Prop := (∀ i, 0 ≤ (σ 11 i).toInt ∧ (σ 11 i).toInt ≤ 4) ∧ (∀ i, 0 ≤ (σ 10 i).toInt ∧ (σ 10 i).toInt ≤ 3) ∧ (∀ i, β 0 i = true → rng (σ 13 i) (σ 11 i)) ∧ ∀ i, β 2 i = true → σ 10 i = 0 ∧ β 0 i = true
def Inv (t : Nat) (σ : S2) (β : B2) (mk : Int64) (μ : S2) (ν : B2) : Prop := Sc σ μ ∧ Rw σ β μ ν ∧ Me σ μ ∧ Mk mk ν ∧ Pl σ β μ ∧ Bf σ μ ∧ Bd t σ ∧ Oc σ β
theorem Inv.thr {t : Nat} {σ : S2} {β : B2} {mk : Int64} {μ : S2} {ν : B2} {x : Int32} (h : Inv t σ β mk μ ν) : Inv t σ β mk (sS μ 0 x) ν := by
  obtain ⟨h1, h2, h3, h4, h5, h6, h7, h8⟩ := h
  exact ⟨h1, h2, h3, h4, h5, h6, h7, h8⟩
theorem Inv.up {t : Nat} {σ : S2} {β : B2} {mk : Int64} {μ : S2} {ν : B2} (h : Inv t σ β mk μ ν) (ht : t < 1000) : Inv (t + 1) σ β mk μ ν := by
  obtain ⟨h1, h2, h3, h4, h5, h6, ⟨h7, h9⟩, h8⟩ := h
  exact ⟨h1, h2, h3, h4, h5, h6, ⟨⟨h7.1, h7.2.1, h7.2.2.1, by omega, by omega⟩, h9⟩, h8⟩
theorem kwb_not (kind bytes : Int32) : (decide (kind < 0) || (decide (3 < kind) || !iszM kind bytes)) = !kwb kind bytes := by
  unfold kwb iszM
  by_cases h : kind = 2
  · subst h
    simp
  · simp only [h, if_false]
    by_cases h1 : kind < 0 <;> by_cases h2 : 3 < kind <;> simp [h1, h2]
theorem kwb_rng {kind bytes : Int32} (h : kwb kind bytes = true) : (0 ≤ kind.toInt ∧ kind.toInt ≤ 3) ∧ 0 ≤ bytes.toInt ∧ bytes.toInt ≤ 4 := by
  unfold kwb at h
  by_cases hk : kind = 2
  · subst hk
    simp at h
    subst h
    decide
  · simp only [hk, if_false, Bool.and_eq_true, Bool.not_eq_true', decide_eq_false_iff_not, Bool.or_eq_true, decide_eq_true_eq] at h
    obtain ⟨h1, h2, h3⟩ := h
    rw [tlt, i0] at h1
    rw [tlt, show (3 : Int32).toInt = 3 from by decide] at h2
    refine ⟨⟨by omega, by omega⟩, ?_⟩
    rcases h3 with rfl | rfl | rfl <;> decide
