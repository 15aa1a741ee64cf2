/-! drain; the count of marks -/
section PU6
variable {t : Nat} {σ : S2} {β : B2} {mk : Int64} {μ : S2} {ν : B2}
variable {l : Launch} {dC : Nat → ClassId} {dI : Nat → Nat → Nat} {cI cZ cB cJ : ClassId} {am : Nat → Nat} {ρ : va_W}
theorem shU_j {j : Nat} (h : j ≠ 20 ∧ j ≠ 21 ∧ j ≠ 22 ∧ j ≠ 23) : ∀ (c : Nat) (i : Int32) (σ : S2), shU c i σ j = σ j
  | 0, _, _ => rfl
  | c + 1, i, σ => by rw [shU, shU_j h c (i + 1), shS, sA_ne h.2.2.2, sA_ne h.2.2.1, sA_ne h.2.1, sA_ne h.1]
theorem dsU_j {j : Nat} (h : j ≠ 21 ∧ j ≠ 22 ∧ j ≠ 23 ∧ j ≠ 24) : ∀ (c : Nat) (k : Int32) (τ : S2), dsU c k τ j = τ j
  | 0, _, _ => rfl
  | c + 1, k, τ => by rw [dsU, dsU_j h c (k + 1), dsS, sA_ne h.2.2.2, sA_ne h.2.2.1, sA_ne h.2.1, sA_ne h.1]
theorem shS_c (σ : S2) (i : Int32) {c : Nat} (hc : c = 20 ∨ c = 21 ∨ c = 22 ∨ c = 23) : shS σ i c = upd (σ c) (i - 1).toNatClampNeg (σ c i.toNatClampNeg) := by
  rcases hc with rfl | rfl | rfl | rfl <;> rfl
theorem dsS_c (τ : S2) (k : Int32) {c : Nat} (hc : c = 21 ∨ c = 22 ∨ c = 23 ∨ c = 24) : dsS τ k c = upd (τ c) k.toNatClampNeg (τ c (k + 1).toNatClampNeg) := by
  rcases hc with rfl | rfl | rfl | rfl <;> rfl
theorem shL_at {c : Nat} (hc : c = 20 ∨ c = 21 ∨ c = 22 ∨ c = 23) : ∀ (n : Nat) (i : Int32) (σ : S2) (m : Nat), dist i 4 = n → 1 ≤ i.toInt → shL i σ c m = if i.toInt ≤ (m : Int) + 1 ∧ m < 3 then σ c (m + 1) else σ c m := by
  intro n
  induction n with
  | zero =>
    intro i σ m hn hi
    have h0 := dist0 hn
    rw [shL_out h0]
    rw [tle, i4] at h0
    rw [if_neg (by omega)]
  | succ n ih =>
    intro i σ m hn hi
    have h0 := distS hn
    have e := t_in h0
    have h0' := h0
    rw [tle, i4] at h0'
    have e1 : (i - 1).toInt = i.toInt - 1 := by rw [tsub (by rw [i1]; omega) (by rw [i1]; have := i.toInt_lt; omega), i1]
    have n1 := tclN (a := i) (by omega)
    have n2 := tclN (a := i - 1) (by omega)
    rw [shL_in h0, ih (i + 1) (shS σ i) m (dist_next hn) (by omega), shS_c σ i hc]
    by_cases c1 : (i + 1).toInt ≤ (m : Int) + 1 ∧ m < 3
    · rw [if_pos c1, if_pos (by omega), up_ne (by omega)]
    · rw [if_neg c1]
      by_cases c2 : i.toInt ≤ (m : Int) + 1 ∧ m < 3
      · have e2 : m = (i - 1).toNatClampNeg := by omega
        have e3 : i.toNatClampNeg = m + 1 := by omega
        rw [if_pos c2, e2, up_eq, ← e2, e3]
      · rw [if_neg c2, up_ne (by omega)]
theorem dsL_at {c : Nat} (hc : c = 21 ∨ c = 22 ∨ c = 23 ∨ c = 24) {b : Int32} (hb : b.toInt ≤ 3) : ∀ (n : Nat) (k : Int32) (τ : S2) (m : Nat), dist k b = n → 0 ≤ k.toInt → dsL b k τ c m = if k.toInt ≤ (m : Int) ∧ (m : Int) < b.toInt then τ c (m + 1) else τ c m := by
  intro n
  induction n with
  | zero =>
    intro k τ m hn hi
    have h0 := dist0 hn
    rw [dsL_out h0]
    rw [tle] at h0
    rw [if_neg (by omega)]
  | succ n ih =>
    intro k τ m hn hi
    have h0 := distS hn
    have e := t_in h0
    have h0' := h0
    rw [tle] at h0'
    have n1 := tclN (a := k) (by omega)
    have n2 := tclN (a := k + 1) (by omega)
    rw [dsL_in h0, ih (k + 1) (dsS τ k) m (dist_next hn) (by omega), dsS_c τ k hc]
    by_cases c1 : (k + 1).toInt ≤ (m : Int) ∧ (m : Int) < b.toInt
    · rw [if_pos c1, if_pos (by omega), up_ne (by omega)]
    · rw [if_neg c1]
      by_cases c2 : k.toInt ≤ (m : Int) ∧ (m : Int) < b.toInt
      · have e2 : m = k.toNatClampNeg := by omega
        have e3 : (k + 1).toNatClampNeg = m + 1 := by omega
        rw [if_pos c2, e2, up_eq, ← e2, e3]
      · rw [if_neg c2, up_ne (by omega)]
theorem inv_shift (h : Inv t σ β mk μ ν) (hp : 0 < (σ 6 0).toInt) : Inv t (sS (shL 1 σ) 6 ((shL 1 σ) 6 0 - 1)) β mk (dsL (μ 7 0 - 1) 0 (sS μ 7 (μ 7 0 - 1))) ν := by
  have hs : ∀ j, (j ≠ 20 ∧ j ≠ 21 ∧ j ≠ 22 ∧ j ≠ 23) → shL 1 σ j = σ j := fun j hj => shU_j hj _ _ _
  have hd : ∀ j, (j ≠ 21 ∧ j ≠ 22 ∧ j ≠ 23 ∧ j ≠ 24) → dsL (μ 7 0 - 1) 0 (sS μ 7 (μ 7 0 - 1)) j = (sS μ 7 (μ 7 0 - 1)) j := fun j hj => dsU_j hj _ _ _
  obtain ⟨hS, hR, hM, hK, hP, hB, hD, hO⟩ := h
  have h4 := hD.2.2
  have e6 : (σ 6 0 - 1).toInt = (σ 6 0).toInt - 1 := by rw [tsub (by rw [i1]; omega) (by rw [i1]; omega), i1]
  have eb : (μ 7 0 - 1).toInt = (σ 6 0).toInt - 1 := by rw [← hS.2.2.2.2.2.2]; exact e6
  have hbf : Bf (sS (shL 1 σ) 6 ((shL 1 σ) 6 0 - 1)) (dsL (μ 7 0 - 1) 0 (sS μ 7 (μ 7 0 - 1))) := by
    intro i hi
    have hi' : (i : Int) < ((shL 1 σ) 6 0 - 1).toInt := hi
    rw [hs 6 (by decide), e6] at hi'
    obtain ⟨⟨b1, b2, b3, b4⟩, b5, b6⟩ := hB (i + 1) (by omega)
    have hc : ∀ c, (c = 20 ∨ c = 21 ∨ c = 22 ∨ c = 23) → (sS (shL 1 σ) 6 ((shL 1 σ) 6 0 - 1)) c i = σ c (i + 1) := fun c hc => by
      have hc6 : c ≠ 6 := by omega
      rw [sS_ne hc6, shL_at hc _ 1 σ i rfl (by decide), if_pos (by rw [i1]; omega)]
    have hm : ∀ c, (c = 21 ∨ c = 22 ∨ c = 23 ∨ c = 24) → (dsL (μ 7 0 - 1) 0 (sS μ 7 (μ 7 0 - 1))) c i = μ c (i + 1) := fun c hc => by
      have hc7 : c ≠ 7 := by omega
      rw [dsL_at hc (by omega) _ 0 _ i rfl (by decide), if_pos (by rw [i0]; omega), sS_ne hc7]
    rw [hc 20 (by decide), hc 21 (by decide), hc 22 (by decide), hc 23 (by decide), hm 21 (by decide), hm 22 (by decide), hm 23 (by decide), hm 24 (by decide)]
    exact ⟨⟨b1, b2, b3, b4⟩, b5, b6⟩
  have g : ∀ j, j ≠ 6 → (j ≠ 20 ∧ j ≠ 21 ∧ j ≠ 22 ∧ j ≠ 23) → (sS (shL 1 σ) 6 ((shL 1 σ) 6 0 - 1)) j = σ j := fun j h1 h2 => by rw [sS_ne h1, hs j h2]
  have g6 : (sS (shL 1 σ) 6 ((shL 1 σ) 6 0 - 1)) 6 0 = σ 6 0 - 1 := by rw [sS_eq, hs 6 (by decide)]
  have m : ∀ j, j ≠ 7 → (j ≠ 21 ∧ j ≠ 22 ∧ j ≠ 23 ∧ j ≠ 24) → (dsL (μ 7 0 - 1) 0 (sS μ 7 (μ 7 0 - 1))) j = μ j := fun j h1 h2 => by rw [hd j h2, sS_ne h1]
  have m7 : (dsL (μ 7 0 - 1) 0 (sS μ 7 (μ 7 0 - 1))) 7 0 = μ 7 0 - 1 := by rw [hd 7 (by decide), sS_eq]
  refine ⟨⟨?_, ?_, ?_, ?_, ?_, ?_, ?_⟩, ⟨?_, ?_, ?_, ?_, ?_, ?_, hR.2.2.2.2.2.2⟩, ?_, hK, ?_, hbf, ?_, ?_⟩
  · rw [g 0 (by decide) (by decide), m 1 (by decide) (by decide)]; exact hS.1
  · rw [g 1 (by decide) (by decide), m 2 (by decide) (by decide)]; exact hS.2.1
  · rw [g 2 (by decide) (by decide), m 3 (by decide) (by decide)]; exact hS.2.2.1
  · rw [g 3 (by decide) (by decide), m 4 (by decide) (by decide)]; exact hS.2.2.2.1
  · rw [g 4 (by decide) (by decide), m 5 (by decide) (by decide)]; exact hS.2.2.2.2.1
  · rw [g 5 (by decide) (by decide), m 6 (by decide) (by decide)]; exact hS.2.2.2.2.2.1
  · rw [g6, m7, hS.2.2.2.2.2.2]
  · rw [g 10 (by decide) (by decide), m 12 (by decide) (by decide)]; exact hR.1
  · rw [g 11 (by decide) (by decide), m 13 (by decide) (by decide)]; exact hR.2.1
  · rw [g 12 (by decide) (by decide), m 14 (by decide) (by decide)]; exact hR.2.2.1
  · rw [g 15 (by decide) (by decide), m 16 (by decide) (by decide)]; exact hR.2.2.2.1
  · rw [g 18 (by decide) (by decide), m 17 (by decide) (by decide)]; exact hR.2.2.2.2.1
  · rw [g 19 (by decide) (by decide), m 20 (by decide) (by decide)]; exact hR.2.2.2.2.2.1
  · unfold Me
    rw [g 24 (by decide) (by decide), m 10 (by decide) (by decide)]; exact hM
  · unfold Pl wt
    rw [g 0 (by decide) (by decide), g 1 (by decide) (by decide), g 13 (by decide) (by decide), m 15 (by decide) (by decide)]; exact hP
  · unfold Bd
    rw [g 0 (by decide) (by decide), g 1 (by decide) (by decide), g6, e6]
    exact ⟨hD.1, by omega, by omega⟩
  · unfold Oc
    rw [g 11 (by decide) (by decide), g 10 (by decide) (by decide), g 13 (by decide) (by decide)]; exact hO
theorem st_drain (h : Inv t σ β mk μ ν) : ∃ μ' : S2, kM l dC dI cI cZ cB cJ y_M_drain b_M_drain 3 (some .int) 2 46 [.ref (am 0)] (wM am cI cZ μ ν ρ) (some (.int (drR σ).1)) (wM am cI cZ μ' ν ρ) ∧ Inv t (drR σ).2 β mk μ' ν := by
  have h0 := h
  obtain ⟨hS, hR, hM, hK, hP, hB, hD, hO⟩ := h
  unfold drR
  by_cases hz : σ 6 0 = 0
  · rw [decide_eq_true hz, if_pos rfl]
    exact ⟨_, c_M_drain_no (by rw [← hS.2.2.2.2.2.2]; exact hz), h0.thr⟩
  · rw [decide_eq_false hz, if_neg (by decide), if_neg hz]
    have hp : 0 < (σ 6 0).toInt := by
      rw [teq, i0] at hz
      have := hD.2.1
      omega
    have h4 := hD.2.2
    obtain ⟨⟨b1, b2, b3, b4⟩, b5, b6, b7⟩ := hB 0 (by omega)
    have b5' := b5
    obtain ⟨r1, r2⟩ := b5'
    have e6 : (σ 6 0 - 1).toInt = (σ 6 0).toInt - 1 := by rw [tsub (by rw [i1]; omega) (by rw [i1]; omega), i1]
    have ha : ∀ k : Int32, 0 ≤ k → ¬ μ 23 0 ≤ k → vp_in (μ 22 0 + k) 4096 := fun k k0 k9 => by
      rw [← b3, tle] at k9
      rw [tle, i0] at k0
      rw [← b2, vp_in_iff, tadd (by omega) (by omega)]
      omega
    refine ⟨_, by rw [b1]; exact c_M_drain_ok (by rw [← hS.2.2.2.2.2.2]; exact hz) (by rw [← hS.2.2.2.2.2.2, tle, e6, show (3 : Int32).toInt = 3 from by decide]; omega) ha, ?_⟩
    show Inv t (mvS σ) β mk _ ν
    unfold mvS
    rw [if_pos (show (0 : Int32) < σ 6 0 by rw [tlt, i0]; exact hp)]
    have q := inv_wr (h0.thr (x := 0)) (v := σ 23 0) b5 b7
    have e7 : wrL (σ 21 0) (σ 22 0) (σ 23 0) 0 (sS μ 0 0) 7 = μ 7 := wrU_j (by decide) _ _ _
    have s6 : mWL (σ 21 0) (σ 22 0) (σ 23 0) 0 σ 6 = σ 6 := mWU_j (by decide) _ _ _
    have q2 := inv_shift q (by rw [s6]; exact hp)
    rw [e7] at q2
    rw [← b2, ← b3, ← b4, e7]
    exact q2
end PU6
