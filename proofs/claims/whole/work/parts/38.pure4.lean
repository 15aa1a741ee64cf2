/-! tried -/
section PU4
variable {t : Nat} {σ : S2} {β : B2} {mk : Int64} {μ : S2} {ν : B2}
theorem hb_eq (h : Inv t σ β mk μ ν) {op : Int32} (hw : wt σ op) (hb : β 0 (ix op) = true) : hdM μ op = hbC σ β op := by
  obtain ⟨hS, hR, hM, hK, hP, hB, hD, hO⟩ := h
  have e1 : exL (hbPM μ) (μ 2 0) op = exL (hbP σ) (σ 1 0) op := by
    rw [← hS.2.1]
    exact exL_cg (fun j _ _ => by unfold hbPM hbP; rw [hR.1])
  have e2 : decide (μ 7 0 ≤ 0) = decide (σ 6 0 = 0) := by
    rw [← hS.2.2.2.2.2.2]
    have := hD.2.1
    by_cases c : σ 6 0 = 0
    · rw [c]; decide
    · have c' : ¬ σ 6 0 ≤ 0 := by rw [tle, i0]; rw [teq, i0] at c; omega
      rw [decide_eq_false c, decide_eq_false c']
  unfold hdM hbC
  rw [e1, e2, pl_t hP hw hb, ← hS.2.1, Bool.or_comm]
theorem na_eq (h : Inv t σ β mk μ ν) {op : Int32} (hw : wt σ op) : exL (unPM μ) (μ 2 0) op = exL (naP σ β) (σ 1 0) op := by
  obtain ⟨hS, hR, hM, hK, hP, hB, hD, hO⟩ := h
  rw [← hS.2.1]
  refine exL_cg (fun j g1 g2 => ?_)
  have hj : wt σ j := ⟨g1, by have := hw.2; omega⟩
  unfold unPM naP
  rw [← hR.1]
  cases hb : β 0 (ix j) with
  | false => rw [pl_f hP hj hb, decide_eq_true (rfl : (-1 : Int32) = -1), Bool.not_false]
  | true =>
    have hne : ¬ σ 13 (ix j) = -1 := fun q => by
      have := (hO.2.2.1 _ hb).1
      rw [q, im1] at this
      omega
    rw [pl_t hP hj hb, decide_eq_false hne, Bool.not_true]
theorem ns_eq (h : Inv t σ β mk μ ν) {op : Int32} (hw : wt σ op) (at0 : Int32) : soM μ op at0 = nsC σ β op at0 := by
  have h0 := h
  obtain ⟨hS, hR, hM, hK, hP, hB, hD, hO⟩ := h
  unfold soM nsC
  rw [← hS.2.1]
  have := hD.1.1
  have w1 := hw.1
  have w2 := hw.2
  have := op.toInt_lt
  have e : (op - 1).toInt = op.toInt - 1 := by rw [tsub (by rw [i1]; omega) (by rw [i1]; omega), i1]
  refine laL_cg (by rw [tle, i0]; omega) (fun j g1 g2 => ?_)
  unfold soP nsP
  rw [← hR.1, ha_eq h0 ⟨g1, by omega⟩]
theorem ns_sp (h : Inv t σ β mk μ ν) {op : Int32} (hw : wt σ op) (at0 : Int32) : nsC σ β op at0 = -1 ∨ (wt σ (nsC σ β op at0) ∧ β 0 (ix (nsC σ β op at0)) = true) := by
  obtain ⟨hS, hR, hM, hK, hP, hB, hD, hO⟩ := h
  have := hD.1.1
  have w1 := hw.1
  have w2 := hw.2
  have := op.toInt_lt
  have e : (op - 1).toInt = op.toInt - 1 := by rw [tsub (by rw [i1]; omega) (by rw [i1]; omega), i1]
  unfold nsC
  rcases laL_sp (P := nsP σ β at0) (a := σ 1 0) (i := op - 1) (by rw [tle, i0]; omega) with q | ⟨q1, q2, q3⟩
  · exact Or.inl q
  · refine Or.inr ⟨⟨q1, by omega⟩, ?_⟩
    unfold nsP covC at q3
    simp only [Bool.and_eq_true] at q3
    exact q3.2.1
theorem ns_neg (h : Inv t σ β mk μ ν) {op : Int32} (hw : wt σ op) (at0 : Int32) : nsC σ β op at0 < 0 ↔ nsC σ β op at0 = -1 := by
  have hD := h.2.2.2.2.2.2.1
  rcases ns_sp h hw at0 with q | ⟨q, -⟩
  · rw [q]; decide
  · have := q.1
    have := hD.1.1
    rw [tlt, teq, i0, im1]
    omega
theorem sn_eq (h : Inv t σ β mk μ ν) {op : Int32} (hw : wt σ op) (hb : β 0 (ix op) = true) : exL (snM μ ν op) 0 (μ 13 (ix op)) = exL (nnP σ β op) 0 (σ 11 (ix op)) := by
  have h0 := h
  obtain ⟨hS, hR, hM, hK, hP, hB, hD, hO⟩ := h
  rw [← hR.2.1]
  refine exL_cg (fun k g1 g2 => ?_)
  unfold snM nnP
  rw [pl_t hP hw hb, ns_eq h0 hw, ← hR.2.2.2.2.2.2.1, decide_eq_decide.mpr (ns_neg h0 hw _)]
def bV (μ : S2) (at0 n m : Int32) : Prop := (m = -1 ∧ n = -1) ∨ (¬ m < 0 ∧ ¬ n = -1 ∧ n = bom (μ 24 m.toNatClampNeg) (μ 23 m.toNatClampNeg) (at0 - μ 22 m.toNatClampNeg))
theorem bb_stay {at0 : Int32} : ∀ (k : Nat) (i n : Int32), dist i 4 = k → σ 6 0 ≤ i → bbL σ at0 i n = n
  | 0, i, n, hk, _ => bbL_out (dist0 hk)
  | k + 1, i, n, hk, hi => by
    have c := distS hk
    have e := t_in c
    rw [bbL_in c]
    have hs : bbS σ at0 i = false := by
      unfold bbS
      rw [decide_eq_true hi]
      rfl
    rw [hs, if_neg (by decide)]
    refine bb_stay k (i + 1) n (dist_next hk) ?_
    rw [tle] at hi ⊢
    omega
theorem bb_bu (h : Inv t σ β mk μ ν) {at0 : Int32} : ∀ (k : Nat) (i n m : Int32), dist i 4 = k → 0 ≤ i.toInt → bV μ at0 n m → bV μ at0 (bbL σ at0 i n) (buL μ at0 i m) := by
  obtain ⟨hS, hR, hM, hK, hP, hB, hD, hO⟩ := h
  intro k
  induction k with
  | zero =>
    intro i n m hk hi hv
    have c := dist0 hk
    have c2 : μ 7 0 ≤ i := by
      rw [← hS.2.2.2.2.2.2, tle]
      rw [tle, i4] at c
      have := hD.2.2
      omega
    rw [bbL_out c, buL_out c2]
    exact hv
  | succ k ih =>
    intro i n m hk hi hv
    have c := distS hk
    have e := t_in c
    by_cases hc : μ 7 0 ≤ i
    · rw [buL_out hc, bb_stay _ i n rfl (by rw [hS.2.2.2.2.2.2]; exact hc)]
      exact hv
    · rw [bbL_in c, buL_in hc]
      refine ih (i + 1) _ _ (dist_next hk) (by omega) ?_
      have hlt : (i.toNatClampNeg : Int) < (σ 6 0).toInt := by
        rw [tclN hi, hS.2.2.2.2.2.2]
        rw [tle] at hc
        omega
      obtain ⟨⟨b1, b2, b3, b4⟩, -⟩ := hB _ hlt
      have hs : bbS σ at0 i = cvM (μ 22 i.toNatClampNeg) (μ 23 i.toNatClampNeg) at0 := by
        unfold bbS cvM
        rw [hS.2.2.2.2.2.2, decide_eq_false hc, b2, b3]
        rfl
      rw [hs]
      by_cases hq : cvM (μ 22 i.toNatClampNeg) (μ 23 i.toNatClampNeg) at0 = true
      · rw [if_pos hq, if_pos hq]
        have hval : bbV σ at0 i = bom (μ 24 i.toNatClampNeg) (μ 23 i.toNatClampNeg) (at0 - μ 22 i.toNatClampNeg) := by
          unfold bbV
          rw [bon_bom, b2, b3, b4]
        refine Or.inr ⟨by rw [tlt, i0]; omega, ?_, hval⟩
        rw [hval, teq, im1]
        have := (bom_rng (μ 24 i.toNatClampNeg) (μ 23 i.toNatClampNeg) (at0 - μ 22 i.toNatClampNeg)).1
        omega
      · rw [if_neg hq, if_neg hq]
        exact hv
theorem inv_src {σ' μ' : S2} (h : Inv t σ β mk μ ν) (hσ : ∀ j, j ≠ 4 → j ≠ 5 → j ≠ 19 → σ' j = σ j) (hμ : ∀ j, j ≠ 5 → j ≠ 6 → j ≠ 20 → μ' j = μ j) (h4 : σ' 4 0 = μ' 5 0) (h5 : σ' 5 0 = μ' 6 0) (h19 : σ' 19 = μ' 20) : Inv t σ' β mk μ' ν := by
  have s0 := hσ 0 (by decide) (by decide) (by decide)
  have s1 := hσ 1 (by decide) (by decide) (by decide)
  have s2 := hσ 2 (by decide) (by decide) (by decide)
  have s3 := hσ 3 (by decide) (by decide) (by decide)
  have s6 := hσ 6 (by decide) (by decide) (by decide)
  have s10 := hσ 10 (by decide) (by decide) (by decide)
  have s11 := hσ 11 (by decide) (by decide) (by decide)
  have s12 := hσ 12 (by decide) (by decide) (by decide)
  have s13 := hσ 13 (by decide) (by decide) (by decide)
  have s15 := hσ 15 (by decide) (by decide) (by decide)
  have s18 := hσ 18 (by decide) (by decide) (by decide)
  have s20 := hσ 20 (by decide) (by decide) (by decide)
  have s21 := hσ 21 (by decide) (by decide) (by decide)
  have s22 := hσ 22 (by decide) (by decide) (by decide)
  have s23 := hσ 23 (by decide) (by decide) (by decide)
  have s24 := hσ 24 (by decide) (by decide) (by decide)
  have m1 := hμ 1 (by decide) (by decide) (by decide)
  have m2 := hμ 2 (by decide) (by decide) (by decide)
  have m3 := hμ 3 (by decide) (by decide) (by decide)
  have m4 := hμ 4 (by decide) (by decide) (by decide)
  have m7 := hμ 7 (by decide) (by decide) (by decide)
  have m10 := hμ 10 (by decide) (by decide) (by decide)
  have m12 := hμ 12 (by decide) (by decide) (by decide)
  have m13 := hμ 13 (by decide) (by decide) (by decide)
  have m14 := hμ 14 (by decide) (by decide) (by decide)
  have m15 := hμ 15 (by decide) (by decide) (by decide)
  have m16 := hμ 16 (by decide) (by decide) (by decide)
  have m17 := hμ 17 (by decide) (by decide) (by decide)
  have m21 := hμ 21 (by decide) (by decide) (by decide)
  have m22 := hμ 22 (by decide) (by decide) (by decide)
  have m23 := hμ 23 (by decide) (by decide) (by decide)
  have m24 := hμ 24 (by decide) (by decide) (by decide)
  unfold Inv Sc Rw Me Pl Bf Bd Oc wt at h ⊢
  rw [s0, s1, s2, s3, s6, s10, s11, s12, s13, s15, s18, s20, s21, s22, s23, s24, m1, m2, m3, m4, m7, m10, m12, m13, m14, m15, m16, m17, m21, m22, m23, m24]
  obtain ⟨hS, hR, hrest⟩ := h
  exact ⟨⟨hS.1, hS.2.1, hS.2.2.1, hS.2.2.2.1, h4, h5, hS.2.2.2.2.2.2⟩, ⟨hR.1, hR.2.1, hR.2.2.1, hR.2.2.2.1, hR.2.2.2.2.1, h19, hR.2.2.2.2.2.2⟩, hrest⟩
theorem tk_eq (h : Inv t σ β mk μ ν) {op k : Int32} (hw : wt σ op) (hb : β 0 (ix op) = true) (k0 : 0 ≤ k.toInt) (k1 : k.toInt < (σ 11 (ix op)).toInt) :
    tkB σ β op (σ 13 (ix op) + k) = tkV μ op k ∧ Inv t (tkS σ β op k (σ 13 (ix op) + k)) β mk (tkT μ op k) ν := by
  have h0 := h
  obtain ⟨hS, hR, hM, hK, hP, hB, hD, hO⟩ := h
  have hz := hO.1 (ix op)
  obtain ⟨r1, r2⟩ := hO.2.2.1 _ hb
  have ea : (σ 13 (ix op) + k).toInt = (σ 13 (ix op)).toInt + k.toInt := tadd (by omega) (by omega)
  unfold tkB tkV tkS tkT
  rw [pl_t hP hw hb, ns_eq h0 hw, isx_id op (by omega) (by omega)]
  generalize hat : σ 13 (ix op) + k = at0
  rw [hat] at ea
  by_cases c : nsC σ β op at0 = -1
  · rw [if_pos c, if_pos c, if_pos ((ns_neg h0 hw at0).mpr c), if_pos ((ns_neg h0 hw at0).mpr c)]
    rcases bb_bu h0 (at0 := at0) _ 0 (-1) (-1) rfl (by decide) (Or.inl ⟨rfl, rfl⟩) with ⟨q1, q2⟩ | ⟨q1, q2, q3⟩
    · rw [if_pos q2, if_pos q2, if_pos (by rw [q1]; decide), if_pos (by rw [q1]; decide)]
      refine ⟨?_, inv_src h0 ?_ ?_ ?_ ?_ ?_⟩
      · rw [iy_id (by omega) (by omega)]
        exact (hM _).symm
      · intro j a1 a2 a3
        rw [sA_ne a3, sS_ne a2]
      · intro j a1 a2 a3
        rw [sS_ne a2, sS_ne a1, sA_ne a3]
      · show σ 4 0 = μ 5 0 + 0
        rw [Int32.add_zero, hS.2.2.2.2.1]
      · show σ 5 0 + 1 = μ 6 0 + 1
        rw [hS.2.2.2.2.2.1]
      · show upd (σ 19) _ _ = upd (μ 20) _ _
        rw [hR.2.2.2.2.2.1]
    · rw [if_neg q2, if_neg q2, if_neg q1, if_neg q1]
      refine ⟨q3, inv_src h0 ?_ ?_ ?_ ?_ ?_⟩
      · intro j a1 a2 a3
        rw [sA_ne a3, sS_ne a2]
      · intro j a1 a2 a3
        rw [sS_ne a2, sS_ne a1, sA_ne a3]
      · show σ 4 0 = μ 5 0 + 0
        rw [Int32.add_zero, hS.2.2.2.2.1]
      · show σ 5 0 + 1 = μ 6 0 + 1
        rw [hS.2.2.2.2.2.1]
      · show upd (σ 19) _ _ = upd (μ 20) _ _
        rw [hR.2.2.2.2.2.1]
  · have c' : ¬ nsC σ β op at0 < 0 := fun q => c ((ns_neg h0 hw at0).mp q)
    rw [if_neg c, if_neg c, if_neg c', if_neg c']
    rcases ns_sp h0 hw at0 with q | ⟨q1, q2⟩
    · exact absurd q c
    · refine ⟨?_, inv_src h0 ?_ ?_ ?_ ?_ ?_⟩
      · rw [bon_bom, pl_t hP q1 q2, ← hR.2.2.2.1, ← hR.2.1]
      · intro j a1 a2 a3
        rw [sS_ne a1, sA_ne a3]
      · intro j a1 a2 a3
        rw [sS_ne a2, sS_ne a1, sA_ne a3]
      · show σ 4 0 + 1 = μ 5 0 + 1
        rw [hS.2.2.2.2.1]
      · show σ 5 0 = μ 6 0 + 0
        rw [Int32.add_zero, hS.2.2.2.2.2.1]
      · show upd (σ 19) _ _ = upd (μ 20) _ _
        rw [hR.2.2.2.2.2.1]
theorem inv_res (h : Inv t σ β mk μ ν) (i : Nat) (v : Int32) : Inv t (sA σ 18 i v) β mk (sA μ 17 i v) ν := by
  obtain ⟨hS, hR, hM, hK, hP, hB, hD, hO⟩ := h
  refine ⟨hS, ⟨hR.1, hR.2.1, hR.2.2.1, hR.2.2.2.1, ?_, hR.2.2.2.2.2⟩, hM, hK, hP, hB, hD, hO⟩
  show upd (σ 18) i v = upd (μ 17) i v
  rw [hR.2.2.2.2.1]
theorem inv_done (h : Inv t σ β mk μ ν) (i : Nat) (h1 : σ 10 i = 0) (h2 : β 0 i = true) : Inv t σ (bA β 2 i true) mk μ (bA ν 2 i true) := by
  obtain ⟨hS, hR, hM, hK, hP, hB, hD, hO⟩ := h
  refine ⟨hS, ⟨hR.1, hR.2.1, hR.2.2.1, hR.2.2.2.1, hR.2.2.2.2.1, hR.2.2.2.2.2.1, hR.2.2.2.2.2.2.1, ?_⟩, hM, hK, hP, hB, hD, ⟨hO.1, hO.2.1, hO.2.2.1, ?_⟩⟩
  · show va_up (β 2) i true = va_up (ν 2) i true
    rw [hR.2.2.2.2.2.2.2]
  · intro j hj
    have hj' : va_up (β 2) i true j = true := hj
    show σ 10 j = 0 ∧ β 0 j = true
    by_cases c : j = i
    · rw [c]; exact ⟨h1, h2⟩
    · rw [va_up_ne _ _ c] at hj'
      exact hO.2.2.2 j hj'
theorem upd_upd (f : Nat → Int32) (i : Nat) (a b : Int32) : upd (upd f i a) i b = upd f i b := by
  funext j
  by_cases c : j = i
  · rw [c, up_eq, up_eq]
  · rw [up_ne c, up_ne c, up_ne c]
theorem tk_18 (x : Nat) (n v op k at0 : Int32) : sA (tkS (sA σ 18 x n) β op k at0) 18 x v = sA (tkS σ β op k at0) 18 x v := by
  have e1 : nsC (sA σ 18 x n) β op at0 = nsC σ β op at0 := rfl
  have e2 : ∀ (c : Nat) (i m : Int32), bbU (sA σ 18 x n) at0 c i m = bbU σ at0 c i m := fun c => by
    induction c with
    | zero => intro i m; rfl
    | succ c ih => intro i m; exact ih (i + 1) _
  have e3 : bbL (sA σ 18 x n) at0 0 (-1) = bbL σ at0 0 (-1) := e2 _ _ _
  have h18 : ∀ τ : S2, tkS τ β op k at0 18 = τ 18 := fun τ => tkS_j (by decide)
  funext j
  by_cases hj : j = 18
  · rw [hj, sA_eq, sA_eq, h18, h18, sA_eq, upd_upd]
  · rw [sA_ne hj, sA_ne hj]
    unfold tkS
    rw [e1, e3]
    have z4 : (sA σ 18 x n) 4 = σ 4 := sA_ne (by decide)
    have z5 : (sA σ 18 x n) 5 = σ 5 := sA_ne (by decide)
    have z19 : (sA σ 18 x n) 19 = σ 19 := sA_ne (by decide)
    split
    · split
      · by_cases g : j = 19
        · rw [g, sA_eq, sA_eq, sS_ne (by decide), sS_ne (by decide), z19]
        · rw [sA_ne g, sA_ne g]
          by_cases g5 : j = 5
          · rw [g5, sS_eq, sS_eq, z5]
          · rw [sS_ne g5, sS_ne g5, sA_ne hj]
      · by_cases g : j = 19
        · rw [g, sA_eq, sA_eq, sS_ne (by decide), sS_ne (by decide), z19]
        · rw [sA_ne g, sA_ne g]
          by_cases g5 : j = 5
          · rw [g5, sS_eq, sS_eq, z5]
          · rw [sS_ne g5, sS_ne g5, sA_ne hj]
    · by_cases g4 : j = 4
      · rw [g4, sS_eq, sS_eq, z4]
      · rw [sS_ne g4, sS_ne g4]
        by_cases g : j = 19
        · rw [g, sA_eq, sA_eq, z19]
        · rw [sA_ne g, sA_ne g, sA_ne hj]
theorem dl_dm {op a z : Int32} (hb : β 0 (ix op) = true) (hz : z.toInt ≤ 4) : ∀ (n : Nat) (k acc : Int32) (σ μ : S2), dist k z = n → 0 ≤ k.toInt → wt σ op → σ 13 (ix op) = a → σ 11 (ix op) = z → Inv t (sA σ 18 (ix op) acc) β mk μ ν →
    Inv t (sA (dlL β op a z k acc σ).2 18 (ix op) (dlL β op a z k acc σ).1) β mk (dmL op z k μ) ν := by
  intro n
  induction n with
  | zero =>
    intro k acc σ μ hn k0 hw ha he h
    rw [dlL_out (dist0 hn), dmL_out (dist0 hn)]
    exact h
  | succ n ih =>
    intro k acc σ μ hn k0 hw ha he h
    have c := distS hn
    have e := t_in c
    have c' := c
    rw [tle] at c'
    rw [dlL_in c, dmL_in c]
    obtain ⟨q1, q2⟩ := tk_eq h (op := op) (k := k) hw hb k0 (by show k.toInt < (σ 11 (ix op)).toInt; rw [he]; omega)
    have q1' : tkB σ β op (a + k) = tkV μ op k := by
      rw [← ha]
      exact q1
    have hacc : μ 17 (ix op) = acc := by
      have := congrFun h.2.1.2.2.2.2.1 (ix op)
      rw [← this]
      show upd (σ 18) (ix op) acc (ix op) = acc
      exact up_eq
    have q3 := inv_res q2 (ix op) ((acc <<< ((8 : Int32) &&& 31)) ||| tkB σ β op (a + k))
    rw [show (sA σ 18 (ix op) acc) 13 (ix op) + k = a + k from by show σ 13 (ix op) + k = a + k; rw [ha], tk_18] at q3
    have e9 : dmS op k μ = sA (tkT μ op k) 17 (ix op) ((acc <<< ((8 : Int32) &&& 31)) ||| tkB σ β op (a + k)) := by
      unfold dmS
      rw [hacc, q1']
    rw [e9]
    refine ih (k + 1) _ _ _ (dist_next hn) (by omega) ?_ ?_ ?_ q3
    · unfold wt
      rw [tkS_1, tkS_j (j := 0) (by decide)]
      exact hw
    · rw [tkS_13]; exact ha
    · rw [tkS_11]; exact he
theorem dmU_j {op : Int32} {j : Nat} (h : j ≠ 5 ∧ j ≠ 6 ∧ j ≠ 20 ∧ j ≠ 17) : ∀ (c : Nat) (k : Int32) (μ : S2), dmU op c k μ j = μ j
  | 0, _, _ => rfl
  | c + 1, k, μ => by rw [dmU, dmU_j h c (k + 1), dmS_jj h]
theorem tr_eq (h : Inv t σ β mk μ ν) {op : Int32} (hw : wt σ op) (hb : β 0 (ix op) = true) (hk0 : σ 10 (ix op) = 0) : (trR σ β mk op).1 = (tmR μ ν op).1 ∧ (tmR μ ν op).2.1 0 0 = μ 0 0 ∧ Inv t (trR σ β mk op).2.1 (trR σ β mk op).2.2 mk (tmR μ ν op).2.1 (tmR μ ν op).2.2 := by
  have h0 := h
  obtain ⟨hS, hR, hM, hK, hP, hB, hD, hO⟩ := h
  have hm : ν 0 (μ 14 (ix op)).toNatClampNeg = mkB mk (σ 12 (ix op)) := by rw [hK, hR.2.2.1]
  have hD1 : Inv t (dlS σ β op) (bA β 2 (ix op) true) mk (dmL op (μ 13 (ix op)) 0 (sA μ 17 (ix op) 0)) (bA ν 2 (ix op) true) := by
    have q := dl_dm (t := t) (mk := mk) (ν := ν) hb (hO.1 (ix op)).2 _ 0 0 σ (sA μ 17 (ix op) 0) rfl (by decide) hw rfl rfl (inv_res h0 (ix op) 0)
    rw [← hR.2.1]
    refine inv_done q (ix op) ?_ hb
    show (dlL β op (σ 13 (ix op)) (σ 11 (ix op)) 0 0 σ).2 10 (ix op) = 0
    have : q.2.1.1 = q.2.1.1 := rfl
    have e10 := congrFun q.2.1.1 (ix op)
    rw [sA_ne (by decide)] at e10
    rw [e10, show dmL op (σ 11 (ix op)) 0 (sA μ 17 (ix op) 0) 12 = (sA μ 17 (ix op) 0) 12 from dmU_j (by decide) _ _ _, sA_ne (by decide), ← hR.1]
    exact hk0
  have hz0 : dmL op (μ 13 (ix op)) 0 (sA μ 17 (ix op) 0) 0 0 = μ 0 0 := by
    rw [show dmL op (μ 13 (ix op)) 0 (sA μ 17 (ix op) 0) 0 = (sA μ 17 (ix op) 0) 0 from dmU_j (by decide) _ _ _, sA_ne (by decide)]
  unfold trR tmR tmL
  rw [hb_eq h0 hw hb, hm, na_eq h0 hw, sn_eq h0 hw hb]
  cases hbC σ β op with
  | true => exact ⟨rfl, rfl, h0⟩
  | false =>
    simp only [Bool.false_eq_true, if_false]
    cases mkB mk (σ 12 (ix op)) with
    | true =>
      simp only [if_true]
      cases exL (naP σ β) (σ 1 0) op with
      | true => exact ⟨rfl, rfl, h0⟩
      | false =>
        simp only [Bool.false_eq_true, if_false]
        cases exL (nnP σ β op) 0 (σ 11 (ix op)) with
        | true => exact ⟨rfl, rfl, h0⟩
        | false => exact ⟨rfl, hz0, hD1⟩
    | false =>
      simp only [Bool.false_eq_true, if_false]
      cases exL (nnP σ β op) 0 (σ 11 (ix op)) with
      | true => exact ⟨rfl, rfl, h0⟩
      | false => exact ⟨rfl, hz0, hD1⟩
theorem pu_tried (h : Inv t σ β mk μ ν) (op : Int32) :
    ((op < 0 ∨ σ 0 0 ≤ op) ∧ trTh μ ν op = 1) ∨
    (¬ op < 0 ∧ op < σ 0 0 ∧ ¬ ((!decide (op < σ 1 0) && !decide (σ 0 0 ≤ op)) = true ∧ σ 10 (ix op) = 0 ∧ β 0 (ix op) = true ∧ β 2 (ix op) = false) ∧ trTh μ ν op = 2) ∨
    (¬ op < 0 ∧ op < σ 0 0 ∧ 0 ≤ σ 1 0 ∧ (!decide (op < σ 1 0) && !decide (σ 0 0 ≤ op)) = true ∧ σ 10 (ix op) = 0 ∧ β 0 (ix op) = true ∧ β 2 (ix op) = false ∧ trTh μ ν op = 0 ∧ 0 ≤ μ 2 0 ∧ μ 7 0 ≤ 4 ∧ (∀ i, μ 13 i ≤ 4) ∧ (∀ i, vp_in (μ 14 i) 64) ∧
      (∀ k : Int32, 0 ≤ k → ¬ μ 13 (ix op) ≤ k → vp_in (μ 15 (ix op) + k) 4096) ∧
      (trR σ β mk op).1 = (tmR (sS μ 0 0) ν op).1 ∧ (tmR (sS μ 0 0) ν op).2.1 0 0 = 0 ∧ Inv t (trR σ β mk op).2.1 (trR σ β mk op).2.2 mk (tmR (sS μ 0 0) ν op).2.1 (tmR (sS μ 0 0) ν op).2.2) := by
  have h0 := h
  obtain ⟨hS, hR, hM, hK, hP, hB, hD, hO⟩ := h
  unfold trTh
  by_cases hio : ¬ op < 0 ∧ op < σ 0 0
  · rw [if_pos ((ioM_iff hS op).mpr hio)]
    have hc : ctM μ ν op = true ↔ ((!decide (op < σ 1 0) && !decide (σ 0 0 ≤ op)) = true ∧ σ 10 (ix op) = 0 ∧ β 0 (ix op) = true ∧ β 2 (ix op) = false) := by
      unfold ctM
      rw [waM_eq hS, ← hR.1, ← hR.2.2.2.2.2.2.2, Bool.and_eq_true]
      constructor
      · rintro ⟨g1, g2⟩
        have hw := (w_iff hD op).mp g1
        simp only [Bool.and_eq_true, decide_eq_true_eq, Bool.not_eq_true', decide_eq_false_iff_not] at g2
        refine ⟨g1, g2.1, ?_, g2.2.2⟩
        cases hb : β 0 (ix op) with
        | true => rfl
        | false => exact absurd (by rw [pl_f hP hw hb]; decide) g2.2.1
      · rintro ⟨g1, g2, g3, g4⟩
        have hw := (w_iff hD op).mp g1
        refine ⟨g1, ?_⟩
        simp only [Bool.and_eq_true, decide_eq_true_eq, Bool.not_eq_true', decide_eq_false_iff_not]
        refine ⟨g2, ?_, g4⟩
        rw [pl_t hP hw g3, tlt, i0]
        have := (hO.2.2.1 _ g3).1
        omega
    by_cases hn : ctM μ ν op = true
    · obtain ⟨g1, g2, g3, g4⟩ := hc.mp hn
      have hw := (w_iff hD op).mp g1
      refine Or.inr (Or.inr ⟨hio.1, hio.2, ?_, g1, g2, g3, g4, if_pos hn, ?_, ?_, ?_, ?_, ?_, tr_eq h0.thr hw g3 g2⟩)
      · rw [tle, i0]; exact hD.1.1
      · rw [← hS.2.1, tle, i0]; exact hD.1.1
      · rw [← hS.2.2.2.2.2.2, tle, i4]; exact hD.2.2
      · intro i
        rw [← hR.2.1, tle, i4]
        exact (hO.1 i).2
      · intro i
        rw [hR.2.2.1]
        exact i6_in _
      · intro k k0 k1
        rw [← hR.2.1, tle] at k1
        rw [tle, i0] at k0
        have hz := hO.1 (ix op)
        obtain ⟨r1, r2⟩ := hO.2.2.1 _ g3
        rw [pl_t hP hw g3, vp_in_iff, tadd (by omega) (by omega)]
        omega
    · exact Or.inr (Or.inl ⟨hio.1, hio.2, fun q => hn (hc.mpr q), if_neg hn⟩)
  · exact Or.inl ⟨io_no op hio, if_neg (fun q => hio ((ioM_iff hS op).mp q))⟩
end PU4
