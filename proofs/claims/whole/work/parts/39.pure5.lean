/-! leave and drain -/
section PU5
variable {t : Nat} {σ : S2} {β : B2} {mk : Int64} {μ : S2} {ν : B2}
variable {l : Launch} {dC : Nat → ClassId} {dI : Nat → Nat → Nat} {cI cZ cB cJ : ClassId} {am : Nat → Nat} {ρ : va_W}
theorem mWU_j {at0 sz v : Int32} {j : Nat} (h : j ≠ 24) : ∀ (c : Nat) (k : Int32) (σ : S2), mW at0 sz v c k σ j = σ j
  | 0, _, _ => rfl
  | c + 1, k, σ => by rw [mW, mWU_j h c (k + 1), sA_ne h]
theorem mw_wr {a z v : Int32} (hr : rng a z) (hz : z.toInt ≤ 4) : ∀ (n : Nat) (k : Int32) (σ μ : S2), dist k z = n → 0 ≤ k.toInt → Me σ μ → Me (mWL a z v k σ) (wrL a z v k μ) := by
  obtain ⟨r1, r2⟩ := hr
  intro n
  induction n with
  | zero =>
    intro k σ μ hn k0 h
    rw [mWL_out (dist0 hn), wrL_out (dist0 hn)]
    exact h
  | succ n ih =>
    intro k σ μ hn k0 h
    have c := distS hn
    have e := t_in c
    have c' := c
    rw [tle] at c'
    have ea : (a + k).toInt = a.toInt + k.toInt := tadd (by omega) (by omega)
    rw [mWL_in c, wrL_in c]
    refine ih (k + 1) _ _ (dist_next hn) (by omega) (fun i => ?_)
    show upd (μ 10) (a + k).toNatClampNeg (bom v z k) i = upd (σ 24) (iy (a + k)) (bon v z k).toInt8.toInt32 i &&& 255
    rw [iy_id (by omega) (by omega)]
    by_cases q : i = (a + k).toNatClampNeg
    · rw [q, up_eq, up_eq, b8]
    · rw [up_ne q, up_ne q]
      exact h i
theorem inv_wr (h : Inv t σ β mk μ ν) {a z v : Int32} (hr : rng a z) (hz : z.toInt ≤ 4) : Inv t (mWL a z v 0 σ) β mk (wrL a z v 0 μ) ν := by
  have hs : ∀ j, j ≠ 24 → mWL a z v 0 σ j = σ j := fun j hj => mWU_j hj _ _ _
  have hm : ∀ j, j ≠ 10 → wrL a z v 0 μ j = μ j := fun j hj => wrU_j hj _ _ _
  have he := mw_wr (v := v) hr hz _ 0 σ μ rfl (by decide) h.2.2.1
  unfold Inv Sc Rw Pl Bf Bd Oc wt at h ⊢
  rw [hs 0 (by decide), hs 1 (by decide), hs 2 (by decide), hs 3 (by decide), hs 4 (by decide), hs 5 (by decide), hs 6 (by decide), hs 10 (by decide), hs 11 (by decide), hs 12 (by decide), hs 13 (by decide), hs 15 (by decide), hs 18 (by decide), hs 19 (by decide), hs 20 (by decide), hs 21 (by decide), hs 22 (by decide), hs 23 (by decide),
    hm 1 (by decide), hm 2 (by decide), hm 3 (by decide), hm 4 (by decide), hm 5 (by decide), hm 6 (by decide), hm 7 (by decide), hm 12 (by decide), hm 13 (by decide), hm 14 (by decide), hm 15 (by decide), hm 16 (by decide), hm 17 (by decide), hm 20 (by decide), hm 21 (by decide), hm 22 (by decide), hm 23 (by decide), hm 24 (by decide)]
  exact ⟨h.1, h.2.1, he, h.2.2.2⟩
theorem inv_old (h : Inv t σ β mk μ ν) (hlt : (σ 1 0).toInt < (σ 0 0).toInt) {x y : Int32} (hx : x = σ 1 0 + 1) (hy : y = σ 1 0 + 1) : Inv t (sS σ 1 x) β mk (sS μ 2 y) ν := by
  obtain ⟨hS, hR, hM, hK, hP, hB, hD, hO⟩ := h
  subst hx
  subst hy
  obtain ⟨⟨a1, a2, a3, a4, a5⟩, a6⟩ := hD
  have e : (σ 1 0 + 1).toInt = (σ 1 0).toInt + 1 := by rw [tadd (by rw [i1]; omega) (by rw [i1]; omega), i1]
  refine ⟨⟨hS.1, rfl, hS.2.2⟩, hR, hM, hK, fun j hj => hP j ⟨?_, hj.2⟩, hB, ⟨⟨?_, ?_, ?_, a4, a5⟩, a6⟩, hO⟩
  · have : (σ 1 0 + 1).toInt ≤ j.toInt := hj.1
    omega
  · show 0 ≤ (σ 1 0 + 1).toInt
    omega
  · show (σ 1 0 + 1).toInt ≤ (σ 0 0).toInt
    omega
  · show (σ 0 0).toInt ≤ (σ 1 0 + 1).toInt + 32
    omega
theorem ml_eq (h : Inv t σ β mk μ ν) (hw : wt σ (σ 1 0)) : mlM (sS μ 0 0) ν = mlC σ β (σ 1 0) := by
  obtain ⟨hS, hR, hM, hK, hP, hB, hD, hO⟩ := h
  have e0 : mlM (sS μ 0 0) ν = mlM μ ν := rfl
  rw [e0]
  unfold mlM mlC
  rw [← hS.2.1, ← hR.1, ← hR.2.2.2.2.2.2.1, ← hR.2.2.2.2.2.2.2, ← hS.2.2.2.2.2.2]
  have h6 := hD.2.1
  by_cases k0 : σ 10 (ix (σ 1 0)) = 0
  · rw [if_pos k0, if_pos k0]
  · rw [if_neg k0, if_neg k0]
    by_cases k2 : σ 10 (ix (σ 1 0)) = 2
    · rw [if_pos k2, if_neg (by rw [k2]; decide), if_pos k2]
    · rw [if_neg k2, if_neg k2]
      cases hb : β 0 (ix (σ 1 0)) with
      | false =>
        rw [pl_f hP hw hb, if_pos rfl]
        simp
      | true =>
        have r := (hO.2.2.1 _ hb).1
        have hne : ¬ σ 13 (ix (σ 1 0)) = -1 := fun q => by rw [q, im1] at r; omega
        rw [pl_t hP hw hb, if_neg hne]
        cases hb1 : β 1 (ix (σ 1 0)) with
        | false => simp
        | true =>
          simp only [if_true, Bool.and_self, Bool.true_and]
          by_cases k1 : σ 10 (ix (σ 1 0)) = 1
          · rw [if_pos k1, k1]
            by_cases c : σ 13 (ix (σ 1 0)) < 3072
            · have c' : ¬ (3072 : Int32) ≤ σ 13 (ix (σ 1 0)) := by rw [tle]; rw [tlt] at c; omega
              rw [decide_eq_true c, decide_eq_false c']
              by_cases z : σ 6 0 = 0
              · rw [z]; decide
              · rw [decide_eq_false z]; simp
            · have c' : (3072 : Int32) ≤ σ 13 (ix (σ 1 0)) := by rw [tle]; rw [tlt] at c; omega
              rw [decide_eq_false c, decide_eq_true c']
              simp
          · rw [if_neg k1, decide_eq_false k1]
            simp
theorem sA_sA (σ : S2) (k i : Nat) (a b : Int32) : sA (sA σ k i a) k i b = sA σ k i b := by
  funext j
  by_cases h : j = k
  · rw [h, sA_eq, sA_eq, sA_eq, upd_upd]
  · rw [sA_ne h, sA_ne h, sA_ne h]
theorem xm_eq {a z : Int32} (hr : rng a z) (hz : z.toInt ≤ 4) (hM : Me σ μ) (x : Nat) : ∀ (n : Nat) (k acc : Int32), dist k z = n → 0 ≤ k.toInt → xmL a z x k (sA μ 17 x acc) = sA μ 17 x (nAL (σ 24) a z k acc) := by
  obtain ⟨r1, r2⟩ := hr
  intro n
  induction n with
  | zero =>
    intro k acc hn k0
    rw [xmL_out (dist0 hn), nAL_out (dist0 hn)]
  | succ n ih =>
    intro k acc hn k0
    have c := distS hn
    have e := t_in c
    have c' := c
    rw [tle] at c'
    have ea : (a + k).toInt = a.toInt + k.toInt := tadd (by omega) (by omega)
    rw [xmL_in c, nAL_in c, sA_sA, sA_eq, up_eq, sA_ne (by decide), hM, iy_id (by omega) (by omega)]
    exact ih (k + 1) _ (dist_next hn) (by omega)
theorem inv_app (h : Inv t σ β mk μ ν) {op : Int32} (hw : wt σ op) (hb : β 0 (ix op) = true) (h4 : (σ 6 0).toInt < 4) : Inv t (apS σ op (σ 13 (ix op)) (σ 11 (ix op)) (σ 15 (ix op))) β mk (ibS μ op) ν := by
  obtain ⟨hS, hR, hM, hK, hP, hB, hD, hO⟩ := h
  have h6 := hD.2.1
  have e : (σ 6 0 + 1).toInt = (σ 6 0).toInt + 1 := by rw [tadd (by rw [i1]; omega) (by rw [i1]; omega), i1]
  rw [apS_in (by rw [tlt, i0]; omega) (by rw [tlt, i4]; omega)]
  unfold ibS
  rw [← hS.2.2.2.2.2.2, pl_t hP hw hb, ← hR.2.1, ← hR.2.2.2.1]
  refine ⟨⟨hS.1, hS.2.1, hS.2.2.1, hS.2.2.2.1, hS.2.2.2.2.1, hS.2.2.2.2.2.1, rfl⟩, hR, hM, hK, hP, ?_, ⟨hD.1, ?_, ?_⟩, hO⟩
  · intro i hi
    have hi' : (i : Int) < (σ 6 0 + 1).toInt := hi
    show (upd (σ 20) _ _ i = upd (μ 21) _ _ i ∧ upd (σ 21) _ _ i = upd (μ 22) _ _ i ∧ upd (σ 22) _ _ i = upd (μ 23) _ _ i ∧ upd (σ 23) _ _ i = upd (μ 24) _ _ i) ∧ rng (upd (σ 21) _ _ i) (upd (σ 22) _ _ i) ∧ 0 ≤ (upd (σ 22) _ _ i).toInt ∧ (upd (σ 22) _ _ i).toInt ≤ 4
    by_cases c : i = (σ 6 0).toNatClampNeg
    · rw [c, up_eq, up_eq, up_eq, up_eq, up_eq, up_eq, up_eq, up_eq]
      exact ⟨⟨rfl, rfl, rfl, rfl⟩, hO.2.2.1 _ hb, hO.1 _⟩
    · rw [up_ne c, up_ne c, up_ne c, up_ne c, up_ne c, up_ne c, up_ne c, up_ne c]
      refine hB i ?_
      have := tclN h6
      omega
  · show 0 ≤ (σ 6 0 + 1).toInt
    omega
  · show (σ 6 0 + 1).toInt ≤ 4
    omega
theorem st_leave (h : Inv t σ β mk μ ν) : ∃ μ' : S2, kM l dC dI cI cZ cB cJ y_M_leave b_M_leave 3 (some .int) 2 46 [.ref (am 0)] (wM am cI cZ μ ν ρ) (some (.int (lvR σ β).1)) (wM am cI cZ μ' ν ρ) ∧ Inv t (lvR σ β).2 β mk μ' ν := by
  have h0 := h
  obtain ⟨hS, hR, hM, hK, hP, hB, hD, hO⟩ := h
  have hD' := hD
  obtain ⟨⟨a1, a2, a3, a4, a5⟩, a6, a7⟩ := hD'
  have hsub : (σ 0 0 - σ 1 0).toInt = (σ 0 0).toInt - (σ 1 0).toInt := tsub (by omega) (by omega)
  unfold lvR
  by_cases hc : σ 0 0 - σ 1 0 ≤ 0
  · rw [if_pos hc]
    rw [tle, hsub, i0] at hc
    exact ⟨_, c_M_leave_no (Or.inl (by rw [← hS.1, ← hS.2.1, teq]; omega)), h0.thr⟩
  · rw [if_neg hc]
    rw [tle, hsub, i0] at hc
    have hlt : (σ 1 0).toInt < (σ 0 0).toInt := by omega
    have hw : wt σ (σ 1 0) := ⟨by omega, hlt⟩
    have hne : ¬ μ 2 0 = μ 1 0 := by rw [← hS.1, ← hS.2.1, teq]; omega
    have hml := ml_eq h0 hw
    cases hm : mlC σ β (σ 1 0) with
    | false =>
      rw [if_neg (by decide)]
      exact ⟨_, c_M_leave_no (Or.inr (by rw [hml, hm])), h0.thr⟩
    | true =>
      rw [if_pos rfl]
      rw [hm] at hml
      have hv : σ 1 0 = μ 2 0 + 1 - 1 := by rw [hS.2.1, Int32.add_sub_cancel]
      have hkx : μ 12 (ix (μ 2 0)) = σ 10 (ix (σ 1 0)) := by rw [← hS.2.1, hR.1]
      unfold coS
      by_cases k1 : σ 10 (ix (σ 1 0)) = 1
      · -- a store
        have hb : β 0 (ix (σ 1 0)) = true ∧ (if (!decide (σ 13 (ix (σ 1 0)) < 3072)) = true then decide (σ 6 0 = 0) else !decide (4 ≤ σ 6 0)) = true := by
          unfold mlC at hm
          rw [if_neg (by rw [k1]; decide), if_pos k1, Bool.and_eq_true, Bool.and_eq_true] at hm
          exact ⟨hm.1.1, hm.2⟩
        have hpl : μ 15 (ix (μ 2 0)) = σ 13 (ix (σ 1 0)) := by rw [← hS.2.1]; exact pl_t hP hw hb.1
        rw [if_pos (by rw [k1]; decide), if_pos k1]
        by_cases c : σ 13 (ix (σ 1 0)) < 3072
        · rw [if_neg (by rw [decide_eq_true c]; decide)]
          have h4 : (σ 6 0).toInt < 4 := by
            have q := hb.2
            rw [if_neg (by rw [decide_eq_true c]; decide), Bool.not_eq_true', decide_eq_false_iff_not, tle, i4] at q
            omega
          refine ⟨_, hv ▸ c_M_leave_buf hne hml (by rw [hkx]; exact k1) (by rw [hpl, tle]; rw [tlt] at c; omega) (by rw [← hS.2.2.2.2.2.2, vp_in_iff]; omega), ?_⟩
          have q := inv_app (h0.thr (x := 0)) hw hb.1 h4
          have eo : (apS σ (σ 1 0) (σ 13 (ix (σ 1 0))) (σ 11 (ix (σ 1 0))) (σ 15 (ix (σ 1 0)))) 1 = σ 1 := by
            rw [apS_in (by rw [tlt, i0]; omega) (by rw [tlt, i4]; omega)]
            rfl
          have eo0 : (apS σ (σ 1 0) (σ 13 (ix (σ 1 0))) (σ 11 (ix (σ 1 0))) (σ 15 (ix (σ 1 0)))) 0 = σ 0 := by
            rw [apS_in (by rw [tlt, i0]; omega) (by rw [tlt, i4]; omega)]
            rfl
          rw [← hS.2.1]
          exact inv_old q (by rw [eo, eo0]; exact hlt) (by rw [eo]) (by rw [eo])
        · rw [if_pos (by rw [decide_eq_false c]; decide)]
          unfold coT
          rw [if_neg (by rw [k1]; decide)]
          have hz := hO.1 (ix (σ 1 0))
          have hr := hO.2.2.1 _ hb.1
          have hr' := hr
          obtain ⟨r1, r2⟩ := hr'
          have ha : ∀ k : Int32, 0 ≤ k → ¬ μ 13 (ix (μ 2 0)) ≤ k → vp_in (μ 15 (ix (μ 2 0)) + k) 4096 := fun k k0 k9 => by
            rw [← hR.2.1, ← hS.2.1, tle] at k9
            rw [tle, i0] at k0
            rw [hpl, vp_in_iff, tadd (by omega) (by omega)]
            omega
          refine ⟨_, hv ▸ c_M_leave_dev hne hml (by rw [hkx]; exact k1) (by rw [hpl, tle]; rw [tlt] at c; omega) ha, ?_⟩
          · have q := inv_wr (h0.thr (x := 0)) (v := σ 15 (ix (σ 1 0))) hr hz.2
            have e1 : mWL (σ 13 (ix (σ 1 0))) (σ 11 (ix (σ 1 0))) (σ 15 (ix (σ 1 0))) 0 σ 1 = σ 1 := mWU_j (by decide) _ _ _
            have e0 : mWL (σ 13 (ix (σ 1 0))) (σ 11 (ix (σ 1 0))) (σ 15 (ix (σ 1 0))) 0 σ 0 = σ 0 := mWU_j (by decide) _ _ _
            have e2 : wrL (σ 13 (ix (σ 1 0))) (σ 11 (ix (σ 1 0))) (σ 15 (ix (σ 1 0))) 0 (sS μ 0 0) 2 = μ 2 := wrU_j (by decide) _ _ _
            rw [hpl, ← hR.2.1, ← hR.2.2.2.1, ← hS.2.1]
            exact inv_old q (by rw [e0, e1]; exact hlt) (by rw [e1]) (by rw [e1, e2, ← hS.2.1])
      · by_cases k3 : σ 10 (ix (σ 1 0)) = 3
        · have hb : β 0 (ix (σ 1 0)) = true := by
            unfold mlC at hm
            rw [if_neg (by rw [k3]; decide), if_neg k1, if_neg (by rw [k3]; decide), Bool.and_eq_true, Bool.and_eq_true] at hm
            exact hm.1.1
          have hpl : μ 15 (ix (μ 2 0)) = σ 13 (ix (σ 1 0)) := by rw [← hS.2.1]; exact pl_t hP hw hb
          have hz := hO.1 (ix (σ 1 0))
          have hr := hO.2.2.1 _ hb
          have hr' := hr
          obtain ⟨r1, r2⟩ := hr'
          rw [if_pos (by rw [k3]; decide), if_neg k1]
          unfold coT
          rw [if_pos k3]
          have ha : ∀ k : Int32, 0 ≤ k → ¬ μ 13 (ix (μ 2 0)) ≤ k → vp_in (μ 15 (ix (μ 2 0)) + k) 4096 := fun k k0 k9 => by
            rw [← hR.2.1, ← hS.2.1, tle] at k9
            rw [tle, i0] at k0
            rw [hpl, vp_in_iff, tadd (by omega) (by omega)]
            omega
          refine ⟨_, hv ▸ c_M_leave_exc hne hml (by rw [hkx]; exact k3) ha, ?_⟩
          · have q0 := inv_res (h0.thr (x := 0)) (ix (σ 1 0)) (nAL (σ 24) (σ 13 (ix (σ 1 0))) (σ 11 (ix (σ 1 0))) 0 0)
            have q := inv_wr q0 (v := σ 15 (ix (σ 1 0))) hr hz.2
            have e1 : ∀ τ : S2, mWL (σ 13 (ix (σ 1 0))) (σ 11 (ix (σ 1 0))) (σ 15 (ix (σ 1 0))) 0 τ 1 = τ 1 := fun τ => mWU_j (by decide) _ _ _
            have e0 : ∀ τ : S2, mWL (σ 13 (ix (σ 1 0))) (σ 11 (ix (σ 1 0))) (σ 15 (ix (σ 1 0))) 0 τ 0 = τ 0 := fun τ => mWU_j (by decide) _ _ _
            have e2 : ∀ τ : S2, wrL (σ 13 (ix (σ 1 0))) (σ 11 (ix (σ 1 0))) (σ 15 (ix (σ 1 0))) 0 τ 2 = τ 2 := fun τ => wrU_j (by decide) _ _ _
            have hMe : Me σ (sS μ 0 0) := hM
            rw [hpl, ← hR.2.1, ← hR.2.2.2.1, ← hS.2.1, xm_eq (σ := σ) (μ := sS μ 0 0) hr hz.2 hMe _ _ 0 0 rfl (by decide)]
            refine inv_old q ?_ ?_ ?_
            · rw [e0, e1]; exact hlt
            · rw [e1]; rfl
            · rw [e1, e2]
              show μ 2 0 + 1 = σ 1 0 + 1
              rw [hS.2.1]
        · rw [if_neg (by simp [k1, k3])]
          refine ⟨_, hv ▸ c_M_leave_none hne hml (by rw [hkx]; exact k1) (by rw [hkx]; exact k3), ?_⟩
          exact inv_old h0.thr hlt rfl (by rw [hS.2.1])
end PU5
