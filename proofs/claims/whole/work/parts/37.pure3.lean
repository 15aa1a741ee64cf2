/-! marks; covering; undoing; address, other -/
section PU3
variable {t : Nat} {σ : S2} {β : B2} {mk : Int64} {μ : S2} {ν : B2}
theorem mkB_bit {n k : Nat} {q : Int32} (hn : n < 2 ^ 64) (hk : k < 64) (hq : q &&& 63 = nI k) : mkB (lN n) q = n.testBit k := by
  unfold mkB
  rw [hq, wb_bit hn hk]
  have h2 : n / 2 ^ k % 2 < 2 := Nat.mod_lt _ (by decide)
  rw [Nat.testBit_eq_decide_div_mod_eq]
  have hc : n / 2 ^ k % 2 = 0 ∨ n / 2 ^ k % 2 = 1 := by omega
  rcases hc with h | h
  · rw [h]; decide
  · rw [h]; decide
theorem mkS_set (p q : Int32) : mkB (mkS mk p) q = if (q &&& 63).toNatClampNeg = (p &&& 63).toNatClampNeg then true else mkB mk q := by
  obtain ⟨n, hn, rfl⟩ := wb_of mk
  obtain ⟨a, ha, ea⟩ := pk_andE p (m := 63) 6 (by decide)
  obtain ⟨b, hb, eb⟩ := pk_andE q (m := 63) 6 (by decide)
  have ha' : a < 64 := ha
  have hb' : b < 64 := hb
  have e1 : mkS (lN n) p = lN (n ||| 2 ^ a) := by
    unfold mkS
    rw [ea, show (1 : Int64) = lN 1 from rfl, wb_shl 1 ha', Nat.one_mul, wb_or hn (Nat.pow_lt_pow_right (by decide) ha')]
  have hlt : n ||| 2 ^ a < 2 ^ 64 := Nat.or_lt_two_pow hn (Nat.pow_lt_pow_right (by decide) ha')
  rw [e1, mkB_bit hlt hb' eb, mkB_bit hn hb' eb, ea, eb, nI_clamp (by omega), nI_clamp (by omega), Nat.testBit_or, Nat.testBit_two_pow]
  by_cases h : b = a
  · rw [if_pos h, h]
    simp
  · rw [if_neg h, decide_eq_false (fun q => h q.symm), Bool.or_false]
theorem Mk.set (h : Mk mk ν) (p : Int32) : Mk (mkS mk p) (bA ν 0 (p &&& 63).toNatClampNeg true) := fun q => by
  rw [mkS_set, bA_eq]
  by_cases c : (q &&& 63).toNatClampNeg = (p &&& 63).toNatClampNeg
  · rw [if_pos c, c, va_up_self]
  · rw [if_neg c, va_up_ne _ _ c]
    exact h q
theorem pl_t (hP : Pl σ β μ) {j : Int32} (hj : wt σ j) (hb : β 0 (ix j) = true) : μ 15 (ix j) = σ 13 (ix j) := by rw [hP j hj, if_pos hb]
theorem pl_f (hP : Pl σ β μ) {j : Int32} (hj : wt σ j) (hb : β 0 (ix j) = false) : μ 15 (ix j) = -1 := by rw [hP j hj, if_neg (by rw [hb]; decide)]
theorem ha_eq (h : Inv t σ β mk μ ν) {j : Int32} (hj : wt σ j) (at0 : Int32) : haM μ (ix j) at0 = covC σ β j at0 := by
  obtain ⟨hS, hR, hM, hK, hP, hB, hD, hO⟩ := h
  unfold haM covC cvM
  rw [← hR.2.1]
  cases hb : β 0 (ix j) with
  | false =>
    rw [pl_f hP hj hb, decide_eq_true (show (-1 : Int32) < 0 by decide)]
    simp only [Bool.not_true, Bool.false_and]
  | true =>
    rw [pl_t hP hj hb]
    have := (hO.2.2.1 _ hb).1
    rw [decide_eq_false (show ¬ σ 13 (ix j) < 0 by rw [tlt, i0]; omega)]
    simp only [Bool.not_false, Bool.true_and]
theorem lp_eq (h : Inv t σ β mk μ ν) {st j : Int32} (hs : wt σ st) (hj : wt σ j) : apM μ ν st j = lpP σ β st j := by
  have h' := h
  obtain ⟨hS, hR, hM, hK, hP, hB, hD, hO⟩ := h
  unfold apM lpP
  rw [idM_eq hR hO]
  cases hb : β 2 (ix j) with
  | false => rw [Bool.false_and, Bool.false_and]
  | true =>
    have hb0 := (hO.2.2.2 _ hb).2
    unfold toM mbC
    rw [← hR.2.1]
    congr 1
    refine exL_cg (fun k g1 g2 => ?_)
    rw [i0] at g1
    have hz := (hO.1 (ix j)).2
    unfold toP mbP
    rw [ha_eq h' hs, pl_t hP hj hb0, ← hR.2.2.2.2.2.1, isx_id j (by omega) (by omega)]
theorem un_ud {e : Int32} (h10 : σ 10 = μ 12) : ∀ (n : Nat) (i : Int32) (β ν : B2) (a : Int32), dist i e = n → β 2 = ν 2 → (∀ k, β 2 k = true → σ 10 k = 0) →
    (unL i e β a).2 = (udL μ i e ν a).2 ∧ (unL i e β a).1 2 = (udL μ i e ν a).1 2 ∧ ((unL i e β a).1 0 = β 0 ∧ (unL i e β a).1 1 = β 1) ∧ ((udL μ i e ν a).1 0 = ν 0 ∧ (udL μ i e ν a).1 1 = ν 1) ∧ ∀ k, (unL i e β a).1 2 k = true → β 2 k = true := by
  intro n
  induction n with
  | zero =>
    intro i β ν a hn h2 hk
    rw [unL_out (dist0 hn), udL_out (dist0 hn)]
    exact ⟨rfl, h2, ⟨rfl, rfl⟩, ⟨rfl, rfl⟩, fun k q => q⟩
  | succ n ih =>
    intro i β ν a hn h2 hk
    have c := distS hn
    rw [unL_in c, udL_in c]
    have hid : idM μ ν i = β 2 (ix i) := by
      unfold idM
      rw [← h10, ← h2]
      cases hb : β 2 (ix i) with
      | false => simp
      | true => simp [hk _ hb]
    rw [hid]
    cases hb : β 2 (ix i) with
    | false =>
      rw [if_neg (by decide), if_neg (by decide)]
      exact ih (i + 1) β ν a (dist_next hn) h2 hk
    | true =>
      rw [if_pos rfl, if_pos rfl]
      have hk2 : ∀ k, bA β 2 (ix i) false 2 k = true → β 2 k = true := fun k q => by
        rw [bA_eq] at q
        by_cases hi : k = ix i
        · rw [hi, va_up_self] at q; cases q
        · rwa [va_up_ne _ _ hi] at q
      obtain ⟨q1, q2, q3, q4, q5⟩ := ih (i + 1) (bA β 2 (ix i) false) (bA ν 2 (ix i) false) (a + 1) (dist_next hn) (by rw [bA_eq, bA_eq, h2]) (fun k q => hk k (hk2 k q))
      exact ⟨q1, q2, q3, q4, fun k q => hk2 k (q5 k q)⟩
theorem inv_undo (h : Inv t σ β mk μ ν) {mk' : Int64} {ν0 : B2} (h1 : ν0 1 = ν 1) (h2 : ν0 2 = ν 2) (hk : Mk mk' ν0) (r e : Int32) :
    (unL r e β 0).2 = (udL μ r e ν0 0).2 ∧ Inv t (sS (sS σ 2 (σ 2 0 + (unL r e β 0).2)) 3 (σ 3 0 + 1)) (unL r e β 0).1 mk' (sS (sS μ 4 (μ 4 0 + 1)) 3 (μ 3 0 + (udL μ r e ν0 0).2)) (udL μ r e ν0 0).1 := by
  obtain ⟨hS, hR, hM, hK, hP, hB, hD, hO⟩ := h
  obtain ⟨q1, q2, ⟨q3, q4⟩, ⟨q5, q6⟩, q7⟩ := un_ud hR.1 _ r β ν0 0 rfl (hR.2.2.2.2.2.2.2.trans h2.symm) (fun k q => (hO.2.2.2 k q).1)
  refine ⟨q1, ⟨hS.1, hS.2.1, ?_, ?_, hS.2.2.2.2⟩, ⟨hR.1, hR.2.1, hR.2.2.1, hR.2.2.2.1, hR.2.2.2.2.1, hR.2.2.2.2.2.1, ?_, q2⟩, hM, ?_, ?_, hB, hD, ⟨hO.1, hO.2.1, ?_, ?_⟩⟩
  · show σ 2 0 + _ = μ 3 0 + _
    rw [q1, hS.2.2.1]
  · show σ 3 0 + 1 = μ 4 0 + 1
    rw [hS.2.2.2.1]
  · rw [q4, q6, h1]; exact hR.2.2.2.2.2.2.1
  · intro q
    rw [q5]
    exact hk q
  · intro j hj
    show μ 15 (ix j) = if (unL r e β 0).1 0 (ix j) = true then σ 13 (ix j) else -1
    rw [q3]
    exact hP j hj
  · intro i hi
    rw [q3] at hi
    exact hO.2.2.1 i hi
  · intro i hi
    show σ 10 i = 0 ∧ (unL r e β 0).1 0 i = true
    rw [q3]
    exact hO.2.2.2 i (q7 i hi)
theorem ad_eq (h : Inv t σ β mk μ ν) {op : Int32} (hw : wt σ op) : (adT σ β mk op).1 = (adR μ ν op).1 ∧ (adR μ ν op).2.1 0 0 = μ 0 0 ∧ Inv t (adT σ β mk op).2.1 (adT σ β mk op).2.2.1 (adT σ β mk op).2.2.2 (adR μ ν op).2.1 (adR μ ν op).2.2 := by
  have h0 := h
  obtain ⟨hS, hR, hM, hK, hP, hB, hD, hO⟩ := h
  obtain ⟨w1, w2⟩ := hw
  have e : frL (apM μ ν op) (op + 1) (μ 1 0) = frL (lpP σ β op) (op + 1) (σ 0 0) := by
    rw [← hS.1]
    have e1 : (op + 1).toInt = op.toInt + 1 := t_in (b := σ 0 0) (by rw [tle]; omega)
    exact frL_cg (fun j g1 g2 => lp_eq h0 ⟨w1, w2⟩ ⟨by omega, g2⟩)
  unfold adT adR
  rw [e, ← hR.1]
  generalize frL (lpP σ β op) (op + 1) (σ 0 0) = r
  by_cases k1 : σ 10 (ix op) = 1
  · rw [if_pos k1, if_pos k1]
    by_cases hr : r = -1
    · rw [if_pos hr, if_pos hr]
      exact ⟨rfl, rfl, h0⟩
    · rw [if_neg hr, if_neg hr]
      have hk := hK.set (σ 12 (ix r))
      rw [← hR.2.2.1] at hk
      obtain ⟨q1, q2⟩ := inv_undo h0 (mk' := mkS mk (σ 12 (ix r))) (ν0 := bA ν 0 (μ 14 (ix r)).toNatClampNeg true) rfl rfl hk r (σ 0 0)
      rw [← hS.1]
      exact ⟨q1, rfl, q2⟩
  · rw [if_neg k1, if_neg k1]
    exact ⟨rfl, rfl, h0⟩
theorem cba_rng {at0 b : Int32} (hb : 0 ≤ b.toInt ∧ b.toInt ≤ 4) (h : cba at0 b = true) : rng at0 b := by
  unfold cba at h
  simp only [Bool.and_eq_true, Bool.not_eq_true', decide_eq_false_iff_not, decide_eq_true_eq, tlt, tle, i0] at h
  obtain ⟨h1, h2, -⟩ := h
  rw [tsub (by rw [i4096]; omega) (by rw [i4096]; omega), i4096] at h2
  exact ⟨by omega, by omega⟩
theorem cb_eq (h : Inv t σ β mk μ ν) (op at0 : Int32) : cbM μ op at0 = true ↔ ((!decide (op < σ 1 0) && !decide (σ 0 0 ≤ op)) = true ∧ ¬ σ 10 (ix op) = 2 ∧ β 0 (ix op) = false ∧ cba at0 (σ 11 (ix op)) = true) := by
  obtain ⟨hS, hR, hM, hK, hP, hB, hD, hO⟩ := h
  unfold cbM cba
  rw [waM_eq hS, ← hR.1, ← hR.2.1]
  have e : decide (3072 ≤ at0) = !decide (at0 < 3072) := by
    by_cases c : at0 < 3072
    · have c' : ¬ (3072 : Int32) ≤ at0 := by rw [tle]; rw [tlt] at c; omega
      rw [decide_eq_true c, decide_eq_false c']; rfl
    · have c' : (3072 : Int32) ≤ at0 := by rw [tle]; rw [tlt] at c; omega
      rw [decide_eq_false c, decide_eq_true c']; rfl
  rw [e, Bool.and_eq_true]
  constructor
  · rintro ⟨g1, g2⟩
    have hw := (w_iff hD op).mp g1
    rw [Bool.and_eq_true, Bool.and_eq_true] at g2
    obtain ⟨g2, g3, g4⟩ := g2
    refine ⟨g1, by simpa using g2, ?_, g4⟩
    cases hb : β 0 (ix op) with
    | false => rfl
    | true =>
      rw [pl_t hP hw hb, decide_eq_true_eq] at g3
      have := (hO.2.2.1 _ hb).1
      rw [g3, im1] at this
      omega
  · rintro ⟨g1, g2, g3, g4⟩
    have hw := (w_iff hD op).mp g1
    refine ⟨g1, ?_⟩
    rw [pl_f hP hw g3, Bool.and_eq_true, Bool.and_eq_true]
    exact ⟨by simpa using g2, rfl, g4⟩
theorem pu_address (h : Inv t σ β mk μ ν) (op at0 : Int32) :
    ((op < 0 ∨ σ 0 0 ≤ op) ∧ adTh μ op at0 = 1) ∨
    (¬ op < 0 ∧ op < σ 0 0 ∧ ¬ ((!decide (op < σ 1 0) && !decide (σ 0 0 ≤ op)) = true ∧ ¬ σ 10 (ix op) = 2 ∧ β 0 (ix op) = false ∧ cba at0 (σ 11 (ix op)) = true) ∧ adTh μ op at0 = 2) ∨
    (¬ op < 0 ∧ op < σ 0 0 ∧ (!decide (op < σ 1 0) && !decide (σ 0 0 ≤ op)) = true ∧ ¬ σ 10 (ix op) = 2 ∧ β 0 (ix op) = false ∧ cba at0 (σ 11 (ix op)) = true ∧ adTh μ op at0 = 0 ∧ ¬ μ 1 0 ≤ op ∧ (∀ i, μ 13 i ≤ 4) ∧ (∀ i, vp_in (μ 14 i) 64) ∧
      (adT (sA σ 13 (ix op) at0) (bA β 0 (ix op) true) mk op).1 = (adR (sA (sS μ 0 0) 15 (ix op) at0) ν op).1 ∧ (adR (sA (sS μ 0 0) 15 (ix op) at0) ν op).2.1 0 0 = 0 ∧
      Inv t (adT (sA σ 13 (ix op) at0) (bA β 0 (ix op) true) mk op).2.1 (adT (sA σ 13 (ix op) at0) (bA β 0 (ix op) true) mk op).2.2.1 (adT (sA σ 13 (ix op) at0) (bA β 0 (ix op) true) mk op).2.2.2
        (adR (sA (sS μ 0 0) 15 (ix op) at0) ν op).2.1 (adR (sA (sS μ 0 0) 15 (ix op) at0) ν op).2.2) := by
  have h0 := h
  obtain ⟨hS, hR, hM, hK, hP, hB, hD, hO⟩ := h
  unfold adTh
  by_cases hio : ¬ op < 0 ∧ op < σ 0 0
  · rw [if_pos ((ioM_iff hS op).mpr hio)]
    by_cases hc : cbM μ op at0 = true
    · obtain ⟨g1, g2, g3, g4⟩ := (cb_eq h0 op at0).mp hc
      have hw := (w_iff hD op).mp g1
      refine Or.inr (Or.inr ⟨hio.1, hio.2, g1, g2, g3, g4, if_pos hc, ?_, ?_, ?_, ?_⟩)
      · rw [← hS.1, tle]
        have := hw.2
        omega
      · intro i
        rw [← hR.2.1, tle, i4]
        exact (hO.1 i).2
      · intro i
        rw [hR.2.2.1]
        exact i6_in _
      · have hI : Inv t (sA σ 13 (ix op) at0) (bA β 0 (ix op) true) mk (sA (sS μ 0 0) 15 (ix op) at0) ν := by
          refine ⟨hS, hR, hM, hK, ?_, hB, hD, ⟨hO.1, hO.2.1, ?_, ?_⟩⟩
          · intro j hj
            show upd (μ 15) (ix op) at0 (ix j) = if va_up (β 0) (ix op) true (ix j) = true then upd (σ 13) (ix op) at0 (ix j) else -1
            by_cases c : ix j = ix op
            · rw [c, up_eq, up_eq, va_up_self, if_pos rfl]
            · rw [up_ne c, up_ne c, va_up_ne _ _ c]
              exact hP j hj
          · intro i hi
            have hi' : va_up (β 0) (ix op) true i = true := hi
            show rng (upd (σ 13) (ix op) at0 i) (σ 11 i)
            by_cases c : i = ix op
            · rw [c, up_eq]
              exact cba_rng (hO.1 _) g4
            · rw [up_ne c]
              rw [va_up_ne _ _ c] at hi'
              exact hO.2.2.1 i hi'
          · intro i hi
            show σ 10 i = 0 ∧ va_up (β 0) (ix op) true i = true
            have q := hO.2.2.2 i hi
            refine ⟨q.1, ?_⟩
            by_cases c : i = ix op
            · rw [c, va_up_self]
            · rw [va_up_ne _ _ c]; exact q.2
        exact ad_eq hI hw
    · exact Or.inr (Or.inl ⟨hio.1, hio.2, fun q => hc ((cb_eq h0 op at0).mpr q), if_neg hc⟩)
  · exact Or.inl ⟨io_no op hio, if_neg (fun q => hio ((ioM_iff hS op).mp q))⟩
theorem lm_eq (h : Inv t σ β mk μ ν) {at0 j : Int32} (ha : 0 ≤ at0.toInt ∧ at0.toInt < 4096) (hj : wt σ j) : tfM9 μ ν at0 j = lmP σ β at0 j := by
  obtain ⟨hS, hR, hM, hK, hP, hB, hD, hO⟩ := h
  unfold tfM9 tfM lmP
  rw [idM_eq hR hO]
  cases hb : β 2 (ix j) with
  | false => rw [Bool.false_and, Bool.false_and]
  | true =>
    have hb0 := (hO.2.2.2 _ hb).2
    have hz := hO.1 (ix j)
    obtain ⟨r1, r2⟩ := hO.2.2.1 _ hb0
    have e1 : (at0 - σ 13 (ix j)).toInt = at0.toInt - (σ 13 (ix j)).toInt := tsub (by omega) (by omega)
    have e2 : (σ 13 (ix j) + σ 11 (ix j)).toInt = (σ 13 (ix j)).toInt + (σ 11 (ix j)).toInt := tadd (by omega) (by omega)
    unfold covC
    rw [pl_t hP hj hb0, ← hR.2.1, ← hR.2.2.2.2.2.1, hb0]
    simp only [Bool.true_and]
    by_cases c1 : at0.toInt < (σ 13 (ix j)).toInt
    · rw [decide_eq_true (show at0 - σ 13 (ix j) < 0 by rw [tlt, i0]; omega), decide_eq_true (show at0 < σ 13 (ix j) by rw [tlt]; omega)]
      simp only [Bool.not_true, Bool.false_and]
    · rw [decide_eq_false (show ¬ at0 - σ 13 (ix j) < 0 by rw [tlt, i0]; omega), decide_eq_false (show ¬ at0 < σ 13 (ix j) by rw [tlt]; omega)]
      simp only [Bool.not_false, Bool.true_and]
      by_cases c2 : (σ 13 (ix j)).toInt + (σ 11 (ix j)).toInt ≤ at0.toInt
      · rw [decide_eq_true (show σ 11 (ix j) ≤ at0 - σ 13 (ix j) by rw [tle]; omega), decide_eq_true (show σ 13 (ix j) + σ 11 (ix j) ≤ at0 by rw [tle]; omega)]
        simp only [Bool.not_true, Bool.false_and]
      · rw [decide_eq_false (show ¬ σ 11 (ix j) ≤ at0 - σ 13 (ix j) by rw [tle]; omega), decide_eq_false (show ¬ σ 13 (ix j) + σ 11 (ix j) ≤ at0 by rw [tle]; omega), isx_id j (by omega) (by omega)]
theorem ot_eq (h : Inv t σ β mk μ ν) {at0 : Int32} (ha : 0 ≤ at0.toInt ∧ at0.toInt < 4096) : (otR σ β at0).1 = (omR μ ν at0).1 ∧ (omR μ ν at0).2.1 0 0 = μ 0 0 ∧ Inv t (otR σ β at0).2.1 (otR σ β at0).2.2 mk (omR μ ν at0).2.1 (omR μ ν at0).2.2 := by
  have h0 := h
  obtain ⟨hS, hR, hM, hK, hP, hB, hD, hO⟩ := h
  have e : frL (tfM9 μ ν at0) (μ 2 0) (μ 1 0) = frL (lmP σ β at0) (σ 1 0) (σ 0 0) := by
    rw [← hS.1, ← hS.2.1]
    exact frL_cg (fun j g1 g2 => lm_eq h0 ha ⟨g1, g2⟩)
  unfold otR omR
  rw [e]
  generalize frL (lmP σ β at0) (σ 1 0) (σ 0 0) = r
  by_cases hr : r = -1
  · rw [if_pos hr, if_pos hr]
    exact ⟨rfl, rfl, h0⟩
  · rw [if_neg hr, if_neg hr]
    obtain ⟨q1, q2⟩ := inv_undo h0 (mk' := mk) (ν0 := ν) rfl rfl hK r (σ 0 0)
    rw [← hS.1]
    exact ⟨q1, rfl, q2⟩
theorem pu_other (h : Inv t σ β mk μ ν) (at0 v : Int32) :
    (¬ ((!decide (at0 < 0) && !decide (4096 ≤ at0)) = true ∧ ¬ v < 0 ∧ v ≤ 255) ∧ otTh at0 v = 1) ∨
    ((!decide (at0 < 0) && !decide (4096 ≤ at0)) = true ∧ ¬ v < 0 ∧ v ≤ 255 ∧ otTh at0 v = 0 ∧ 0 ≤ μ 2 0 ∧ (∀ i, μ 13 i ≤ 4) ∧ vp_in at0 4096 ∧
      (otR (sA σ 24 (iy at0) v.toInt8.toInt32) β at0).1 = (omR (sA (sS μ 0 0) 10 at0.toNatClampNeg v) ν at0).1 ∧ (omR (sA (sS μ 0 0) 10 at0.toNatClampNeg v) ν at0).2.1 0 0 = 0 ∧
      Inv t (otR (sA σ 24 (iy at0) v.toInt8.toInt32) β at0).2.1 (otR (sA σ 24 (iy at0) v.toInt8.toInt32) β at0).2.2 mk (omR (sA (sS μ 0 0) 10 at0.toNatClampNeg v) ν at0).2.1 (omR (sA (sS μ 0 0) 10 at0.toNatClampNeg v) ν at0).2.2) := by
  have h0 := h
  obtain ⟨hS, hR, hM, hK, hP, hB, hD, hO⟩ := h
  unfold otTh
  by_cases hc : (!decide (at0 < 0) && !decide (4096 ≤ at0)) = true ∧ ¬ v < 0 ∧ v ≤ 255
  · obtain ⟨g1, g2, g3⟩ := hc
    have g1' := g1
    simp only [Bool.and_eq_true, Bool.not_eq_true', decide_eq_false_iff_not, tlt, tle, i0, i4096] at g1'
    have hi : 0 ≤ at0.toInt ∧ at0.toInt < 4096 := by omega
    have g2' := g2
    have g3' := g3
    rw [tlt, i0] at g2'
    rw [tle, i255] at g3'
    refine Or.inr ⟨g1, g2, g3, ?_, ?_, ?_, vp_in_iff.mpr ⟨hi.1, by omega⟩, ?_⟩
    · rw [if_neg]
      simp only [Bool.or_eq_true, decide_eq_true_eq, Bool.not_eq_true', decide_eq_false_iff_not, tlt, tle, i0, i4096, i255]
      omega
    · rw [← hS.2.1, tle, i0]
      exact hD.1.1
    · intro i
      rw [← hR.2.1, tle, i4]
      exact (hO.1 i).2
    · have hI : Inv t (sA σ 24 (iy at0) v.toInt8.toInt32) β mk (sA (sS μ 0 0) 10 at0.toNatClampNeg v) ν := by
        refine ⟨hS, hR, ?_, hK, hP, hB, hD, hO⟩
        intro i
        show upd (μ 10) at0.toNatClampNeg v i = upd (σ 24) (iy at0) v.toInt8.toInt32 i &&& 255
        rw [iy_id hi.1 hi.2]
        by_cases c : i = at0.toNatClampNeg
        · rw [c, up_eq, up_eq, bp_b, and255_id (by omega) (by omega)]
        · rw [up_ne c, up_ne c]
          exact hM i
      exact ot_eq hI hi
  · refine Or.inl ⟨hc, if_pos ?_⟩
    simp only [Bool.and_eq_true, Bool.not_eq_true', decide_eq_false_iff_not, tlt, tle, i0, i4096, i255] at hc
    simp only [Bool.or_eq_true, decide_eq_true_eq, Bool.not_eq_true', decide_eq_false_iff_not, tlt, tle, i0, i4096, i255]
    omega
end PU3
