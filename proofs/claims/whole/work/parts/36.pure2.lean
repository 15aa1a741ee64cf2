/-! call by call: op, number, forget, loaded, source, memory, marked -/
section PU2
variable {t : Nat} {σ : S2} {β : B2} {mk : Int64} {μ : S2} {ν : B2}
theorem w_iff (h : Bd t σ) (op : Int32) : (!decide (op < σ 1 0) && !decide (σ 0 0 ≤ op)) = true ↔ wt σ op := by
  simp only [Bool.and_eq_true, Bool.not_eq_true', decide_eq_false_iff_not, tlt, tle, wt]
  omega
theorem waM_eq (h : Sc σ μ) (op : Int32) : waM μ op = (!decide (op < σ 1 0) && !decide (σ 0 0 ≤ op)) := by
  unfold waM
  rw [← h.1, ← h.2.1]
theorem ioM_iff (h : Sc σ μ) (op : Int32) : ioM μ op = true ↔ (¬ op < 0 ∧ op < σ 0 0) := by
  unfold ioM
  rw [← h.1]
  simp only [Bool.and_eq_true, Bool.not_eq_true', decide_eq_false_iff_not, tlt, tle]
  omega
theorem io_no (op : Int32) (h : ¬ (¬ op < 0 ∧ op < σ 0 0)) : op < 0 ∨ σ 0 0 ≤ op := by
  rw [tlt, tlt] at h
  rw [tlt, tle]
  omega
theorem pu_op (h : Inv t σ β mk μ ν) (ht : t < 1000) (kind bytes prog : Int32) :
    (kwb kind bytes = false ∧ opTh μ kind bytes = 1) ∨ (kwb kind bytes = true ∧ ¬ σ 0 0 - σ 1 0 < 32 ∧ opTh μ kind bytes = 2) ∨
    (kwb kind bytes = true ∧ σ 0 0 - σ 1 0 < 32 ∧ opTh μ kind bytes = 0 ∧ σ 0 0 = μ 1 0 + 1 - 1 ∧
      Inv (t + 1) (sS (sA (sA (sA σ 10 (ix (σ 0 0)) kind) 11 (ix (σ 0 0)) bytes) 12 (ix (σ 0 0)) prog) 0 (σ 0 0 + 1)) (bA (bA (bA β 0 (ix (σ 0 0)) false) 1 (ix (σ 0 0)) false) 2 (ix (σ 0 0)) false) mk
        (sS (sA (sA (sA (sA (sS μ 0 0) 12 (ix (μ 1 0)) kind) 13 (ix (μ 1 0)) bytes) 14 (ix (μ 1 0)) (prog &&& 63)) 15 (ix (μ 1 0)) (-1)) 1 (μ 1 0 + 1)) (bA (bA ν 1 (ix (μ 1 0)) false) 2 (ix (μ 1 0)) false)) := by
  obtain ⟨hS, hR, hM, hK, hP, hB, hD, hO⟩ := h
  have hth : opTh μ kind bytes = if (!kwb kind bytes) = true then 1 else if σ 0 0 - σ 1 0 = 32 then 2 else 0 := by
    unfold opTh
    rw [kwb_not, ← hS.1, ← hS.2.1]
  have hsub : (σ 0 0 - σ 1 0).toInt = (σ 0 0).toInt - (σ 1 0).toInt := by
    obtain ⟨⟨a1, a2, a3, a4, a5⟩, -⟩ := hD
    exact tsub (by omega) (by omega)
  cases hk : kwb kind bytes with
  | false => exact Or.inl ⟨rfl, by rw [hth, hk]; rfl⟩
  | true =>
    rw [hk] at hth
    by_cases hw : σ 0 0 - σ 1 0 < 32
    · refine Or.inr (Or.inr ⟨rfl, hw, ?_, ?_, ?_⟩)
      · rw [hth, if_neg (by decide), if_neg (fun q => by rw [q] at hw; exact absurd hw (by decide))]
      · rw [← hS.1, Int32.add_sub_cancel]
      · rw [tlt, hsub, i32_] at hw
        rw [← hS.1]
        obtain ⟨⟨k1, k2⟩, k3, k4⟩ := kwb_rng hk
        obtain ⟨⟨a1, a2, a3, a4, a5⟩, a6, a7⟩ := hD
        have ei : (σ 0 0 + 1).toInt = (σ 0 0).toInt + 1 := by rw [tadd (by rw [i1]; omega) (by rw [i1]; omega), i1]
        generalize hx : ix (σ 0 0) = x
        refine ⟨⟨rfl, hS.2.1, hS.2.2.1, hS.2.2.2.1, hS.2.2.2.2.1, hS.2.2.2.2.2.1, hS.2.2.2.2.2.2⟩, ⟨?_, ?_, ?_, hR.2.2.2.1, hR.2.2.2.2.1, hR.2.2.2.2.2.1, ?_, ?_⟩, hM, hK, ?_, hB, ⟨⟨a1, ?_, ?_, ?_, by omega⟩, a6, a7⟩, ?_, ?_, ?_, ?_⟩
        · show upd (σ 10) x kind = upd (μ 12) x kind
          rw [hR.1]
        · show upd (σ 11) x bytes = upd (μ 13) x bytes
          rw [hR.2.1]
        · intro i
          show upd (μ 14) x (prog &&& 63) i = upd (σ 12) x prog i &&& 63
          by_cases hi : i = x
          · rw [hi, up_eq, up_eq]
          · rw [up_ne hi, up_ne hi]; exact hR.2.2.1 i
        · show va_up (β 1) x false = va_up (ν 1) x false
          rw [hR.2.2.2.2.2.2.1]
        · show va_up (β 2) x false = va_up (ν 2) x false
          rw [hR.2.2.2.2.2.2.2]
        · intro j hj
          show upd (μ 15) x (-1) (ix j) = if va_up (β 0) x false (ix j) = true then σ 13 (ix j) else -1
          by_cases hi : ix j = x
          · rw [hi, up_eq, va_up_self, if_neg (by decide)]
          · rw [up_ne hi, va_up_ne _ _ hi]
            refine hP j ⟨hj.1, ?_⟩
            have h2 : j.toInt < (σ 0 0 + 1).toInt := hj.2
            rw [ei] at h2
            have h3 : j.toInt ≠ (σ 0 0).toInt := fun q => hi (by rw [Int32.toInt_inj.mp q, hx])
            omega
        · show (σ 1 0).toInt ≤ (σ 0 0 + 1).toInt
          omega
        · show (σ 0 0 + 1).toInt ≤ (σ 1 0).toInt + 32
          omega
        · show (σ 0 0 + 1).toInt ≤ ((t + 1 : Nat) : Int)
          omega
        · intro i
          show 0 ≤ (upd (σ 11) x bytes i).toInt ∧ (upd (σ 11) x bytes i).toInt ≤ 4
          by_cases hi : i = x
          · rw [hi, up_eq]; exact ⟨k3, k4⟩
          · rw [up_ne hi]; exact hO.1 i
        · intro i
          show 0 ≤ (upd (σ 10) x kind i).toInt ∧ (upd (σ 10) x kind i).toInt ≤ 3
          by_cases hi : i = x
          · rw [hi, up_eq]; exact ⟨k1, k2⟩
          · rw [up_ne hi]; exact hO.2.1 i
        · intro i hi0
          have hi1 : va_up (β 0) x false i = true := hi0
          show rng (σ 13 i) (upd (σ 11) x bytes i)
          by_cases hi : i = x
          · rw [hi, va_up_self] at hi1; cases hi1
          · rw [va_up_ne _ _ hi] at hi1
            rw [up_ne hi]; exact hO.2.2.1 i hi1
        · intro i hi0
          have hi1 : va_up (β 2) x false i = true := hi0
          show upd (σ 10) x kind i = 0 ∧ va_up (β 0) x false i = true
          by_cases hi : i = x
          · rw [hi, va_up_self] at hi1; cases hi1
          · rw [va_up_ne _ _ hi] at hi1
            rw [up_ne hi, va_up_ne _ _ hi]; exact hO.2.2.2 i hi1
    · refine Or.inr (Or.inl ⟨rfl, hw, ?_⟩)
      rw [tlt, hsub, i32_] at hw
      obtain ⟨⟨a1, a2, a3, a4, a5⟩, -⟩ := hD
      rw [hth, if_neg (by decide), if_pos (by rw [teq, hsub, i32_]; omega)]
theorem pu_number (h : Inv t σ β mk μ ν) (op v : Int32) :
    ((op < 0 ∨ σ 0 0 ≤ op) ∧ nuTh μ ν op = 1) ∨
    (¬ op < 0 ∧ op < σ 0 0 ∧ ¬ ((!decide (op < σ 1 0) && !decide (σ 0 0 ≤ op)) = true ∧ (decide (σ 10 (ix op) = 1) || decide (σ 10 (ix op) = 3)) = true ∧ β 1 (ix op) = false) ∧ nuTh μ ν op = 2) ∨
    (¬ op < 0 ∧ op < σ 0 0 ∧ (!decide (op < σ 1 0) && !decide (σ 0 0 ≤ op)) = true ∧ (decide (σ 10 (ix op) = 1) || decide (σ 10 (ix op) = 3)) = true ∧ β 1 (ix op) = false ∧ nuTh μ ν op = 0 ∧ σ 11 (ix op) = μ 13 (ix op) ∧
      Inv t (sA σ 15 (ix op) v) (bA β 1 (ix op) true) mk (sA (sS μ 0 0) 16 (ix op) v) (bA ν 1 (ix op) true)) := by
  obtain ⟨hS, hR, hM, hK, hP, hB, hD, hO⟩ := h
  unfold nuTh
  by_cases hio : ¬ op < 0 ∧ op < σ 0 0
  · rw [if_pos ((ioM_iff hS op).mpr hio)]
    have hc : cnM μ ν op = true ↔ ((!decide (op < σ 1 0) && !decide (σ 0 0 ≤ op)) = true ∧ (decide (σ 10 (ix op) = 1) || decide (σ 10 (ix op) = 3)) = true ∧ β 1 (ix op) = false) := by
      unfold cnM
      rw [waM_eq hS, ← hR.1, ← hR.2.2.2.2.2.2.1]
      simp only [Bool.and_eq_true, Bool.not_eq_true']
    by_cases hn : cnM μ ν op = true
    · obtain ⟨g1, g2, g3⟩ := hc.mp hn
      refine Or.inr (Or.inr ⟨hio.1, hio.2, g1, g2, g3, if_pos hn, by rw [hR.2.1], ⟨hS, ⟨hR.1, hR.2.1, hR.2.2.1, ?_, hR.2.2.2.2.1, hR.2.2.2.2.2.1, ?_, hR.2.2.2.2.2.2.2⟩, hM, hK, hP, hB, hD, hO⟩⟩)
      · show upd (σ 15) (ix op) v = upd (μ 16) (ix op) v
        rw [hR.2.2.2.1]
      · show va_up (β 1) (ix op) true = va_up (ν 1) (ix op) true
        rw [hR.2.2.2.2.2.2.1]
    · exact Or.inr (Or.inl ⟨hio.1, hio.2, fun q => hn (hc.mpr q), if_neg hn⟩)
  · exact Or.inl ⟨io_no op hio, if_neg (fun q => hio ((ioM_iff hS op).mp q))⟩
theorem pu_forget (h : Inv t σ β mk μ ν) (op : Int32) :
    ((op < 0 ∨ σ 0 0 ≤ op) ∧ foTh μ op = 1) ∨ (¬ op < 0 ∧ op < σ 0 0 ∧ (!decide (op < σ 1 0) && !decide (σ 0 0 ≤ op)) = false ∧ foTh μ op = 2) ∨
    (¬ op < 0 ∧ op < σ 0 0 ∧ (!decide (op < σ 1 0) && !decide (σ 0 0 ≤ op)) = true ∧ foTh μ op = 0 ∧ σ 0 0 - op = μ 1 0 - op ∧ Inv t (sS σ 0 op) β mk (sS (sS μ 0 0) 1 op) ν) := by
  obtain ⟨hS, hR, hM, hK, hP, hB, hD, hO⟩ := h
  unfold foTh
  by_cases hio : ¬ op < 0 ∧ op < σ 0 0
  · rw [if_pos ((ioM_iff hS op).mpr hio), waM_eq hS]
    cases hw : (!decide (op < σ 1 0) && !decide (σ 0 0 ≤ op)) with
    | false => exact Or.inr (Or.inl ⟨hio.1, hio.2, rfl, rfl⟩)
    | true =>
      have hwt := (w_iff hD op).mp hw
      obtain ⟨⟨a1, a2, a3, a4, a5⟩, a6⟩ := hD
      obtain ⟨w1, w2⟩ := hwt
      refine Or.inr (Or.inr ⟨hio.1, hio.2, rfl, rfl, by rw [hS.1], ⟨⟨rfl, hS.2⟩, hR, hM, hK, fun j hj => hP j ⟨hj.1, ?_⟩, hB, ⟨⟨a1, ?_, ?_, ?_, a5⟩, a6⟩, hO⟩⟩)
      · have : j.toInt < op.toInt := hj.2
        omega
      · show (σ 1 0).toInt ≤ op.toInt
        omega
      · show op.toInt ≤ (σ 1 0).toInt + 32
        omega
      · show op.toInt ≤ (t : Int)
        omega
  · exact Or.inl ⟨io_no op hio, if_neg (fun q => hio ((ioM_iff hS op).mp q))⟩
theorem pu_loaded (h : Inv t σ β mk μ ν) (op : Int32) :
    ((op < 0 ∨ σ 0 0 ≤ op) ∧ loTh μ ν op = 1) ∨ (¬ op < 0 ∧ op < σ 0 0 ∧ ¬ σ 0 0 - 1 - op < 64 ∧ loTh μ ν op = 3) ∨ (¬ op < 0 ∧ op < σ 0 0 ∧ σ 0 0 - 1 - op < 64 ∧ hlC σ β op = false ∧ loTh μ ν op = 2) ∨
    (¬ op < 0 ∧ op < σ 0 0 ∧ σ 0 0 - 1 - op < 64 ∧ hlC σ β op = true ∧ loTh μ ν op = 0 ∧ σ 18 (ix op) = μ 17 (ix op)) := by
  obtain ⟨hS, hR, hM, hK, hP, hB, hD, hO⟩ := h
  unfold loTh
  by_cases hio : ¬ op < 0 ∧ op < σ 0 0
  · rw [if_pos ((ioM_iff hS op).mpr hio), ← hS.1]
    by_cases hl : σ 0 0 - 1 - op < 64
    · rw [if_pos hl]
      have he : isM μ ν op = hlC σ β op := by
        unfold isM hlC
        rw [← hR.1, ← hR.2.2.2.2.2.2.2, ← hS.2.1]
        have h2 : op.toInt < (σ 0 0).toInt := by rw [← tlt]; exact hio.2
        by_cases k3 : σ 10 (ix op) = 3
        · rw [if_pos k3, k3]
          have e1 : decide (op < σ 1 0) = !decide (σ 1 0 ≤ op) := by
            by_cases c : op < σ 1 0
            · have c' : ¬ σ 1 0 ≤ op := by rw [tle]; rw [tlt] at c; omega
              rw [decide_eq_true c, decide_eq_false c']
              rfl
            · have c' : σ 1 0 ≤ op := by rw [tle]; rw [tlt] at c; omega
              rw [decide_eq_false c, decide_eq_true c']
              rfl
          have e2 : decide (σ 0 0 ≤ op) = false := decide_eq_false (by rw [tle]; omega)
          rw [e1, e2]
          simp
        · rw [if_neg k3]
          cases hb : β 2 (ix op) with
          | false => simp [k3]
          | true => simp [(hO.2.2.2 _ hb).1]
      rw [he]
      cases hh : hlC σ β op with
      | false => exact Or.inr (Or.inr (Or.inl ⟨hio.1, hio.2, hl, rfl, rfl⟩))
      | true => exact Or.inr (Or.inr (Or.inr ⟨hio.1, hio.2, hl, rfl, rfl, by rw [hR.2.2.2.2.1]⟩))
    · exact Or.inr (Or.inl ⟨hio.1, hio.2, hl, if_neg hl⟩)
  · exact Or.inl ⟨io_no op hio, if_neg (fun q => hio ((ioM_iff hS op).mp q))⟩
theorem idM_eq (hR : Rw σ β μ ν) (hO : Oc σ β) (op : Int32) : idM μ ν op = β 2 (ix op) := by
  unfold idM
  rw [← hR.1, ← hR.2.2.2.2.2.2.2]
  cases hb : β 2 (ix op) with
  | false => simp
  | true => simp [(hO.2.2.2 _ hb).1]
theorem pu_source (h : Inv t σ β mk μ ν) (op k : Int32) :
    ((op < 0 ∨ σ 0 0 ≤ op) ∧ srTh μ ν op k = 1) ∨ (¬ op < 0 ∧ op < σ 0 0 ∧ ¬ ((!decide (op < σ 1 0) && !decide (σ 0 0 ≤ op)) = true ∧ β 2 (ix op) = true) ∧ srTh μ ν op k = 2) ∨
    (¬ op < 0 ∧ op < σ 0 0 ∧ (!decide (op < σ 1 0) && !decide (σ 0 0 ≤ op)) = true ∧ β 2 (ix op) = true ∧ ¬ (¬ k < 0 ∧ k < σ 11 (ix op)) ∧ srTh μ ν op k = 3) ∨
    (¬ op < 0 ∧ op < σ 0 0 ∧ (!decide (op < σ 1 0) && !decide (σ 0 0 ≤ op)) = true ∧ β 2 (ix op) = true ∧ ¬ k < 0 ∧ k < σ 11 (ix op) ∧ srTh μ ν op k = 0 ∧ 0 ≤ k ∧ ¬ μ 13 (ix op) ≤ k ∧ (∀ i, μ 13 i ≤ 4) ∧ σ 19 (isx op k) = μ 20 (4 * (op &&& 127) + k).toNatClampNeg) := by
  obtain ⟨hS, hR, hM, hK, hP, hB, hD, hO⟩ := h
  unfold srTh
  by_cases hio : ¬ op < 0 ∧ op < σ 0 0
  · rw [if_pos ((ioM_iff hS op).mpr hio), waM_eq hS, idM_eq hR hO, ← hR.2.1]
    by_cases hw : ((!decide (op < σ 1 0) && !decide (σ 0 0 ≤ op)) && β 2 (ix op)) = true
    · rw [if_pos hw]
      obtain ⟨g1, g2⟩ := (Bool.and_eq_true _ _).mp hw
      by_cases k0 : k < 0
      · exact Or.inr (Or.inr (Or.inl ⟨hio.1, hio.2, g1, g2, fun q => q.1 k0, if_pos k0⟩))
      · rw [if_neg k0]
        by_cases k1 : k < σ 11 (ix op)
        · have z := hO.1 (ix op)
          have k0' := k0
          have k1' := k1
          rw [tlt, i0] at k0'
          rw [tlt] at k1'
          refine Or.inr (Or.inr (Or.inr ⟨hio.1, hio.2, g1, g2, k0, k1, if_pos k1, by rw [tle, i0]; omega, by rw [tle]; omega, fun i => by rw [tle, i4]; exact (hO.1 i).2, ?_⟩))
          rw [isx_id op (by omega) (by omega), hR.2.2.2.2.2.1]
        · exact Or.inr (Or.inr (Or.inl ⟨hio.1, hio.2, g1, g2, fun q => k1 q.2, if_neg k1⟩))
    · exact Or.inr (Or.inl ⟨hio.1, hio.2, fun q => hw ((Bool.and_eq_true _ _).mpr q), if_neg hw⟩)
  · exact Or.inl ⟨io_no op hio, if_neg (fun q => hio ((ioM_iff hS op).mp q))⟩
theorem pu_memory (h : Inv t σ β mk μ ν) (at0 : Int32) :
    ((!decide (at0 < 0) && !decide (4096 ≤ at0)) = false ∧ meTh at0 = 1) ∨ ((!decide (at0 < 0) && !decide (4096 ≤ at0)) = true ∧ meTh at0 = 0 ∧ vp_in at0 4096 ∧ σ 24 (iy at0) &&& 255 = μ 10 at0.toNatClampNeg) := by
  unfold meTh
  by_cases h0 : at0 < 0
  · exact Or.inl ⟨by simp [h0], if_pos h0⟩
  · rw [if_neg h0]
    by_cases h1 : at0 < 4096
    · have h0' := h0
      have h1' := h1
      rw [tlt, i0] at h0'
      rw [tlt, i4096] at h1'
      have h2 : ¬ (4096 : Int32) ≤ at0 := by rw [tle, i4096]; omega
      refine Or.inr ⟨by simp [h0, h2], if_pos h1, vp_in_iff.mpr ⟨by omega, by omega⟩, ?_⟩
      rw [iy_id (by omega) (by omega)]
      exact (h.2.2.1 _).symm
    · have h2 : (4096 : Int32) ≤ at0 := by rw [tlt, i4096] at h1; rw [tle, i4096]; omega
      exact Or.inl ⟨by simp [h2], if_neg h1⟩
end PU2
