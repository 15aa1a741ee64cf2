section LW2
variable {p : Program} {l : Launch} {e : Env} {s : State} {m : MethodId} {below : List Frame} {meth : Method} {c : Code} {cells slots : Nat}
variable {dC : Nat → ClassId} {dI : Nat → Nat → Nat} {cI cZ cB cJ : ClassId} {A : Nat → Prop} {ad am : Nat → Nat} {ao : Nat} {f : Nat → Int64} {σ μ : S2} {β ν : B2} {mk : Int64} {t b L : Nat} {xs : Nat → Int32} {i : Int32}
theorem tsw12 {x : Int32} (h : ∀ k : Nat, k ≤ 12 → ¬ x = nI k) : x.toInt < 0 ∨ 12 < x.toInt := by
  by_cases c : x.toInt < 0
  · exact Or.inl c
  · refine Or.inr (Int.not_le.mp fun q => ?_)
    obtain ⟨j, hj, rfl⟩ := vp_in_of (x := x) (n := 13) (vp_in_iff.mpr ⟨by omega, by omega⟩) (by omega)
    exact h j (by omega) rfl
theorem j_lwret {w : va_W} {pc : Nat} {lv : List (Nat × Value)} (hC : lC p s m c dC dI cI cZ cB cJ A b) (hr : meth.sig.returnType = ret) (hlk : meth.locks = false) (hA : ∀ q, A q → s.heap.size ≤ q) (h1 : cells ≤ 1074) (h2 : slots ≤ 19814) (hdg : decode code pc = .ok (.ireturn, 1)) : lJ p l e s m below meth c dC dI A b cells slots w pc lv [.int 1] := by
  refine j_widen h1 h2 ?_
  intro H locs ls g1 g2 g3 g4
  exact va_forget (fun q hq => hA _ (g3.2.2 q hq)) (lw_ret hC.x hC.b hr hlk hdg)
set_option maxHeartbeats 4000000 in
set_option maxRecDepth 100000 in
theorem lw_loop (hC : lC p s m c dC dI cI cZ cB cJ A b) (hX : va_X b L xs s s.heap) (hbl : b < s.heap.size) (hbA : ¬ A b) (hst : l.stackTraces = false) (hr : meth.sig.returnType = ret) (hlk : meth.locks = false) (hA : ∀ q, A q → s.heap.size ≤ q) (hL : L ≤ 2048) :
    ∀ (n k : Nat) (σ : S2) (β : B2) (mk : Int64) (μ : S2) (ν : B2) (f : Nat → Int64), L < 4 * k + 4 * n + 4 → k ≤ 512 → Inv k σ β mk μ ν →
      lJ p l e s m below meth c dC dI A b (36 + k) (11538 + 6 * k) (w1 ad am ao cI cZ cB cJ σ β mk f μ ν) 23 [(0, .ref b), (1, .ref (ad 0)), (2, .ref (am 0)), (3, .ref ao), (4, .int (nI (4 * k)))] [] := by
  intro n
  induction n with
  | zero =>
    intro k σ β mk μ ν f hn hk h
    refine j_iload hC 4 25 rfl d_law_23 rfl ?_
    refine j_aload_n hC 0 26 rfl d_law_25 rfl rfl ?_
    refine j_slen hC hX hbl hbA 27 rfl d_law_26 ?_
    refine j_iconst (v := 4) hC 28 rfl d_law_27 (by decide) ?_
    refine j_isub hC 29 rfl d_law_28 ?_
    have eL : (Int32.ofNat L - 4).toInt = (L : Int) - 4 := by
      have e1 : (Int32.ofNat L).toInt = (L : Int) := nI_toInt (by omega)
      rw [tsub (by rw [e1, i4]; omega) (by rw [e1, i4]; omega), e1, i4]
    have eK : (nI (4 * k)).toInt = ((4 * k : Nat) : Int) := nI_toInt (by omega)
    refine j_icmp_gt hC 762 32 rfl d_law_29 (by decide) (fun _ => j_iconst (v := 1) hC 763 rfl d_law_762 (by decide) (j_lwret hC hr hlk hA (by omega) (by omega) d_law_763)) (fun q => ?_)
    rw [tlt, eL, eK] at q
    exact absurd hn (by omega)
  | succ n ih =>
    intro k σ β mk μ ν f hn hk h
    refine j_iload hC 4 25 rfl d_law_23 rfl ?_
    refine j_aload_n hC 0 26 rfl d_law_25 rfl rfl ?_
    refine j_slen hC hX hbl hbA 27 rfl d_law_26 ?_
    refine j_iconst (v := 4) hC 28 rfl d_law_27 (by decide) ?_
    refine j_isub hC 29 rfl d_law_28 ?_
    have eL : (Int32.ofNat L - 4).toInt = (L : Int) - 4 := by
      have e1 : (Int32.ofNat L).toInt = (L : Int) := nI_toInt (by omega)
      rw [tsub (by rw [e1, i4]; omega) (by rw [e1, i4]; omega), e1, i4]
    have eK : (nI (4 * k)).toInt = ((4 * k : Nat) : Int) := nI_toInt (by omega)
    refine j_icmp_gt hC 762 32 rfl d_law_29 (by decide) (fun _ => j_iconst (v := 1) hC 763 rfl d_law_762 (by decide) (j_lwret hC hr hlk hA (by omega) (by omega) d_law_763)) (fun q => ?_)
    rw [tlt, eL, eK] at q
    have hv0 : vp_in (nI (4 * k)) L := vp_in_nI (by omega) (by omega)
    have hv1 : vp_in (nI (4 * k) + 1) L := by rw [show (1 : Int32) = nI 1 from rfl, nI_add]; exact vp_in_nI (by omega) (by omega)
    have hv2 : vp_in (nI (4 * k) + 2) L := by rw [show (2 : Int32) = nI 2 from rfl, nI_add]; exact vp_in_nI (by omega) (by omega)
    have hv3 : vp_in (nI (4 * k) + 3) L := by rw [show (3 : Int32) = nI 3 from rfl, nI_add]; exact vp_in_nI (by omega) (by omega)
    have ht : k < 1000 := by omega
    have hcc : 36 + k + 1 ≤ 1074 ∧ 11538 + 6 * k + 6 ≤ 19814 := by omega
    have kk : ∀ (σ' : S2) (β' : B2) (mk' : Int64) (μ' : S2) (ν' : B2) (f' : Nat → Int64), Inv (k + 1) σ' β' mk' μ' ν' → lJ p l e s m below meth c dC dI A b (36 + k + 1) (11538 + 6 * k + 6) (w1 ad am ao cI cZ cB cJ σ' β' mk' f' μ' ν') 756 [(0, .ref b), (1, .ref (ad 0)), (2, .ref (am 0)), (3, .ref ao), (4, .int (nI (4 * k)))] [] := by
      intro σ' β' mk' μ' ν' f' h'
      refine j_iinc (v := nI (4 * (k + 1))) (lv' := [(4, _), (0, _), (1, _), (2, _), (3, _)]) hC 4 759 rfl d_law_756 rfl (by rw [inc4, show (4 : Int32) = nI 4 from rfl, nI_add]; rfl) (by decide) rfl ?_
      refine j_goto hC 23 d_law_759 (by decide) ?_
      refine j_sub (lv' := [(0, .ref b), (1, .ref (ad 0)), (2, .ref (am 0)), (3, .ref ao), (4, .int (nI (4 * (k + 1))))]) [1, 2, 3, 4, 0] rfl ?_
      exact ih (k + 1) σ' β' mk' μ' ν' f' (by omega) (by omega) h'
    refine j_aload_n hC 0 33 rfl d_law_32 rfl rfl ?_
    refine j_iload hC 4 35 rfl d_law_33 rfl ?_
    refine j_sld hC hX hbl hbA hv0 36 rfl d_law_35 ?_
    refine j_bipush (v := 15) hC 38 rfl d_law_36 (by decide) ?_
    refine j_iand hC 39 rfl d_law_38 ?_
    refine j_topi (fun x _ => ?_)
    by_cases t0 : x = 0
    · refine j_tswIn (off := 65) hC 104 d_law_39 (by rw [t0]; decide) (by rw [t0]; decide) (by rw [t0]; rfl) (by decide) ?_
      exact lw_op hC hX hbl hbA hst h ht hv1 hv2 hv3 hcc kk
    by_cases t1 : x = 1
    · refine j_tswIn (off := 145) hC 184 d_law_39 (by rw [t1]; decide) (by rw [t1]; decide) (by rw [t1]; rfl) (by decide) ?_
      exact lw_address hC hX hbl hbA hst h ht hv1 hv2 hcc kk
    by_cases t2 : x = 2
    · refine j_tswIn (off := 213) hC 252 d_law_39 (by rw [t2]; decide) (by rw [t2]; decide) (by rw [t2]; rfl) (by decide) ?_
      exact lw_number hC hX hbl hbA hst h ht hv1 hv2 hcc kk
    by_cases t3 : x = 3
    · refine j_tswIn (off := 281) hC 320 d_law_39 (by rw [t3]; decide) (by rw [t3]; decide) (by rw [t3]; rfl) (by decide) ?_
      exact lw_tried hC hX hbl hbA hst h ht hv1 hcc kk
    by_cases t4 : x = 4
    · refine j_tswIn (off := 337) hC 376 d_law_39 (by rw [t4]; decide) (by rw [t4]; decide) (by rw [t4]; rfl) (by decide) ?_
      exact lw_loaded hC hX hbl hbA hst h ht hv1 hcc kk
    by_cases t5 : x = 5
    · refine j_tswIn (off := 393) hC 432 d_law_39 (by rw [t5]; decide) (by rw [t5]; decide) (by rw [t5]; rfl) (by decide) ?_
      exact lw_source hC hX hbl hbA hst h ht hv1 hv2 hcc kk
    by_cases t6 : x = 6
    · refine j_tswIn (off := 461) hC 500 d_law_39 (by rw [t6]; decide) (by rw [t6]; decide) (by rw [t6]; rfl) (by decide) ?_
      exact lw_leave hC hX hbl hbA hst h ht  hcc kk
    by_cases t7 : x = 7
    · refine j_tswIn (off := 474) hC 513 d_law_39 (by rw [t7]; decide) (by rw [t7]; decide) (by rw [t7]; rfl) (by decide) ?_
      exact lw_drain hC hX hbl hbA hst h ht  hcc kk
    by_cases t8 : x = 8
    · refine j_tswIn (off := 487) hC 526 d_law_39 (by rw [t8]; decide) (by rw [t8]; decide) (by rw [t8]; rfl) (by decide) ?_
      exact lw_other hC hX hbl hbA hst h ht hv1 hv2 hcc kk
    by_cases t9 : x = 9
    · refine j_tswIn (off := 555) hC 594 d_law_39 (by rw [t9]; decide) (by rw [t9]; decide) (by rw [t9]; rfl) (by decide) ?_
      exact lw_memory hC hX hbl hbA hst h ht hv1 hcc kk
    by_cases t10 : x = 10
    · refine j_tswIn (off := 611) hC 650 d_law_39 (by rw [t10]; decide) (by rw [t10]; decide) (by rw [t10]; rfl) (by decide) ?_
      exact lw_forget hC hX hbl hbA hst h ht hv1 hcc kk
    by_cases t11 : x = 11
    · refine j_tswIn (off := 667) hC 706 d_law_39 (by rw [t11]; decide) (by rw [t11]; decide) (by rw [t11]; rfl) (by decide) ?_
      exact lw_marked hC hX hbl hbA hst h ht hv1 hcc kk
    by_cases t12 : x = 12
    · refine j_tswIn (off := 692) hC 731 d_law_39 (by rw [t12]; decide) (by rw [t12]; decide) (by rw [t12]; rfl) (by decide) ?_
      exact lw_count hC hX hbl hbA hst h ht hv1 hcc kk
    refine j_tswOut hC 756 d_law_39 (tsw12 (fun j hj q => ?_)) (by decide) (j_widen (Nat.le_succ _) (Nat.le_add_right _ 6) (kk σ β mk μ ν f (h.up ht)))
    have hj : j = 0 ∨ j = 1 ∨ j = 2 ∨ j = 3 ∨ j = 4 ∨ j = 5 ∨ j = 6 ∨ j = 7 ∨ j = 8 ∨ j = 9 ∨ j = 10 ∨ j = 11 ∨ j = 12 := by omega
    rcases hj with rfl | rfl | rfl | rfl | rfl | rfl | rfl | rfl | rfl | rfl | rfl | rfl | rfl
    · exact t0 q
    · exact t1 q
    · exact t2 q
    · exact t3 q
    · exact t4 q
    · exact t5 q
    · exact t6 q
    · exact t7 q
    · exact t8 q
    · exact t9 q
    · exact t10 q
    · exact t11 q
    · exact t12 q
end LW2
