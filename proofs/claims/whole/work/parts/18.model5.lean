section KC
variable {l : Launch} {dC : Nat → ClassId} {dI : Nat → Nat → Nat} {cI cZ cB cJ : ClassId} {ad : Nat → Nat} {σ : S2} {β : B2} {mk : Int64} {ρ : va_W} {am : Nat → Nat} {μ : S2} {ν : B2}
set_option maxHeartbeats 4000000 in
set_option maxRecDepth 100000 in
theorem c_M_loaded_thr {t : Int32} {op : Int32} (ht : loTh μ ν op = t) (h : ¬ t ≤ 0) : kM l dC dI cI cZ cB cJ y_M_loaded b_M_loaded 4 (some .int) 1 21 [.ref (am 0), .int op] (wM am cI cZ μ ν ρ) (some (.int (0))) (wM am cI cZ (sS μ 0 t) ν ρ) := by
  refine jM.of (lv := [(0, .ref (am 0)), (1, .int op)]) (own := R_M) jE_loc (by decide) rfl rfl (Nat.le_of_ble_eq_true rfl) rfl ?_
  intro p e s m args below meth c A hC hr hlk
  have jn : ∀ x : Int32, x = loTh μ ν op → kJ l dC dI p e s m args below meth c A 1 21 4 (some (.int (0))) (wM am cI cZ (sS μ 0 t) ν ρ) (wM am cI cZ μ ν ρ) 86 [(3, .int (bI (isM μ ν op))), (2, .int (op &&& 127)), (0, .ref (am 0)), (1, .int op)] [.int x, .ref (am 0)] := by
    intro x hx
    obtain rfl : x = t := hx.trans ht
    refine p_M_thrown hC 89 rfl d_M_loaded_86 ?_
    refine j_aload_n hC 2 90 rfl d_M_loaded_89 rfl rfl ?_
    refine g_M_thrown hC 93 rfl d_M_loaded_90 ?_
    refine j_if_le hC 100 96 rfl d_M_loaded_93 (by decide) (fun c_93 => absurd c_93 h) (fun c_93 => ?_)
    refine j_iconst (v := 0) hC 97 rfl d_M_loaded_96 (by decide) ?_
    refine j_goto hC 106 d_M_loaded_97 (by decide) ?_
    exact j_iret hC hr hlk d_M_loaded_106 rfl rfl
  have jb : ∀ b : Bool, b = isM μ ν op → kJ l dC dI p e s m args below meth c A 1 21 4 (some (.int (0))) (wM am cI cZ (sS μ 0 t) ν ρ) (wM am cI cZ μ ν ρ) 46 [(2, .int (op &&& 127)), (0, .ref (am 0)), (1, .int op)] [.int (bI b)] := by
    intro b hb9
    subst hb9
    refine j_istore_n (lv' := [(3, _), (2, _), (0, _), (1, _)]) hC 47 rfl d_M_loaded_46 rfl (by decide) rfl ?_
    refine j_aload_n hC 2 48 rfl d_M_loaded_47 rfl rfl ?_
    refine j_aload_n hC 2 49 rfl d_M_loaded_48 rfl rfl ?_
    refine j_iload_n hC 3 50 rfl d_M_loaded_49 rfl rfl ?_
    refine j_callVi hC jE_loc jT_good (As := [_]) c_M_isOp yk_M_isOp lk_M_88 ⟨rfl, rfl⟩ ⟨Nat.le_of_ble_eq_true rfl, Nat.le_of_ble_eq_true rfl⟩ 0 rfl rfl rfl rfl (Nat.le_of_ble_eq_true rfl) ⟨Nat.zero_le _, Nat.zero_le _⟩ d_M_loaded_50 53 rfl rfl ?_
    refine j_if_ne hC 60 56 rfl d_M_loaded_53 (by decide) (fun c_53 => ?_) (fun c_53 => ?_)
    · refine j_aload_n hC 2 61 rfl d_M_loaded_60 rfl rfl ?_
      refine g_M_total hC 64 rfl d_M_loaded_61 ?_
      refine j_iconst (v := 1) hC 65 rfl d_M_loaded_64 (by decide) ?_
      refine j_isub hC 66 rfl d_M_loaded_65 ?_
      refine j_iload_n hC 3 67 rfl d_M_loaded_66 rfl rfl ?_
      refine j_isub hC 68 rfl d_M_loaded_67 ?_
      refine j_bipush (v := 64) hC 70 rfl d_M_loaded_68 (by decide) ?_
      refine j_icmp_lt hC 77 73 rfl d_M_loaded_70 (by decide) (fun c_70 => ?_) (fun c_70 => ?_)
      · refine j_iload_n hC 0 78 rfl d_M_loaded_77 rfl rfl ?_
        refine j_if_ne hC 85 81 rfl d_M_loaded_78 (by decide) (fun c_78 => ?_) (fun c_78 => ?_)
        · refine j_iconst (v := 0) hC 86 rfl d_M_loaded_85 (by decide) ?_
          exact jn _ (by simp [loTh, bI1 c_53, c_70, bI1 c_78])
        · refine j_iconst (v := 2) hC 82 rfl d_M_loaded_81 (by decide) ?_
          refine j_goto hC 86 d_M_loaded_82 (by decide) ?_
          exact jn _ (by simp [loTh, bI1 c_53, c_70, bI0 c_78])
      · refine j_iconst (v := 3) hC 74 rfl d_M_loaded_73 (by decide) ?_
        refine j_goto hC 86 d_M_loaded_74 (by decide) ?_
        exact jn _ (by simp [loTh, bI1 c_53, c_70])
    · refine j_iconst (v := 1) hC 57 rfl d_M_loaded_56 (by decide) ?_
      refine j_goto hC 86 d_M_loaded_57 (by decide) ?_
      exact jn _ (by simp [loTh, bI0 c_53])
  refine j_iload_n hC 1 1 rfl d_M_loaded_0 rfl rfl ?_
  refine j_bipush (v := 127) hC 3 rfl d_M_loaded_1 (by decide) ?_
  refine j_iand hC 4 rfl d_M_loaded_3 ?_
  refine j_istore_n (lv' := [(2, _), (0, _), (1, _)]) hC 5 rfl d_M_loaded_4 rfl (by decide) rfl ?_
  refine j_aload_n hC 1 6 rfl d_M_loaded_5 rfl rfl ?_
  refine g_M_kinds hC 9 rfl d_M_loaded_6 ?_
  refine j_iload_n hC 0 10 rfl d_M_loaded_9 rfl rfl ?_
  refine ld_M_kinds hC (ix_in _) 11 rfl d_M_loaded_10 ?_
  refine j_if_ne hC 23 14 rfl d_M_loaded_11 (by decide) (fun c_11 => ?_) (fun c_11 => ?_)
  · refine j_aload_n hC 1 24 rfl d_M_loaded_23 rfl rfl ?_
    refine g_M_kinds hC 27 rfl d_M_loaded_24 ?_
    refine j_iload_n hC 0 28 rfl d_M_loaded_27 rfl rfl ?_
    refine ld_M_kinds hC (ix_in _) 29 rfl d_M_loaded_28 ?_
    refine j_iconst (v := 3) hC 30 rfl d_M_loaded_29 (by decide) ?_
    refine j_icmp_ne hC 45 33 rfl d_M_loaded_30 (by decide) (fun c_30 => ?_) (fun c_30 => ?_)
    · refine j_iconst (v := (bI false)) hC 46 rfl d_M_loaded_45 rfl ?_
      exact jb _ (by first | (simp [isM, ix, c_11, c_30]; done) | exact absurd (c_11.symm.trans c_30) (by decide))
    · refine j_iload_n hC 2 34 rfl d_M_loaded_33 rfl rfl ?_
      refine j_aload_n hC 1 35 rfl d_M_loaded_34 rfl rfl ?_
      refine g_M_oldest hC 38 rfl d_M_loaded_35 ?_
      refine j_icmp_ge hC 45 41 rfl d_M_loaded_38 (by decide) (fun c_38 => ?_) (fun c_38 => ?_)
      · refine j_iconst (v := (bI false)) hC 46 rfl d_M_loaded_45 rfl ?_
        exact jb _ (by first | (simp [isM, ix, c_11, c_30, c_38]; done) | exact absurd (c_11.symm.trans c_30) (by decide))
      · refine j_iconst (v := (bI true)) hC 42 rfl d_M_loaded_41 rfl ?_
        refine j_goto hC 46 d_M_loaded_42 (by decide) ?_
        exact jb _ (by first | (simp [isM, ix, c_11, c_30, c_38]; done) | exact absurd (c_11.symm.trans c_30) (by decide))
  · refine j_aload_n hC 1 15 rfl d_M_loaded_14 rfl rfl ?_
    refine g_M_done hC 18 rfl d_M_loaded_15 ?_
    refine j_iload_n hC 0 19 rfl d_M_loaded_18 rfl rfl ?_
    refine ld_M_done hC (ix_in _) 20 rfl d_M_loaded_19 ?_
    refine j_if_ne hC 41 23 rfl d_M_loaded_20 (by decide) (fun c_20 => ?_) (fun c_20 => ?_)
    · refine j_iconst (v := (bI true)) hC 42 rfl d_M_loaded_41 rfl ?_
      refine j_goto hC 46 d_M_loaded_42 (by decide) ?_
      exact jb _ (by first | (simp [isM, ix, c_11, bI1 c_20]; done) | exact absurd (c_11.symm.trans c_30) (by decide))
    · refine j_aload_n hC 1 24 rfl d_M_loaded_23 rfl rfl ?_
      refine g_M_kinds hC 27 rfl d_M_loaded_24 ?_
      refine j_iload_n hC 0 28 rfl d_M_loaded_27 rfl rfl ?_
      refine ld_M_kinds hC (ix_in _) 29 rfl d_M_loaded_28 ?_
      refine j_iconst (v := 3) hC 30 rfl d_M_loaded_29 (by decide) ?_
      refine j_icmp_ne hC 45 33 rfl d_M_loaded_30 (by decide) (fun c_30 => ?_) (fun c_30 => ?_)
      · refine j_iconst (v := (bI false)) hC 46 rfl d_M_loaded_45 rfl ?_
        exact jb _ (by first | (simp [isM, ix, c_11, bI0 c_20, c_30]; done) | exact absurd (c_11.symm.trans c_30) (by decide))
      · refine j_iload_n hC 2 34 rfl d_M_loaded_33 rfl rfl ?_
        refine j_aload_n hC 1 35 rfl d_M_loaded_34 rfl rfl ?_
        refine g_M_oldest hC 38 rfl d_M_loaded_35 ?_
        refine j_icmp_ge hC 45 41 rfl d_M_loaded_38 (by decide) (fun c_38 => ?_) (fun c_38 => ?_)
        · refine j_iconst (v := (bI false)) hC 46 rfl d_M_loaded_45 rfl ?_
          exact jb _ (by first | (simp [isM, ix, c_11, bI0 c_20, c_30, c_38]; done) | exact absurd (c_11.symm.trans c_30) (by decide))
        · refine j_iconst (v := (bI true)) hC 42 rfl d_M_loaded_41 rfl ?_
          refine j_goto hC 46 d_M_loaded_42 (by decide) ?_
          exact jb _ (by first | (simp [isM, ix, c_11, bI0 c_20, c_30, c_38]; done) | exact absurd (c_11.symm.trans c_30) (by decide))
set_option maxHeartbeats 4000000 in
set_option maxRecDepth 100000 in
theorem c_M_loaded_ok {op : Int32} (ht : loTh μ ν op = 0)  : kM l dC dI cI cZ cB cJ y_M_loaded b_M_loaded 4 (some .int) 1 21 [.ref (am 0), .int op] (wM am cI cZ μ ν ρ) (some (.int (μ 17 (ix op)))) (wM am cI cZ (sS μ 0 0) ν ρ) := by
  refine jM.of (lv := [(0, .ref (am 0)), (1, .int op)]) (own := R_M) jE_loc (by decide) rfl rfl (Nat.le_of_ble_eq_true rfl) rfl ?_
  intro p e s m args below meth c A hC hr hlk
  have jn : ∀ x : Int32, x = loTh μ ν op → kJ l dC dI p e s m args below meth c A 1 21 4 (some (.int (μ 17 (ix op)))) (wM am cI cZ (sS μ 0 0) ν ρ) (wM am cI cZ μ ν ρ) 86 [(3, .int (bI (isM μ ν op))), (2, .int (op &&& 127)), (0, .ref (am 0)), (1, .int op)] [.int x, .ref (am 0)] := by
    intro x hx
    obtain rfl : x = 0 := hx.trans ht
    refine p_M_thrown hC 89 rfl d_M_loaded_86 ?_
    refine j_aload_n hC 2 90 rfl d_M_loaded_89 rfl rfl ?_
    refine g_M_thrown hC 93 rfl d_M_loaded_90 ?_
    refine j_if_le hC 100 96 rfl d_M_loaded_93 (by decide) (fun c_93 => ?_) (fun c_93 => absurd c_93 (fun q => q (Int32.le_refl 0)))
    refine j_aload_n hC 2 101 rfl d_M_loaded_100 rfl rfl ?_
    refine g_M_results hC 104 rfl d_M_loaded_101 ?_
    refine j_iload_n hC 1 105 rfl d_M_loaded_104 rfl rfl ?_
    refine ld_M_results hC (ix_in _) 106 rfl d_M_loaded_105 ?_
    exact j_iret hC hr hlk d_M_loaded_106 rfl rfl
  have jb : ∀ b : Bool, b = isM μ ν op → kJ l dC dI p e s m args below meth c A 1 21 4 (some (.int (μ 17 (ix op)))) (wM am cI cZ (sS μ 0 0) ν ρ) (wM am cI cZ μ ν ρ) 46 [(2, .int (op &&& 127)), (0, .ref (am 0)), (1, .int op)] [.int (bI b)] := by
    intro b hb9
    subst hb9
    refine j_istore_n (lv' := [(3, _), (2, _), (0, _), (1, _)]) hC 47 rfl d_M_loaded_46 rfl (by decide) rfl ?_
    refine j_aload_n hC 2 48 rfl d_M_loaded_47 rfl rfl ?_
    refine j_aload_n hC 2 49 rfl d_M_loaded_48 rfl rfl ?_
    refine j_iload_n hC 3 50 rfl d_M_loaded_49 rfl rfl ?_
    refine j_callVi hC jE_loc jT_good (As := [_]) c_M_isOp yk_M_isOp lk_M_88 ⟨rfl, rfl⟩ ⟨Nat.le_of_ble_eq_true rfl, Nat.le_of_ble_eq_true rfl⟩ 0 rfl rfl rfl rfl (Nat.le_of_ble_eq_true rfl) ⟨Nat.zero_le _, Nat.zero_le _⟩ d_M_loaded_50 53 rfl rfl ?_
    refine j_if_ne hC 60 56 rfl d_M_loaded_53 (by decide) (fun c_53 => ?_) (fun c_53 => ?_)
    · refine j_aload_n hC 2 61 rfl d_M_loaded_60 rfl rfl ?_
      refine g_M_total hC 64 rfl d_M_loaded_61 ?_
      refine j_iconst (v := 1) hC 65 rfl d_M_loaded_64 (by decide) ?_
      refine j_isub hC 66 rfl d_M_loaded_65 ?_
      refine j_iload_n hC 3 67 rfl d_M_loaded_66 rfl rfl ?_
      refine j_isub hC 68 rfl d_M_loaded_67 ?_
      refine j_bipush (v := 64) hC 70 rfl d_M_loaded_68 (by decide) ?_
      refine j_icmp_lt hC 77 73 rfl d_M_loaded_70 (by decide) (fun c_70 => ?_) (fun c_70 => ?_)
      · refine j_iload_n hC 0 78 rfl d_M_loaded_77 rfl rfl ?_
        refine j_if_ne hC 85 81 rfl d_M_loaded_78 (by decide) (fun c_78 => ?_) (fun c_78 => ?_)
        · refine j_iconst (v := 0) hC 86 rfl d_M_loaded_85 (by decide) ?_
          exact jn _ (by simp [loTh, bI1 c_53, c_70, bI1 c_78])
        · refine j_iconst (v := 2) hC 82 rfl d_M_loaded_81 (by decide) ?_
          refine j_goto hC 86 d_M_loaded_82 (by decide) ?_
          exact jn _ (by simp [loTh, bI1 c_53, c_70, bI0 c_78])
      · refine j_iconst (v := 3) hC 74 rfl d_M_loaded_73 (by decide) ?_
        refine j_goto hC 86 d_M_loaded_74 (by decide) ?_
        exact jn _ (by simp [loTh, bI1 c_53, c_70])
    · refine j_iconst (v := 1) hC 57 rfl d_M_loaded_56 (by decide) ?_
      refine j_goto hC 86 d_M_loaded_57 (by decide) ?_
      exact jn _ (by simp [loTh, bI0 c_53])
  refine j_iload_n hC 1 1 rfl d_M_loaded_0 rfl rfl ?_
  refine j_bipush (v := 127) hC 3 rfl d_M_loaded_1 (by decide) ?_
  refine j_iand hC 4 rfl d_M_loaded_3 ?_
  refine j_istore_n (lv' := [(2, _), (0, _), (1, _)]) hC 5 rfl d_M_loaded_4 rfl (by decide) rfl ?_
  refine j_aload_n hC 1 6 rfl d_M_loaded_5 rfl rfl ?_
  refine g_M_kinds hC 9 rfl d_M_loaded_6 ?_
  refine j_iload_n hC 0 10 rfl d_M_loaded_9 rfl rfl ?_
  refine ld_M_kinds hC (ix_in _) 11 rfl d_M_loaded_10 ?_
  refine j_if_ne hC 23 14 rfl d_M_loaded_11 (by decide) (fun c_11 => ?_) (fun c_11 => ?_)
  · refine j_aload_n hC 1 24 rfl d_M_loaded_23 rfl rfl ?_
    refine g_M_kinds hC 27 rfl d_M_loaded_24 ?_
    refine j_iload_n hC 0 28 rfl d_M_loaded_27 rfl rfl ?_
    refine ld_M_kinds hC (ix_in _) 29 rfl d_M_loaded_28 ?_
    refine j_iconst (v := 3) hC 30 rfl d_M_loaded_29 (by decide) ?_
    refine j_icmp_ne hC 45 33 rfl d_M_loaded_30 (by decide) (fun c_30 => ?_) (fun c_30 => ?_)
    · refine j_iconst (v := (bI false)) hC 46 rfl d_M_loaded_45 rfl ?_
      exact jb _ (by first | (simp [isM, ix, c_11, c_30]; done) | exact absurd (c_11.symm.trans c_30) (by decide))
    · refine j_iload_n hC 2 34 rfl d_M_loaded_33 rfl rfl ?_
      refine j_aload_n hC 1 35 rfl d_M_loaded_34 rfl rfl ?_
      refine g_M_oldest hC 38 rfl d_M_loaded_35 ?_
      refine j_icmp_ge hC 45 41 rfl d_M_loaded_38 (by decide) (fun c_38 => ?_) (fun c_38 => ?_)
      · refine j_iconst (v := (bI false)) hC 46 rfl d_M_loaded_45 rfl ?_
        exact jb _ (by first | (simp [isM, ix, c_11, c_30, c_38]; done) | exact absurd (c_11.symm.trans c_30) (by decide))
      · refine j_iconst (v := (bI true)) hC 42 rfl d_M_loaded_41 rfl ?_
        refine j_goto hC 46 d_M_loaded_42 (by decide) ?_
        exact jb _ (by first | (simp [isM, ix, c_11, c_30, c_38]; done) | exact absurd (c_11.symm.trans c_30) (by decide))
  · refine j_aload_n hC 1 15 rfl d_M_loaded_14 rfl rfl ?_
    refine g_M_done hC 18 rfl d_M_loaded_15 ?_
    refine j_iload_n hC 0 19 rfl d_M_loaded_18 rfl rfl ?_
    refine ld_M_done hC (ix_in _) 20 rfl d_M_loaded_19 ?_
    refine j_if_ne hC 41 23 rfl d_M_loaded_20 (by decide) (fun c_20 => ?_) (fun c_20 => ?_)
    · refine j_iconst (v := (bI true)) hC 42 rfl d_M_loaded_41 rfl ?_
      refine j_goto hC 46 d_M_loaded_42 (by decide) ?_
      exact jb _ (by first | (simp [isM, ix, c_11, bI1 c_20]; done) | exact absurd (c_11.symm.trans c_30) (by decide))
    · refine j_aload_n hC 1 24 rfl d_M_loaded_23 rfl rfl ?_
      refine g_M_kinds hC 27 rfl d_M_loaded_24 ?_
      refine j_iload_n hC 0 28 rfl d_M_loaded_27 rfl rfl ?_
      refine ld_M_kinds hC (ix_in _) 29 rfl d_M_loaded_28 ?_
      refine j_iconst (v := 3) hC 30 rfl d_M_loaded_29 (by decide) ?_
      refine j_icmp_ne hC 45 33 rfl d_M_loaded_30 (by decide) (fun c_30 => ?_) (fun c_30 => ?_)
      · refine j_iconst (v := (bI false)) hC 46 rfl d_M_loaded_45 rfl ?_
        exact jb _ (by first | (simp [isM, ix, c_11, bI0 c_20, c_30]; done) | exact absurd (c_11.symm.trans c_30) (by decide))
      · refine j_iload_n hC 2 34 rfl d_M_loaded_33 rfl rfl ?_
        refine j_aload_n hC 1 35 rfl d_M_loaded_34 rfl rfl ?_
        refine g_M_oldest hC 38 rfl d_M_loaded_35 ?_
        refine j_icmp_ge hC 45 41 rfl d_M_loaded_38 (by decide) (fun c_38 => ?_) (fun c_38 => ?_)
        · refine j_iconst (v := (bI false)) hC 46 rfl d_M_loaded_45 rfl ?_
          exact jb _ (by first | (simp [isM, ix, c_11, bI0 c_20, c_30, c_38]; done) | exact absurd (c_11.symm.trans c_30) (by decide))
        · refine j_iconst (v := (bI true)) hC 42 rfl d_M_loaded_41 rfl ?_
          refine j_goto hC 46 d_M_loaded_42 (by decide) ?_
          exact jb _ (by first | (simp [isM, ix, c_11, bI0 c_20, c_30, c_38]; done) | exact absurd (c_11.symm.trans c_30) (by decide))
set_option maxHeartbeats 4000000 in
set_option maxRecDepth 100000 in
theorem c_M_source_thr {t : Int32} {op k : Int32} (ht : srTh μ ν op k = t) (h : ¬ t ≤ 0) : kM l dC dI cI cZ cB cJ y_M_source b_M_source 4 (some .int) 1 21 [.ref (am 0), .int op, .int k] (wM am cI cZ μ ν ρ) (some (.int (0))) (wM am cI cZ (sS μ 0 t) ν ρ) := by
  refine jM.of (lv := [(0, .ref (am 0)), (1, .int op), (2, .int k)]) (own := R_M) jE_loc (by decide) rfl rfl (Nat.le_of_ble_eq_true rfl) rfl ?_
  intro p e s m args below meth c A hC hr hlk
  have jn : ∀ x : Int32, x = srTh μ ν op k → kJ l dC dI p e s m args below meth c A 1 21 4 (some (.int (0))) (wM am cI cZ (sS μ 0 t) ν ρ) (wM am cI cZ μ ν ρ) 57 [(3, .int (op &&& 127)), (0, .ref (am 0)), (1, .int op), (2, .int k)] [.int x, .ref (am 0)] := by
    intro x hx
    obtain rfl : x = t := hx.trans ht
    refine p_M_thrown hC 60 rfl d_M_source_57 ?_
    refine j_aload_n hC 1 61 rfl d_M_source_60 rfl rfl ?_
    refine g_M_thrown hC 64 rfl d_M_source_61 ?_
    refine j_if_le hC 69 67 rfl d_M_source_64 (by decide) (fun c_64 => absurd c_64 h) (fun c_64 => ?_)
    refine j_iconst (v := 0) hC 68 rfl d_M_source_67 (by decide) ?_
    exact j_iret hC hr hlk d_M_source_68 rfl rfl
  refine j_iload_n hC 1 1 rfl d_M_source_0 rfl rfl ?_
  refine j_bipush (v := 127) hC 3 rfl d_M_source_1 (by decide) ?_
  refine j_iand hC 4 rfl d_M_source_3 ?_
  refine j_istore_n (lv' := [(3, _), (0, _), (1, _), (2, _)]) hC 5 rfl d_M_source_4 rfl (by decide) rfl ?_
  refine j_aload_n hC 1 6 rfl d_M_source_5 rfl rfl ?_
  refine j_aload_n hC 1 7 rfl d_M_source_6 rfl rfl ?_
  refine j_iload_n hC 2 8 rfl d_M_source_7 rfl rfl ?_
  refine j_callVi hC jE_loc jT_good (As := [_]) c_M_isOp yk_M_isOp lk_M_88 ⟨rfl, rfl⟩ ⟨Nat.le_of_ble_eq_true rfl, Nat.le_of_ble_eq_true rfl⟩ 0 rfl rfl rfl rfl (Nat.le_of_ble_eq_true rfl) ⟨Nat.zero_le _, Nat.zero_le _⟩ d_M_source_8 11 rfl rfl ?_
  refine j_if_ne hC 18 14 rfl d_M_source_11 (by decide) (fun c_11 => ?_) (fun c_11 => ?_)
  · refine j_aload_n hC 1 19 rfl d_M_source_18 rfl rfl ?_
    refine j_iload_n hC 2 20 rfl d_M_source_19 rfl rfl ?_
    refine j_callVi hC jE_loc jT_good (As := [_]) c_M_waits yk_M_waits lk_M_84 ⟨rfl, rfl⟩ ⟨Nat.le_of_ble_eq_true rfl, Nat.le_of_ble_eq_true rfl⟩ 0 rfl rfl rfl rfl (Nat.le_of_ble_eq_true rfl) ⟨Nat.zero_le _, Nat.zero_le _⟩ d_M_source_20 23 rfl rfl ?_
    refine j_if_eq hC 34 26 rfl d_M_source_23 (by decide) (fun c_23 => ?_) (fun c_23 => ?_)
    · refine j_iconst (v := 2) hC 35 rfl d_M_source_34 (by decide) ?_
      refine j_goto hC 57 d_M_source_35 (by decide) ?_
      exact jn _ (by simp [srTh, ix, bI1 c_11, bI0 c_23])
    · refine j_aload_n hC 1 27 rfl d_M_source_26 rfl rfl ?_
      refine j_iload_n hC 2 28 rfl d_M_source_27 rfl rfl ?_
      refine j_callVi hC jE_loc jT_good (As := [_]) c_M_isDone yk_M_isDone lk_M_94 ⟨rfl, rfl⟩ ⟨Nat.le_of_ble_eq_true rfl, Nat.le_of_ble_eq_true rfl⟩ 0 rfl rfl rfl rfl (Nat.le_of_ble_eq_true rfl) ⟨Nat.zero_le _, Nat.zero_le _⟩ d_M_source_28 31 rfl rfl ?_
      refine j_if_ne hC 38 34 rfl d_M_source_31 (by decide) (fun c_31 => ?_) (fun c_31 => ?_)
      · refine j_iload_n hC 3 39 rfl d_M_source_38 rfl rfl ?_
        refine j_if_lt hC 52 42 rfl d_M_source_39 (by decide) (fun c_39 => ?_) (fun c_39 => ?_)
        · refine j_iconst (v := 3) hC 53 rfl d_M_source_52 (by decide) ?_
          refine j_goto hC 57 d_M_source_53 (by decide) ?_
          exact jn _ (by simp [srTh, ix, bI1 c_11, bI1 c_23, bI1 c_31, c_39])
        · refine j_iload_n hC 3 43 rfl d_M_source_42 rfl rfl ?_
          refine j_aload_n hC 1 44 rfl d_M_source_43 rfl rfl ?_
          refine g_M_sizes hC 47 rfl d_M_source_44 ?_
          refine j_iload_n hC 0 48 rfl d_M_source_47 rfl rfl ?_
          refine ld_M_sizes hC (ix_in _) 49 rfl d_M_source_48 ?_
          refine j_icmp_lt hC 56 52 rfl d_M_source_49 (by decide) (fun c_49 => ?_) (fun c_49 => ?_)
          · refine j_iconst (v := 0) hC 57 rfl d_M_source_56 (by decide) ?_
            exact jn _ (by simp [srTh, ix, bI1 c_11, bI1 c_23, bI1 c_31, c_39, c_49])
          · refine j_iconst (v := 3) hC 53 rfl d_M_source_52 (by decide) ?_
            refine j_goto hC 57 d_M_source_53 (by decide) ?_
            exact jn _ (by simp [srTh, ix, bI1 c_11, bI1 c_23, bI1 c_31, c_39, c_49])
      · refine j_iconst (v := 2) hC 35 rfl d_M_source_34 (by decide) ?_
        refine j_goto hC 57 d_M_source_35 (by decide) ?_
        exact jn _ (by simp [srTh, ix, bI1 c_11, bI1 c_23, bI0 c_31])
  · refine j_iconst (v := 1) hC 15 rfl d_M_source_14 (by decide) ?_
    refine j_goto hC 57 d_M_source_15 (by decide) ?_
    exact jn _ (by simp [srTh, ix, bI0 c_11])
set_option maxHeartbeats 4000000 in
set_option maxRecDepth 100000 in
theorem c_M_source_ok {op k : Int32} (ht : srTh μ ν op k = 0) (hz : ∀ i, μ 13 i ≤ 4) (hk : 0 ≤ k) (hk2 : ¬ μ 13 (ix op) ≤ k) : kM l dC dI cI cZ cB cJ y_M_source b_M_source 4 (some .int) 1 21 [.ref (am 0), .int op, .int k] (wM am cI cZ μ ν ρ) (some (.int (if μ 20 (4 * (op &&& 127) + k).toNatClampNeg < 0 then -1 else μ 20 (4 * (op &&& 127) + k).toNatClampNeg))) (wM am cI cZ (sS μ 0 0) ν ρ) := by
  refine jM.of (lv := [(0, .ref (am 0)), (1, .int op), (2, .int k)]) (own := R_M) jE_loc (by decide) rfl rfl (Nat.le_of_ble_eq_true rfl) rfl ?_
  intro p e s m args below meth c A hC hr hlk
  have jn : ∀ x : Int32, x = srTh μ ν op k → kJ l dC dI p e s m args below meth c A 1 21 4 (some (.int (if μ 20 (4 * (op &&& 127) + k).toNatClampNeg < 0 then -1 else μ 20 (4 * (op &&& 127) + k).toNatClampNeg))) (wM am cI cZ (sS μ 0 0) ν ρ) (wM am cI cZ μ ν ρ) 57 [(3, .int (op &&& 127)), (0, .ref (am 0)), (1, .int op), (2, .int k)] [.int x, .ref (am 0)] := by
    intro x hx
    obtain rfl : x = 0 := hx.trans ht
    refine p_M_thrown hC 60 rfl d_M_source_57 ?_
    refine j_aload_n hC 1 61 rfl d_M_source_60 rfl rfl ?_
    refine g_M_thrown hC 64 rfl d_M_source_61 ?_
    refine j_if_le hC 69 67 rfl d_M_source_64 (by decide) (fun c_64 => ?_) (fun c_64 => absurd c_64 (fun q => q (Int32.le_refl 0)))
    refine j_aload_n hC 1 70 rfl d_M_source_69 rfl rfl ?_
    refine g_M_from hC 73 rfl d_M_source_70 ?_
    refine j_iconst (v := 4) hC 74 rfl d_M_source_73 (by decide) ?_
    refine j_iload_n hC 0 75 rfl d_M_source_74 rfl rfl ?_
    refine j_imul hC 76 rfl d_M_source_75 ?_
    refine j_iload_n hC 3 77 rfl d_M_source_76 rfl rfl ?_
    refine j_iadd hC 78 rfl d_M_source_77 ?_
    refine ld_M_from hC (fr_in hk hk2 (hz _)) 79 rfl d_M_source_78 ?_
    refine j_if_lt hC 95 82 rfl d_M_source_79 (by decide) (fun c_79 => ?_) (fun c_79 => ?_)
    · refine j_iconst (v := (-1)) hC 96 rfl d_M_source_95 (by decide) ?_
      exact j_iret hC hr hlk d_M_source_96 (by first | exact (if_pos (c := μ 20 (4 * (op &&& 127) + k).toNatClampNeg < 0) c_79).symm | exact (if_neg (c := μ 20 (4 * (op &&& 127) + k).toNatClampNeg < 0) c_79).symm) rfl
    · refine j_aload_n hC 1 83 rfl d_M_source_82 rfl rfl ?_
      refine g_M_from hC 86 rfl d_M_source_83 ?_
      refine j_iconst (v := 4) hC 87 rfl d_M_source_86 (by decide) ?_
      refine j_iload_n hC 0 88 rfl d_M_source_87 rfl rfl ?_
      refine j_imul hC 89 rfl d_M_source_88 ?_
      refine j_iload_n hC 3 90 rfl d_M_source_89 rfl rfl ?_
      refine j_iadd hC 91 rfl d_M_source_90 ?_
      refine ld_M_from hC (fr_in hk hk2 (hz _)) 92 rfl d_M_source_91 ?_
      refine j_goto hC 96 d_M_source_92 (by decide) ?_
      exact j_iret hC hr hlk d_M_source_96 (by first | exact (if_pos (c := μ 20 (4 * (op &&& 127) + k).toNatClampNeg < 0) c_79).symm | exact (if_neg (c := μ 20 (4 * (op &&& 127) + k).toNatClampNeg < 0) c_79).symm) rfl
  refine j_iload_n hC 1 1 rfl d_M_source_0 rfl rfl ?_
  refine j_bipush (v := 127) hC 3 rfl d_M_source_1 (by decide) ?_
  refine j_iand hC 4 rfl d_M_source_3 ?_
  refine j_istore_n (lv' := [(3, _), (0, _), (1, _), (2, _)]) hC 5 rfl d_M_source_4 rfl (by decide) rfl ?_
  refine j_aload_n hC 1 6 rfl d_M_source_5 rfl rfl ?_
  refine j_aload_n hC 1 7 rfl d_M_source_6 rfl rfl ?_
  refine j_iload_n hC 2 8 rfl d_M_source_7 rfl rfl ?_
  refine j_callVi hC jE_loc jT_good (As := [_]) c_M_isOp yk_M_isOp lk_M_88 ⟨rfl, rfl⟩ ⟨Nat.le_of_ble_eq_true rfl, Nat.le_of_ble_eq_true rfl⟩ 0 rfl rfl rfl rfl (Nat.le_of_ble_eq_true rfl) ⟨Nat.zero_le _, Nat.zero_le _⟩ d_M_source_8 11 rfl rfl ?_
  refine j_if_ne hC 18 14 rfl d_M_source_11 (by decide) (fun c_11 => ?_) (fun c_11 => ?_)
  · refine j_aload_n hC 1 19 rfl d_M_source_18 rfl rfl ?_
    refine j_iload_n hC 2 20 rfl d_M_source_19 rfl rfl ?_
    refine j_callVi hC jE_loc jT_good (As := [_]) c_M_waits yk_M_waits lk_M_84 ⟨rfl, rfl⟩ ⟨Nat.le_of_ble_eq_true rfl, Nat.le_of_ble_eq_true rfl⟩ 0 rfl rfl rfl rfl (Nat.le_of_ble_eq_true rfl) ⟨Nat.zero_le _, Nat.zero_le _⟩ d_M_source_20 23 rfl rfl ?_
    refine j_if_eq hC 34 26 rfl d_M_source_23 (by decide) (fun c_23 => ?_) (fun c_23 => ?_)
    · refine j_iconst (v := 2) hC 35 rfl d_M_source_34 (by decide) ?_
      refine j_goto hC 57 d_M_source_35 (by decide) ?_
      exact jn _ (by simp [srTh, ix, bI1 c_11, bI0 c_23])
    · refine j_aload_n hC 1 27 rfl d_M_source_26 rfl rfl ?_
      refine j_iload_n hC 2 28 rfl d_M_source_27 rfl rfl ?_
      refine j_callVi hC jE_loc jT_good (As := [_]) c_M_isDone yk_M_isDone lk_M_94 ⟨rfl, rfl⟩ ⟨Nat.le_of_ble_eq_true rfl, Nat.le_of_ble_eq_true rfl⟩ 0 rfl rfl rfl rfl (Nat.le_of_ble_eq_true rfl) ⟨Nat.zero_le _, Nat.zero_le _⟩ d_M_source_28 31 rfl rfl ?_
      refine j_if_ne hC 38 34 rfl d_M_source_31 (by decide) (fun c_31 => ?_) (fun c_31 => ?_)
      · refine j_iload_n hC 3 39 rfl d_M_source_38 rfl rfl ?_
        refine j_if_lt hC 52 42 rfl d_M_source_39 (by decide) (fun c_39 => ?_) (fun c_39 => ?_)
        · refine j_iconst (v := 3) hC 53 rfl d_M_source_52 (by decide) ?_
          refine j_goto hC 57 d_M_source_53 (by decide) ?_
          exact jn _ (by simp [srTh, ix, bI1 c_11, bI1 c_23, bI1 c_31, c_39])
        · refine j_iload_n hC 3 43 rfl d_M_source_42 rfl rfl ?_
          refine j_aload_n hC 1 44 rfl d_M_source_43 rfl rfl ?_
          refine g_M_sizes hC 47 rfl d_M_source_44 ?_
          refine j_iload_n hC 0 48 rfl d_M_source_47 rfl rfl ?_
          refine ld_M_sizes hC (ix_in _) 49 rfl d_M_source_48 ?_
          refine j_icmp_lt hC 56 52 rfl d_M_source_49 (by decide) (fun c_49 => ?_) (fun c_49 => ?_)
          · refine j_iconst (v := 0) hC 57 rfl d_M_source_56 (by decide) ?_
            exact jn _ (by simp [srTh, ix, bI1 c_11, bI1 c_23, bI1 c_31, c_39, c_49])
          · refine j_iconst (v := 3) hC 53 rfl d_M_source_52 (by decide) ?_
            refine j_goto hC 57 d_M_source_53 (by decide) ?_
            exact jn _ (by simp [srTh, ix, bI1 c_11, bI1 c_23, bI1 c_31, c_39, c_49])
      · refine j_iconst (v := 2) hC 35 rfl d_M_source_34 (by decide) ?_
        refine j_goto hC 57 d_M_source_35 (by decide) ?_
        exact jn _ (by simp [srTh, ix, bI1 c_11, bI1 c_23, bI0 c_31])
  · refine j_iconst (v := 1) hC 15 rfl d_M_source_14 (by decide) ?_
    refine j_goto hC 57 d_M_source_15 (by decide) ?_
    exact jn _ (by simp [srTh, ix, bI0 c_11])
set_option maxHeartbeats 4000000 in
set_option maxRecDepth 100000 in
theorem c_M_mayLeave   : kM l dC dI cI cZ cB cJ y_M_mayLeave b_M_mayLeave 2 (some .boolean) 0 0 [.ref (am 0)] (wM am cI cZ μ ν ρ) (some (.int (bI (mlM μ ν)))) (wM am cI cZ μ ν ρ) := by
  refine jM.of (lv := [(0, .ref (am 0))]) (own := R_M) jE_loc (by decide) rfl rfl (Nat.le_of_ble_eq_true rfl) rfl ?_
  intro p e s m args below meth c A hC hr hlk
  refine j_aload_n hC 0 1 rfl d_M_mayLeave_0 rfl rfl ?_
  refine g_M_oldest hC 4 rfl d_M_mayLeave_1 ?_
  refine j_bipush (v := 127) hC 6 rfl d_M_mayLeave_4 (by decide) ?_
  refine j_iand hC 7 rfl d_M_mayLeave_6 ?_
  refine j_istore_n (lv' := [(1, _), (0, _)]) hC 8 rfl d_M_mayLeave_7 rfl (by decide) rfl ?_
  refine j_aload_n hC 1 9 rfl d_M_mayLeave_8 rfl rfl ?_
  refine g_M_kinds hC 12 rfl d_M_mayLeave_9 ?_
  refine j_iload_n hC 0 13 rfl d_M_mayLeave_12 rfl rfl ?_
  refine ld_M_kinds hC (ix_in _) 14 rfl d_M_mayLeave_13 ?_
  refine j_if_ne hC 24 17 rfl d_M_mayLeave_14 (by decide) (fun c_14 => ?_) (fun c_14 => ?_)
  · refine j_aload_n hC 1 25 rfl d_M_mayLeave_24 rfl rfl ?_
    refine g_M_kinds hC 28 rfl d_M_mayLeave_25 ?_
    refine j_iload_n hC 0 29 rfl d_M_mayLeave_28 rfl rfl ?_
    refine ld_M_kinds hC (ix_in _) 30 rfl d_M_mayLeave_29 ?_
    refine j_iconst (v := 2) hC 31 rfl d_M_mayLeave_30 (by decide) ?_
    refine j_icmp_ne hC 47 34 rfl d_M_mayLeave_31 (by decide) (fun c_31 => ?_) (fun c_31 => ?_)
    · refine j_aload_n hC 1 48 rfl d_M_mayLeave_47 rfl rfl ?_
      refine g_M_places hC 51 rfl d_M_mayLeave_48 ?_
      refine j_iload_n hC 0 52 rfl d_M_mayLeave_51 rfl rfl ?_
      refine ld_M_places hC (ix_in _) 53 rfl d_M_mayLeave_52 ?_
      refine j_iconst (v := (-1)) hC 54 rfl d_M_mayLeave_53 (by decide) ?_
      refine j_icmp_eq hC 66 57 rfl d_M_mayLeave_54 (by decide) (fun c_54 => ?_) (fun c_54 => ?_)
      · refine j_iconst (v := 0) hC 67 rfl d_M_mayLeave_66 (by decide) ?_
        exact j_zret hC hr hlk d_M_mayLeave_67 (by simp [bI, mlM, ix, c_14, c_31, c_54]) rfl
      · refine j_aload_n hC 1 58 rfl d_M_mayLeave_57 rfl rfl ?_
        refine g_M_told hC 61 rfl d_M_mayLeave_58 ?_
        refine j_iload_n hC 0 62 rfl d_M_mayLeave_61 rfl rfl ?_
        refine ld_M_told hC (ix_in _) 63 rfl d_M_mayLeave_62 ?_
        refine j_if_ne hC 68 66 rfl d_M_mayLeave_63 (by decide) (fun c_63 => ?_) (fun c_63 => ?_)
        · refine j_aload_n hC 1 69 rfl d_M_mayLeave_68 rfl rfl ?_
          refine g_M_buffered hC 72 rfl d_M_mayLeave_69 ?_
          refine j_if_eq hC 105 75 rfl d_M_mayLeave_72 (by decide) (fun c_72 => ?_) (fun c_72 => ?_)
          · refine j_iconst (v := 1) hC 106 rfl d_M_mayLeave_105 (by decide) ?_
            refine j_goto hC 110 d_M_mayLeave_106 (by decide) ?_
            exact j_zret hC hr hlk d_M_mayLeave_110 (by simp [bI, mlM, ix, c_14, c_31, c_54, bI1 c_63, c_72]) rfl
          · refine j_aload_n hC 1 76 rfl d_M_mayLeave_75 rfl rfl ?_
            refine g_M_kinds hC 79 rfl d_M_mayLeave_76 ?_
            refine j_iload_n hC 0 80 rfl d_M_mayLeave_79 rfl rfl ?_
            refine ld_M_kinds hC (ix_in _) 81 rfl d_M_mayLeave_80 ?_
            refine j_iconst (v := 1) hC 82 rfl d_M_mayLeave_81 (by decide) ?_
            refine j_icmp_ne hC 109 85 rfl d_M_mayLeave_82 (by decide) (fun c_82 => ?_) (fun c_82 => ?_)
            · refine j_iconst (v := 0) hC 110 rfl d_M_mayLeave_109 (by decide) ?_
              exact j_zret hC hr hlk d_M_mayLeave_110 (by simp [bI, mlM, ix, c_14, c_31, c_54, bI1 c_63, c_72, c_82]) rfl
            · refine j_aload_n hC 1 86 rfl d_M_mayLeave_85 rfl rfl ?_
              refine g_M_places hC 89 rfl d_M_mayLeave_86 ?_
              refine j_iload_n hC 0 90 rfl d_M_mayLeave_89 rfl rfl ?_
              refine ld_M_places hC (ix_in _) 91 rfl d_M_mayLeave_90 ?_
              refine j_sipush (v := 3072) hC 94 rfl d_M_mayLeave_91 (by decide) ?_
              refine j_icmp_ge hC 109 97 rfl d_M_mayLeave_94 (by decide) (fun c_94 => ?_) (fun c_94 => ?_)
              · refine j_iconst (v := 0) hC 110 rfl d_M_mayLeave_109 (by decide) ?_
                exact j_zret hC hr hlk d_M_mayLeave_110 (by simp [bI, mlM, ix, c_14, c_31, c_54, bI1 c_63, c_72, c_82, c_94]) rfl
              · refine j_aload_n hC 1 98 rfl d_M_mayLeave_97 rfl rfl ?_
                refine g_M_buffered hC 101 rfl d_M_mayLeave_98 ?_
                refine j_iconst (v := 4) hC 102 rfl d_M_mayLeave_101 (by decide) ?_
                refine j_icmp_ge hC 109 105 rfl d_M_mayLeave_102 (by decide) (fun c_102 => ?_) (fun c_102 => ?_)
                · refine j_iconst (v := 0) hC 110 rfl d_M_mayLeave_109 (by decide) ?_
                  exact j_zret hC hr hlk d_M_mayLeave_110 (by simp [bI, mlM, ix, c_14, c_31, c_54, bI1 c_63, c_72, c_82, c_94, c_102]) rfl
                · refine j_iconst (v := 1) hC 106 rfl d_M_mayLeave_105 (by decide) ?_
                  refine j_goto hC 110 d_M_mayLeave_106 (by decide) ?_
                  exact j_zret hC hr hlk d_M_mayLeave_110 (by simp [bI, mlM, ix, c_14, c_31, c_54, bI1 c_63, c_72, c_82, c_94, c_102]) rfl
        · refine j_iconst (v := 0) hC 67 rfl d_M_mayLeave_66 (by decide) ?_
          exact j_zret hC hr hlk d_M_mayLeave_67 (by simp [bI, mlM, ix, c_14, c_31, c_54, bI0 c_63]) rfl
    · refine j_aload_n hC 1 35 rfl d_M_mayLeave_34 rfl rfl ?_
      refine g_M_buffered hC 38 rfl d_M_mayLeave_35 ?_
      refine j_if_ne hC 45 41 rfl d_M_mayLeave_38 (by decide) (fun c_38 => ?_) (fun c_38 => ?_)
      · refine j_iconst (v := 0) hC 46 rfl d_M_mayLeave_45 (by decide) ?_
        exact j_zret hC hr hlk d_M_mayLeave_46 (by simp [bI, mlM, ix, c_14, c_31, c_38]) rfl
      · refine j_iconst (v := 1) hC 42 rfl d_M_mayLeave_41 (by decide) ?_
        refine j_goto hC 46 d_M_mayLeave_42 (by decide) ?_
        exact j_zret hC hr hlk d_M_mayLeave_46 (by simp [bI, mlM, ix, c_14, c_31, c_38]) rfl
  · refine j_aload_n hC 1 18 rfl d_M_mayLeave_17 rfl rfl ?_
    refine g_M_done hC 21 rfl d_M_mayLeave_18 ?_
    refine j_iload_n hC 0 22 rfl d_M_mayLeave_21 rfl rfl ?_
    refine ld_M_done hC (ix_in _) 23 rfl d_M_mayLeave_22 ?_
    exact j_zret hC hr hlk d_M_mayLeave_23 (by rw [mlM, if_pos (c := μ 12 (ix (μ 2 0)) = 0) c_14] <;> rfl) rfl
set_option maxHeartbeats 4000000 in
set_option maxRecDepth 100000 in
theorem c_M_intoBuffer {op : Int32} (hb : vp_in (μ 7 0) 4) : kM l dC dI cI cZ cB cJ y_M_intoBuffer b_M_intoBuffer 3 none 0 0 [.ref (am 0), .int op] (wM am cI cZ μ ν ρ) none (wM am cI cZ (ibS μ op) ν ρ) := by
  refine jM.of (lv := [(0, .ref (am 0)), (1, .int op)]) (own := R_M) jE_loc (by decide) rfl rfl (Nat.le_of_ble_eq_true rfl) rfl ?_
  intro p e s m args below meth c A hC hr hlk
  refine j_iload_n hC 1 1 rfl d_M_intoBuffer_0 rfl rfl ?_
  refine j_bipush (v := 127) hC 3 rfl d_M_intoBuffer_1 (by decide) ?_
  refine j_iand hC 4 rfl d_M_intoBuffer_3 ?_
  refine j_istore_n (lv' := [(2, _), (0, _), (1, _)]) hC 5 rfl d_M_intoBuffer_4 rfl (by decide) rfl ?_
  refine j_aload_n hC 1 6 rfl d_M_intoBuffer_5 rfl rfl ?_
  refine g_M_waiting hC 9 rfl d_M_intoBuffer_6 ?_
  refine j_aload_n hC 1 10 rfl d_M_intoBuffer_9 rfl rfl ?_
  refine g_M_buffered hC 13 rfl d_M_intoBuffer_10 ?_
  refine j_iload_n hC 2 14 rfl d_M_intoBuffer_13 rfl rfl ?_
  refine st_M_waiting hC hb 15 rfl d_M_intoBuffer_14 ?_
  refine j_aload_n hC 1 16 rfl d_M_intoBuffer_15 rfl rfl ?_
  refine g_M_waitPlace hC 19 rfl d_M_intoBuffer_16 ?_
  refine j_aload_n hC 1 20 rfl d_M_intoBuffer_19 rfl rfl ?_
  refine g_M_buffered hC 23 rfl d_M_intoBuffer_20 ?_
  refine j_aload_n hC 1 24 rfl d_M_intoBuffer_23 rfl rfl ?_
  refine g_M_places hC 27 rfl d_M_intoBuffer_24 ?_
  refine j_iload_n hC 0 28 rfl d_M_intoBuffer_27 rfl rfl ?_
  refine ld_M_places hC (ix_in _) 29 rfl d_M_intoBuffer_28 ?_
  refine st_M_waitPlace hC hb 30 rfl d_M_intoBuffer_29 ?_
  refine j_aload_n hC 1 31 rfl d_M_intoBuffer_30 rfl rfl ?_
  refine g_M_waitSize hC 34 rfl d_M_intoBuffer_31 ?_
  refine j_aload_n hC 1 35 rfl d_M_intoBuffer_34 rfl rfl ?_
  refine g_M_buffered hC 38 rfl d_M_intoBuffer_35 ?_
  refine j_aload_n hC 1 39 rfl d_M_intoBuffer_38 rfl rfl ?_
  refine g_M_sizes hC 42 rfl d_M_intoBuffer_39 ?_
  refine j_iload_n hC 0 43 rfl d_M_intoBuffer_42 rfl rfl ?_
  refine ld_M_sizes hC (ix_in _) 44 rfl d_M_intoBuffer_43 ?_
  refine st_M_waitSize hC hb 45 rfl d_M_intoBuffer_44 ?_
  refine j_aload_n hC 1 46 rfl d_M_intoBuffer_45 rfl rfl ?_
  refine g_M_waitValue hC 49 rfl d_M_intoBuffer_46 ?_
  refine j_aload_n hC 1 50 rfl d_M_intoBuffer_49 rfl rfl ?_
  refine g_M_buffered hC 53 rfl d_M_intoBuffer_50 ?_
  refine j_aload_n hC 1 54 rfl d_M_intoBuffer_53 rfl rfl ?_
  refine g_M_values hC 57 rfl d_M_intoBuffer_54 ?_
  refine j_iload_n hC 0 58 rfl d_M_intoBuffer_57 rfl rfl ?_
  refine ld_M_values hC (ix_in _) 59 rfl d_M_intoBuffer_58 ?_
  refine st_M_waitValue hC hb 60 rfl d_M_intoBuffer_59 ?_
  refine j_aload_n hC 1 61 rfl d_M_intoBuffer_60 rfl rfl ?_
  refine j_dup hC 62 rfl d_M_intoBuffer_61 rfl ?_
  refine g_M_buffered hC 65 rfl d_M_intoBuffer_62 ?_
  refine j_iconst (v := 1) hC 66 rfl d_M_intoBuffer_65 (by decide) ?_
  refine j_iadd hC 67 rfl d_M_intoBuffer_66 ?_
  refine p_M_buffered hC 70 rfl d_M_intoBuffer_67 ?_
  exact j_vret hC hr hlk d_M_intoBuffer_70 rfl
set_option maxHeartbeats 4000000 in
set_option maxRecDepth 100000 in
theorem c_M_tookFromMemory {op at0 : Int32} (hz : ∀ i, μ 13 i ≤ 4) : kM l dC dI cI cZ cB cJ y_M_tookFromMemory b_M_tookFromMemory 5 (some .boolean) 1 21 [.ref (am 0), .int op, .int at0] (wM am cI cZ μ ν ρ) (some (.int (bI (tfM μ ν op at0)))) (wM am cI cZ μ ν ρ) := by
  refine jM.of (lv := [(0, .ref (am 0)), (1, .int op), (2, .int at0)]) (own := R_M) jE_loc (by decide) rfl rfl (Nat.le_of_ble_eq_true rfl) rfl ?_
  intro p e s m args below meth c A hC hr hlk
  refine j_iload_n hC 1 1 rfl d_M_tookFromMemory_0 rfl rfl ?_
  refine j_bipush (v := 127) hC 3 rfl d_M_tookFromMemory_1 (by decide) ?_
  refine j_iand hC 4 rfl d_M_tookFromMemory_3 ?_
  refine j_istore_n (lv' := [(3, _), (0, _), (1, _), (2, _)]) hC 5 rfl d_M_tookFromMemory_4 rfl (by decide) rfl ?_
  refine j_iload_n hC 3 6 rfl d_M_tookFromMemory_5 rfl rfl ?_
  refine j_aload_n hC 1 7 rfl d_M_tookFromMemory_6 rfl rfl ?_
  refine g_M_places hC 10 rfl d_M_tookFromMemory_7 ?_
  refine j_iload_n hC 0 11 rfl d_M_tookFromMemory_10 rfl rfl ?_
  refine ld_M_places hC (ix_in _) 12 rfl d_M_tookFromMemory_11 ?_
  refine j_isub hC 13 rfl d_M_tookFromMemory_12 ?_
  refine j_istore (lv' := [(4, _), (3, _), (0, _), (1, _), (2, _)]) hC 15 rfl d_M_tookFromMemory_13 (by decide) rfl ?_
  refine j_aload_n hC 2 16 rfl d_M_tookFromMemory_15 rfl rfl ?_
  refine j_iload_n hC 3 17 rfl d_M_tookFromMemory_16 rfl rfl ?_
  refine j_callVi hC jE_loc jT_good (As := [_]) c_M_isDone yk_M_isDone lk_M_94 ⟨rfl, rfl⟩ ⟨Nat.le_of_ble_eq_true rfl, Nat.le_of_ble_eq_true rfl⟩ 0 rfl rfl rfl rfl (Nat.le_of_ble_eq_true rfl) ⟨Nat.zero_le _, Nat.zero_le _⟩ d_M_tookFromMemory_17 20 rfl rfl ?_
  refine j_if_eq hC 58 23 rfl d_M_tookFromMemory_20 (by decide) (fun c_20 => ?_) (fun c_20 => ?_)
  · refine j_iconst (v := 0) hC 59 rfl d_M_tookFromMemory_58 (by decide) ?_
    exact j_zret hC hr hlk d_M_tookFromMemory_59 (by simp [bI, tfM, ix, bI0 c_20]) rfl
  · refine j_iload hC 0 25 rfl d_M_tookFromMemory_23 rfl ?_
    refine j_if_lt hC 58 28 rfl d_M_tookFromMemory_25 (by decide) (fun c_25 => ?_) (fun c_25 => ?_)
    · refine j_iconst (v := 0) hC 59 rfl d_M_tookFromMemory_58 (by decide) ?_
      exact j_zret hC hr hlk d_M_tookFromMemory_59 (by simp [bI, tfM, ix, bI1 c_20, c_25]) rfl
    · refine j_iload hC 0 30 rfl d_M_tookFromMemory_28 rfl ?_
      refine j_aload_n hC 2 31 rfl d_M_tookFromMemory_30 rfl rfl ?_
      refine g_M_sizes hC 34 rfl d_M_tookFromMemory_31 ?_
      refine j_iload_n hC 1 35 rfl d_M_tookFromMemory_34 rfl rfl ?_
      refine ld_M_sizes hC (ix_in _) 36 rfl d_M_tookFromMemory_35 ?_
      refine j_icmp_ge hC 58 39 rfl d_M_tookFromMemory_36 (by decide) (fun c_36 => ?_) (fun c_36 => ?_)
      · refine j_iconst (v := 0) hC 59 rfl d_M_tookFromMemory_58 (by decide) ?_
        exact j_zret hC hr hlk d_M_tookFromMemory_59 (by simp [bI, tfM, ix, bI1 c_20, c_25, c_36]) rfl
      · refine j_aload_n hC 2 40 rfl d_M_tookFromMemory_39 rfl rfl ?_
        refine g_M_from hC 43 rfl d_M_tookFromMemory_40 ?_
        refine j_iconst (v := 4) hC 44 rfl d_M_tookFromMemory_43 (by decide) ?_
        refine j_iload_n hC 1 45 rfl d_M_tookFromMemory_44 rfl rfl ?_
        refine j_imul hC 46 rfl d_M_tookFromMemory_45 ?_
        refine j_iload hC 0 48 rfl d_M_tookFromMemory_46 rfl ?_
        refine j_iadd hC 49 rfl d_M_tookFromMemory_48 ?_
        refine ld_M_from hC (fr_in (Int32.not_lt.mp c_25) c_36 (hz _)) 50 rfl d_M_tookFromMemory_49 ?_
        refine j_iconst (v := (-1)) hC 51 rfl d_M_tookFromMemory_50 (by decide) ?_
        refine j_icmp_ne hC 58 54 rfl d_M_tookFromMemory_51 (by decide) (fun c_51 => ?_) (fun c_51 => ?_)
        · refine j_iconst (v := 0) hC 59 rfl d_M_tookFromMemory_58 (by decide) ?_
          exact j_zret hC hr hlk d_M_tookFromMemory_59 (by simp [bI, tfM, ix, bI1 c_20, c_25, c_36, c_51]) rfl
        · refine j_iconst (v := 1) hC 55 rfl d_M_tookFromMemory_54 (by decide) ?_
          refine j_goto hC 59 d_M_tookFromMemory_55 (by decide) ?_
          exact j_zret hC hr hlk d_M_tookFromMemory_59 (by simp [bI, tfM, ix, bI1 c_20, c_25, c_36, c_51]) rfl
set_option maxHeartbeats 4000000 in
set_option maxRecDepth 100000 in
theorem c_M_other_thr {t : Int32} {at0 v : Int32} (ht : otTh at0 v = t) (h : ¬ t ≤ 0) : kM l dC dI cI cZ cB cJ y_M_other b_M_other 4 (some .int) 2 45 [.ref (am 0), .int at0, .int v] (wM am cI cZ μ ν ρ) (some (.int (0))) (wM am cI cZ (sS μ 0 t) ν ρ) := by
  refine jM.of (lv := [(0, .ref (am 0)), (1, .int at0), (2, .int v)]) (own := R_M) jE_loc (by decide) rfl rfl (Nat.le_of_ble_eq_true rfl) rfl ?_
  intro p e s m args below meth c A hC hr hlk
  have jn : ∀ x : Int32, x = otTh at0 v → kJ l dC dI p e s m args below meth c A 2 45 4 (some (.int (0))) (wM am cI cZ (sS μ 0 t) ν ρ) (wM am cI cZ μ ν ρ) 28 [(0, .ref (am 0)), (1, .int at0), (2, .int v)] [.int x, .ref (am 0)] := by
    intro x hx
    obtain rfl : x = t := hx.trans ht
    refine p_M_thrown hC 31 rfl d_M_other_28 ?_
    refine j_aload_n hC 0 32 rfl d_M_other_31 rfl rfl ?_
    refine g_M_thrown hC 35 rfl d_M_other_32 ?_
    refine j_if_le hC 40 38 rfl d_M_other_35 (by decide) (fun c_35 => absurd c_35 h) (fun c_35 => ?_)
    refine j_iconst (v := 0) hC 39 rfl d_M_other_38 (by decide) ?_
    exact j_iret hC hr hlk d_M_other_39 rfl rfl
  refine j_aload_n hC 0 1 rfl d_M_other_0 rfl rfl ?_
  refine j_iload_n hC 1 2 rfl d_M_other_1 rfl rfl ?_
  refine j_if_lt hC 23 5 rfl d_M_other_2 (by decide) (fun c_2 => ?_) (fun c_2 => ?_)
  · refine j_iconst (v := 1) hC 24 rfl d_M_other_23 (by decide) ?_
    refine j_goto hC 28 d_M_other_24 (by decide) ?_
    exact jn _ (by simp [otTh, c_2])
  · refine j_iload_n hC 1 6 rfl d_M_other_5 rfl rfl ?_
    refine j_sipush (v := 4096) hC 9 rfl d_M_other_6 (by decide) ?_
    refine j_icmp_ge hC 23 12 rfl d_M_other_9 (by decide) (fun c_9 => ?_) (fun c_9 => ?_)
    · refine j_iconst (v := 1) hC 24 rfl d_M_other_23 (by decide) ?_
      refine j_goto hC 28 d_M_other_24 (by decide) ?_
      exact jn _ (by simp [otTh, c_2, c_9])
    · refine j_iload_n hC 2 13 rfl d_M_other_12 rfl rfl ?_
      refine j_if_lt hC 23 16 rfl d_M_other_13 (by decide) (fun c_13 => ?_) (fun c_13 => ?_)
      · refine j_iconst (v := 1) hC 24 rfl d_M_other_23 (by decide) ?_
        refine j_goto hC 28 d_M_other_24 (by decide) ?_
        exact jn _ (by simp [otTh, c_2, c_9, c_13])
      · refine j_iload_n hC 2 17 rfl d_M_other_16 rfl rfl ?_
        refine j_sipush (v := 255) hC 20 rfl d_M_other_17 (by decide) ?_
        refine j_icmp_le hC 27 23 rfl d_M_other_20 (by decide) (fun c_20 => ?_) (fun c_20 => ?_)
        · refine j_iconst (v := 0) hC 28 rfl d_M_other_27 (by decide) ?_
          exact jn _ (by simp [otTh, c_2, c_9, c_13, c_20])
        · refine j_iconst (v := 1) hC 24 rfl d_M_other_23 (by decide) ?_
          refine j_goto hC 28 d_M_other_24 (by decide) ?_
          exact jn _ (by simp [otTh, c_2, c_9, c_13, c_20])
set_option maxHeartbeats 4000000 in
set_option maxRecDepth 100000 in
theorem c_M_other_ok {at0 v : Int32} (ht : otTh at0 v = 0) (h0 : 0 ≤ μ 2 0) (hz : ∀ i, μ 13 i ≤ 4) (ha : vp_in at0 4096) : kM l dC dI cI cZ cB cJ y_M_other b_M_other 4 (some .int) 2 45 [.ref (am 0), .int at0, .int v] (wM am cI cZ μ ν ρ) (some (.int ((omR (sA (sS μ 0 0) 10 at0.toNatClampNeg v) ν at0).1))) (wM am cI cZ (omR (sA (sS μ 0 0) 10 at0.toNatClampNeg v) ν at0).2.1 (omR (sA (sS μ 0 0) 10 at0.toNatClampNeg v) ν at0).2.2 ρ) := by
  refine jM.of (lv := [(0, .ref (am 0)), (1, .int at0), (2, .int v)]) (own := R_M) jE_loc (by decide) rfl rfl (Nat.le_of_ble_eq_true rfl) rfl ?_
  intro p e s m args below meth c A hC hr hlk
  have loop : ∀ (n : Nat) (i : Int32), 0 ≤ i → dist i ((sA (sS μ 0 0) 10 at0.toNatClampNeg v) 1 0) < n → frL (tfM9 (sA (sS μ 0 0) 10 at0.toNatClampNeg v) ν at0) ((sA (sS μ 0 0) 10 at0.toNatClampNeg v) 2 0) ((sA (sS μ 0 0) 10 at0.toNatClampNeg v) 1 0) = frL (tfM9 (sA (sS μ 0 0) 10 at0.toNatClampNeg v) ν at0) i ((sA (sS μ 0 0) 10 at0.toNatClampNeg v) 1 0) → kJ l dC dI p e s m args below meth c A 2 45 4 (some (.int ((omR (sA (sS μ 0 0) 10 at0.toNatClampNeg v) ν at0).1))) (wM am cI cZ (omR (sA (sS μ 0 0) 10 at0.toNatClampNeg v) ν at0).2.1 (omR (sA (sS μ 0 0) 10 at0.toNatClampNeg v) ν at0).2.2 ρ) (wM am cI cZ (sA (sS μ 0 0) 10 at0.toNatClampNeg v) ν ρ) 52 [(3, .int i), (0, .ref (am 0)), (1, .int at0), (2, .int v)] [] := by
    intro n
    induction n with
    | zero => intro i hi hd hR; exact absurd hd (Nat.not_lt_zero _)
    | succ n ih =>
      intro i hi hd hR
      refine j_iload_n hC 0 53 rfl d_M_other_52 rfl rfl ?_
      refine j_aload_n hC 1 54 rfl d_M_other_53 rfl rfl ?_
      refine g_M_total hC 57 rfl d_M_other_54 ?_
      refine j_icmp_ge hC 81 60 rfl d_M_other_57 (by decide) (fun c_57 => ?_) (fun c_57 => ?_)
      · refine j_iconst (v := 0) hC 82 rfl d_M_other_81 (by decide) ?_
        exact j_iret hC hr hlk d_M_other_82 (by rw [omR, hR, frL_out c_57] <;> rfl) (by rw [omR, hR, frL_out c_57] <;> rfl)
      · refine j_aload_n hC 1 61 rfl d_M_other_60 rfl rfl ?_
        refine j_iload_n hC 0 62 rfl d_M_other_61 rfl rfl ?_
        refine j_iload_n hC 2 63 rfl d_M_other_62 rfl rfl ?_
        refine j_callVi hC jE_loc jT_good (As := [_, _]) (c_M_tookFromMemory (μ := (sA (sS μ 0 0) 10 at0.toNatClampNeg v)) hz) yk_M_tookFromMemory lk_M_144 ⟨rfl, rfl⟩ ⟨Nat.le_of_ble_eq_true rfl, Nat.le_of_ble_eq_true rfl⟩ 0 rfl rfl rfl rfl (Nat.le_of_ble_eq_true rfl) ⟨Nat.zero_le _, Nat.zero_le _⟩ d_M_other_63 66 rfl rfl ?_
        refine j_if_eq hC 75 69 rfl d_M_other_66 (by decide) (fun c_66 => ?_) (fun c_66 => ?_)
        · refine j_iinc (lv' := [(3, _), (0, _), (1, _), (2, _)]) hC 0 78 rfl d_M_other_75 rfl (inc1 _) (by decide) rfl ?_
          refine j_goto hC 52 d_M_other_78 (by decide) ?_
          exact ih _ (nn1 hi c_57) (dist_lt c_57 hd) (by rw [hR, frL_in c_57]; simp [tfM9, c_57, bI0 c_66])
        · refine j_aload_n hC 1 70 rfl d_M_other_69 rfl rfl ?_
          refine j_iload_n hC 0 71 rfl d_M_other_70 rfl rfl ?_
          refine j_callVi hC jE_loc jT_good (As := [_]) c_M_undo yk_M_undo lk_M_100 ⟨rfl, rfl⟩ ⟨Nat.le_of_ble_eq_true rfl, Nat.le_of_ble_eq_true rfl⟩ 0 rfl rfl rfl rfl (Nat.le_of_ble_eq_true rfl) ⟨Nat.zero_le _, Nat.zero_le _⟩ d_M_other_71 74 rfl rfl ?_
          exact j_iret hC hr hlk d_M_other_74 (by rw [omR, hR, frL_hit (P := tfM9 (sA (sS μ 0 0) 10 at0.toNatClampNeg v) ν at0) c_57 (bI1 c_66), if_neg (nm1 hi)] <;> rfl) (by rw [omR, hR, frL_hit (P := tfM9 (sA (sS μ 0 0) 10 at0.toNatClampNeg v) ν at0) c_57 (bI1 c_66), if_neg (nm1 hi)] <;> rfl)
  have jn : ∀ x : Int32, x = otTh at0 v → kJ l dC dI p e s m args below meth c A 2 45 4 (some (.int ((omR (sA (sS μ 0 0) 10 at0.toNatClampNeg v) ν at0).1))) (wM am cI cZ (omR (sA (sS μ 0 0) 10 at0.toNatClampNeg v) ν at0).2.1 (omR (sA (sS μ 0 0) 10 at0.toNatClampNeg v) ν at0).2.2 ρ) (wM am cI cZ μ ν ρ) 28 [(0, .ref (am 0)), (1, .int at0), (2, .int v)] [.int x, .ref (am 0)] := by
    intro x hx
    obtain rfl : x = 0 := hx.trans ht
    refine p_M_thrown hC 31 rfl d_M_other_28 ?_
    refine j_aload_n hC 0 32 rfl d_M_other_31 rfl rfl ?_
    refine g_M_thrown hC 35 rfl d_M_other_32 ?_
    refine j_if_le hC 40 38 rfl d_M_other_35 (by decide) (fun c_35 => ?_) (fun c_35 => absurd c_35 (fun q => q (Int32.le_refl 0)))
    refine j_aload_n hC 0 41 rfl d_M_other_40 rfl rfl ?_
    refine g_M_bytes hC 44 rfl d_M_other_41 ?_
    refine j_iload_n hC 1 45 rfl d_M_other_44 rfl rfl ?_
    refine j_iload_n hC 2 46 rfl d_M_other_45 rfl rfl ?_
    refine st_M_bytes hC ha 47 rfl d_M_other_46 ?_
    refine j_aload_n hC 0 48 rfl d_M_other_47 rfl rfl ?_
    refine g_M_oldest hC 51 rfl d_M_other_48 ?_
    refine j_istore_n (lv' := [(3, _), (0, _), (1, _), (2, _)]) hC 52 rfl d_M_other_51 rfl (by decide) rfl ?_
    exact loop _ _ h0 (Nat.lt_succ_self _) rfl
  refine j_aload_n hC 0 1 rfl d_M_other_0 rfl rfl ?_
  refine j_iload_n hC 1 2 rfl d_M_other_1 rfl rfl ?_
  refine j_if_lt hC 23 5 rfl d_M_other_2 (by decide) (fun c_2 => ?_) (fun c_2 => ?_)
  · refine j_iconst (v := 1) hC 24 rfl d_M_other_23 (by decide) ?_
    refine j_goto hC 28 d_M_other_24 (by decide) ?_
    exact jn _ (by simp [otTh, c_2])
  · refine j_iload_n hC 1 6 rfl d_M_other_5 rfl rfl ?_
    refine j_sipush (v := 4096) hC 9 rfl d_M_other_6 (by decide) ?_
    refine j_icmp_ge hC 23 12 rfl d_M_other_9 (by decide) (fun c_9 => ?_) (fun c_9 => ?_)
    · refine j_iconst (v := 1) hC 24 rfl d_M_other_23 (by decide) ?_
      refine j_goto hC 28 d_M_other_24 (by decide) ?_
      exact jn _ (by simp [otTh, c_2, c_9])
    · refine j_iload_n hC 2 13 rfl d_M_other_12 rfl rfl ?_
      refine j_if_lt hC 23 16 rfl d_M_other_13 (by decide) (fun c_13 => ?_) (fun c_13 => ?_)
      · refine j_iconst (v := 1) hC 24 rfl d_M_other_23 (by decide) ?_
        refine j_goto hC 28 d_M_other_24 (by decide) ?_
        exact jn _ (by simp [otTh, c_2, c_9, c_13])
      · refine j_iload_n hC 2 17 rfl d_M_other_16 rfl rfl ?_
        refine j_sipush (v := 255) hC 20 rfl d_M_other_17 (by decide) ?_
        refine j_icmp_le hC 27 23 rfl d_M_other_20 (by decide) (fun c_20 => ?_) (fun c_20 => ?_)
        · refine j_iconst (v := 0) hC 28 rfl d_M_other_27 (by decide) ?_
          exact jn _ (by simp [otTh, c_2, c_9, c_13, c_20])
        · refine j_iconst (v := 1) hC 24 rfl d_M_other_23 (by decide) ?_
          refine j_goto hC 28 d_M_other_24 (by decide) ?_
          exact jn _ (by simp [otTh, c_2, c_9, c_13, c_20])
set_option maxHeartbeats 4000000 in
set_option maxRecDepth 100000 in
theorem c_M_memory_thr {t : Int32} {at0 : Int32} (ht : meTh at0 = t) (h : ¬ t ≤ 0) : kM l dC dI cI cZ cB cJ y_M_memory b_M_memory 2 (some .int) 0 0 [.ref (am 0), .int at0] (wM am cI cZ μ ν ρ) (some (.int (0))) (wM am cI cZ (sS μ 0 t) ν ρ) := by
  refine jM.of (lv := [(0, .ref (am 0)), (1, .int at0)]) (own := R_M) jE_loc (by decide) rfl rfl (Nat.le_of_ble_eq_true rfl) rfl ?_
  intro p e s m args below meth c A hC hr hlk
  have jn : ∀ x : Int32, x = meTh at0 → kJ l dC dI p e s m args below meth c A 0 0 2 (some (.int (0))) (wM am cI cZ (sS μ 0 t) ν ρ) (wM am cI cZ μ ν ρ) 17 [(0, .ref (am 0)), (1, .int at0)] [.int x, .ref (am 0)] := by
    intro x hx
    obtain rfl : x = t := hx.trans ht
    refine p_M_thrown hC 20 rfl d_M_memory_17 ?_
    refine j_aload_n hC 0 21 rfl d_M_memory_20 rfl rfl ?_
    refine g_M_thrown hC 24 rfl d_M_memory_21 ?_
    refine j_if_le hC 31 27 rfl d_M_memory_24 (by decide) (fun c_24 => absurd c_24 h) (fun c_24 => ?_)
    refine j_iconst (v := 0) hC 28 rfl d_M_memory_27 (by decide) ?_
    refine j_goto hC 37 d_M_memory_28 (by decide) ?_
    exact j_iret hC hr hlk d_M_memory_37 rfl rfl
  refine j_aload_n hC 0 1 rfl d_M_memory_0 rfl rfl ?_
  refine j_iload_n hC 1 2 rfl d_M_memory_1 rfl rfl ?_
  refine j_if_lt hC 12 5 rfl d_M_memory_2 (by decide) (fun c_2 => ?_) (fun c_2 => ?_)
  · refine j_iconst (v := 1) hC 13 rfl d_M_memory_12 (by decide) ?_
    refine j_goto hC 17 d_M_memory_13 (by decide) ?_
    exact jn _ (by simp [meTh, c_2])
  · refine j_iload_n hC 1 6 rfl d_M_memory_5 rfl rfl ?_
    refine j_sipush (v := 4096) hC 9 rfl d_M_memory_6 (by decide) ?_
    refine j_icmp_lt hC 16 12 rfl d_M_memory_9 (by decide) (fun c_9 => ?_) (fun c_9 => ?_)
    · refine j_iconst (v := 0) hC 17 rfl d_M_memory_16 (by decide) ?_
      exact jn _ (by simp [meTh, c_2, c_9])
    · refine j_iconst (v := 1) hC 13 rfl d_M_memory_12 (by decide) ?_
      refine j_goto hC 17 d_M_memory_13 (by decide) ?_
      exact jn _ (by simp [meTh, c_2, c_9])
set_option maxHeartbeats 4000000 in
set_option maxRecDepth 100000 in
theorem c_M_memory_ok {at0 : Int32} (ht : meTh at0 = 0) (ha : vp_in at0 4096) : kM l dC dI cI cZ cB cJ y_M_memory b_M_memory 2 (some .int) 0 0 [.ref (am 0), .int at0] (wM am cI cZ μ ν ρ) (some (.int (μ 10 at0.toNatClampNeg))) (wM am cI cZ (sS μ 0 0) ν ρ) := by
  refine jM.of (lv := [(0, .ref (am 0)), (1, .int at0)]) (own := R_M) jE_loc (by decide) rfl rfl (Nat.le_of_ble_eq_true rfl) rfl ?_
  intro p e s m args below meth c A hC hr hlk
  have jn : ∀ x : Int32, x = meTh at0 → kJ l dC dI p e s m args below meth c A 0 0 2 (some (.int (μ 10 at0.toNatClampNeg))) (wM am cI cZ (sS μ 0 0) ν ρ) (wM am cI cZ μ ν ρ) 17 [(0, .ref (am 0)), (1, .int at0)] [.int x, .ref (am 0)] := by
    intro x hx
    obtain rfl : x = 0 := hx.trans ht
    refine p_M_thrown hC 20 rfl d_M_memory_17 ?_
    refine j_aload_n hC 0 21 rfl d_M_memory_20 rfl rfl ?_
    refine g_M_thrown hC 24 rfl d_M_memory_21 ?_
    refine j_if_le hC 31 27 rfl d_M_memory_24 (by decide) (fun c_24 => ?_) (fun c_24 => absurd c_24 (fun q => q (Int32.le_refl 0)))
    refine j_aload_n hC 0 32 rfl d_M_memory_31 rfl rfl ?_
    refine g_M_bytes hC 35 rfl d_M_memory_32 ?_
    refine j_iload_n hC 1 36 rfl d_M_memory_35 rfl rfl ?_
    refine ld_M_bytes hC ha 37 rfl d_M_memory_36 ?_
    exact j_iret hC hr hlk d_M_memory_37 rfl rfl
  refine j_aload_n hC 0 1 rfl d_M_memory_0 rfl rfl ?_
  refine j_iload_n hC 1 2 rfl d_M_memory_1 rfl rfl ?_
  refine j_if_lt hC 12 5 rfl d_M_memory_2 (by decide) (fun c_2 => ?_) (fun c_2 => ?_)
  · refine j_iconst (v := 1) hC 13 rfl d_M_memory_12 (by decide) ?_
    refine j_goto hC 17 d_M_memory_13 (by decide) ?_
    exact jn _ (by simp [meTh, c_2])
  · refine j_iload_n hC 1 6 rfl d_M_memory_5 rfl rfl ?_
    refine j_sipush (v := 4096) hC 9 rfl d_M_memory_6 (by decide) ?_
    refine j_icmp_lt hC 16 12 rfl d_M_memory_9 (by decide) (fun c_9 => ?_) (fun c_9 => ?_)
    · refine j_iconst (v := 0) hC 17 rfl d_M_memory_16 (by decide) ?_
      exact jn _ (by simp [meTh, c_2, c_9])
    · refine j_iconst (v := 1) hC 13 rfl d_M_memory_12 (by decide) ?_
      refine j_goto hC 17 d_M_memory_13 (by decide) ?_
      exact jn _ (by simp [meTh, c_2, c_9])
set_option maxHeartbeats 4000000 in
set_option maxRecDepth 100000 in
theorem c_M_forget_thr {t : Int32} {op : Int32} (ht : foTh μ op = t) (h : ¬ t ≤ 0) : kM l dC dI cI cZ cB cJ y_M_forget b_M_forget 3 (some .int) 1 21 [.ref (am 0), .int op] (wM am cI cZ μ ν ρ) (some (.int (0))) (wM am cI cZ (sS μ 0 t) ν ρ) := by
  refine jM.of (lv := [(0, .ref (am 0)), (1, .int op)]) (own := R_M) jE_loc (by decide) rfl rfl (Nat.le_of_ble_eq_true rfl) rfl ?_
  intro p e s m args below meth c A hC hr hlk
  have jn : ∀ x : Int32, x = foTh μ op → kJ l dC dI p e s m args below meth c A 1 21 3 (some (.int (0))) (wM am cI cZ (sS μ 0 t) ν ρ) (wM am cI cZ μ ν ρ) 26 [(0, .ref (am 0)), (1, .int op)] [.int x, .ref (am 0)] := by
    intro x hx
    obtain rfl : x = t := hx.trans ht
    refine p_M_thrown hC 29 rfl d_M_forget_26 ?_
    refine j_aload_n hC 0 30 rfl d_M_forget_29 rfl rfl ?_
    refine g_M_thrown hC 33 rfl d_M_forget_30 ?_
    refine j_if_le hC 38 36 rfl d_M_forget_33 (by decide) (fun c_33 => absurd c_33 h) (fun c_33 => ?_)
    refine j_iconst (v := 0) hC 37 rfl d_M_forget_36 (by decide) ?_
    exact j_iret hC hr hlk d_M_forget_37 rfl rfl
  refine j_aload_n hC 0 1 rfl d_M_forget_0 rfl rfl ?_
  refine j_aload_n hC 0 2 rfl d_M_forget_1 rfl rfl ?_
  refine j_iload_n hC 1 3 rfl d_M_forget_2 rfl rfl ?_
  refine j_callVi hC jE_loc jT_good (As := [_]) c_M_isOp yk_M_isOp lk_M_88 ⟨rfl, rfl⟩ ⟨Nat.le_of_ble_eq_true rfl, Nat.le_of_ble_eq_true rfl⟩ 0 rfl rfl rfl rfl (Nat.le_of_ble_eq_true rfl) ⟨Nat.zero_le _, Nat.zero_le _⟩ d_M_forget_3 6 rfl rfl ?_
  refine j_if_ne hC 13 9 rfl d_M_forget_6 (by decide) (fun c_6 => ?_) (fun c_6 => ?_)
  · refine j_aload_n hC 0 14 rfl d_M_forget_13 rfl rfl ?_
    refine j_iload_n hC 1 15 rfl d_M_forget_14 rfl rfl ?_
    refine j_callVi hC jE_loc jT_good (As := [_]) c_M_waits yk_M_waits lk_M_84 ⟨rfl, rfl⟩ ⟨Nat.le_of_ble_eq_true rfl, Nat.le_of_ble_eq_true rfl⟩ 0 rfl rfl rfl rfl (Nat.le_of_ble_eq_true rfl) ⟨Nat.zero_le _, Nat.zero_le _⟩ d_M_forget_15 18 rfl rfl ?_
    refine j_if_ne hC 25 21 rfl d_M_forget_18 (by decide) (fun c_18 => ?_) (fun c_18 => ?_)
    · refine j_iconst (v := 0) hC 26 rfl d_M_forget_25 (by decide) ?_
      exact jn _ (by simp [foTh, bI1 c_6, bI1 c_18])
    · refine j_iconst (v := 2) hC 22 rfl d_M_forget_21 (by decide) ?_
      refine j_goto hC 26 d_M_forget_22 (by decide) ?_
      exact jn _ (by simp [foTh, bI1 c_6, bI0 c_18])
  · refine j_iconst (v := 1) hC 10 rfl d_M_forget_9 (by decide) ?_
    refine j_goto hC 26 d_M_forget_10 (by decide) ?_
    exact jn _ (by simp [foTh, bI0 c_6])
set_option maxHeartbeats 4000000 in
set_option maxRecDepth 100000 in
theorem c_M_forget_ok {op : Int32} (ht : foTh μ op = 0)  : kM l dC dI cI cZ cB cJ y_M_forget b_M_forget 3 (some .int) 1 21 [.ref (am 0), .int op] (wM am cI cZ μ ν ρ) (some (.int (μ 1 0 - op))) (wM am cI cZ (sS (sS μ 0 0) 1 op) ν ρ) := by
  refine jM.of (lv := [(0, .ref (am 0)), (1, .int op)]) (own := R_M) jE_loc (by decide) rfl rfl (Nat.le_of_ble_eq_true rfl) rfl ?_
  intro p e s m args below meth c A hC hr hlk
  have jn : ∀ x : Int32, x = foTh μ op → kJ l dC dI p e s m args below meth c A 1 21 3 (some (.int (μ 1 0 - op))) (wM am cI cZ (sS (sS μ 0 0) 1 op) ν ρ) (wM am cI cZ μ ν ρ) 26 [(0, .ref (am 0)), (1, .int op)] [.int x, .ref (am 0)] := by
    intro x hx
    obtain rfl : x = 0 := hx.trans ht
    refine p_M_thrown hC 29 rfl d_M_forget_26 ?_
    refine j_aload_n hC 0 30 rfl d_M_forget_29 rfl rfl ?_
    refine g_M_thrown hC 33 rfl d_M_forget_30 ?_
    refine j_if_le hC 38 36 rfl d_M_forget_33 (by decide) (fun c_33 => ?_) (fun c_33 => absurd c_33 (fun q => q (Int32.le_refl 0)))
    refine j_aload_n hC 0 39 rfl d_M_forget_38 rfl rfl ?_
    refine g_M_total hC 42 rfl d_M_forget_39 ?_
    refine j_iload_n hC 1 43 rfl d_M_forget_42 rfl rfl ?_
    refine j_isub hC 44 rfl d_M_forget_43 ?_
    refine j_istore_n (lv' := [(2, _), (0, _), (1, _)]) hC 45 rfl d_M_forget_44 rfl (by decide) rfl ?_
    refine j_aload_n hC 1 46 rfl d_M_forget_45 rfl rfl ?_
    refine j_iload_n hC 2 47 rfl d_M_forget_46 rfl rfl ?_
    refine p_M_total hC 50 rfl d_M_forget_47 ?_
    refine j_iload_n hC 0 51 rfl d_M_forget_50 rfl rfl ?_
    exact j_iret hC hr hlk d_M_forget_51 rfl rfl
  refine j_aload_n hC 0 1 rfl d_M_forget_0 rfl rfl ?_
  refine j_aload_n hC 0 2 rfl d_M_forget_1 rfl rfl ?_
  refine j_iload_n hC 1 3 rfl d_M_forget_2 rfl rfl ?_
  refine j_callVi hC jE_loc jT_good (As := [_]) c_M_isOp yk_M_isOp lk_M_88 ⟨rfl, rfl⟩ ⟨Nat.le_of_ble_eq_true rfl, Nat.le_of_ble_eq_true rfl⟩ 0 rfl rfl rfl rfl (Nat.le_of_ble_eq_true rfl) ⟨Nat.zero_le _, Nat.zero_le _⟩ d_M_forget_3 6 rfl rfl ?_
  refine j_if_ne hC 13 9 rfl d_M_forget_6 (by decide) (fun c_6 => ?_) (fun c_6 => ?_)
  · refine j_aload_n hC 0 14 rfl d_M_forget_13 rfl rfl ?_
    refine j_iload_n hC 1 15 rfl d_M_forget_14 rfl rfl ?_
    refine j_callVi hC jE_loc jT_good (As := [_]) c_M_waits yk_M_waits lk_M_84 ⟨rfl, rfl⟩ ⟨Nat.le_of_ble_eq_true rfl, Nat.le_of_ble_eq_true rfl⟩ 0 rfl rfl rfl rfl (Nat.le_of_ble_eq_true rfl) ⟨Nat.zero_le _, Nat.zero_le _⟩ d_M_forget_15 18 rfl rfl ?_
    refine j_if_ne hC 25 21 rfl d_M_forget_18 (by decide) (fun c_18 => ?_) (fun c_18 => ?_)
    · refine j_iconst (v := 0) hC 26 rfl d_M_forget_25 (by decide) ?_
      exact jn _ (by simp [foTh, bI1 c_6, bI1 c_18])
    · refine j_iconst (v := 2) hC 22 rfl d_M_forget_21 (by decide) ?_
      refine j_goto hC 26 d_M_forget_22 (by decide) ?_
      exact jn _ (by simp [foTh, bI1 c_6, bI0 c_18])
  · refine j_iconst (v := 1) hC 10 rfl d_M_forget_9 (by decide) ?_
    refine j_goto hC 26 d_M_forget_10 (by decide) ?_
    exact jn _ (by simp [foTh, bI0 c_6])
set_option maxHeartbeats 4000000 in
set_option maxRecDepth 100000 in
theorem c_M_marked {prog : Int32}  : kM l dC dI cI cZ cB cJ y_M_marked b_M_marked 2 (some .boolean) 0 0 [.ref (am 0), .int prog] (wM am cI cZ μ ν ρ) (some (.int (bI (ν 0 (prog &&& 63).toNatClampNeg)))) (wM am cI cZ (sS μ 0 0) ν ρ) := by
  refine jM.of (lv := [(0, .ref (am 0)), (1, .int prog)]) (own := R_M) jE_loc (by decide) rfl rfl (Nat.le_of_ble_eq_true rfl) rfl ?_
  intro p e s m args below meth c A hC hr hlk
  refine j_aload_n hC 0 1 rfl d_M_marked_0 rfl rfl ?_
  refine j_iconst (v := 0) hC 2 rfl d_M_marked_1 (by decide) ?_
  refine p_M_thrown hC 5 rfl d_M_marked_2 ?_
  refine j_aload_n hC 0 6 rfl d_M_marked_5 rfl rfl ?_
  refine g_M_marks hC 9 rfl d_M_marked_6 ?_
  refine j_iload_n hC 1 10 rfl d_M_marked_9 rfl rfl ?_
  refine j_bipush (v := 63) hC 12 rfl d_M_marked_10 (by decide) ?_
  refine j_iand hC 13 rfl d_M_marked_12 ?_
  refine ld_M_marks hC (i6_in _) 14 rfl d_M_marked_13 ?_
  exact j_zret hC hr hlk d_M_marked_14 rfl rfl
end KC
