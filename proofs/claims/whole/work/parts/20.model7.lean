section KC
variable {l : Launch} {dC : Nat → ClassId} {dI : Nat → Nat → Nat} {cI cZ cB cJ : ClassId} {ad : Nat → Nat} {σ : S2} {β : B2} {mk : Int64} {ρ : va_W} {am : Nat → Nat} {μ : S2} {ν : B2}
set_option maxHeartbeats 4000000 in
set_option maxRecDepth 100000 in
theorem c_M_drain_no  (h : μ 7 0 = 0) : kM l dC dI cI cZ cB cJ y_M_drain b_M_drain 3 (some .int) 2 46 [.ref (am 0)] (wM am cI cZ μ ν ρ) (some (.int (-1))) (wM am cI cZ (sS μ 0 0) ν ρ) := by
  refine jM.of (lv := [(0, .ref (am 0))]) (own := R_M) jE_loc (by decide) rfl rfl (Nat.le_of_ble_eq_true rfl) rfl ?_
  intro p e s m args below meth c A hC hr hlk
  refine j_aload_n hC 0 1 rfl d_M_drain_0 rfl rfl ?_
  refine j_iconst (v := 0) hC 2 rfl d_M_drain_1 (by decide) ?_
  refine p_M_thrown hC 5 rfl d_M_drain_2 ?_
  refine j_aload_n hC 0 6 rfl d_M_drain_5 rfl rfl ?_
  refine g_M_buffered hC 9 rfl d_M_drain_6 ?_
  refine j_if_ne hC 14 12 rfl d_M_drain_9 (by decide) (fun c_9 => absurd c_9 (fun q => q h)) (fun c_9 => ?_)
  refine j_iconst (v := (-1)) hC 13 rfl d_M_drain_12 (by decide) ?_
  exact j_iret hC hr hlk d_M_drain_13 rfl rfl
set_option maxHeartbeats 4000000 in
set_option maxRecDepth 100000 in
theorem c_M_drain_ok  (h : ¬ μ 7 0 = 0) (hb : μ 7 0 - 1 ≤ 3) (ha : ∀ k : Int32, 0 ≤ k → ¬ μ 23 0 ≤ k → vp_in (μ 22 0 + k) 4096) : kM l dC dI cI cZ cB cJ y_M_drain b_M_drain 3 (some .int) 2 46 [.ref (am 0)] (wM am cI cZ μ ν ρ) (some (.int (μ 21 0))) (wM am cI cZ (dsL (μ 7 0 - 1) 0 (sS (wrL (μ 22 0) (μ 23 0) (μ 24 0) 0 (sS μ 0 0)) 7 ((wrL (μ 22 0) (μ 23 0) (μ 24 0) 0 (sS μ 0 0)) 7 0 - 1))) ν ρ) := by
  refine jM.of (lv := [(0, .ref (am 0))]) (own := R_M) jE_loc (by decide) rfl rfl (Nat.le_of_ble_eq_true rfl) rfl ?_
  intro p e s m args below meth c A hC hr hlk
  have loop : ∀ (n : Nat) (k : Int32) (τ : S2), 0 ≤ k → τ 7 0 = μ 7 0 - 1 → dist k (μ 7 0 - 1) < n → dsL (μ 7 0 - 1) k τ = dsL (μ 7 0 - 1) 0 (sS (wrL (μ 22 0) (μ 23 0) (μ 24 0) 0 (sS μ 0 0)) 7 ((wrL (μ 22 0) (μ 23 0) (μ 24 0) 0 (sS μ 0 0)) 7 0 - 1)) → kJ l dC dI p e s m args below meth c A 2 46 3 (some (.int (μ 21 0))) (wM am cI cZ (dsL (μ 7 0 - 1) 0 (sS (wrL (μ 22 0) (μ 23 0) (μ 24 0) 0 (sS μ 0 0)) 7 ((wrL (μ 22 0) (μ 23 0) (μ 24 0) 0 (sS μ 0 0)) 7 0 - 1))) ν ρ) (wM am cI cZ τ ν ρ) 55 [(2, .int k), (1, .int (μ 21 0)), (0, .ref (am 0))] [] := by
    intro n
    induction n with
    | zero => intro k τ hk h7 hd hR; exact absurd hd (Nat.not_lt_zero _)
    | succ n ih =>
      intro k τ hk h7 hd hR
      refine j_iload_n hC 0 56 rfl d_M_drain_55 rfl rfl ?_
      refine j_aload_n hC 2 57 rfl d_M_drain_56 rfl rfl ?_
      refine g_M_buffered hC 60 rfl d_M_drain_57 ?_
      refine j_eqi h7 ?_
      refine j_icmp_ge hC 125 63 rfl d_M_drain_60 (by decide) (fun c_60 => ?_) (fun c_60 => ?_)
      · refine j_iload_n hC 1 126 rfl d_M_drain_125 rfl rfl ?_
        exact j_iret hC hr hlk d_M_drain_126 rfl (by rw [← hR, dsL_out c_60])
      · refine j_aload_n hC 2 64 rfl d_M_drain_63 rfl rfl ?_
        refine g_M_waiting hC 67 rfl d_M_drain_64 ?_
        refine j_iload_n hC 0 68 rfl d_M_drain_67 rfl rfl ?_
        refine j_aload_n hC 2 69 rfl d_M_drain_68 rfl rfl ?_
        refine g_M_waiting hC 72 rfl d_M_drain_69 ?_
        refine j_iload_n hC 0 73 rfl d_M_drain_72 rfl rfl ?_
        refine j_iconst (v := 1) hC 74 rfl d_M_drain_73 (by decide) ?_
        refine j_iadd hC 75 rfl d_M_drain_74 ?_
        refine ld_M_waiting hC (in4e hk c_60 hb) 76 rfl d_M_drain_75 ?_
        refine st_M_waiting hC (in4d hk c_60 hb) 77 rfl d_M_drain_76 ?_
        refine j_aload_n hC 2 78 rfl d_M_drain_77 rfl rfl ?_
        refine g_M_waitPlace hC 81 rfl d_M_drain_78 ?_
        refine j_iload_n hC 0 82 rfl d_M_drain_81 rfl rfl ?_
        refine j_aload_n hC 2 83 rfl d_M_drain_82 rfl rfl ?_
        refine g_M_waitPlace hC 86 rfl d_M_drain_83 ?_
        refine j_iload_n hC 0 87 rfl d_M_drain_86 rfl rfl ?_
        refine j_iconst (v := 1) hC 88 rfl d_M_drain_87 (by decide) ?_
        refine j_iadd hC 89 rfl d_M_drain_88 ?_
        refine ld_M_waitPlace hC (in4e hk c_60 hb) 90 rfl d_M_drain_89 ?_
        refine st_M_waitPlace hC (in4d hk c_60 hb) 91 rfl d_M_drain_90 ?_
        refine j_aload_n hC 2 92 rfl d_M_drain_91 rfl rfl ?_
        refine g_M_waitSize hC 95 rfl d_M_drain_92 ?_
        refine j_iload_n hC 0 96 rfl d_M_drain_95 rfl rfl ?_
        refine j_aload_n hC 2 97 rfl d_M_drain_96 rfl rfl ?_
        refine g_M_waitSize hC 100 rfl d_M_drain_97 ?_
        refine j_iload_n hC 0 101 rfl d_M_drain_100 rfl rfl ?_
        refine j_iconst (v := 1) hC 102 rfl d_M_drain_101 (by decide) ?_
        refine j_iadd hC 103 rfl d_M_drain_102 ?_
        refine ld_M_waitSize hC (in4e hk c_60 hb) 104 rfl d_M_drain_103 ?_
        refine st_M_waitSize hC (in4d hk c_60 hb) 105 rfl d_M_drain_104 ?_
        refine j_aload_n hC 2 106 rfl d_M_drain_105 rfl rfl ?_
        refine g_M_waitValue hC 109 rfl d_M_drain_106 ?_
        refine j_iload_n hC 0 110 rfl d_M_drain_109 rfl rfl ?_
        refine j_aload_n hC 2 111 rfl d_M_drain_110 rfl rfl ?_
        refine g_M_waitValue hC 114 rfl d_M_drain_111 ?_
        refine j_iload_n hC 0 115 rfl d_M_drain_114 rfl rfl ?_
        refine j_iconst (v := 1) hC 116 rfl d_M_drain_115 (by decide) ?_
        refine j_iadd hC 117 rfl d_M_drain_116 ?_
        refine ld_M_waitValue hC (in4e hk c_60 hb) 118 rfl d_M_drain_117 ?_
        refine st_M_waitValue hC (in4d hk c_60 hb) 119 rfl d_M_drain_118 ?_
        refine j_iinc (lv' := [(2, _), (1, _), (0, _)]) hC 0 122 rfl d_M_drain_119 rfl (inc1 _) (by decide) rfl ?_
        refine j_goto hC 55 d_M_drain_122 (by decide) ?_
        exact ih _ _ (nn1 hk c_60) h7 (dist_lt c_60 hd) (by rw [← hR, dsL_in c_60] <;> rfl)
  refine j_aload_n hC 0 1 rfl d_M_drain_0 rfl rfl ?_
  refine j_iconst (v := 0) hC 2 rfl d_M_drain_1 (by decide) ?_
  refine p_M_thrown hC 5 rfl d_M_drain_2 ?_
  refine j_aload_n hC 0 6 rfl d_M_drain_5 rfl rfl ?_
  refine g_M_buffered hC 9 rfl d_M_drain_6 ?_
  refine j_if_ne hC 14 12 rfl d_M_drain_9 (by decide) (fun c_9 => ?_) (fun c_9 => absurd c_9 h)
  refine j_aload_n hC 0 15 rfl d_M_drain_14 rfl rfl ?_
  refine g_M_waiting hC 18 rfl d_M_drain_15 ?_
  refine j_iconst (v := 0) hC 19 rfl d_M_drain_18 (by decide) ?_
  refine ld_M_waiting hC in0_4 20 rfl d_M_drain_19 ?_
  refine j_istore_n (lv' := [(1, _), (0, _)]) hC 21 rfl d_M_drain_20 rfl (by decide) rfl ?_
  refine j_aload_n hC 1 22 rfl d_M_drain_21 rfl rfl ?_
  refine j_aload_n hC 1 23 rfl d_M_drain_22 rfl rfl ?_
  refine g_M_waitPlace hC 26 rfl d_M_drain_23 ?_
  refine j_iconst (v := 0) hC 27 rfl d_M_drain_26 (by decide) ?_
  refine ld_M_waitPlace hC in0_4 28 rfl d_M_drain_27 ?_
  refine j_aload_n hC 1 29 rfl d_M_drain_28 rfl rfl ?_
  refine g_M_waitSize hC 32 rfl d_M_drain_29 ?_
  refine j_iconst (v := 0) hC 33 rfl d_M_drain_32 (by decide) ?_
  refine ld_M_waitSize hC in0_4 34 rfl d_M_drain_33 ?_
  refine j_aload_n hC 1 35 rfl d_M_drain_34 rfl rfl ?_
  refine g_M_waitValue hC 38 rfl d_M_drain_35 ?_
  refine j_iconst (v := 0) hC 39 rfl d_M_drain_38 (by decide) ?_
  refine ld_M_waitValue hC in0_4 40 rfl d_M_drain_39 ?_
  refine j_callVv hC jE_loc jT_good (As := [_, _, _]) (c_M_write ha) yk_M_write lk_M_140 ⟨rfl, rfl⟩ ⟨Nat.le_of_ble_eq_true rfl, Nat.le_of_ble_eq_true rfl⟩ 0 rfl rfl rfl rfl (Nat.le_of_ble_eq_true rfl) ⟨Nat.zero_le _, Nat.zero_le _⟩ d_M_drain_40 43 rfl rfl ?_
  refine j_aload_n hC 1 44 rfl d_M_drain_43 rfl rfl ?_
  refine j_dup hC 45 rfl d_M_drain_44 rfl ?_
  refine g_M_buffered hC 48 rfl d_M_drain_45 ?_
  refine j_iconst (v := 1) hC 49 rfl d_M_drain_48 (by decide) ?_
  refine j_isub hC 50 rfl d_M_drain_49 ?_
  refine p_M_buffered hC 53 rfl d_M_drain_50 ?_
  refine j_iconst (v := 0) hC 54 rfl d_M_drain_53 (by decide) ?_
  refine j_istore_n (lv' := [(2, _), (1, _), (0, _)]) hC 55 rfl d_M_drain_54 rfl (by decide) rfl ?_
  exact loop _ 0 _ (by decide) (by show (wrL _ _ _ _ _) 7 0 - 1 = _; rw [wrL_j] <;> rfl) (Nat.lt_succ_self _) rfl
set_option maxHeartbeats 4000000 in
set_option maxRecDepth 100000 in
theorem c_M_count {what : Int32}  : kM l dC dI cI cZ cB cJ y_M_count b_M_count 4 (some .int) 1 21 [.ref (am 0), .int what] (wM am cI cZ μ ν ρ) (some (.int (cmR (sS μ 0 0) ν what))) (wM am cI cZ (sS μ 0 0) ν ρ) := by
  refine jM.of (lv := [(0, .ref (am 0)), (1, .int what)]) (own := R_M) jE_loc (by decide) rfl rfl (Nat.le_of_ble_eq_true rfl) rfl ?_
  intro p e s m args below meth c A hC hr hlk
  have loop : cmR (sS μ 0 0) ν what = cnL (idM (sS μ 0 0) ν) ((sS μ 0 0) 2 0) ((sS μ 0 0) 1 0) 0 → ∀ (n : Nat) (i x : Int32), dist i ((sS μ 0 0) 1 0) < n → cnL (idM (sS μ 0 0) ν) ((sS μ 0 0) 2 0) ((sS μ 0 0) 1 0) 0 = cnL (idM (sS μ 0 0) ν) i ((sS μ 0 0) 1 0) x → kJ l dC dI p e s m args below meth c A 1 21 4 (some (.int (cmR (sS μ 0 0) ν what))) (wM am cI cZ (sS μ 0 0) ν ρ) (wM am cI cZ (sS μ 0 0) ν ρ) 89 [(3, .int i), (2, .int x), (0, .ref (am 0)), (1, .int what)] [] := by
    intro hq n
    induction n with
    | zero => intro i x hd hR; exact absurd hd (Nat.not_lt_zero _)
    | succ n ih =>
      intro i x hd hR
      refine j_iload_n hC 0 90 rfl d_M_count_89 rfl rfl ?_
      refine j_aload_n hC 2 91 rfl d_M_count_90 rfl rfl ?_
      refine g_M_total hC 94 rfl d_M_count_91 ?_
      refine j_icmp_ge hC 119 97 rfl d_M_count_94 (by decide) (fun c_94 => ?_) (fun c_94 => ?_)
      · refine j_iload_n hC 1 120 rfl d_M_count_119 rfl rfl ?_
        exact j_iret hC hr hlk d_M_count_120 (by rw [hq, hR, cnL_out c_94]) rfl
      · refine j_iload_n hC 1 98 rfl d_M_count_97 rfl rfl ?_
        refine j_aload_n hC 2 99 rfl d_M_count_98 rfl rfl ?_
        refine j_iload_n hC 0 100 rfl d_M_count_99 rfl rfl ?_
        refine j_callVi hC jE_loc jT_good (As := [_]) c_M_isDone yk_M_isDone lk_M_94 ⟨rfl, rfl⟩ ⟨Nat.le_of_ble_eq_true rfl, Nat.le_of_ble_eq_true rfl⟩ 0 rfl rfl rfl rfl (Nat.le_of_ble_eq_true rfl) ⟨Nat.zero_le _, Nat.zero_le _⟩ d_M_count_100 103 rfl rfl ?_
        refine j_if_eq hC 110 106 rfl d_M_count_103 (by decide) (fun c_103 => ?_) (fun c_103 => ?_)
        · refine j_iconst (v := 0) hC 111 rfl d_M_count_110 (by decide) ?_
          refine j_iadd hC 112 rfl d_M_count_111 ?_
          refine j_istore_n (lv' := [(2, _), (3, _), (0, _), (1, _)]) hC 113 rfl d_M_count_112 rfl (by decide) rfl ?_
          refine j_iinc (lv' := [(3, _), (2, _), (0, _), (1, _)]) hC 1 116 rfl d_M_count_113 rfl (inc1 _) (by decide) rfl ?_
          refine j_goto hC 89 d_M_count_116 (by decide) ?_
          exact ih _ _ (dist_lt c_94 hd) (by rw [hR, cnL_in c_94]; simp [c_94, bI0 c_103])
        · refine j_iconst (v := 1) hC 107 rfl d_M_count_106 (by decide) ?_
          refine j_goto hC 111 d_M_count_107 (by decide) ?_
          refine j_iadd hC 112 rfl d_M_count_111 ?_
          refine j_istore_n (lv' := [(2, _), (3, _), (0, _), (1, _)]) hC 113 rfl d_M_count_112 rfl (by decide) rfl ?_
          refine j_iinc (lv' := [(3, _), (2, _), (0, _), (1, _)]) hC 1 116 rfl d_M_count_113 rfl (inc1 _) (by decide) rfl ?_
          refine j_goto hC 89 d_M_count_116 (by decide) ?_
          exact ih _ _ (dist_lt c_94 hd) (by rw [hR, cnL_in c_94]; simp [c_94, bI1 c_103])
  have loop8 : cmR (sS μ 0 0) ν what = cnL (fun j => ν 0 j.toNatClampNeg) 0 64 0 → ∀ (n : Nat) (i x : Int32), 0 ≤ i → dist i 64 < n → cnL (fun j => ν 0 j.toNatClampNeg) 0 64 0 = cnL (fun j => ν 0 j.toNatClampNeg) i 64 x → kJ l dC dI p e s m args below meth c A 1 21 4 (some (.int (cmR (sS μ 0 0) ν what))) (wM am cI cZ (sS μ 0 0) ν ρ) (wM am cI cZ (sS μ 0 0) ν ρ) 143 [(3, .int i), (2, .int x), (0, .ref (am 0)), (1, .int what)] [] := by
    intro hq n
    induction n with
    | zero => intro i x hi hd hR; exact absurd hd (Nat.not_lt_zero _)
    | succ n ih =>
      intro i x hi hd hR
      refine j_iload_n hC 0 144 rfl d_M_count_143 rfl rfl ?_
      refine j_bipush (v := 64) hC 146 rfl d_M_count_144 (by decide) ?_
      refine j_icmp_ge hC 172 149 rfl d_M_count_146 (by decide) (fun c_146 => ?_) (fun c_146 => ?_)
      · refine j_iload_n hC 1 173 rfl d_M_count_172 rfl rfl ?_
        exact j_iret hC hr hlk d_M_count_173 (by rw [hq, hR, cnL_out c_146]) rfl
      · refine j_iload_n hC 1 150 rfl d_M_count_149 rfl rfl ?_
        refine j_aload_n hC 2 151 rfl d_M_count_150 rfl rfl ?_
        refine g_M_marks hC 154 rfl d_M_count_151 ?_
        refine j_iload_n hC 0 155 rfl d_M_count_154 rfl rfl ?_
        refine ld_M_marks hC (in64 hi c_146) 156 rfl d_M_count_155 ?_
        refine j_if_eq hC 163 159 rfl d_M_count_156 (by decide) (fun c_156 => ?_) (fun c_156 => ?_)
        · refine j_iconst (v := 0) hC 164 rfl d_M_count_163 (by decide) ?_
          refine j_iadd hC 165 rfl d_M_count_164 ?_
          refine j_istore_n (lv' := [(2, _), (3, _), (0, _), (1, _)]) hC 166 rfl d_M_count_165 rfl (by decide) rfl ?_
          refine j_iinc (lv' := [(3, _), (2, _), (0, _), (1, _)]) hC 1 169 rfl d_M_count_166 rfl (inc1 _) (by decide) rfl ?_
          refine j_goto hC 143 d_M_count_169 (by decide) ?_
          exact ih _ _ (nn1 hi c_146) (dist_lt c_146 hd) (by rw [hR, cnL_in c_146]; simp [c_146, bI0 c_156])
        · refine j_iconst (v := 1) hC 160 rfl d_M_count_159 (by decide) ?_
          refine j_goto hC 164 d_M_count_160 (by decide) ?_
          refine j_iadd hC 165 rfl d_M_count_164 ?_
          refine j_istore_n (lv' := [(2, _), (3, _), (0, _), (1, _)]) hC 166 rfl d_M_count_165 rfl (by decide) rfl ?_
          refine j_iinc (lv' := [(3, _), (2, _), (0, _), (1, _)]) hC 1 169 rfl d_M_count_166 rfl (inc1 _) (by decide) rfl ?_
          refine j_goto hC 143 d_M_count_169 (by decide) ?_
          exact ih _ _ (nn1 hi c_146) (dist_lt c_146 hd) (by rw [hR, cnL_in c_146]; simp [c_146, bI1 c_156])
  refine j_aload_n hC 0 1 rfl d_M_count_0 rfl rfl ?_
  refine j_iconst (v := 0) hC 2 rfl d_M_count_1 (by decide) ?_
  refine p_M_thrown hC 5 rfl d_M_count_2 ?_
  refine j_iconst (v := 0) hC 6 rfl d_M_count_5 (by decide) ?_
  refine j_istore_n (lv' := [(2, _), (0, _), (1, _)]) hC 7 rfl d_M_count_6 rfl (by decide) rfl ?_
  refine j_iload_n hC 2 8 rfl d_M_count_7 rfl rfl ?_
  by_cases t0 : what = 0
  · refine j_tswIn (off := 56) hC 64 d_M_count_8 (by rw [t0]; decide) (by rw [t0]; decide) (by rw [t0]; rfl) (by decide) ?_
    refine j_aload_n hC 1 65 rfl d_M_count_64 rfl rfl ?_
    refine g_M_total hC 68 rfl d_M_count_65 ?_
    exact j_iret hC hr hlk d_M_count_68 (by rw [cmR, if_pos t0] <;> rfl) rfl
  by_cases t1 : what = 1
  · refine j_tswIn (off := 61) hC 69 d_M_count_8 (by rw [t1]; decide) (by rw [t1]; decide) (by rw [t1]; rfl) (by decide) ?_
    refine j_aload_n hC 1 70 rfl d_M_count_69 rfl rfl ?_
    refine g_M_total hC 73 rfl d_M_count_70 ?_
    refine j_aload_n hC 1 74 rfl d_M_count_73 rfl rfl ?_
    refine g_M_oldest hC 77 rfl d_M_count_74 ?_
    refine j_isub hC 78 rfl d_M_count_77 ?_
    exact j_iret hC hr hlk d_M_count_78 (by rw [cmR, if_neg t0, if_pos t1] <;> rfl) rfl
  by_cases t2 : what = 2
  · refine j_tswIn (off := 71) hC 79 d_M_count_8 (by rw [t2]; decide) (by rw [t2]; decide) (by rw [t2]; rfl) (by decide) ?_
    refine j_aload_n hC 1 80 rfl d_M_count_79 rfl rfl ?_
    refine g_M_buffered hC 83 rfl d_M_count_80 ?_
    exact j_iret hC hr hlk d_M_count_83 (by rw [cmR, if_neg t0, if_neg t1, if_pos t2] <;> rfl) rfl
  by_cases t3 : what = 3
  · refine j_tswIn (off := 76) hC 84 d_M_count_8 (by rw [t3]; decide) (by rw [t3]; decide) (by rw [t3]; rfl) (by decide) ?_
    refine j_aload_n hC 1 85 rfl d_M_count_84 rfl rfl ?_
    refine g_M_oldest hC 88 rfl d_M_count_85 ?_
    refine j_istore_n (lv' := [(3, _), (2, _), (0, _), (1, _)]) hC 89 rfl d_M_count_88 rfl (by decide) rfl ?_
    exact loop (by rw [cmR, if_neg t0, if_neg t1, if_neg t2, if_pos t3]) _ _ _ (Nat.lt_succ_self _) rfl
  by_cases t4 : what = 4
  · refine j_tswIn (off := 113) hC 121 d_M_count_8 (by rw [t4]; decide) (by rw [t4]; decide) (by rw [t4]; rfl) (by decide) ?_
    refine j_aload_n hC 1 122 rfl d_M_count_121 rfl rfl ?_
    refine g_M_undone hC 125 rfl d_M_count_122 ?_
    exact j_iret hC hr hlk d_M_count_125 (by rw [cmR, if_neg t0, if_neg t1, if_neg t2, if_neg t3, if_pos t4] <;> rfl) rfl
  by_cases t5 : what = 5
  · refine j_tswIn (off := 118) hC 126 d_M_count_8 (by rw [t5]; decide) (by rw [t5]; decide) (by rw [t5]; rfl) (by decide) ?_
    refine j_aload_n hC 1 127 rfl d_M_count_126 rfl rfl ?_
    refine g_M_wrong hC 130 rfl d_M_count_127 ?_
    exact j_iret hC hr hlk d_M_count_130 (by rw [cmR, if_neg t0, if_neg t1, if_neg t2, if_neg t3, if_neg t4, if_pos t5] <;> rfl) rfl
  by_cases t6 : what = 6
  · refine j_tswIn (off := 123) hC 131 d_M_count_8 (by rw [t6]; decide) (by rw [t6]; decide) (by rw [t6]; rfl) (by decide) ?_
    refine j_aload_n hC 1 132 rfl d_M_count_131 rfl rfl ?_
    refine g_M_ofStores hC 135 rfl d_M_count_132 ?_
    exact j_iret hC hr hlk d_M_count_135 (by rw [cmR, if_neg t0, if_neg t1, if_neg t2, if_neg t3, if_neg t4, if_neg t5, if_pos t6] <;> rfl) rfl
  by_cases t7 : what = 7
  · refine j_tswIn (off := 128) hC 136 d_M_count_8 (by rw [t7]; decide) (by rw [t7]; decide) (by rw [t7]; rfl) (by decide) ?_
    refine j_aload_n hC 1 137 rfl d_M_count_136 rfl rfl ?_
    refine g_M_ofOthers hC 140 rfl d_M_count_137 ?_
    exact j_iret hC hr hlk d_M_count_140 (by rw [cmR, if_neg t0, if_neg t1, if_neg t2, if_neg t3, if_neg t4, if_neg t5, if_neg t6, if_pos t7] <;> rfl) rfl
  by_cases t8 : what = 8
  · refine j_tswIn (off := 133) hC 141 d_M_count_8 (by rw [t8]; decide) (by rw [t8]; decide) (by rw [t8]; rfl) (by decide) ?_
    refine j_iconst (v := 0) hC 142 rfl d_M_count_141 (by decide) ?_
    refine j_istore_n (lv' := [(3, _), (2, _), (0, _), (1, _)]) hC 143 rfl d_M_count_142 rfl (by decide) rfl ?_
    exact loop8 (by rw [cmR, if_neg t0, if_neg t1, if_neg t2, if_neg t3, if_neg t4, if_neg t5, if_neg t6, if_neg t7, if_pos t8]) _ 0 _ (by decide) (Nat.lt_succ_self _) rfl
  by_cases t9 : what = 9
  · refine j_tswIn (off := 166) hC 174 d_M_count_8 (by rw [t9]; decide) (by rw [t9]; decide) (by rw [t9]; rfl) (by decide) ?_
    refine j_aload_n hC 1 175 rfl d_M_count_174 rfl rfl ?_
    refine g_M_oldest hC 178 rfl d_M_count_175 ?_
    refine j_aload_n hC 1 179 rfl d_M_count_178 rfl rfl ?_
    refine g_M_total hC 182 rfl d_M_count_179 ?_
    refine j_icmp_ne hC 189 185 rfl d_M_count_182 (by decide) (fun c_182 => ?_) (fun c_182 => ?_)
    · refine j_aload_n hC 1 190 rfl d_M_count_189 rfl rfl ?_
      refine g_M_oldest hC 193 rfl d_M_count_190 ?_
      exact j_iret hC hr hlk d_M_count_193 (by rw [cmR, if_neg t0, if_neg t1, if_neg t2, if_neg t3, if_neg t4, if_neg t5, if_neg t6, if_neg t7, if_neg t8, if_pos t9]; first | (rw [if_pos (c := (sS μ 0 0) 2 0 = (sS μ 0 0) 1 0) c_182] <;> rfl) | (rw [if_neg (c := (sS μ 0 0) 2 0 = (sS μ 0 0) 1 0) c_182] <;> rfl)) rfl
    · refine j_iconst (v := (-1)) hC 186 rfl d_M_count_185 (by decide) ?_
      refine j_goto hC 193 d_M_count_186 (by decide) ?_
      exact j_iret hC hr hlk d_M_count_193 (by rw [cmR, if_neg t0, if_neg t1, if_neg t2, if_neg t3, if_neg t4, if_neg t5, if_neg t6, if_neg t7, if_neg t8, if_pos t9]; first | (rw [if_pos (c := (sS μ 0 0) 2 0 = (sS μ 0 0) 1 0) c_182] <;> rfl) | (rw [if_neg (c := (sS μ 0 0) 2 0 = (sS μ 0 0) 1 0) c_182] <;> rfl)) rfl
  refine j_tswOut hC 194 d_M_count_8 (tsw10 t0 t1 t2 t3 t4 t5 t6 t7 t8 t9) (by decide) ?_
  refine j_iconst (v := (-1)) hC 195 rfl d_M_count_194 (by decide) ?_
  exact j_iret hC hr hlk d_M_count_195 (by rw [cmR, if_neg t0, if_neg t1, if_neg t2, if_neg t3, if_neg t4, if_neg t5, if_neg t6, if_neg t7, if_neg t8, if_neg t9] <;> rfl) rfl
set_option maxHeartbeats 4000000 in
set_option maxRecDepth 100000 in
theorem c_G_bitCount {x : Int64}  : kM l dC dI cI cZ cB cJ y_G_bitCount b_G_bitCount 2 (some .int) 0 0 [.long x] (wC ad cI cZ cB σ β mk ρ) (some (.int (bcn x))) (wC ad cI cZ cB σ β mk ρ) := by
  refine jM.of (lv := [(0, .long x)]) (own := R_G) jE_loc (by decide) rfl rfl (Nat.le_of_ble_eq_true rfl) rfl ?_
  intro p e s m args below meth c A hC hr hlk
  refine j_lload_n hC 0 1 rfl d_G_bitCount_0 rfl rfl ?_
  refine j_lload_n hC 0 2 rfl d_G_bitCount_1 rfl rfl ?_
  refine j_iconst (v := 1) hC 3 rfl d_G_bitCount_2 (by decide) ?_
  refine j_lushr hC 4 rfl d_G_bitCount_3 rfl ?_
  refine j_ldc2 hC 7 rfl (List.mem_cons_of_mem _ kl_314) d_G_bitCount_4 ?_
  refine j_land hC 8 rfl d_G_bitCount_7 ?_
  refine j_lsub hC 9 rfl d_G_bitCount_8 ?_
  refine j_lstore_n (lv' := [(0, _)]) hC 10 rfl d_G_bitCount_9 rfl (by decide) rfl ?_
  refine j_lload_n hC 0 11 rfl d_G_bitCount_10 rfl rfl ?_
  refine j_ldc2 hC 14 rfl (List.mem_cons_of_mem _ kl_316) d_G_bitCount_11 ?_
  refine j_land hC 15 rfl d_G_bitCount_14 ?_
  refine j_lload_n hC 0 16 rfl d_G_bitCount_15 rfl rfl ?_
  refine j_iconst (v := 2) hC 17 rfl d_G_bitCount_16 (by decide) ?_
  refine j_lushr hC 18 rfl d_G_bitCount_17 rfl ?_
  refine j_ldc2 hC 21 rfl (List.mem_cons_of_mem _ kl_316) d_G_bitCount_18 ?_
  refine j_land hC 22 rfl d_G_bitCount_21 ?_
  refine j_ladd hC 23 rfl d_G_bitCount_22 ?_
  refine j_lstore_n (lv' := [(0, _)]) hC 24 rfl d_G_bitCount_23 rfl (by decide) rfl ?_
  refine j_lload_n hC 0 25 rfl d_G_bitCount_24 rfl rfl ?_
  refine j_lload_n hC 0 26 rfl d_G_bitCount_25 rfl rfl ?_
  refine j_iconst (v := 4) hC 27 rfl d_G_bitCount_26 (by decide) ?_
  refine j_lushr hC 28 rfl d_G_bitCount_27 rfl ?_
  refine j_ladd hC 29 rfl d_G_bitCount_28 ?_
  refine j_ldc2 hC 32 rfl (List.mem_cons_of_mem _ kl_318) d_G_bitCount_29 ?_
  refine j_land hC 33 rfl d_G_bitCount_32 ?_
  refine j_lstore_n (lv' := [(0, _)]) hC 34 rfl d_G_bitCount_33 rfl (by decide) rfl ?_
  refine j_lload_n hC 0 35 rfl d_G_bitCount_34 rfl rfl ?_
  refine j_lload_n hC 0 36 rfl d_G_bitCount_35 rfl rfl ?_
  refine j_bipush (v := 8) hC 38 rfl d_G_bitCount_36 (by decide) ?_
  refine j_lushr hC 39 rfl d_G_bitCount_38 rfl ?_
  refine j_ladd hC 40 rfl d_G_bitCount_39 ?_
  refine j_lstore_n (lv' := [(0, _)]) hC 41 rfl d_G_bitCount_40 rfl (by decide) rfl ?_
  refine j_lload_n hC 0 42 rfl d_G_bitCount_41 rfl rfl ?_
  refine j_lload_n hC 0 43 rfl d_G_bitCount_42 rfl rfl ?_
  refine j_bipush (v := 16) hC 45 rfl d_G_bitCount_43 (by decide) ?_
  refine j_lushr hC 46 rfl d_G_bitCount_45 rfl ?_
  refine j_ladd hC 47 rfl d_G_bitCount_46 ?_
  refine j_lstore_n (lv' := [(0, _)]) hC 48 rfl d_G_bitCount_47 rfl (by decide) rfl ?_
  refine j_lload_n hC 0 49 rfl d_G_bitCount_48 rfl rfl ?_
  refine j_lload_n hC 0 50 rfl d_G_bitCount_49 rfl rfl ?_
  refine j_bipush (v := 32) hC 52 rfl d_G_bitCount_50 (by decide) ?_
  refine j_lushr hC 53 rfl d_G_bitCount_52 rfl ?_
  refine j_ladd hC 54 rfl d_G_bitCount_53 ?_
  refine j_lstore_n (lv' := [(0, _)]) hC 55 rfl d_G_bitCount_54 rfl (by decide) rfl ?_
  refine j_lload_n hC 0 56 rfl d_G_bitCount_55 rfl rfl ?_
  refine j_l2i hC 57 rfl d_G_bitCount_56 rfl ?_
  refine j_bipush (v := 127) hC 59 rfl d_G_bitCount_57 (by decide) ?_
  refine j_iand hC 60 rfl d_G_bitCount_59 ?_
  exact j_iret hC hr hlk d_G_bitCount_60 rfl rfl
set_option maxHeartbeats 4000000 in
set_option maxRecDepth 100000 in
theorem c_C_count {what : Int32}  : kM l dC dI cI cZ cB cJ y_C_count b_C_count 2 (some .int) 2 43 [.ref (ad 0), .int what] (wC ad cI cZ cB σ β mk ρ) (some (.int (cntR σ β mk what))) (wC ad cI cZ cB σ β mk ρ) := by
  refine jM.of (lv := [(0, .ref (ad 0)), (1, .int what)]) (own := R_C) jE_loc (by decide) rfl rfl (Nat.le_of_ble_eq_true rfl) rfl ?_
  intro p e s m args below meth c A hC hr hlk
  refine j_iload_n hC 1 1 rfl d_C_count_0 rfl rfl ?_
  by_cases t0 : what = 0
  · refine j_tswIn (off := 55) hC 56 d_C_count_1 (by rw [t0]; decide) (by rw [t0]; decide) (by rw [t0]; rfl) (by decide) ?_
    refine j_aload_n hC 0 57 rfl d_C_count_56 rfl rfl ?_
    refine g_C_nextOp hC 60 rfl d_C_count_57 ?_
    exact j_iret hC hr hlk d_C_count_60 (by rw [cntR, if_pos t0]) rfl
  by_cases t1 : what = 1
  · refine j_tswIn (off := 60) hC 61 d_C_count_1 (by rw [t1]; decide) (by rw [t1]; decide) (by rw [t1]; rfl) (by decide) ?_
    refine j_aload_n hC 0 62 rfl d_C_count_61 rfl rfl ?_
    refine j_callVi hC jE_loc jT_good (As := []) c_C_waitingOps yk_C_waitingOps lk_C_64 ⟨rfl, rfl⟩ ⟨Nat.le_of_ble_eq_true rfl, Nat.le_of_ble_eq_true rfl⟩ 0 rfl rfl rfl rfl (Nat.le_of_ble_eq_true rfl) ⟨Nat.zero_le _, Nat.zero_le _⟩ d_C_count_62 65 rfl rfl ?_
    exact j_iret hC hr hlk d_C_count_65 (by rw [cntR, if_neg t0, if_pos t1]) rfl
  by_cases t2 : what = 2
  · refine j_tswIn (off := 65) hC 66 d_C_count_1 (by rw [t2]; decide) (by rw [t2]; decide) (by rw [t2]; rfl) (by decide) ?_
    refine j_aload_n hC 0 67 rfl d_C_count_66 rfl rfl ?_
    refine g_C_buffer hC 70 rfl d_C_count_67 ?_
    refine j_callVi hC jE_loc jT_good (As := []) c_B_size yk_B_size lk_C_205 ⟨rfl, rfl⟩ ⟨Nat.le_of_ble_eq_true rfl, Nat.le_of_ble_eq_true rfl⟩ 2 rfl rfl rfl rfl (Nat.le_of_ble_eq_true rfl) ⟨Nat.zero_le _, Nat.zero_le _⟩ d_C_count_70 73 rfl rfl ?_
    exact j_iret hC hr hlk d_C_count_73 (by rw [cntR, if_neg t0, if_neg t1, if_pos t2]) rfl
  by_cases t3 : what = 3
  · refine j_tswIn (off := 73) hC 74 d_C_count_1 (by rw [t3]; decide) (by rw [t3]; decide) (by rw [t3]; rfl) (by decide) ?_
    refine j_aload_n hC 0 75 rfl d_C_count_74 rfl rfl ?_
    refine j_callVi hC jE_loc jT_good (As := []) c_C_loadsDoneThatWait yk_C_loadsDoneThatWait lk_C_208 ⟨rfl, rfl⟩ ⟨Nat.le_of_ble_eq_true rfl, Nat.le_of_ble_eq_true rfl⟩ 0 rfl rfl rfl rfl (Nat.le_of_ble_eq_true rfl) ⟨Nat.zero_le _, Nat.zero_le _⟩ d_C_count_75 78 rfl rfl ?_
    exact j_iret hC hr hlk d_C_count_78 (by rw [cntR, if_neg t0, if_neg t1, if_neg t2, if_pos t3]) rfl
  by_cases t4 : what = 4
  · refine j_tswIn (off := 78) hC 79 d_C_count_1 (by rw [t4]; decide) (by rw [t4]; decide) (by rw [t4]; rfl) (by decide) ?_
    refine j_aload_n hC 0 80 rfl d_C_count_79 rfl rfl ?_
    refine g_C_undoneSoFar hC 83 rfl d_C_count_80 ?_
    exact j_iret hC hr hlk d_C_count_83 (by rw [cntR, if_neg t0, if_neg t1, if_neg t2, if_neg t3, if_pos t4]) rfl
  by_cases t5 : what = 5
  · refine j_tswIn (off := 83) hC 84 d_C_count_1 (by rw [t5]; decide) (by rw [t5]; decide) (by rw [t5]; rfl) (by decide) ?_
    refine j_aload_n hC 0 85 rfl d_C_count_84 rfl rfl ?_
    refine g_C_wrongSoFar hC 88 rfl d_C_count_85 ?_
    exact j_iret hC hr hlk d_C_count_88 (by rw [cntR, if_neg t0, if_neg t1, if_neg t2, if_neg t3, if_neg t4, if_pos t5]) rfl
  by_cases t6 : what = 6
  · refine j_tswIn (off := 88) hC 89 d_C_count_1 (by rw [t6]; decide) (by rw [t6]; decide) (by rw [t6]; rfl) (by decide) ?_
    refine j_aload_n hC 0 90 rfl d_C_count_89 rfl rfl ?_
    refine g_C_bytesFromStores hC 93 rfl d_C_count_90 ?_
    exact j_iret hC hr hlk d_C_count_93 (by rw [cntR, if_neg t0, if_neg t1, if_neg t2, if_neg t3, if_neg t4, if_neg t5, if_pos t6]) rfl
  by_cases t7 : what = 7
  · refine j_tswIn (off := 93) hC 94 d_C_count_1 (by rw [t7]; decide) (by rw [t7]; decide) (by rw [t7]; rfl) (by decide) ?_
    refine j_aload_n hC 0 95 rfl d_C_count_94 rfl rfl ?_
    refine g_C_bytesFromElsewhere hC 98 rfl d_C_count_95 ?_
    exact j_iret hC hr hlk d_C_count_98 (by rw [cntR, if_neg t0, if_neg t1, if_neg t2, if_neg t3, if_neg t4, if_neg t5, if_neg t6, if_pos t7]) rfl
  by_cases t8 : what = 8
  · refine j_tswIn (off := 98) hC 99 d_C_count_1 (by rw [t8]; decide) (by rw [t8]; decide) (by rw [t8]; rfl) (by decide) ?_
    refine j_aload_n hC 0 100 rfl d_C_count_99 rfl rfl ?_
    refine g_C_marks hC 103 rfl d_C_count_100 ?_
    refine j_callSi hC jE_loc jT_good (As := [_]) c_G_bitCount yk_G_bitCount lk_C_211 ⟨rfl, rfl⟩ ⟨Nat.le_of_ble_eq_true rfl, Nat.le_of_ble_eq_true rfl⟩ rfl (Nat.le_of_ble_eq_true rfl) ⟨Nat.zero_le _, Nat.zero_le _⟩ d_C_count_103 106 rfl rfl ?_
    exact j_iret hC hr hlk d_C_count_106 (by rw [cntR, if_neg t0, if_neg t1, if_neg t2, if_neg t3, if_neg t4, if_neg t5, if_neg t6, if_neg t7, if_pos t8]) rfl
  by_cases t9 : what = 9
  · refine j_tswIn (off := 106) hC 107 d_C_count_1 (by rw [t9]; decide) (by rw [t9]; decide) (by rw [t9]; rfl) (by decide) ?_
    refine j_aload_n hC 0 108 rfl d_C_count_107 rfl rfl ?_
    refine j_callVi hC jE_loc jT_good (As := []) c_C_waitingOps yk_C_waitingOps lk_C_64 ⟨rfl, rfl⟩ ⟨Nat.le_of_ble_eq_true rfl, Nat.le_of_ble_eq_true rfl⟩ 0 rfl rfl rfl rfl (Nat.le_of_ble_eq_true rfl) ⟨Nat.zero_le _, Nat.zero_le _⟩ d_C_count_108 111 rfl rfl ?_
    refine j_if_le hC 121 114 rfl d_C_count_111 (by decide) (fun c_111 => ?_) (fun c_111 => ?_)
    · refine j_iconst (v := (-1)) hC 122 rfl d_C_count_121 (by decide) ?_
      exact j_iret hC hr hlk d_C_count_122 (by rw [cntR, if_neg t0, if_neg t1, if_neg t2, if_neg t3, if_neg t4, if_neg t5, if_neg t6, if_neg t7, if_neg t8, if_pos t9]; simp only [c_111, reduceIte]) rfl
    · refine j_aload_n hC 0 115 rfl d_C_count_114 rfl rfl ?_
      refine g_C_oldestWaiting hC 118 rfl d_C_count_115 ?_
      refine j_goto hC 122 d_C_count_118 (by decide) ?_
      exact j_iret hC hr hlk d_C_count_122 (by rw [cntR, if_neg t0, if_neg t1, if_neg t2, if_neg t3, if_neg t4, if_neg t5, if_neg t6, if_neg t7, if_neg t8, if_pos t9]; simp only [c_111, reduceIte]) rfl
  refine j_tswOut hC 123 d_C_count_1 (tsw10 t0 t1 t2 t3 t4 t5 t6 t7 t8 t9) (by decide) ?_
  refine j_iconst (v := (-1)) hC 124 rfl d_C_count_123 (by decide) ?_
  exact j_iret hC hr hlk d_C_count_124 (by rw [cntR, if_neg t0, if_neg t1, if_neg t2, if_neg t3, if_neg t4, if_neg t5, if_neg t6, if_neg t7, if_neg t8, if_neg t9]) rfl
end KC
