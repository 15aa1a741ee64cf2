section KC
variable {l : Launch} {dC : Nat → ClassId} {dI : Nat → Nat → Nat} {cI cZ cB cJ : ClassId} {ad : Nat → Nat} {σ : S2} {β : B2} {mk : Int64} {ρ : va_W} {am : Nat → Nat} {μ : S2} {ν : B2}
set_option maxHeartbeats 4000000 in
set_option maxRecDepth 100000 in
theorem c_M_op_thr {t : Int32} {kind size prog : Int32} (ht : opTh μ kind size = t) (h : ¬ t ≤ 0) : kM l dC dI cI cZ cB cJ y_M_op b_M_op 5 (some .int) 1 21 [.ref (am 0), .int kind, .int size, .int prog] (wM am cI cZ μ ν ρ) (some (.int (0))) (wM am cI cZ (sS μ 0 t) ν ρ) := by
  refine jM.of (lv := [(0, .ref (am 0)), (1, .int kind), (2, .int size), (3, .int prog)]) (own := R_M) jE_loc (by decide) rfl rfl (Nat.le_of_ble_eq_true rfl) rfl ?_
  intro p e s m args below meth c A hC hr hlk
  have jn : ∀ x : Int32, x = opTh μ kind size → kJ l dC dI p e s m args below meth c A 1 21 5 (some (.int (0))) (wM am cI cZ (sS μ 0 t) ν ρ) (wM am cI cZ μ ν ρ) 41 [(0, .ref (am 0)), (1, .int kind), (2, .int size), (3, .int prog)] [.int x, .ref (am 0)] := by
    intro x hx
    obtain rfl : x = t := hx.trans ht
    refine p_M_thrown hC 44 rfl d_M_op_41 ?_
    refine j_aload_n hC 0 45 rfl d_M_op_44 rfl rfl ?_
    refine g_M_thrown hC 48 rfl d_M_op_45 ?_
    refine j_if_le hC 53 51 rfl d_M_op_48 (by decide) (fun c_48 => absurd c_48 h) (fun c_48 => ?_)
    refine j_iconst (v := 0) hC 52 rfl d_M_op_51 (by decide) ?_
    exact j_iret hC hr hlk d_M_op_52 rfl rfl
  refine j_aload_n hC 0 1 rfl d_M_op_0 rfl rfl ?_
  refine j_iload_n hC 1 2 rfl d_M_op_1 rfl rfl ?_
  refine j_if_lt hC 18 5 rfl d_M_op_2 (by decide) (fun c_2 => ?_) (fun c_2 => ?_)
  · refine j_iconst (v := 1) hC 19 rfl d_M_op_18 (by decide) ?_
    refine j_goto hC 41 d_M_op_19 (by decide) ?_
    exact jn _ (by simp [opTh, c_2])
  · refine j_iload_n hC 1 6 rfl d_M_op_5 rfl rfl ?_
    refine j_iconst (v := 3) hC 7 rfl d_M_op_6 (by decide) ?_
    refine j_icmp_gt hC 18 10 rfl d_M_op_7 (by decide) (fun c_7 => ?_) (fun c_7 => ?_)
    · refine j_iconst (v := 1) hC 19 rfl d_M_op_18 (by decide) ?_
      refine j_goto hC 41 d_M_op_19 (by decide) ?_
      exact jn _ (by simp [opTh, c_2, c_7])
    · refine j_iload_n hC 1 11 rfl d_M_op_10 rfl rfl ?_
      refine j_iload_n hC 2 12 rfl d_M_op_11 rfl rfl ?_
      refine j_callSi hC jE_loc jT_good (As := [_, _]) c_M_isSize yk_M_isSize lk_M_66 ⟨rfl, rfl⟩ ⟨Nat.le_of_ble_eq_true rfl, Nat.le_of_ble_eq_true rfl⟩ rfl (Nat.le_of_ble_eq_true rfl) ⟨Nat.zero_le _, Nat.zero_le _⟩ d_M_op_12 15 rfl rfl ?_
      refine j_if_ne hC 22 18 rfl d_M_op_15 (by decide) (fun c_15 => ?_) (fun c_15 => ?_)
      · refine j_aload_n hC 0 23 rfl d_M_op_22 rfl rfl ?_
        refine g_M_total hC 26 rfl d_M_op_23 ?_
        refine j_aload_n hC 0 27 rfl d_M_op_26 rfl rfl ?_
        refine g_M_oldest hC 30 rfl d_M_op_27 ?_
        refine j_isub hC 31 rfl d_M_op_30 ?_
        refine j_bipush (v := 32) hC 33 rfl d_M_op_31 (by decide) ?_
        refine j_icmp_ne hC 40 36 rfl d_M_op_33 (by decide) (fun c_33 => ?_) (fun c_33 => ?_)
        · refine j_iconst (v := 0) hC 41 rfl d_M_op_40 (by decide) ?_
          exact jn _ (by simp [opTh, c_2, c_7, bI1 c_15, c_33])
        · refine j_iconst (v := 2) hC 37 rfl d_M_op_36 (by decide) ?_
          refine j_goto hC 41 d_M_op_37 (by decide) ?_
          exact jn _ (by simp [opTh, c_2, c_7, bI1 c_15, c_33])
      · refine j_iconst (v := 1) hC 19 rfl d_M_op_18 (by decide) ?_
        refine j_goto hC 41 d_M_op_19 (by decide) ?_
        exact jn _ (by simp [opTh, c_2, c_7, bI0 c_15])
set_option maxHeartbeats 4000000 in
set_option maxRecDepth 100000 in
theorem c_M_op_ok {kind size prog : Int32} (ht : opTh μ kind size = 0)  : kM l dC dI cI cZ cB cJ y_M_op b_M_op 5 (some .int) 1 21 [.ref (am 0), .int kind, .int size, .int prog] (wM am cI cZ μ ν ρ) (some (.int (μ 1 0 + 1 - 1))) (wM am cI cZ (sS (sA (sA (sA (sA (sS μ 0 0) 12 (ix (μ 1 0)) kind) 13 (ix (μ 1 0)) size) 14 (ix (μ 1 0)) (prog &&& 63)) 15 (ix (μ 1 0)) (-1)) 1 (μ 1 0 + 1)) (bA (bA ν 1 (ix (μ 1 0)) false) 2 (ix (μ 1 0)) false) ρ) := by
  refine jM.of (lv := [(0, .ref (am 0)), (1, .int kind), (2, .int size), (3, .int prog)]) (own := R_M) jE_loc (by decide) rfl rfl (Nat.le_of_ble_eq_true rfl) rfl ?_
  intro p e s m args below meth c A hC hr hlk
  have jn : ∀ x : Int32, x = opTh μ kind size → kJ l dC dI p e s m args below meth c A 1 21 5 (some (.int (μ 1 0 + 1 - 1))) (wM am cI cZ (sS (sA (sA (sA (sA (sS μ 0 0) 12 (ix (μ 1 0)) kind) 13 (ix (μ 1 0)) size) 14 (ix (μ 1 0)) (prog &&& 63)) 15 (ix (μ 1 0)) (-1)) 1 (μ 1 0 + 1)) (bA (bA ν 1 (ix (μ 1 0)) false) 2 (ix (μ 1 0)) false) ρ) (wM am cI cZ μ ν ρ) 41 [(0, .ref (am 0)), (1, .int kind), (2, .int size), (3, .int prog)] [.int x, .ref (am 0)] := by
    intro x hx
    obtain rfl : x = 0 := hx.trans ht
    refine p_M_thrown hC 44 rfl d_M_op_41 ?_
    refine j_aload_n hC 0 45 rfl d_M_op_44 rfl rfl ?_
    refine g_M_thrown hC 48 rfl d_M_op_45 ?_
    refine j_if_le hC 53 51 rfl d_M_op_48 (by decide) (fun c_48 => ?_) (fun c_48 => absurd c_48 (fun q => q (Int32.le_refl 0)))
    refine j_aload_n hC 0 54 rfl d_M_op_53 rfl rfl ?_
    refine g_M_total hC 57 rfl d_M_op_54 ?_
    refine j_bipush (v := 127) hC 59 rfl d_M_op_57 (by decide) ?_
    refine j_iand hC 60 rfl d_M_op_59 ?_
    refine j_istore (lv' := [(4, _), (0, _), (1, _), (2, _), (3, _)]) hC 62 rfl d_M_op_60 (by decide) rfl ?_
    refine j_aload_n hC 1 63 rfl d_M_op_62 rfl rfl ?_
    refine g_M_kinds hC 66 rfl d_M_op_63 ?_
    refine j_iload hC 0 68 rfl d_M_op_66 rfl ?_
    refine j_iload_n hC 2 69 rfl d_M_op_68 rfl rfl ?_
    refine st_M_kinds hC (ix_in _) 70 rfl d_M_op_69 ?_
    refine j_aload_n hC 1 71 rfl d_M_op_70 rfl rfl ?_
    refine g_M_sizes hC 74 rfl d_M_op_71 ?_
    refine j_iload hC 0 76 rfl d_M_op_74 rfl ?_
    refine j_iload_n hC 3 77 rfl d_M_op_76 rfl rfl ?_
    refine st_M_sizes hC (ix_in _) 78 rfl d_M_op_77 ?_
    refine j_aload_n hC 1 79 rfl d_M_op_78 rfl rfl ?_
    refine g_M_programs hC 82 rfl d_M_op_79 ?_
    refine j_iload hC 0 84 rfl d_M_op_82 rfl ?_
    refine j_iload_n hC 4 85 rfl d_M_op_84 rfl rfl ?_
    refine j_bipush (v := 63) hC 87 rfl d_M_op_85 (by decide) ?_
    refine j_iand hC 88 rfl d_M_op_87 ?_
    refine st_M_programs hC (ix_in _) 89 rfl d_M_op_88 ?_
    refine j_aload_n hC 1 90 rfl d_M_op_89 rfl rfl ?_
    refine g_M_places hC 93 rfl d_M_op_90 ?_
    refine j_iload hC 0 95 rfl d_M_op_93 rfl ?_
    refine j_iconst (v := (-1)) hC 96 rfl d_M_op_95 (by decide) ?_
    refine st_M_places hC (ix_in _) 97 rfl d_M_op_96 ?_
    refine j_aload_n hC 1 98 rfl d_M_op_97 rfl rfl ?_
    refine g_M_told hC 101 rfl d_M_op_98 ?_
    refine j_iload hC 0 103 rfl d_M_op_101 rfl ?_
    refine j_iconst (v := 0) hC 104 rfl d_M_op_103 (by decide) ?_
    refine st_M_told hC (ix_in _) (b := false) rfl 105 rfl d_M_op_104 ?_
    refine j_aload_n hC 1 106 rfl d_M_op_105 rfl rfl ?_
    refine g_M_done hC 109 rfl d_M_op_106 ?_
    refine j_iload hC 0 111 rfl d_M_op_109 rfl ?_
    refine j_iconst (v := 0) hC 112 rfl d_M_op_111 (by decide) ?_
    refine st_M_done hC (ix_in _) (b := false) rfl 113 rfl d_M_op_112 ?_
    refine j_aload_n hC 1 114 rfl d_M_op_113 rfl rfl ?_
    refine j_dup hC 115 rfl d_M_op_114 rfl ?_
    refine g_M_total hC 118 rfl d_M_op_115 ?_
    refine j_iconst (v := 1) hC 119 rfl d_M_op_118 (by decide) ?_
    refine j_iadd hC 120 rfl d_M_op_119 ?_
    refine p_M_total hC 123 rfl d_M_op_120 ?_
    refine j_aload_n hC 1 124 rfl d_M_op_123 rfl rfl ?_
    refine g_M_total hC 127 rfl d_M_op_124 ?_
    refine j_iconst (v := 1) hC 128 rfl d_M_op_127 (by decide) ?_
    refine j_isub hC 129 rfl d_M_op_128 ?_
    exact j_iret hC hr hlk d_M_op_129 rfl rfl
  refine j_aload_n hC 0 1 rfl d_M_op_0 rfl rfl ?_
  refine j_iload_n hC 1 2 rfl d_M_op_1 rfl rfl ?_
  refine j_if_lt hC 18 5 rfl d_M_op_2 (by decide) (fun c_2 => ?_) (fun c_2 => ?_)
  · refine j_iconst (v := 1) hC 19 rfl d_M_op_18 (by decide) ?_
    refine j_goto hC 41 d_M_op_19 (by decide) ?_
    exact jn _ (by simp [opTh, c_2])
  · refine j_iload_n hC 1 6 rfl d_M_op_5 rfl rfl ?_
    refine j_iconst (v := 3) hC 7 rfl d_M_op_6 (by decide) ?_
    refine j_icmp_gt hC 18 10 rfl d_M_op_7 (by decide) (fun c_7 => ?_) (fun c_7 => ?_)
    · refine j_iconst (v := 1) hC 19 rfl d_M_op_18 (by decide) ?_
      refine j_goto hC 41 d_M_op_19 (by decide) ?_
      exact jn _ (by simp [opTh, c_2, c_7])
    · refine j_iload_n hC 1 11 rfl d_M_op_10 rfl rfl ?_
      refine j_iload_n hC 2 12 rfl d_M_op_11 rfl rfl ?_
      refine j_callSi hC jE_loc jT_good (As := [_, _]) c_M_isSize yk_M_isSize lk_M_66 ⟨rfl, rfl⟩ ⟨Nat.le_of_ble_eq_true rfl, Nat.le_of_ble_eq_true rfl⟩ rfl (Nat.le_of_ble_eq_true rfl) ⟨Nat.zero_le _, Nat.zero_le _⟩ d_M_op_12 15 rfl rfl ?_
      refine j_if_ne hC 22 18 rfl d_M_op_15 (by decide) (fun c_15 => ?_) (fun c_15 => ?_)
      · refine j_aload_n hC 0 23 rfl d_M_op_22 rfl rfl ?_
        refine g_M_total hC 26 rfl d_M_op_23 ?_
        refine j_aload_n hC 0 27 rfl d_M_op_26 rfl rfl ?_
        refine g_M_oldest hC 30 rfl d_M_op_27 ?_
        refine j_isub hC 31 rfl d_M_op_30 ?_
        refine j_bipush (v := 32) hC 33 rfl d_M_op_31 (by decide) ?_
        refine j_icmp_ne hC 40 36 rfl d_M_op_33 (by decide) (fun c_33 => ?_) (fun c_33 => ?_)
        · refine j_iconst (v := 0) hC 41 rfl d_M_op_40 (by decide) ?_
          exact jn _ (by simp [opTh, c_2, c_7, bI1 c_15, c_33])
        · refine j_iconst (v := 2) hC 37 rfl d_M_op_36 (by decide) ?_
          refine j_goto hC 41 d_M_op_37 (by decide) ?_
          exact jn _ (by simp [opTh, c_2, c_7, bI1 c_15, c_33])
      · refine j_iconst (v := 1) hC 19 rfl d_M_op_18 (by decide) ?_
        refine j_goto hC 41 d_M_op_19 (by decide) ?_
        exact jn _ (by simp [opTh, c_2, c_7, bI0 c_15])
set_option maxHeartbeats 4000000 in
set_option maxRecDepth 100000 in
theorem c_M_address_thr {t : Int32} {op at0 : Int32} (ht : adTh μ op at0 = t) (h : ¬ t ≤ 0) : kM l dC dI cI cZ cB cJ y_M_address b_M_address 4 (some .int) 3 69 [.ref (am 0), .int op, .int at0] (wM am cI cZ μ ν ρ) (some (.int (0))) (wM am cI cZ (sS μ 0 t) ν ρ) := by
  refine jM.of (lv := [(0, .ref (am 0)), (1, .int op), (2, .int at0)]) (own := R_M) jE_loc (by decide) rfl rfl (Nat.le_of_ble_eq_true rfl) rfl ?_
  intro p e s m args below meth c A hC hr hlk
  have jn : ∀ x : Int32, x = adTh μ op at0 → kJ l dC dI p e s m args below meth c A 3 69 4 (some (.int (0))) (wM am cI cZ (sS μ 0 t) ν ρ) (wM am cI cZ μ ν ρ) 27 [(0, .ref (am 0)), (1, .int op), (2, .int at0)] [.int x, .ref (am 0)] := by
    intro x hx
    obtain rfl : x = t := hx.trans ht
    refine p_M_thrown hC 30 rfl d_M_address_27 ?_
    refine j_aload_n hC 0 31 rfl d_M_address_30 rfl rfl ?_
    refine g_M_thrown hC 34 rfl d_M_address_31 ?_
    refine j_if_le hC 39 37 rfl d_M_address_34 (by decide) (fun c_34 => absurd c_34 h) (fun c_34 => ?_)
    refine j_iconst (v := 0) hC 38 rfl d_M_address_37 (by decide) ?_
    exact j_iret hC hr hlk d_M_address_38 rfl rfl
  refine j_aload_n hC 0 1 rfl d_M_address_0 rfl rfl ?_
  refine j_aload_n hC 0 2 rfl d_M_address_1 rfl rfl ?_
  refine j_iload_n hC 1 3 rfl d_M_address_2 rfl rfl ?_
  refine j_callVi hC jE_loc jT_good (As := [_]) c_M_isOp yk_M_isOp lk_M_88 ⟨rfl, rfl⟩ ⟨Nat.le_of_ble_eq_true rfl, Nat.le_of_ble_eq_true rfl⟩ 0 rfl rfl rfl rfl (Nat.le_of_ble_eq_true rfl) ⟨Nat.zero_le _, Nat.zero_le _⟩ d_M_address_3 6 rfl rfl ?_
  refine j_if_ne hC 13 9 rfl d_M_address_6 (by decide) (fun c_6 => ?_) (fun c_6 => ?_)
  · refine j_aload_n hC 0 14 rfl d_M_address_13 rfl rfl ?_
    refine j_iload_n hC 1 15 rfl d_M_address_14 rfl rfl ?_
    refine j_iload_n hC 2 16 rfl d_M_address_15 rfl rfl ?_
    refine j_callVi hC jE_loc jT_good (As := [_, _]) c_M_canBe yk_M_canBe lk_M_91 ⟨rfl, rfl⟩ ⟨Nat.le_of_ble_eq_true rfl, Nat.le_of_ble_eq_true rfl⟩ 0 rfl rfl rfl rfl (Nat.le_of_ble_eq_true rfl) ⟨Nat.zero_le _, Nat.zero_le _⟩ d_M_address_16 19 rfl rfl ?_
    refine j_if_ne hC 26 22 rfl d_M_address_19 (by decide) (fun c_19 => ?_) (fun c_19 => ?_)
    · refine j_iconst (v := 0) hC 27 rfl d_M_address_26 (by decide) ?_
      exact jn _ (by simp [adTh, bI1 c_6, bI1 c_19])
    · refine j_iconst (v := 2) hC 23 rfl d_M_address_22 (by decide) ?_
      refine j_goto hC 27 d_M_address_23 (by decide) ?_
      exact jn _ (by simp [adTh, bI1 c_6, bI0 c_19])
  · refine j_iconst (v := 1) hC 10 rfl d_M_address_9 (by decide) ?_
    refine j_goto hC 27 d_M_address_10 (by decide) ?_
    exact jn _ (by simp [adTh, bI0 c_6])
set_option maxHeartbeats 4000000 in
set_option maxRecDepth 100000 in
theorem c_M_address_ok {op at0 : Int32} (ht : adTh μ op at0 = 0) (h1 : ¬ op < 0) (h2 : ¬ μ 1 0 ≤ op) (hz : ∀ i, μ 13 i ≤ 4) (hp : ∀ i, vp_in (μ 14 i) 64) : kM l dC dI cI cZ cB cJ y_M_address b_M_address 4 (some .int) 3 69 [.ref (am 0), .int op, .int at0] (wM am cI cZ μ ν ρ) (some (.int ((adR (sA (sS μ 0 0) 15 (ix op) at0) ν op).1))) (wM am cI cZ (adR (sA (sS μ 0 0) 15 (ix op) at0) ν op).2.1 (adR (sA (sS μ 0 0) 15 (ix op) at0) ν op).2.2 ρ) := by
  refine jM.of (lv := [(0, .ref (am 0)), (1, .int op), (2, .int at0)]) (own := R_M) jE_loc (by decide) rfl rfl (Nat.le_of_ble_eq_true rfl) rfl ?_
  intro p e s m args below meth c A hC hr hlk
  have loop : (sA (sS μ 0 0) 15 (ix op) at0) 12 (ix op) = 1 → ∀ (n : Nat) (i : Int32), 0 ≤ i → dist i ((sA (sS μ 0 0) 15 (ix op) at0) 1 0) < n → frL (apM (sA (sS μ 0 0) 15 (ix op) at0) ν op) (op + 1) ((sA (sS μ 0 0) 15 (ix op) at0) 1 0) = frL (apM (sA (sS μ 0 0) 15 (ix op) at0) ν op) i ((sA (sS μ 0 0) 15 (ix op) at0) 1 0) → kJ l dC dI p e s m args below meth c A 3 69 4 (some (.int ((adR (sA (sS μ 0 0) 15 (ix op) at0) ν op).1))) (wM am cI cZ (adR (sA (sS μ 0 0) 15 (ix op) at0) ν op).2.1 (adR (sA (sS μ 0 0) 15 (ix op) at0) ν op).2.2 ρ) (wM am cI cZ (sA (sS μ 0 0) 15 (ix op) at0) ν ρ) 68 [(3, .int i), (0, .ref (am 0)), (1, .int op), (2, .int at0)] [] := by
    intro c_59 n
    induction n with
    | zero => intro i hi hd hR; exact absurd hd (Nat.not_lt_zero _)
    | succ n ih =>
      intro i hi hd hR
      refine j_iload_n hC 0 69 rfl d_M_address_68 rfl rfl ?_
      refine j_aload_n hC 1 70 rfl d_M_address_69 rfl rfl ?_
      refine g_M_total hC 73 rfl d_M_address_70 ?_
      refine j_icmp_ge hC 123 76 rfl d_M_address_73 (by decide) (fun c_73 => ?_) (fun c_73 => ?_)
      · refine j_iconst (v := 0) hC 124 rfl d_M_address_123 (by decide) ?_
        exact j_iret hC hr hlk d_M_address_124 (by rw [adR, if_pos c_59, hR, frL_out c_73] <;> rfl) (by rw [adR, if_pos c_59, hR, frL_out c_73] <;> rfl)
      · refine j_aload_n hC 1 77 rfl d_M_address_76 rfl rfl ?_
        refine j_iload_n hC 0 78 rfl d_M_address_77 rfl rfl ?_
        refine j_callVi hC jE_loc jT_good (As := [_]) c_M_isDone yk_M_isDone lk_M_94 ⟨rfl, rfl⟩ ⟨Nat.le_of_ble_eq_true rfl, Nat.le_of_ble_eq_true rfl⟩ 0 rfl rfl rfl rfl (Nat.le_of_ble_eq_true rfl) ⟨Nat.zero_le _, Nat.zero_le _⟩ d_M_address_78 81 rfl rfl ?_
        refine j_if_eq hC 117 84 rfl d_M_address_81 (by decide) (fun c_81 => ?_) (fun c_81 => ?_)
        · refine j_iinc (lv' := [(3, _), (0, _), (1, _), (2, _)]) hC 0 120 rfl d_M_address_117 rfl (inc1 _) (by decide) rfl ?_
          refine j_goto hC 68 d_M_address_120 (by decide) ?_
          exact ih _ (nn1 hi c_73) (dist_lt c_73 hd) (by rw [hR, frL_in c_73]; simp [apM, c_73, bI0 c_81])
        · refine j_aload_n hC 1 85 rfl d_M_address_84 rfl rfl ?_
          refine j_iload_n hC 0 86 rfl d_M_address_85 rfl rfl ?_
          refine j_iload_n hC 2 87 rfl d_M_address_86 rfl rfl ?_
          refine j_callVi hC jE_loc jT_good (As := [_, _]) (c_M_tookOlder (μ := (sA (sS μ 0 0) 15 (ix op) at0)) hz) yk_M_tookOlder lk_M_97 ⟨rfl, rfl⟩ ⟨Nat.le_of_ble_eq_true rfl, Nat.le_of_ble_eq_true rfl⟩ 0 rfl rfl rfl rfl (Nat.le_of_ble_eq_true rfl) ⟨Nat.zero_le _, Nat.zero_le _⟩ d_M_address_87 90 rfl rfl ?_
          refine j_if_ne hC 96 93 rfl d_M_address_90 (by decide) (fun c_90 => ?_) (fun c_90 => ?_)
          · refine j_aload_n hC 1 97 rfl d_M_address_96 rfl rfl ?_
            refine g_M_marks hC 100 rfl d_M_address_97 ?_
            refine j_aload_n hC 1 101 rfl d_M_address_100 rfl rfl ?_
            refine g_M_programs hC 104 rfl d_M_address_101 ?_
            refine j_iload_n hC 0 105 rfl d_M_address_104 rfl rfl ?_
            refine j_bipush (v := 127) hC 107 rfl d_M_address_105 (by decide) ?_
            refine j_iand hC 108 rfl d_M_address_107 ?_
            refine ld_M_programs hC (ix_in _) 109 rfl d_M_address_108 ?_
            refine j_iconst (v := 1) hC 110 rfl d_M_address_109 (by decide) ?_
            refine st_M_marks hC (hp _) (b := true) rfl 111 rfl d_M_address_110 ?_
            refine j_aload_n hC 1 112 rfl d_M_address_111 rfl rfl ?_
            refine j_iload_n hC 0 113 rfl d_M_address_112 rfl rfl ?_
            refine j_callVi hC jE_loc jT_good (As := [_]) c_M_undo yk_M_undo lk_M_100 ⟨rfl, rfl⟩ ⟨Nat.le_of_ble_eq_true rfl, Nat.le_of_ble_eq_true rfl⟩ 0 rfl rfl rfl rfl (Nat.le_of_ble_eq_true rfl) ⟨Nat.zero_le _, Nat.zero_le _⟩ d_M_address_113 116 rfl rfl ?_
            exact j_iret hC hr hlk d_M_address_116 (by rw [adR, if_pos c_59, hR, frL_hit (P := apM (sA (sS μ 0 0) 15 (ix op) at0) ν op) c_73 (by simp [apM, c_73, bI1 c_81, bI1 c_90]), if_neg (nm1 hi)] <;> rfl) (by rw [adR, if_pos c_59, hR, frL_hit (P := apM (sA (sS μ 0 0) 15 (ix op) at0) ν op) c_73 (by simp [apM, c_73, bI1 c_81, bI1 c_90]), if_neg (nm1 hi)] <;> rfl)
          · refine j_goto hC 117 d_M_address_93 (by decide) ?_
            refine j_iinc (lv' := [(3, _), (0, _), (1, _), (2, _)]) hC 0 120 rfl d_M_address_117 rfl (inc1 _) (by decide) rfl ?_
            refine j_goto hC 68 d_M_address_120 (by decide) ?_
            exact ih _ (nn1 hi c_73) (dist_lt c_73 hd) (by rw [hR, frL_in c_73]; simp [apM, c_73, bI1 c_81, bI0 c_90])
  have jn : ∀ x : Int32, x = adTh μ op at0 → kJ l dC dI p e s m args below meth c A 3 69 4 (some (.int ((adR (sA (sS μ 0 0) 15 (ix op) at0) ν op).1))) (wM am cI cZ (adR (sA (sS μ 0 0) 15 (ix op) at0) ν op).2.1 (adR (sA (sS μ 0 0) 15 (ix op) at0) ν op).2.2 ρ) (wM am cI cZ μ ν ρ) 27 [(0, .ref (am 0)), (1, .int op), (2, .int at0)] [.int x, .ref (am 0)] := by
    intro x hx
    obtain rfl : x = 0 := hx.trans ht
    refine p_M_thrown hC 30 rfl d_M_address_27 ?_
    refine j_aload_n hC 0 31 rfl d_M_address_30 rfl rfl ?_
    refine g_M_thrown hC 34 rfl d_M_address_31 ?_
    refine j_if_le hC 39 37 rfl d_M_address_34 (by decide) (fun c_34 => ?_) (fun c_34 => absurd c_34 (fun q => q (Int32.le_refl 0)))
    refine j_aload_n hC 0 40 rfl d_M_address_39 rfl rfl ?_
    refine g_M_places hC 43 rfl d_M_address_40 ?_
    refine j_iload_n hC 1 44 rfl d_M_address_43 rfl rfl ?_
    refine j_bipush (v := 127) hC 46 rfl d_M_address_44 (by decide) ?_
    refine j_iand hC 47 rfl d_M_address_46 ?_
    refine j_iload_n hC 2 48 rfl d_M_address_47 rfl rfl ?_
    refine st_M_places hC (ix_in _) 49 rfl d_M_address_48 ?_
    refine j_aload_n hC 0 50 rfl d_M_address_49 rfl rfl ?_
    refine g_M_kinds hC 53 rfl d_M_address_50 ?_
    refine j_iload_n hC 1 54 rfl d_M_address_53 rfl rfl ?_
    refine j_bipush (v := 127) hC 56 rfl d_M_address_54 (by decide) ?_
    refine j_iand hC 57 rfl d_M_address_56 ?_
    refine ld_M_kinds hC (ix_in _) 58 rfl d_M_address_57 ?_
    refine j_iconst (v := 1) hC 59 rfl d_M_address_58 (by decide) ?_
    refine j_icmp_eq hC 64 62 rfl d_M_address_59 (by decide) (fun c_59 => ?_) (fun c_59 => ?_)
    · refine j_iload_n hC 1 65 rfl d_M_address_64 rfl rfl ?_
      refine j_iconst (v := 1) hC 66 rfl d_M_address_65 (by decide) ?_
      refine j_iadd hC 67 rfl d_M_address_66 ?_
      refine j_istore_n (lv' := [(3, _), (0, _), (1, _), (2, _)]) hC 68 rfl d_M_address_67 rfl (by decide) rfl ?_
      exact loop c_59 _ _ (nn1 (Int32.not_lt.mp h1) h2) (Nat.lt_succ_self _) rfl
    · refine j_iconst (v := 0) hC 63 rfl d_M_address_62 (by decide) ?_
      exact j_iret hC hr hlk d_M_address_63 (by rw [adR, if_neg (c := (sA (sS μ 0 0) 15 (ix op) at0) 12 (ix op) = 1) c_59] <;> rfl) (by rw [adR, if_neg (c := (sA (sS μ 0 0) 15 (ix op) at0) 12 (ix op) = 1) c_59] <;> rfl)
  refine j_aload_n hC 0 1 rfl d_M_address_0 rfl rfl ?_
  refine j_aload_n hC 0 2 rfl d_M_address_1 rfl rfl ?_
  refine j_iload_n hC 1 3 rfl d_M_address_2 rfl rfl ?_
  refine j_callVi hC jE_loc jT_good (As := [_]) c_M_isOp yk_M_isOp lk_M_88 ⟨rfl, rfl⟩ ⟨Nat.le_of_ble_eq_true rfl, Nat.le_of_ble_eq_true rfl⟩ 0 rfl rfl rfl rfl (Nat.le_of_ble_eq_true rfl) ⟨Nat.zero_le _, Nat.zero_le _⟩ d_M_address_3 6 rfl rfl ?_
  refine j_if_ne hC 13 9 rfl d_M_address_6 (by decide) (fun c_6 => ?_) (fun c_6 => ?_)
  · refine j_aload_n hC 0 14 rfl d_M_address_13 rfl rfl ?_
    refine j_iload_n hC 1 15 rfl d_M_address_14 rfl rfl ?_
    refine j_iload_n hC 2 16 rfl d_M_address_15 rfl rfl ?_
    refine j_callVi hC jE_loc jT_good (As := [_, _]) c_M_canBe yk_M_canBe lk_M_91 ⟨rfl, rfl⟩ ⟨Nat.le_of_ble_eq_true rfl, Nat.le_of_ble_eq_true rfl⟩ 0 rfl rfl rfl rfl (Nat.le_of_ble_eq_true rfl) ⟨Nat.zero_le _, Nat.zero_le _⟩ d_M_address_16 19 rfl rfl ?_
    refine j_if_ne hC 26 22 rfl d_M_address_19 (by decide) (fun c_19 => ?_) (fun c_19 => ?_)
    · refine j_iconst (v := 0) hC 27 rfl d_M_address_26 (by decide) ?_
      exact jn _ (by simp [adTh, bI1 c_6, bI1 c_19])
    · refine j_iconst (v := 2) hC 23 rfl d_M_address_22 (by decide) ?_
      refine j_goto hC 27 d_M_address_23 (by decide) ?_
      exact jn _ (by simp [adTh, bI1 c_6, bI0 c_19])
  · refine j_iconst (v := 1) hC 10 rfl d_M_address_9 (by decide) ?_
    refine j_goto hC 27 d_M_address_10 (by decide) ?_
    exact jn _ (by simp [adTh, bI0 c_6])
end KC
