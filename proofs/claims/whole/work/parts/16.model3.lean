section KC
variable {l : Launch} {dC : Nat → ClassId} {dI : Nat → Nat → Nat} {cI cZ cB cJ : ClassId} {ad : Nat → Nat} {σ : S2} {β : B2} {mk : Int64} {ρ : va_W} {am : Nat → Nat} {μ : S2} {ν : B2}
set_option maxHeartbeats 4000000 in
set_option maxRecDepth 100000 in
theorem c_M_number_thr {t : Int32} {op v : Int32} (ht : nuTh μ ν op = t) (h : ¬ t ≤ 0) : kM l dC dI cI cZ cB cJ y_M_number b_M_number 5 (some .int) 1 21 [.ref (am 0), .int op, .int v] (wM am cI cZ μ ν ρ) (some (.int (0))) (wM am cI cZ (sS μ 0 t) ν ρ) := by
  refine jM.of (lv := [(0, .ref (am 0)), (1, .int op), (2, .int v)]) (own := R_M) jE_loc (by decide) rfl rfl (Nat.le_of_ble_eq_true rfl) rfl ?_
  intro p e s m args below meth c A hC hr hlk
  have jn : ∀ x : Int32, x = nuTh μ ν op → kJ l dC dI p e s m args below meth c A 1 21 5 (some (.int (0))) (wM am cI cZ (sS μ 0 t) ν ρ) (wM am cI cZ μ ν ρ) 72 [(4, .int (bI (cnM μ ν op))), (3, .int (op &&& 127)), (0, .ref (am 0)), (1, .int op), (2, .int v)] [.int x, .ref (am 0)] := by
    intro x hx
    obtain rfl : x = t := hx.trans ht
    refine p_M_thrown hC 75 rfl d_M_number_72 ?_
    refine j_aload_n hC 2 76 rfl d_M_number_75 rfl rfl ?_
    refine g_M_thrown hC 79 rfl d_M_number_76 ?_
    refine j_if_le hC 84 82 rfl d_M_number_79 (by decide) (fun c_79 => absurd c_79 h) (fun c_79 => ?_)
    refine j_iconst (v := 0) hC 83 rfl d_M_number_82 (by decide) ?_
    exact j_iret hC hr hlk d_M_number_83 rfl rfl
  have jb : ∀ b : Bool, b = cnM μ ν op → kJ l dC dI p e s m args below meth c A 1 21 5 (some (.int (0))) (wM am cI cZ (sS μ 0 t) ν ρ) (wM am cI cZ μ ν ρ) 47 [(3, .int (op &&& 127)), (0, .ref (am 0)), (1, .int op), (2, .int v)] [.int (bI b)] := by
    intro b hb
    subst hb
    refine j_istore (lv' := [(4, _), (3, _), (0, _), (1, _), (2, _)]) hC 49 rfl d_M_number_47 (by decide) rfl ?_
    refine j_aload_n hC 2 50 rfl d_M_number_49 rfl rfl ?_
    refine j_aload_n hC 2 51 rfl d_M_number_50 rfl rfl ?_
    refine j_iload_n hC 3 52 rfl d_M_number_51 rfl rfl ?_
    refine j_callVi hC jE_loc jT_good (As := [_]) c_M_isOp yk_M_isOp lk_M_88 ⟨rfl, rfl⟩ ⟨Nat.le_of_ble_eq_true rfl, Nat.le_of_ble_eq_true rfl⟩ 0 rfl rfl rfl rfl (Nat.le_of_ble_eq_true rfl) ⟨Nat.zero_le _, Nat.zero_le _⟩ d_M_number_52 55 rfl rfl ?_
    refine j_if_ne hC 62 58 rfl d_M_number_55 (by decide) (fun c_55 => ?_) (fun c_55 => ?_)
    · refine j_iload hC 0 64 rfl d_M_number_62 rfl ?_
      refine j_if_ne hC 71 67 rfl d_M_number_64 (by decide) (fun c_64 => ?_) (fun c_64 => ?_)
      · refine j_iconst (v := 0) hC 72 rfl d_M_number_71 (by decide) ?_
        exact jn _ (by simp [nuTh, bI1 c_55, bI1 c_64])
      · refine j_iconst (v := 2) hC 68 rfl d_M_number_67 (by decide) ?_
        refine j_goto hC 72 d_M_number_68 (by decide) ?_
        exact jn _ (by simp [nuTh, bI1 c_55, bI0 c_64])
    · refine j_iconst (v := 1) hC 59 rfl d_M_number_58 (by decide) ?_
      refine j_goto hC 72 d_M_number_59 (by decide) ?_
      exact jn _ (by simp [nuTh, bI0 c_55])
  refine j_iload_n hC 1 1 rfl d_M_number_0 rfl rfl ?_
  refine j_bipush (v := 127) hC 3 rfl d_M_number_1 (by decide) ?_
  refine j_iand hC 4 rfl d_M_number_3 ?_
  refine j_istore_n (lv' := [(3, _), (0, _), (1, _), (2, _)]) hC 5 rfl d_M_number_4 rfl (by decide) rfl ?_
  refine j_aload_n hC 1 6 rfl d_M_number_5 rfl rfl ?_
  refine j_iload_n hC 2 7 rfl d_M_number_6 rfl rfl ?_
  refine j_callVi hC jE_loc jT_good (As := [_]) c_M_waits yk_M_waits lk_M_84 ⟨rfl, rfl⟩ ⟨Nat.le_of_ble_eq_true rfl, Nat.le_of_ble_eq_true rfl⟩ 0 rfl rfl rfl rfl (Nat.le_of_ble_eq_true rfl) ⟨Nat.zero_le _, Nat.zero_le _⟩ d_M_number_7 10 rfl rfl ?_
  refine j_if_eq hC 46 13 rfl d_M_number_10 (by decide) (fun c_10 => ?_) (fun c_10 => ?_)
  · refine j_iconst (v := (bI false)) hC 47 rfl d_M_number_46 rfl ?_
    exact jb _ (by simp [cnM, ix, bI0 c_10])
  · refine j_aload_n hC 1 14 rfl d_M_number_13 rfl rfl ?_
    refine g_M_kinds hC 17 rfl d_M_number_14 ?_
    refine j_iload_n hC 0 18 rfl d_M_number_17 rfl rfl ?_
    refine ld_M_kinds hC (ix_in _) 19 rfl d_M_number_18 ?_
    refine j_iconst (v := 1) hC 20 rfl d_M_number_19 (by decide) ?_
    refine j_icmp_eq hC 33 23 rfl d_M_number_20 (by decide) (fun c_20 => ?_) (fun c_20 => ?_)
    · refine j_aload_n hC 1 34 rfl d_M_number_33 rfl rfl ?_
      refine g_M_told hC 37 rfl d_M_number_34 ?_
      refine j_iload_n hC 0 38 rfl d_M_number_37 rfl rfl ?_
      refine ld_M_told hC (ix_in _) 39 rfl d_M_number_38 ?_
      refine j_if_ne hC 46 42 rfl d_M_number_39 (by decide) (fun c_39 => ?_) (fun c_39 => ?_)
      · refine j_iconst (v := (bI false)) hC 47 rfl d_M_number_46 rfl ?_
        exact jb _ (by simp [cnM, ix, bI1 c_10, c_20, bI1 c_39])
      · refine j_iconst (v := (bI true)) hC 43 rfl d_M_number_42 rfl ?_
        refine j_goto hC 47 d_M_number_43 (by decide) ?_
        exact jb _ (by simp [cnM, ix, bI1 c_10, c_20, bI0 c_39])
    · refine j_aload_n hC 1 24 rfl d_M_number_23 rfl rfl ?_
      refine g_M_kinds hC 27 rfl d_M_number_24 ?_
      refine j_iload_n hC 0 28 rfl d_M_number_27 rfl rfl ?_
      refine ld_M_kinds hC (ix_in _) 29 rfl d_M_number_28 ?_
      refine j_iconst (v := 3) hC 30 rfl d_M_number_29 (by decide) ?_
      refine j_icmp_ne hC 46 33 rfl d_M_number_30 (by decide) (fun c_30 => ?_) (fun c_30 => ?_)
      · refine j_iconst (v := (bI false)) hC 47 rfl d_M_number_46 rfl ?_
        exact jb _ (by simp [cnM, ix, bI1 c_10, c_20, c_30])
      · refine j_aload_n hC 1 34 rfl d_M_number_33 rfl rfl ?_
        refine g_M_told hC 37 rfl d_M_number_34 ?_
        refine j_iload_n hC 0 38 rfl d_M_number_37 rfl rfl ?_
        refine ld_M_told hC (ix_in _) 39 rfl d_M_number_38 ?_
        refine j_if_ne hC 46 42 rfl d_M_number_39 (by decide) (fun c_39 => ?_) (fun c_39 => ?_)
        · refine j_iconst (v := (bI false)) hC 47 rfl d_M_number_46 rfl ?_
          exact jb _ (by simp [cnM, ix, bI1 c_10, c_20, c_30, bI1 c_39])
        · refine j_iconst (v := (bI true)) hC 43 rfl d_M_number_42 rfl ?_
          refine j_goto hC 47 d_M_number_43 (by decide) ?_
          exact jb _ (by simp [cnM, ix, bI1 c_10, c_20, c_30, bI0 c_39])
set_option maxHeartbeats 4000000 in
set_option maxRecDepth 100000 in
theorem c_M_number_ok {op v : Int32} (ht : nuTh μ ν op = 0)  : kM l dC dI cI cZ cB cJ y_M_number b_M_number 5 (some .int) 1 21 [.ref (am 0), .int op, .int v] (wM am cI cZ μ ν ρ) (some (.int (μ 13 (ix op)))) (wM am cI cZ (sA (sS μ 0 0) 16 (ix op) v) (bA ν 1 (ix op) true) ρ) := by
  refine jM.of (lv := [(0, .ref (am 0)), (1, .int op), (2, .int v)]) (own := R_M) jE_loc (by decide) rfl rfl (Nat.le_of_ble_eq_true rfl) rfl ?_
  intro p e s m args below meth c A hC hr hlk
  have jn : ∀ x : Int32, x = nuTh μ ν op → kJ l dC dI p e s m args below meth c A 1 21 5 (some (.int (μ 13 (ix op)))) (wM am cI cZ (sA (sS μ 0 0) 16 (ix op) v) (bA ν 1 (ix op) true) ρ) (wM am cI cZ μ ν ρ) 72 [(4, .int (bI (cnM μ ν op))), (3, .int (op &&& 127)), (0, .ref (am 0)), (1, .int op), (2, .int v)] [.int x, .ref (am 0)] := by
    intro x hx
    obtain rfl : x = 0 := hx.trans ht
    refine p_M_thrown hC 75 rfl d_M_number_72 ?_
    refine j_aload_n hC 2 76 rfl d_M_number_75 rfl rfl ?_
    refine g_M_thrown hC 79 rfl d_M_number_76 ?_
    refine j_if_le hC 84 82 rfl d_M_number_79 (by decide) (fun c_79 => ?_) (fun c_79 => absurd c_79 (fun q => q (Int32.le_refl 0)))
    refine j_aload_n hC 2 85 rfl d_M_number_84 rfl rfl ?_
    refine g_M_values hC 88 rfl d_M_number_85 ?_
    refine j_iload_n hC 1 89 rfl d_M_number_88 rfl rfl ?_
    refine j_iload_n hC 4 90 rfl d_M_number_89 rfl rfl ?_
    refine st_M_values hC (ix_in _) 91 rfl d_M_number_90 ?_
    refine j_aload_n hC 2 92 rfl d_M_number_91 rfl rfl ?_
    refine g_M_told hC 95 rfl d_M_number_92 ?_
    refine j_iload_n hC 1 96 rfl d_M_number_95 rfl rfl ?_
    refine j_iconst (v := 1) hC 97 rfl d_M_number_96 (by decide) ?_
    refine st_M_told hC (ix_in _) (b := true) rfl 98 rfl d_M_number_97 ?_
    refine j_aload_n hC 2 99 rfl d_M_number_98 rfl rfl ?_
    refine g_M_sizes hC 102 rfl d_M_number_99 ?_
    refine j_iload_n hC 1 103 rfl d_M_number_102 rfl rfl ?_
    refine ld_M_sizes hC (ix_in _) 104 rfl d_M_number_103 ?_
    exact j_iret hC hr hlk d_M_number_104 rfl rfl
  have jb : ∀ b : Bool, b = cnM μ ν op → kJ l dC dI p e s m args below meth c A 1 21 5 (some (.int (μ 13 (ix op)))) (wM am cI cZ (sA (sS μ 0 0) 16 (ix op) v) (bA ν 1 (ix op) true) ρ) (wM am cI cZ μ ν ρ) 47 [(3, .int (op &&& 127)), (0, .ref (am 0)), (1, .int op), (2, .int v)] [.int (bI b)] := by
    intro b hb
    subst hb
    refine j_istore (lv' := [(4, _), (3, _), (0, _), (1, _), (2, _)]) hC 49 rfl d_M_number_47 (by decide) rfl ?_
    refine j_aload_n hC 2 50 rfl d_M_number_49 rfl rfl ?_
    refine j_aload_n hC 2 51 rfl d_M_number_50 rfl rfl ?_
    refine j_iload_n hC 3 52 rfl d_M_number_51 rfl rfl ?_
    refine j_callVi hC jE_loc jT_good (As := [_]) c_M_isOp yk_M_isOp lk_M_88 ⟨rfl, rfl⟩ ⟨Nat.le_of_ble_eq_true rfl, Nat.le_of_ble_eq_true rfl⟩ 0 rfl rfl rfl rfl (Nat.le_of_ble_eq_true rfl) ⟨Nat.zero_le _, Nat.zero_le _⟩ d_M_number_52 55 rfl rfl ?_
    refine j_if_ne hC 62 58 rfl d_M_number_55 (by decide) (fun c_55 => ?_) (fun c_55 => ?_)
    · refine j_iload hC 0 64 rfl d_M_number_62 rfl ?_
      refine j_if_ne hC 71 67 rfl d_M_number_64 (by decide) (fun c_64 => ?_) (fun c_64 => ?_)
      · refine j_iconst (v := 0) hC 72 rfl d_M_number_71 (by decide) ?_
        exact jn _ (by simp [nuTh, bI1 c_55, bI1 c_64])
      · refine j_iconst (v := 2) hC 68 rfl d_M_number_67 (by decide) ?_
        refine j_goto hC 72 d_M_number_68 (by decide) ?_
        exact jn _ (by simp [nuTh, bI1 c_55, bI0 c_64])
    · refine j_iconst (v := 1) hC 59 rfl d_M_number_58 (by decide) ?_
      refine j_goto hC 72 d_M_number_59 (by decide) ?_
      exact jn _ (by simp [nuTh, bI0 c_55])
  refine j_iload_n hC 1 1 rfl d_M_number_0 rfl rfl ?_
  refine j_bipush (v := 127) hC 3 rfl d_M_number_1 (by decide) ?_
  refine j_iand hC 4 rfl d_M_number_3 ?_
  refine j_istore_n (lv' := [(3, _), (0, _), (1, _), (2, _)]) hC 5 rfl d_M_number_4 rfl (by decide) rfl ?_
  refine j_aload_n hC 1 6 rfl d_M_number_5 rfl rfl ?_
  refine j_iload_n hC 2 7 rfl d_M_number_6 rfl rfl ?_
  refine j_callVi hC jE_loc jT_good (As := [_]) c_M_waits yk_M_waits lk_M_84 ⟨rfl, rfl⟩ ⟨Nat.le_of_ble_eq_true rfl, Nat.le_of_ble_eq_true rfl⟩ 0 rfl rfl rfl rfl (Nat.le_of_ble_eq_true rfl) ⟨Nat.zero_le _, Nat.zero_le _⟩ d_M_number_7 10 rfl rfl ?_
  refine j_if_eq hC 46 13 rfl d_M_number_10 (by decide) (fun c_10 => ?_) (fun c_10 => ?_)
  · refine j_iconst (v := (bI false)) hC 47 rfl d_M_number_46 rfl ?_
    exact jb _ (by simp [cnM, ix, bI0 c_10])
  · refine j_aload_n hC 1 14 rfl d_M_number_13 rfl rfl ?_
    refine g_M_kinds hC 17 rfl d_M_number_14 ?_
    refine j_iload_n hC 0 18 rfl d_M_number_17 rfl rfl ?_
    refine ld_M_kinds hC (ix_in _) 19 rfl d_M_number_18 ?_
    refine j_iconst (v := 1) hC 20 rfl d_M_number_19 (by decide) ?_
    refine j_icmp_eq hC 33 23 rfl d_M_number_20 (by decide) (fun c_20 => ?_) (fun c_20 => ?_)
    · refine j_aload_n hC 1 34 rfl d_M_number_33 rfl rfl ?_
      refine g_M_told hC 37 rfl d_M_number_34 ?_
      refine j_iload_n hC 0 38 rfl d_M_number_37 rfl rfl ?_
      refine ld_M_told hC (ix_in _) 39 rfl d_M_number_38 ?_
      refine j_if_ne hC 46 42 rfl d_M_number_39 (by decide) (fun c_39 => ?_) (fun c_39 => ?_)
      · refine j_iconst (v := (bI false)) hC 47 rfl d_M_number_46 rfl ?_
        exact jb _ (by simp [cnM, ix, bI1 c_10, c_20, bI1 c_39])
      · refine j_iconst (v := (bI true)) hC 43 rfl d_M_number_42 rfl ?_
        refine j_goto hC 47 d_M_number_43 (by decide) ?_
        exact jb _ (by simp [cnM, ix, bI1 c_10, c_20, bI0 c_39])
    · refine j_aload_n hC 1 24 rfl d_M_number_23 rfl rfl ?_
      refine g_M_kinds hC 27 rfl d_M_number_24 ?_
      refine j_iload_n hC 0 28 rfl d_M_number_27 rfl rfl ?_
      refine ld_M_kinds hC (ix_in _) 29 rfl d_M_number_28 ?_
      refine j_iconst (v := 3) hC 30 rfl d_M_number_29 (by decide) ?_
      refine j_icmp_ne hC 46 33 rfl d_M_number_30 (by decide) (fun c_30 => ?_) (fun c_30 => ?_)
      · refine j_iconst (v := (bI false)) hC 47 rfl d_M_number_46 rfl ?_
        exact jb _ (by simp [cnM, ix, bI1 c_10, c_20, c_30])
      · refine j_aload_n hC 1 34 rfl d_M_number_33 rfl rfl ?_
        refine g_M_told hC 37 rfl d_M_number_34 ?_
        refine j_iload_n hC 0 38 rfl d_M_number_37 rfl rfl ?_
        refine ld_M_told hC (ix_in _) 39 rfl d_M_number_38 ?_
        refine j_if_ne hC 46 42 rfl d_M_number_39 (by decide) (fun c_39 => ?_) (fun c_39 => ?_)
        · refine j_iconst (v := (bI false)) hC 47 rfl d_M_number_46 rfl ?_
          exact jb _ (by simp [cnM, ix, bI1 c_10, c_20, c_30, bI1 c_39])
        · refine j_iconst (v := (bI true)) hC 43 rfl d_M_number_42 rfl ?_
          refine j_goto hC 47 d_M_number_43 (by decide) ?_
          exact jb _ (by simp [cnM, ix, bI1 c_10, c_20, c_30, bI0 c_39])
end KC
