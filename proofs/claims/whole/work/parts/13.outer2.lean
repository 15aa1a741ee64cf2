section KC
variable {l : Launch} {dC : Nat → ClassId} {dI : Nat → Nat → Nat} {cI cZ cB cJ : ClassId} {ad : Nat → Nat} {σ : S2} {β : B2} {mk : Int64} {ρ : va_W} {am : Nat → Nat} {μ : S2} {ν : B2}
set_option maxHeartbeats 4000000 in
set_option maxRecDepth 100000 in
theorem c_C_mayLeave {op : Int32}  : kM l dC dI cI cZ cB cJ y_C_mayLeave b_C_mayLeave 2 (some .boolean) 2 42 [.ref (ad 0), .int op] (wC ad cI cZ cB σ β mk ρ) (some (.int (bI (mlC σ β op)))) (wC ad cI cZ cB σ β mk ρ) := by
  refine jM.of (lv := [(0, .ref (ad 0)), (1, .int op)]) (own := R_C) jE_loc (by decide) rfl rfl (Nat.le_of_ble_eq_true rfl) rfl ?_
  intro p e s m args below meth c A hC hr hlk
  refine j_aload_n hC 0 1 rfl d_C_mayLeave_0 rfl rfl ?_
  refine g_C_ops hC 4 rfl d_C_mayLeave_1 ?_
  refine j_iload_n hC 1 5 rfl d_C_mayLeave_4 rfl rfl ?_
  refine j_callVi hC jE_loc jT_good (As := [_]) c_O_kindOf yk_O_kindOf lk_C_85 ⟨rfl, rfl⟩ ⟨Nat.le_of_ble_eq_true rfl, Nat.le_of_ble_eq_true rfl⟩ 1 rfl rfl rfl rfl (Nat.le_of_ble_eq_true rfl) ⟨Nat.zero_le _, Nat.zero_le _⟩ d_C_mayLeave_5 8 rfl rfl ?_
  by_cases t0 : σ 10 (ix op) = 0
  · refine j_tswIn (off := 28) hC 36 d_C_mayLeave_8 (by rw [t0]; decide) (by rw [t0]; decide) (by rw [t0]; rfl) (by decide) ?_
    refine j_aload_n hC 0 37 rfl d_C_mayLeave_36 rfl rfl ?_
    refine g_C_ops hC 40 rfl d_C_mayLeave_37 ?_
    refine j_iload_n hC 1 41 rfl d_C_mayLeave_40 rfl rfl ?_
    refine j_callVi hC jE_loc jT_good (As := [_]) c_O_isDone yk_O_isDone lk_C_129 ⟨rfl, rfl⟩ ⟨Nat.le_of_ble_eq_true rfl, Nat.le_of_ble_eq_true rfl⟩ 1 rfl rfl rfl rfl (Nat.le_of_ble_eq_true rfl) ⟨Nat.zero_le _, Nat.zero_le _⟩ d_C_mayLeave_41 44 rfl rfl ?_
    exact j_zret hC hr hlk d_C_mayLeave_44 (by rw [mlC, if_pos t0]) rfl
  by_cases t1 : σ 10 (ix op) = 1
  · refine j_tswIn (off := 37) hC 45 d_C_mayLeave_8 (by rw [t1]; decide) (by rw [t1]; decide) (by rw [t1]; rfl) (by decide) ?_
    refine j_aload_n hC 0 46 rfl d_C_mayLeave_45 rfl rfl ?_
    refine g_C_ops hC 49 rfl d_C_mayLeave_46 ?_
    refine j_iload_n hC 1 50 rfl d_C_mayLeave_49 rfl rfl ?_
    refine j_callVi hC jE_loc jT_good (As := [_]) c_O_isTold yk_O_isTold lk_C_255 ⟨rfl, rfl⟩ ⟨Nat.le_of_ble_eq_true rfl, Nat.le_of_ble_eq_true rfl⟩ 1 rfl rfl rfl rfl (Nat.le_of_ble_eq_true rfl) ⟨Nat.zero_le _, Nat.zero_le _⟩ d_C_mayLeave_50 53 rfl rfl ?_
    refine j_if_eq hC 97 56 rfl d_C_mayLeave_53 (by decide) (fun c_53 => ?_) (fun c_53 => ?_)
    · refine j_iconst (v := 0) hC 98 rfl d_C_mayLeave_97 (by decide) ?_
      exact j_zret hC hr hlk d_C_mayLeave_98 (by rw [mlC, if_neg t0, if_pos t1]; simp [bI, bI0 c_53]) rfl
    · refine j_aload_n hC 0 57 rfl d_C_mayLeave_56 rfl rfl ?_
      refine g_C_ops hC 60 rfl d_C_mayLeave_57 ?_
      refine j_iload_n hC 1 61 rfl d_C_mayLeave_60 rfl rfl ?_
      refine j_callVi hC jE_loc jT_good (As := [_]) c_O_addressOf yk_O_addressOf lk_C_225 ⟨rfl, rfl⟩ ⟨Nat.le_of_ble_eq_true rfl, Nat.le_of_ble_eq_true rfl⟩ 1 rfl rfl rfl rfl (Nat.le_of_ble_eq_true rfl) ⟨Nat.zero_le _, Nat.zero_le _⟩ d_C_mayLeave_61 64 rfl rfl ?_
      refine j_callSi hC jE_loc jT_good (As := [_]) c_C_isDevice yk_C_isDevice lk_C_217 ⟨rfl, rfl⟩ ⟨Nat.le_of_ble_eq_true rfl, Nat.le_of_ble_eq_true rfl⟩ rfl (Nat.le_of_ble_eq_true rfl) ⟨Nat.zero_le _, Nat.zero_le _⟩ d_C_mayLeave_64 67 rfl rfl ?_
      refine j_if_eq hC 83 70 rfl d_C_mayLeave_67 (by decide) (fun c_67 => ?_) (fun c_67 => ?_)
      · refine j_aload_n hC 0 84 rfl d_C_mayLeave_83 rfl rfl ?_
        refine g_C_buffer hC 87 rfl d_C_mayLeave_84 ?_
        refine j_callVi hC jE_loc jT_good (As := []) c_B_hasRoom yk_B_hasRoom lk_C_258 ⟨rfl, rfl⟩ ⟨Nat.le_of_ble_eq_true rfl, Nat.le_of_ble_eq_true rfl⟩ 2 rfl rfl rfl rfl (Nat.le_of_ble_eq_true rfl) ⟨Nat.zero_le _, Nat.zero_le _⟩ d_C_mayLeave_87 90 rfl rfl ?_
        refine j_if_eq hC 97 93 rfl d_C_mayLeave_90 (by decide) (fun c_90 => ?_) (fun c_90 => ?_)
        · refine j_iconst (v := 0) hC 98 rfl d_C_mayLeave_97 (by decide) ?_
          exact j_zret hC hr hlk d_C_mayLeave_98 (by rw [mlC, if_neg t0, if_pos t1]; simp [bI, bI1 c_53, bI0 c_67, bI0 c_90]) rfl
        · refine j_iconst (v := 1) hC 94 rfl d_C_mayLeave_93 (by decide) ?_
          refine j_goto hC 98 d_C_mayLeave_94 (by decide) ?_
          exact j_zret hC hr hlk d_C_mayLeave_98 (by rw [mlC, if_neg t0, if_pos t1]; simp [bI, bI1 c_53, bI0 c_67, bI1 c_90]) rfl
      · refine j_aload_n hC 0 71 rfl d_C_mayLeave_70 rfl rfl ?_
        refine g_C_buffer hC 74 rfl d_C_mayLeave_71 ?_
        refine j_callVi hC jE_loc jT_good (As := []) c_B_isEmpty yk_B_isEmpty lk_C_176 ⟨rfl, rfl⟩ ⟨Nat.le_of_ble_eq_true rfl, Nat.le_of_ble_eq_true rfl⟩ 2 rfl rfl rfl rfl (Nat.le_of_ble_eq_true rfl) ⟨Nat.zero_le _, Nat.zero_le _⟩ d_C_mayLeave_74 77 rfl rfl ?_
        refine j_if_eq hC 97 80 rfl d_C_mayLeave_77 (by decide) (fun c_77 => ?_) (fun c_77 => ?_)
        · refine j_iconst (v := 0) hC 98 rfl d_C_mayLeave_97 (by decide) ?_
          exact j_zret hC hr hlk d_C_mayLeave_98 (by rw [mlC, if_neg t0, if_pos t1]; simp [bI, bI1 c_53, bI1 c_67, bI0 c_77]) rfl
        · refine j_goto hC 93 d_C_mayLeave_80 (by decide) ?_
          refine j_iconst (v := 1) hC 94 rfl d_C_mayLeave_93 (by decide) ?_
          refine j_goto hC 98 d_C_mayLeave_94 (by decide) ?_
          exact j_zret hC hr hlk d_C_mayLeave_98 (by rw [mlC, if_neg t0, if_pos t1]; simp [bI, bI1 c_53, bI1 c_67, bI1 c_77]) rfl
  by_cases t2 : σ 10 (ix op) = 2
  · refine j_tswIn (off := 91) hC 99 d_C_mayLeave_8 (by rw [t2]; decide) (by rw [t2]; decide) (by rw [t2]; rfl) (by decide) ?_
    refine j_aload_n hC 0 100 rfl d_C_mayLeave_99 rfl rfl ?_
    refine g_C_buffer hC 103 rfl d_C_mayLeave_100 ?_
    refine j_callVi hC jE_loc jT_good (As := []) c_B_isEmpty yk_B_isEmpty lk_C_176 ⟨rfl, rfl⟩ ⟨Nat.le_of_ble_eq_true rfl, Nat.le_of_ble_eq_true rfl⟩ 2 rfl rfl rfl rfl (Nat.le_of_ble_eq_true rfl) ⟨Nat.zero_le _, Nat.zero_le _⟩ d_C_mayLeave_103 106 rfl rfl ?_
    exact j_zret hC hr hlk d_C_mayLeave_106 (by rw [mlC, if_neg t0, if_neg t1, if_pos t2]) rfl
  refine j_tswOut hC 107 d_C_mayLeave_8 (tsw3 t0 t1 t2) (by decide) ?_
  refine j_aload_n hC 0 108 rfl d_C_mayLeave_107 rfl rfl ?_
  refine g_C_ops hC 111 rfl d_C_mayLeave_108 ?_
  refine j_iload_n hC 1 112 rfl d_C_mayLeave_111 rfl rfl ?_
  refine j_callVi hC jE_loc jT_good (As := [_]) c_O_isTold yk_O_isTold lk_C_255 ⟨rfl, rfl⟩ ⟨Nat.le_of_ble_eq_true rfl, Nat.le_of_ble_eq_true rfl⟩ 1 rfl rfl rfl rfl (Nat.le_of_ble_eq_true rfl) ⟨Nat.zero_le _, Nat.zero_le _⟩ d_C_mayLeave_112 115 rfl rfl ?_
  refine j_if_eq hC 132 118 rfl d_C_mayLeave_115 (by decide) (fun c_115 => ?_) (fun c_115 => ?_)
  · refine j_iconst (v := 0) hC 133 rfl d_C_mayLeave_132 (by decide) ?_
    exact j_zret hC hr hlk d_C_mayLeave_133 (by rw [mlC, if_neg t0, if_neg t1, if_neg t2]; simp [bI, bI0 c_115]) rfl
  · refine j_aload_n hC 0 119 rfl d_C_mayLeave_118 rfl rfl ?_
    refine g_C_buffer hC 122 rfl d_C_mayLeave_119 ?_
    refine j_callVi hC jE_loc jT_good (As := []) c_B_isEmpty yk_B_isEmpty lk_C_176 ⟨rfl, rfl⟩ ⟨Nat.le_of_ble_eq_true rfl, Nat.le_of_ble_eq_true rfl⟩ 2 rfl rfl rfl rfl (Nat.le_of_ble_eq_true rfl) ⟨Nat.zero_le _, Nat.zero_le _⟩ d_C_mayLeave_122 125 rfl rfl ?_
    refine j_if_eq hC 132 128 rfl d_C_mayLeave_125 (by decide) (fun c_125 => ?_) (fun c_125 => ?_)
    · refine j_iconst (v := 0) hC 133 rfl d_C_mayLeave_132 (by decide) ?_
      exact j_zret hC hr hlk d_C_mayLeave_133 (by rw [mlC, if_neg t0, if_neg t1, if_neg t2]; simp [bI, bI1 c_115, bI0 c_125]) rfl
    · refine j_iconst (v := 1) hC 129 rfl d_C_mayLeave_128 (by decide) ?_
      refine j_goto hC 133 d_C_mayLeave_129 (by decide) ?_
      exact j_zret hC hr hlk d_C_mayLeave_133 (by rw [mlC, if_neg t0, if_neg t1, if_neg t2]; simp [bI, bI1 c_115, bI1 c_125]) rfl
set_option maxHeartbeats 4000000 in
set_option maxRecDepth 100000 in
theorem c_C_carryOut {op : Int32}  : kM l dC dI cI cZ cB cJ y_C_carryOut b_C_carryOut 5 none 2 46 [.ref (ad 0), .int op] (wC ad cI cZ cB σ β mk ρ) none (wC ad cI cZ cB (coS σ β op) β mk ρ) := by
  refine jM.of (lv := [(0, .ref (ad 0)), (1, .int op)]) (own := R_C) jE_loc (by decide) rfl rfl (Nat.le_of_ble_eq_true rfl) rfl ?_
  intro p e s m args below meth c A hC hr hlk
  refine j_aload_n hC 0 1 rfl d_C_carryOut_0 rfl rfl ?_
  refine g_C_ops hC 4 rfl d_C_carryOut_1 ?_
  refine j_iload_n hC 1 5 rfl d_C_carryOut_4 rfl rfl ?_
  refine j_callVi hC jE_loc jT_good (As := [_]) c_O_kindOf yk_O_kindOf lk_C_85 ⟨rfl, rfl⟩ ⟨Nat.le_of_ble_eq_true rfl, Nat.le_of_ble_eq_true rfl⟩ 1 rfl rfl rfl rfl (Nat.le_of_ble_eq_true rfl) ⟨Nat.zero_le _, Nat.zero_le _⟩ d_C_carryOut_5 8 rfl rfl ?_
  refine j_istore_n (lv' := [(2, _), (0, _), (1, _)]) hC 9 rfl d_C_carryOut_8 rfl (by decide) rfl ?_
  refine j_iload_n hC 0 10 rfl d_C_carryOut_9 rfl rfl ?_
  refine j_callSi hC jE_loc jT_good (As := [_]) c_C_takesNumber yk_C_takesNumber lk_C_118 ⟨rfl, rfl⟩ ⟨Nat.le_of_ble_eq_true rfl, Nat.le_of_ble_eq_true rfl⟩ rfl (Nat.le_of_ble_eq_true rfl) ⟨Nat.zero_le _, Nat.zero_le _⟩ d_C_carryOut_10 13 rfl rfl ?_
  refine j_if_ne hC 17 16 rfl d_C_carryOut_13 (by decide) (fun c_13 => ?_) (fun c_13 => ?_)
  · refine j_aload_n hC 1 18 rfl d_C_carryOut_17 rfl rfl ?_
    refine g_C_ops hC 21 rfl d_C_carryOut_18 ?_
    refine j_iload_n hC 2 22 rfl d_C_carryOut_21 rfl rfl ?_
    refine j_callVi hC jE_loc jT_good (As := [_]) c_O_addressOf yk_O_addressOf lk_C_225 ⟨rfl, rfl⟩ ⟨Nat.le_of_ble_eq_true rfl, Nat.le_of_ble_eq_true rfl⟩ 1 rfl rfl rfl rfl (Nat.le_of_ble_eq_true rfl) ⟨Nat.zero_le _, Nat.zero_le _⟩ d_C_carryOut_22 25 rfl rfl ?_
    refine j_istore_n (lv' := [(3, _), (2, _), (0, _), (1, _)]) hC 26 rfl d_C_carryOut_25 rfl (by decide) rfl ?_
    refine j_aload_n hC 2 27 rfl d_C_carryOut_26 rfl rfl ?_
    refine g_C_ops hC 30 rfl d_C_carryOut_27 ?_
    refine j_iload_n hC 3 31 rfl d_C_carryOut_30 rfl rfl ?_
    refine j_callVi hC jE_loc jT_good (As := [_]) c_O_bytesOf yk_O_bytesOf lk_C_94 ⟨rfl, rfl⟩ ⟨Nat.le_of_ble_eq_true rfl, Nat.le_of_ble_eq_true rfl⟩ 1 rfl rfl rfl rfl (Nat.le_of_ble_eq_true rfl) ⟨Nat.zero_le _, Nat.zero_le _⟩ d_C_carryOut_31 34 rfl rfl ?_
    refine j_istore (lv' := [(4, _), (3, _), (2, _), (0, _), (1, _)]) hC 36 rfl d_C_carryOut_34 (by decide) rfl ?_
    refine j_iload_n hC 2 37 rfl d_C_carryOut_36 rfl rfl ?_
    refine j_iconst (v := 1) hC 38 rfl d_C_carryOut_37 (by decide) ?_
    refine j_icmp_ne hC 68 41 rfl d_C_carryOut_38 (by decide) (fun c_38 => ?_) (fun c_38 => ?_)
    · refine j_iload_n hC 2 69 rfl d_C_carryOut_68 rfl rfl ?_
      refine j_iconst (v := 3) hC 70 rfl d_C_carryOut_69 (by decide) ?_
      refine j_icmp_ne hC 91 73 rfl d_C_carryOut_70 (by decide) (fun c_70 => ?_) (fun c_70 => ?_)
      · refine j_aload_n hC 3 92 rfl d_C_carryOut_91 rfl rfl ?_
        refine g_C_mainMemory hC 95 rfl d_C_carryOut_92 ?_
        refine j_iload_n hC 1 96 rfl d_C_carryOut_95 rfl rfl ?_
        refine j_iload hC 0 98 rfl d_C_carryOut_96 rfl ?_
        refine j_aload_n hC 3 99 rfl d_C_carryOut_98 rfl rfl ?_
        refine g_C_ops hC 102 rfl d_C_carryOut_99 ?_
        refine j_iload_n hC 4 103 rfl d_C_carryOut_102 rfl rfl ?_
        refine j_callVi hC jE_loc jT_good (As := [_]) c_O_numberOf yk_O_numberOf lk_C_261 ⟨rfl, rfl⟩ ⟨Nat.le_of_ble_eq_true rfl, Nat.le_of_ble_eq_true rfl⟩ 1 rfl rfl rfl rfl (Nat.le_of_ble_eq_true rfl) ⟨Nat.zero_le _, Nat.zero_le _⟩ d_C_carryOut_103 106 rfl rfl ?_
        refine j_callVv hC jE_loc jT_good (As := [_, _, _]) c_Y_write yk_Y_write lk_C_270 ⟨rfl, rfl⟩ ⟨Nat.le_of_ble_eq_true rfl, Nat.le_of_ble_eq_true rfl⟩ 3 rfl rfl rfl rfl (Nat.le_of_ble_eq_true rfl) ⟨Nat.zero_le _, Nat.zero_le _⟩ d_C_carryOut_106 109 rfl rfl ?_
        exact j_vret hC hr hlk d_C_carryOut_109 (by rw [coS, if_pos (bI1 c_13)]; first | (rw [if_neg c_38, coT, if_pos c_70] <;> rfl) | (rw [if_neg c_38, coT, if_neg c_70] <;> rfl) | (rw [if_pos c_38, if_pos (bI1 c_45), coT, if_pos c_70] <;> rfl) | (rw [if_pos c_38, if_pos (bI1 c_45), coT, if_neg c_70] <;> rfl))
      · refine j_aload_n hC 3 74 rfl d_C_carryOut_73 rfl rfl ?_
        refine g_C_ops hC 77 rfl d_C_carryOut_74 ?_
        refine j_iload_n hC 4 78 rfl d_C_carryOut_77 rfl rfl ?_
        refine j_aload_n hC 3 79 rfl d_C_carryOut_78 rfl rfl ?_
        refine g_C_mainMemory hC 82 rfl d_C_carryOut_79 ?_
        refine j_iload_n hC 1 83 rfl d_C_carryOut_82 rfl rfl ?_
        refine j_iload hC 0 85 rfl d_C_carryOut_83 rfl ?_
        refine j_callVi hC jE_loc jT_good (As := [_, _]) c_Y_numberAt yk_Y_numberAt lk_C_267 ⟨rfl, rfl⟩ ⟨Nat.le_of_ble_eq_true rfl, Nat.le_of_ble_eq_true rfl⟩ 3 rfl rfl rfl rfl (Nat.le_of_ble_eq_true rfl) ⟨Nat.zero_le _, Nat.zero_le _⟩ d_C_carryOut_85 88 rfl rfl ?_
        refine j_callVv hC jE_loc jT_good (As := [_, _]) c_O_setLoaded yk_O_setLoaded lk_C_238 ⟨rfl, rfl⟩ ⟨Nat.le_of_ble_eq_true rfl, Nat.le_of_ble_eq_true rfl⟩ 1 rfl rfl rfl rfl (Nat.le_of_ble_eq_true rfl) ⟨Nat.zero_le _, Nat.zero_le _⟩ d_C_carryOut_88 91 rfl rfl ?_
        refine j_aload_n hC 3 92 rfl d_C_carryOut_91 rfl rfl ?_
        refine g_C_mainMemory hC 95 rfl d_C_carryOut_92 ?_
        refine j_iload_n hC 1 96 rfl d_C_carryOut_95 rfl rfl ?_
        refine j_iload hC 0 98 rfl d_C_carryOut_96 rfl ?_
        refine j_aload_n hC 3 99 rfl d_C_carryOut_98 rfl rfl ?_
        refine g_C_ops hC 102 rfl d_C_carryOut_99 ?_
        refine j_iload_n hC 4 103 rfl d_C_carryOut_102 rfl rfl ?_
        refine j_callVi hC jE_loc jT_good (As := [_]) c_O_numberOf yk_O_numberOf lk_C_261 ⟨rfl, rfl⟩ ⟨Nat.le_of_ble_eq_true rfl, Nat.le_of_ble_eq_true rfl⟩ 1 rfl rfl rfl rfl (Nat.le_of_ble_eq_true rfl) ⟨Nat.zero_le _, Nat.zero_le _⟩ d_C_carryOut_103 106 rfl rfl ?_
        refine j_callVv hC jE_loc jT_good (As := [_, _, _]) c_Y_write yk_Y_write lk_C_270 ⟨rfl, rfl⟩ ⟨Nat.le_of_ble_eq_true rfl, Nat.le_of_ble_eq_true rfl⟩ 3 rfl rfl rfl rfl (Nat.le_of_ble_eq_true rfl) ⟨Nat.zero_le _, Nat.zero_le _⟩ d_C_carryOut_106 109 rfl rfl ?_
        exact j_vret hC hr hlk d_C_carryOut_109 (by rw [coS, if_pos (bI1 c_13)]; first | (rw [if_neg c_38, coT, if_pos c_70] <;> rfl) | (rw [if_neg c_38, coT, if_neg c_70] <;> rfl) | (rw [if_pos c_38, if_pos (bI1 c_45), coT, if_pos c_70] <;> rfl) | (rw [if_pos c_38, if_pos (bI1 c_45), coT, if_neg c_70] <;> rfl))
    · refine j_iload_n hC 1 42 rfl d_C_carryOut_41 rfl rfl ?_
      refine j_callSi hC jE_loc jT_good (As := [_]) c_C_isDevice yk_C_isDevice lk_C_217 ⟨rfl, rfl⟩ ⟨Nat.le_of_ble_eq_true rfl, Nat.le_of_ble_eq_true rfl⟩ rfl (Nat.le_of_ble_eq_true rfl) ⟨Nat.zero_le _, Nat.zero_le _⟩ d_C_carryOut_42 45 rfl rfl ?_
      refine j_if_ne hC 68 48 rfl d_C_carryOut_45 (by decide) (fun c_45 => ?_) (fun c_45 => ?_)
      · refine j_iload_n hC 2 69 rfl d_C_carryOut_68 rfl rfl ?_
        refine j_iconst (v := 3) hC 70 rfl d_C_carryOut_69 (by decide) ?_
        refine j_icmp_ne hC 91 73 rfl d_C_carryOut_70 (by decide) (fun c_70 => ?_) (fun c_70 => ?_)
        · refine j_aload_n hC 3 92 rfl d_C_carryOut_91 rfl rfl ?_
          refine g_C_mainMemory hC 95 rfl d_C_carryOut_92 ?_
          refine j_iload_n hC 1 96 rfl d_C_carryOut_95 rfl rfl ?_
          refine j_iload hC 0 98 rfl d_C_carryOut_96 rfl ?_
          refine j_aload_n hC 3 99 rfl d_C_carryOut_98 rfl rfl ?_
          refine g_C_ops hC 102 rfl d_C_carryOut_99 ?_
          refine j_iload_n hC 4 103 rfl d_C_carryOut_102 rfl rfl ?_
          refine j_callVi hC jE_loc jT_good (As := [_]) c_O_numberOf yk_O_numberOf lk_C_261 ⟨rfl, rfl⟩ ⟨Nat.le_of_ble_eq_true rfl, Nat.le_of_ble_eq_true rfl⟩ 1 rfl rfl rfl rfl (Nat.le_of_ble_eq_true rfl) ⟨Nat.zero_le _, Nat.zero_le _⟩ d_C_carryOut_103 106 rfl rfl ?_
          refine j_callVv hC jE_loc jT_good (As := [_, _, _]) c_Y_write yk_Y_write lk_C_270 ⟨rfl, rfl⟩ ⟨Nat.le_of_ble_eq_true rfl, Nat.le_of_ble_eq_true rfl⟩ 3 rfl rfl rfl rfl (Nat.le_of_ble_eq_true rfl) ⟨Nat.zero_le _, Nat.zero_le _⟩ d_C_carryOut_106 109 rfl rfl ?_
          exact j_vret hC hr hlk d_C_carryOut_109 (by rw [coS, if_pos (bI1 c_13)]; first | (rw [if_neg c_38, coT, if_pos c_70] <;> rfl) | (rw [if_neg c_38, coT, if_neg c_70] <;> rfl) | (rw [if_pos c_38, if_pos (bI1 c_45), coT, if_pos c_70] <;> rfl) | (rw [if_pos c_38, if_pos (bI1 c_45), coT, if_neg c_70] <;> rfl))
        · refine j_aload_n hC 3 74 rfl d_C_carryOut_73 rfl rfl ?_
          refine g_C_ops hC 77 rfl d_C_carryOut_74 ?_
          refine j_iload_n hC 4 78 rfl d_C_carryOut_77 rfl rfl ?_
          refine j_aload_n hC 3 79 rfl d_C_carryOut_78 rfl rfl ?_
          refine g_C_mainMemory hC 82 rfl d_C_carryOut_79 ?_
          refine j_iload_n hC 1 83 rfl d_C_carryOut_82 rfl rfl ?_
          refine j_iload hC 0 85 rfl d_C_carryOut_83 rfl ?_
          refine j_callVi hC jE_loc jT_good (As := [_, _]) c_Y_numberAt yk_Y_numberAt lk_C_267 ⟨rfl, rfl⟩ ⟨Nat.le_of_ble_eq_true rfl, Nat.le_of_ble_eq_true rfl⟩ 3 rfl rfl rfl rfl (Nat.le_of_ble_eq_true rfl) ⟨Nat.zero_le _, Nat.zero_le _⟩ d_C_carryOut_85 88 rfl rfl ?_
          refine j_callVv hC jE_loc jT_good (As := [_, _]) c_O_setLoaded yk_O_setLoaded lk_C_238 ⟨rfl, rfl⟩ ⟨Nat.le_of_ble_eq_true rfl, Nat.le_of_ble_eq_true rfl⟩ 1 rfl rfl rfl rfl (Nat.le_of_ble_eq_true rfl) ⟨Nat.zero_le _, Nat.zero_le _⟩ d_C_carryOut_88 91 rfl rfl ?_
          refine j_aload_n hC 3 92 rfl d_C_carryOut_91 rfl rfl ?_
          refine g_C_mainMemory hC 95 rfl d_C_carryOut_92 ?_
          refine j_iload_n hC 1 96 rfl d_C_carryOut_95 rfl rfl ?_
          refine j_iload hC 0 98 rfl d_C_carryOut_96 rfl ?_
          refine j_aload_n hC 3 99 rfl d_C_carryOut_98 rfl rfl ?_
          refine g_C_ops hC 102 rfl d_C_carryOut_99 ?_
          refine j_iload_n hC 4 103 rfl d_C_carryOut_102 rfl rfl ?_
          refine j_callVi hC jE_loc jT_good (As := [_]) c_O_numberOf yk_O_numberOf lk_C_261 ⟨rfl, rfl⟩ ⟨Nat.le_of_ble_eq_true rfl, Nat.le_of_ble_eq_true rfl⟩ 1 rfl rfl rfl rfl (Nat.le_of_ble_eq_true rfl) ⟨Nat.zero_le _, Nat.zero_le _⟩ d_C_carryOut_103 106 rfl rfl ?_
          refine j_callVv hC jE_loc jT_good (As := [_, _, _]) c_Y_write yk_Y_write lk_C_270 ⟨rfl, rfl⟩ ⟨Nat.le_of_ble_eq_true rfl, Nat.le_of_ble_eq_true rfl⟩ 3 rfl rfl rfl rfl (Nat.le_of_ble_eq_true rfl) ⟨Nat.zero_le _, Nat.zero_le _⟩ d_C_carryOut_106 109 rfl rfl ?_
          exact j_vret hC hr hlk d_C_carryOut_109 (by rw [coS, if_pos (bI1 c_13)]; first | (rw [if_neg c_38, coT, if_pos c_70] <;> rfl) | (rw [if_neg c_38, coT, if_neg c_70] <;> rfl) | (rw [if_pos c_38, if_pos (bI1 c_45), coT, if_pos c_70] <;> rfl) | (rw [if_pos c_38, if_pos (bI1 c_45), coT, if_neg c_70] <;> rfl))
      · refine j_aload_n hC 3 49 rfl d_C_carryOut_48 rfl rfl ?_
        refine g_C_buffer hC 52 rfl d_C_carryOut_49 ?_
        refine j_iload_n hC 4 53 rfl d_C_carryOut_52 rfl rfl ?_
        refine j_iload_n hC 1 54 rfl d_C_carryOut_53 rfl rfl ?_
        refine j_iload hC 0 56 rfl d_C_carryOut_54 rfl ?_
        refine j_aload_n hC 3 57 rfl d_C_carryOut_56 rfl rfl ?_
        refine g_C_ops hC 60 rfl d_C_carryOut_57 ?_
        refine j_iload_n hC 4 61 rfl d_C_carryOut_60 rfl rfl ?_
        refine j_callVi hC jE_loc jT_good (As := [_]) c_O_numberOf yk_O_numberOf lk_C_261 ⟨rfl, rfl⟩ ⟨Nat.le_of_ble_eq_true rfl, Nat.le_of_ble_eq_true rfl⟩ 1 rfl rfl rfl rfl (Nat.le_of_ble_eq_true rfl) ⟨Nat.zero_le _, Nat.zero_le _⟩ d_C_carryOut_61 64 rfl rfl ?_
        refine j_callVv hC jE_loc jT_good (As := [_, _, _, _]) c_B_append yk_B_append lk_C_264 ⟨rfl, rfl⟩ ⟨Nat.le_of_ble_eq_true rfl, Nat.le_of_ble_eq_true rfl⟩ 2 rfl rfl rfl rfl (Nat.le_of_ble_eq_true rfl) ⟨Nat.zero_le _, Nat.zero_le _⟩ d_C_carryOut_64 67 rfl rfl ?_
        exact j_vret hC hr hlk d_C_carryOut_67 (by simp only [coS, coT, bI1 c_13, c_38, bI0 c_45, reduceIte, Bool.false_eq_true] <;> rfl)
  · exact j_vret hC hr hlk d_C_carryOut_16 (by simp only [coS, coT, bI0 c_13, reduceIte, Bool.false_eq_true] <;> rfl)
set_option maxHeartbeats 4000000 in
set_option maxRecDepth 100000 in
theorem c_C_leave   : kM l dC dI cI cZ cB cJ y_C_leave b_C_leave 2 (some .int) 3 70 [.ref (ad 0)] (wC ad cI cZ cB σ β mk ρ) (some (.int ((lvR σ β).1))) (wC ad cI cZ cB (lvR σ β).2 β mk ρ) := by
  refine jM.of (lv := [(0, .ref (ad 0))]) (own := R_C) jE_loc (by decide) rfl rfl (Nat.le_of_ble_eq_true rfl) rfl ?_
  intro p e s m args below meth c A hC hr hlk
  refine j_aload_n hC 0 1 rfl d_C_leave_0 rfl rfl ?_
  refine j_callVi hC jE_loc jT_good (As := []) c_C_waitingOps yk_C_waitingOps lk_C_64 ⟨rfl, rfl⟩ ⟨Nat.le_of_ble_eq_true rfl, Nat.le_of_ble_eq_true rfl⟩ 0 rfl rfl rfl rfl (Nat.le_of_ble_eq_true rfl) ⟨Nat.zero_le _, Nat.zero_le _⟩ d_C_leave_1 4 rfl rfl ?_
  refine j_if_le hC 18 7 rfl d_C_leave_4 (by decide) (fun c_4 => ?_) (fun c_4 => ?_)
  · refine j_iconst (v := (-1)) hC 19 rfl d_C_leave_18 (by decide) ?_
    exact j_iret hC hr hlk d_C_leave_19 (by simp only [lvR, c_4, reduceIte, Bool.false_eq_true] <;> rfl) (by simp only [lvR, c_4, reduceIte, Bool.false_eq_true] <;> rfl)
  · refine j_aload_n hC 0 8 rfl d_C_leave_7 rfl rfl ?_
    refine j_aload_n hC 0 9 rfl d_C_leave_8 rfl rfl ?_
    refine g_C_oldestWaiting hC 12 rfl d_C_leave_9 ?_
    refine j_callVi hC jE_loc jT_good (As := [_]) c_C_mayLeave yk_C_mayLeave lk_C_170 ⟨rfl, rfl⟩ ⟨Nat.le_of_ble_eq_true rfl, Nat.le_of_ble_eq_true rfl⟩ 0 rfl rfl rfl rfl (Nat.le_of_ble_eq_true rfl) ⟨Nat.zero_le _, Nat.zero_le _⟩ d_C_leave_12 15 rfl rfl ?_
    refine j_if_ne hC 20 18 rfl d_C_leave_15 (by decide) (fun c_15 => ?_) (fun c_15 => ?_)
    · refine j_aload_n hC 0 21 rfl d_C_leave_20 rfl rfl ?_
      refine g_C_oldestWaiting hC 24 rfl d_C_leave_21 ?_
      refine j_istore_n (lv' := [(1, _), (0, _)]) hC 25 rfl d_C_leave_24 rfl (by decide) rfl ?_
      refine j_aload_n hC 1 26 rfl d_C_leave_25 rfl rfl ?_
      refine j_iload_n hC 0 27 rfl d_C_leave_26 rfl rfl ?_
      refine j_callVv hC jE_loc jT_good (As := [_]) c_C_carryOut yk_C_carryOut lk_C_173 ⟨rfl, rfl⟩ ⟨Nat.le_of_ble_eq_true rfl, Nat.le_of_ble_eq_true rfl⟩ 0 rfl rfl rfl rfl (Nat.le_of_ble_eq_true rfl) ⟨Nat.zero_le _, Nat.zero_le _⟩ d_C_leave_27 30 rfl rfl ?_
      refine j_aload_n hC 1 31 rfl d_C_leave_30 rfl rfl ?_
      refine j_iload_n hC 0 32 rfl d_C_leave_31 rfl rfl ?_
      refine j_iconst (v := 1) hC 33 rfl d_C_leave_32 (by decide) ?_
      refine j_iadd hC 34 rfl d_C_leave_33 ?_
      refine p_C_oldestWaiting hC 37 rfl d_C_leave_34 ?_
      refine j_iload_n hC 0 38 rfl d_C_leave_37 rfl rfl ?_
      exact j_iret hC hr hlk d_C_leave_38 (by simp only [lvR, c_4, bI1 c_15, reduceIte, Bool.false_eq_true] <;> rfl) (by simp only [lvR, c_4, bI1 c_15, reduceIte, Bool.false_eq_true] <;> rfl)
    · refine j_iconst (v := (-1)) hC 19 rfl d_C_leave_18 (by decide) ?_
      exact j_iret hC hr hlk d_C_leave_19 (by simp only [lvR, c_4, bI0 c_15, reduceIte, Bool.false_eq_true] <;> rfl) (by simp only [lvR, c_4, bI0 c_15, reduceIte, Bool.false_eq_true] <;> rfl)
set_option maxHeartbeats 4000000 in
set_option maxRecDepth 100000 in
theorem c_C_drain   : kM l dC dI cI cZ cB cJ y_C_drain b_C_drain 2 (some .int) 3 68 [.ref (ad 0)] (wC ad cI cZ cB σ β mk ρ) (some (.int ((drR σ).1))) (wC ad cI cZ cB (drR σ).2 β mk ρ) := by
  refine jM.of (lv := [(0, .ref (ad 0))]) (own := R_C) jE_loc (by decide) rfl rfl (Nat.le_of_ble_eq_true rfl) rfl ?_
  intro p e s m args below meth c A hC hr hlk
  refine j_aload_n hC 0 1 rfl d_C_drain_0 rfl rfl ?_
  refine g_C_buffer hC 4 rfl d_C_drain_1 ?_
  refine j_callVi hC jE_loc jT_good (As := []) c_B_isEmpty yk_B_isEmpty lk_C_176 ⟨rfl, rfl⟩ ⟨Nat.le_of_ble_eq_true rfl, Nat.le_of_ble_eq_true rfl⟩ 2 rfl rfl rfl rfl (Nat.le_of_ble_eq_true rfl) ⟨Nat.zero_le _, Nat.zero_le _⟩ d_C_drain_4 7 rfl rfl ?_
  refine j_if_eq hC 12 10 rfl d_C_drain_7 (by decide) (fun c_7 => ?_) (fun c_7 => ?_)
  · refine j_aload_n hC 0 13 rfl d_C_drain_12 rfl rfl ?_
    refine g_C_buffer hC 16 rfl d_C_drain_13 ?_
    refine j_callVi hC jE_loc jT_good (As := []) c_B_oldestStore yk_B_oldestStore lk_C_180 ⟨rfl, rfl⟩ ⟨Nat.le_of_ble_eq_true rfl, Nat.le_of_ble_eq_true rfl⟩ 2 rfl rfl rfl rfl (Nat.le_of_ble_eq_true rfl) ⟨Nat.zero_le _, Nat.zero_le _⟩ d_C_drain_16 19 rfl rfl ?_
    refine j_istore_n (lv' := [(1, _), (0, _)]) hC 20 rfl d_C_drain_19 rfl (by decide) rfl ?_
    refine j_aload_n hC 1 21 rfl d_C_drain_20 rfl rfl ?_
    refine g_C_buffer hC 24 rfl d_C_drain_21 ?_
    refine j_aload_n hC 1 25 rfl d_C_drain_24 rfl rfl ?_
    refine g_C_mainMemory hC 28 rfl d_C_drain_25 ?_
    refine j_callVv hC jE_loc jT_good (As := [_]) c_B_moveOldestTo yk_B_moveOldestTo lk_C_183 ⟨rfl, rfl⟩ ⟨Nat.le_of_ble_eq_true rfl, Nat.le_of_ble_eq_true rfl⟩ 2 rfl rfl rfl rfl (Nat.le_of_ble_eq_true rfl) ⟨Nat.zero_le _, Nat.zero_le _⟩ d_C_drain_28 31 rfl rfl ?_
    refine j_iload_n hC 0 32 rfl d_C_drain_31 rfl rfl ?_
    exact j_iret hC hr hlk d_C_drain_32 (by simp only [drR, decide_eq_true_eq, decide_eq_false_iff_not, bI0 c_7, reduceIte, Bool.false_eq_true] <;> rfl) (by simp only [drR, decide_eq_true_eq, decide_eq_false_iff_not, bI0 c_7, reduceIte, Bool.false_eq_true] <;> rfl)
  · refine j_iconst (v := (-1)) hC 11 rfl d_C_drain_10 (by decide) ?_
    exact j_iret hC hr hlk d_C_drain_11 (by simp only [drR, decide_eq_true_eq, decide_eq_false_iff_not, bI1 c_7, reduceIte, Bool.false_eq_true] <;> rfl) (by simp only [drR, decide_eq_true_eq, decide_eq_false_iff_not, bI1 c_7, reduceIte, Bool.false_eq_true] <;> rfl)
set_option maxHeartbeats 4000000 in
set_option maxRecDepth 100000 in
theorem c_C_marked {prog : Int32}  : kM l dC dI cI cZ cB cJ y_C_marked b_C_marked 2 (some .boolean) 0 0 [.ref (ad 0), .int prog] (wC ad cI cZ cB σ β mk ρ) (some (.int (bI (mkB mk prog)))) (wC ad cI cZ cB σ β mk ρ) := by
  refine jM.of (lv := [(0, .ref (ad 0)), (1, .int prog)]) (own := R_C) jE_loc (by decide) rfl rfl (Nat.le_of_ble_eq_true rfl) rfl ?_
  intro p e s m args below meth c A hC hr hlk
  refine j_aload_n hC 0 1 rfl d_C_marked_0 rfl rfl ?_
  refine g_C_marks hC 4 rfl d_C_marked_1 ?_
  refine j_iload_n hC 1 5 rfl d_C_marked_4 rfl rfl ?_
  refine j_bipush (v := 63) hC 7 rfl d_C_marked_5 (by decide) ?_
  refine j_iand hC 8 rfl d_C_marked_7 ?_
  refine j_lushr hC 9 rfl d_C_marked_8 rfl ?_
  refine j_lconst (v := 1) hC 10 rfl d_C_marked_9 (by decide) ?_
  refine j_land hC 11 rfl d_C_marked_10 ?_
  refine j_lconst (v := 0) hC 12 rfl d_C_marked_11 (by decide) ?_
  refine j_lcmp hC 13 rfl d_C_marked_12 ?_
  refine j_if_eq hC 20 16 rfl d_C_marked_13 (by decide) (fun c_13 => ?_) (fun c_13 => ?_)
  · refine j_iconst (v := 0) hC 21 rfl d_C_marked_20 (by decide) ?_
    exact j_zret hC hr hlk d_C_marked_21 (by unfold mkB bI; first | (rw [decide_eq_true c_13]; rfl) | (rw [decide_eq_false c_13]; rfl)) rfl
  · refine j_iconst (v := 1) hC 17 rfl d_C_marked_16 (by decide) ?_
    refine j_goto hC 21 d_C_marked_17 (by decide) ?_
    exact j_zret hC hr hlk d_C_marked_21 (by unfold mkB bI; first | (rw [decide_eq_true c_13]; rfl) | (rw [decide_eq_false c_13]; rfl)) rfl
set_option maxHeartbeats 4000000 in
set_option maxRecDepth 100000 in
theorem c_C_op {kind bytes prog : Int32} (hk : kwb kind bytes = true) (hw : σ 0 0 - σ 1 0 < 32) : kM l dC dI cI cZ cB cJ y_C_op b_C_op 5 (some .int) 1 25 [.ref (ad 0), .int kind, .int bytes, .int prog] (wC ad cI cZ cB σ β mk ρ) (some (.int (σ 0 0))) (wC ad cI cZ cB (sS (sA (sA (sA σ 10 (ix (σ 0 0)) kind) 11 (ix (σ 0 0)) bytes) 12 (ix (σ 0 0)) prog) 0 (σ 0 0 + 1)) (bA (bA (bA β 0 (ix (σ 0 0)) false) 1 (ix (σ 0 0)) false) 2 (ix (σ 0 0)) false) mk ρ) := by
  refine jM.of (lv := [(0, .ref (ad 0)), (1, .int kind), (2, .int bytes), (3, .int prog)]) (own := R_C) jE_loc (by decide) rfl rfl (Nat.le_of_ble_eq_true rfl) rfl ?_
  intro p e s m args below meth c A hC hr hlk
  refine j_iload_n hC 1 1 rfl d_C_op_0 rfl rfl ?_
  refine j_iload_n hC 2 2 rfl d_C_op_1 rfl rfl ?_
  refine j_callSi hC jE_loc jT_good (As := [_, _]) c_C_isKindWithBytes yk_C_isKindWithBytes lk_C_53 ⟨rfl, rfl⟩ ⟨Nat.le_of_ble_eq_true rfl, Nat.le_of_ble_eq_true rfl⟩ rfl (Nat.le_of_ble_eq_true rfl) ⟨Nat.zero_le _, Nat.zero_le _⟩ d_C_op_2 5 rfl rfl ?_
  refine j_if_ne hC 18 8 rfl d_C_op_5 (by decide) (fun c_5 => ?_) (fun c_5 => absurd c_5 (by rw [hk]; decide))
  refine j_aload_n hC 0 19 rfl d_C_op_18 rfl rfl ?_
  refine j_callVi hC jE_loc jT_good (As := []) c_C_waitingOps yk_C_waitingOps lk_C_64 ⟨rfl, rfl⟩ ⟨Nat.le_of_ble_eq_true rfl, Nat.le_of_ble_eq_true rfl⟩ 0 rfl rfl rfl rfl (Nat.le_of_ble_eq_true rfl) ⟨Nat.zero_le _, Nat.zero_le _⟩ d_C_op_19 22 rfl rfl ?_
  refine j_bipush (v := 32) hC 24 rfl d_C_op_22 (by decide) ?_
  refine j_icmp_lt hC 37 27 rfl d_C_op_24 (by decide) (fun c_24 => ?_) (fun c_24 => absurd c_24 (fun q => q hw))
  refine j_aload_n hC 0 38 rfl d_C_op_37 rfl rfl ?_
  refine g_C_nextOp hC 41 rfl d_C_op_38 ?_
  refine j_istore (lv' := [(4, _), (0, _), (1, _), (2, _), (3, _)]) hC 43 rfl d_C_op_41 (by decide) rfl ?_
  refine j_aload_n hC 1 44 rfl d_C_op_43 rfl rfl ?_
  refine g_C_ops hC 47 rfl d_C_op_44 ?_
  refine j_iload hC 0 49 rfl d_C_op_47 rfl ?_
  refine j_iload_n hC 2 50 rfl d_C_op_49 rfl rfl ?_
  refine j_iload_n hC 3 51 rfl d_C_op_50 rfl rfl ?_
  refine j_iload_n hC 4 52 rfl d_C_op_51 rfl rfl ?_
  refine j_callVv hC jE_loc jT_good (As := [_, _, _, _]) c_O_begin yk_O_begin lk_C_73 ⟨rfl, rfl⟩ ⟨Nat.le_of_ble_eq_true rfl, Nat.le_of_ble_eq_true rfl⟩ 1 rfl rfl rfl rfl (Nat.le_of_ble_eq_true rfl) ⟨Nat.zero_le _, Nat.zero_le _⟩ d_C_op_52 55 rfl rfl ?_
  refine j_aload_n hC 1 56 rfl d_C_op_55 rfl rfl ?_
  refine j_iload hC 0 58 rfl d_C_op_56 rfl ?_
  refine j_iconst (v := 1) hC 59 rfl d_C_op_58 (by decide) ?_
  refine j_iadd hC 60 rfl d_C_op_59 ?_
  refine p_C_nextOp hC 63 rfl d_C_op_60 ?_
  refine j_iload hC 0 65 rfl d_C_op_63 rfl ?_
  exact j_iret hC hr hlk d_C_op_65 rfl rfl
set_option maxHeartbeats 4000000 in
set_option maxRecDepth 100000 in
theorem c_C_address {op at0 : Int32} (h1 : ¬ op < 0) (h2 : op < σ 0 0) (hw : (!decide (op < σ 1 0) && !decide (σ 0 0 ≤ op)) = true) (hk : ¬ σ 10 (ix op) = 2) (ha : β 0 (ix op) = false) (hb : cba at0 (σ 11 (ix op)) = true) : kM l dC dI cI cZ cB cJ y_C_address b_C_address 4 (some .int) 4 90 [.ref (ad 0), .int op, .int at0] (wC ad cI cZ cB σ β mk ρ) (some (.int ((adT (sA σ 13 (ix op) at0) (bA β 0 (ix op) true) mk op).1))) (wC ad cI cZ cB (adT (sA σ 13 (ix op) at0) (bA β 0 (ix op) true) mk op).2.1 (adT (sA σ 13 (ix op) at0) (bA β 0 (ix op) true) mk op).2.2.1 (adT (sA σ 13 (ix op) at0) (bA β 0 (ix op) true) mk op).2.2.2 ρ) := by
  refine jM.of (lv := [(0, .ref (ad 0)), (1, .int op), (2, .int at0)]) (own := R_C) jE_loc (by decide) rfl rfl (Nat.le_of_ble_eq_true rfl) rfl ?_
  intro p e s m args below meth c A hC hr hlk
  refine j_aload_n hC 0 1 rfl d_C_address_0 rfl rfl ?_
  refine j_iload_n hC 1 2 rfl d_C_address_1 rfl rfl ?_
  refine j_callVv hC jE_loc jT_good (As := [_]) (c_C_requireOp h1 h2) yk_C_requireOp lk_C_77 ⟨rfl, rfl⟩ ⟨Nat.le_of_ble_eq_true rfl, Nat.le_of_ble_eq_true rfl⟩ 0 rfl rfl rfl rfl (Nat.le_of_ble_eq_true rfl) ⟨Nat.zero_le _, Nat.zero_le _⟩ d_C_address_2 5 rfl rfl ?_
  refine j_aload_n hC 0 6 rfl d_C_address_5 rfl rfl ?_
  refine j_iload_n hC 1 7 rfl d_C_address_6 rfl rfl ?_
  refine j_callVi hC jE_loc jT_good (As := [_]) c_C_waits yk_C_waits lk_C_81 ⟨rfl, rfl⟩ ⟨Nat.le_of_ble_eq_true rfl, Nat.le_of_ble_eq_true rfl⟩ 0 rfl rfl rfl rfl (Nat.le_of_ble_eq_true rfl) ⟨Nat.zero_le _, Nat.zero_le _⟩ d_C_address_7 10 rfl rfl ?_
  refine j_if_eq hC 36 13 rfl d_C_address_10 (by decide) (fun c_10 => absurd c_10 (by rw [hw]; decide)) (fun c_10 => ?_)
  refine j_aload_n hC 0 14 rfl d_C_address_13 rfl rfl ?_
  refine g_C_ops hC 17 rfl d_C_address_14 ?_
  refine j_iload_n hC 1 18 rfl d_C_address_17 rfl rfl ?_
  refine j_callVi hC jE_loc jT_good (As := [_]) c_O_kindOf yk_O_kindOf lk_C_85 ⟨rfl, rfl⟩ ⟨Nat.le_of_ble_eq_true rfl, Nat.le_of_ble_eq_true rfl⟩ 1 rfl rfl rfl rfl (Nat.le_of_ble_eq_true rfl) ⟨Nat.zero_le _, Nat.zero_le _⟩ d_C_address_18 21 rfl rfl ?_
  refine j_iconst (v := 2) hC 22 rfl d_C_address_21 (by decide) ?_
  refine j_icmp_eq hC 36 25 rfl d_C_address_22 (by decide) (fun c_22 => absurd c_22 hk) (fun c_22 => ?_)
  refine j_aload_n hC 0 26 rfl d_C_address_25 rfl rfl ?_
  refine g_C_ops hC 29 rfl d_C_address_26 ?_
  refine j_iload_n hC 1 30 rfl d_C_address_29 rfl rfl ?_
  refine j_callVi hC jE_loc jT_good (As := [_]) c_O_hasAddress yk_O_hasAddress lk_C_89 ⟨rfl, rfl⟩ ⟨Nat.le_of_ble_eq_true rfl, Nat.le_of_ble_eq_true rfl⟩ 1 rfl rfl rfl rfl (Nat.le_of_ble_eq_true rfl) ⟨Nat.zero_le _, Nat.zero_le _⟩ d_C_address_30 33 rfl rfl ?_
  refine j_if_eq hC 46 36 rfl d_C_address_33 (by decide) (fun c_33 => ?_) (fun c_33 => absurd c_33 (fun q => q (by rw [ha]; rfl)))
  refine j_iload_n hC 2 47 rfl d_C_address_46 rfl rfl ?_
  refine j_aload_n hC 0 48 rfl d_C_address_47 rfl rfl ?_
  refine g_C_ops hC 51 rfl d_C_address_48 ?_
  refine j_iload_n hC 1 52 rfl d_C_address_51 rfl rfl ?_
  refine j_callVi hC jE_loc jT_good (As := [_]) c_O_bytesOf yk_O_bytesOf lk_C_94 ⟨rfl, rfl⟩ ⟨Nat.le_of_ble_eq_true rfl, Nat.le_of_ble_eq_true rfl⟩ 1 rfl rfl rfl rfl (Nat.le_of_ble_eq_true rfl) ⟨Nat.zero_le _, Nat.zero_le _⟩ d_C_address_52 55 rfl rfl ?_
  refine j_callSi hC jE_loc jT_good (As := [_, _]) c_C_canBeAddress yk_C_canBeAddress lk_C_97 ⟨rfl, rfl⟩ ⟨Nat.le_of_ble_eq_true rfl, Nat.le_of_ble_eq_true rfl⟩ rfl (Nat.le_of_ble_eq_true rfl) ⟨Nat.zero_le _, Nat.zero_le _⟩ d_C_address_55 58 rfl rfl ?_
  refine j_if_ne hC 71 61 rfl d_C_address_58 (by decide) (fun c_58 => ?_) (fun c_58 => absurd c_58 (by rw [hb]; decide))
  refine j_aload_n hC 0 72 rfl d_C_address_71 rfl rfl ?_
  refine g_C_ops hC 75 rfl d_C_address_72 ?_
  refine j_iload_n hC 1 76 rfl d_C_address_75 rfl rfl ?_
  refine j_iload_n hC 2 77 rfl d_C_address_76 rfl rfl ?_
  refine j_callVv hC jE_loc jT_good (As := [_, _]) c_O_setAddress yk_O_setAddress lk_C_102 ⟨rfl, rfl⟩ ⟨Nat.le_of_ble_eq_true rfl, Nat.le_of_ble_eq_true rfl⟩ 1 rfl rfl rfl rfl (Nat.le_of_ble_eq_true rfl) ⟨Nat.zero_le _, Nat.zero_le _⟩ d_C_address_77 80 rfl rfl ?_
  refine j_aload_n hC 0 81 rfl d_C_address_80 rfl rfl ?_
  refine g_C_ops hC 84 rfl d_C_address_81 ?_
  refine j_iload_n hC 1 85 rfl d_C_address_84 rfl rfl ?_
  refine j_callVi hC jE_loc jT_good (As := [_]) c_O_kindOf yk_O_kindOf lk_C_85 ⟨rfl, rfl⟩ ⟨Nat.le_of_ble_eq_true rfl, Nat.le_of_ble_eq_true rfl⟩ 1 rfl rfl rfl rfl (Nat.le_of_ble_eq_true rfl) ⟨Nat.zero_le _, Nat.zero_le _⟩ d_C_address_85 88 rfl rfl ?_
  refine j_iconst (v := 1) hC 89 rfl d_C_address_88 (by decide) ?_
  refine j_icmp_eq hC 94 92 rfl d_C_address_89 (by decide) (fun c_89 => ?_) (fun c_89 => ?_)
  · refine j_aload_n hC 0 95 rfl d_C_address_94 rfl rfl ?_
    refine j_iload_n hC 1 96 rfl d_C_address_95 rfl rfl ?_
    refine j_callVi hC jE_loc jT_good (As := [_]) c_C_oldestLoadPast yk_C_oldestLoadPast lk_C_106 ⟨rfl, rfl⟩ ⟨Nat.le_of_ble_eq_true rfl, Nat.le_of_ble_eq_true rfl⟩ 0 rfl rfl rfl rfl (Nat.le_of_ble_eq_true rfl) ⟨Nat.zero_le _, Nat.zero_le _⟩ d_C_address_96 99 rfl rfl ?_
    refine j_istore_n (lv' := [(3, _), (0, _), (1, _), (2, _)]) hC 100 rfl d_C_address_99 rfl (by decide) rfl ?_
    refine j_iload_n hC 0 101 rfl d_C_address_100 rfl rfl ?_
    refine j_iconst (v := (-1)) hC 102 rfl d_C_address_101 (by decide) ?_
    refine j_icmp_ne hC 107 105 rfl d_C_address_102 (by decide) (fun c_102 => ?_) (fun c_102 => ?_)
    · refine j_aload_n hC 1 108 rfl d_C_address_107 rfl rfl ?_
      refine j_aload_n hC 1 109 rfl d_C_address_108 rfl rfl ?_
      refine g_C_ops hC 112 rfl d_C_address_109 ?_
      refine j_iload_n hC 0 113 rfl d_C_address_112 rfl rfl ?_
      refine j_callVi hC jE_loc jT_good (As := [_]) c_O_programOf yk_O_programOf lk_C_109 ⟨rfl, rfl⟩ ⟨Nat.le_of_ble_eq_true rfl, Nat.le_of_ble_eq_true rfl⟩ 1 rfl rfl rfl rfl (Nat.le_of_ble_eq_true rfl) ⟨Nat.zero_le _, Nat.zero_le _⟩ d_C_address_113 116 rfl rfl ?_
      refine j_callVv hC jE_loc jT_good (As := [_]) c_C_mark yk_C_mark lk_C_112 ⟨rfl, rfl⟩ ⟨Nat.le_of_ble_eq_true rfl, Nat.le_of_ble_eq_true rfl⟩ 0 rfl rfl rfl rfl (Nat.le_of_ble_eq_true rfl) ⟨Nat.zero_le _, Nat.zero_le _⟩ d_C_address_116 119 rfl rfl ?_
      refine j_aload_n hC 1 120 rfl d_C_address_119 rfl rfl ?_
      refine j_iload_n hC 0 121 rfl d_C_address_120 rfl rfl ?_
      refine j_callVi hC jE_loc jT_good (As := [_]) c_C_undoWrong yk_C_undoWrong lk_C_115 ⟨rfl, rfl⟩ ⟨Nat.le_of_ble_eq_true rfl, Nat.le_of_ble_eq_true rfl⟩ 0 rfl rfl rfl rfl (Nat.le_of_ble_eq_true rfl) ⟨Nat.zero_le _, Nat.zero_le _⟩ d_C_address_121 124 rfl rfl ?_
      exact j_iret hC hr hlk d_C_address_124 (by rw [adT, if_pos c_89, if_neg c_102] <;> rfl) (by rw [adT, if_pos c_89, if_neg c_102] <;> rfl)
    · refine j_iconst (v := 0) hC 106 rfl d_C_address_105 (by decide) ?_
      exact j_iret hC hr hlk d_C_address_106 (by rw [adT, if_pos c_89, if_pos c_102] <;> rfl) (by rw [adT, if_pos c_89, if_pos c_102] <;> rfl)
  · refine j_iconst (v := 0) hC 93 rfl d_C_address_92 (by decide) ?_
    exact j_iret hC hr hlk d_C_address_93 (by rw [adT, if_neg c_89] <;> rfl) (by rw [adT, if_neg c_89] <;> rfl)
set_option maxHeartbeats 4000000 in
set_option maxRecDepth 100000 in
theorem c_C_number {op v : Int32} (h1 : ¬ op < 0) (h2 : op < σ 0 0) (hw : (!decide (op < σ 1 0) && !decide (σ 0 0 ≤ op)) = true) (hk : (decide (σ 10 (ix op) = 1) || decide (σ 10 (ix op) = 3)) = true) (ha : β 1 (ix op) = false) : kM l dC dI cI cZ cB cJ y_C_number b_C_number 3 (some .int) 1 22 [.ref (ad 0), .int op, .int v] (wC ad cI cZ cB σ β mk ρ) (some (.int (σ 11 (ix op)))) (wC ad cI cZ cB (sA σ 15 (ix op) v) (bA β 1 (ix op) true) mk ρ) := by
  refine jM.of (lv := [(0, .ref (ad 0)), (1, .int op), (2, .int v)]) (own := R_C) jE_loc (by decide) rfl rfl (Nat.le_of_ble_eq_true rfl) rfl ?_
  intro p e s m args below meth c A hC hr hlk
  refine j_aload_n hC 0 1 rfl d_C_number_0 rfl rfl ?_
  refine j_iload_n hC 1 2 rfl d_C_number_1 rfl rfl ?_
  refine j_callVv hC jE_loc jT_good (As := [_]) (c_C_requireOp h1 h2) yk_C_requireOp lk_C_77 ⟨rfl, rfl⟩ ⟨Nat.le_of_ble_eq_true rfl, Nat.le_of_ble_eq_true rfl⟩ 0 rfl rfl rfl rfl (Nat.le_of_ble_eq_true rfl) ⟨Nat.zero_le _, Nat.zero_le _⟩ d_C_number_2 5 rfl rfl ?_
  refine j_aload_n hC 0 6 rfl d_C_number_5 rfl rfl ?_
  refine j_iload_n hC 1 7 rfl d_C_number_6 rfl rfl ?_
  refine j_callVi hC jE_loc jT_good (As := [_]) c_C_waits yk_C_waits lk_C_81 ⟨rfl, rfl⟩ ⟨Nat.le_of_ble_eq_true rfl, Nat.le_of_ble_eq_true rfl⟩ 0 rfl rfl rfl rfl (Nat.le_of_ble_eq_true rfl) ⟨Nat.zero_le _, Nat.zero_le _⟩ d_C_number_7 10 rfl rfl ?_
  refine j_if_eq hC 38 13 rfl d_C_number_10 (by decide) (fun c_10 => absurd c_10 (by rw [hw]; decide)) (fun c_10 => ?_)
  refine j_aload_n hC 0 14 rfl d_C_number_13 rfl rfl ?_
  refine g_C_ops hC 17 rfl d_C_number_14 ?_
  refine j_iload_n hC 1 18 rfl d_C_number_17 rfl rfl ?_
  refine j_callVi hC jE_loc jT_good (As := [_]) c_O_kindOf yk_O_kindOf lk_C_85 ⟨rfl, rfl⟩ ⟨Nat.le_of_ble_eq_true rfl, Nat.le_of_ble_eq_true rfl⟩ 1 rfl rfl rfl rfl (Nat.le_of_ble_eq_true rfl) ⟨Nat.zero_le _, Nat.zero_le _⟩ d_C_number_18 21 rfl rfl ?_
  refine j_callSi hC jE_loc jT_good (As := [_]) c_C_takesNumber yk_C_takesNumber lk_C_118 ⟨rfl, rfl⟩ ⟨Nat.le_of_ble_eq_true rfl, Nat.le_of_ble_eq_true rfl⟩ rfl (Nat.le_of_ble_eq_true rfl) ⟨Nat.zero_le _, Nat.zero_le _⟩ d_C_number_21 24 rfl rfl ?_
  refine j_if_eq hC 38 27 rfl d_C_number_24 (by decide) (fun c_24 => absurd c_24 (by rw [hk]; decide)) (fun c_24 => ?_)
  refine j_aload_n hC 0 28 rfl d_C_number_27 rfl rfl ?_
  refine g_C_ops hC 31 rfl d_C_number_28 ?_
  refine j_iload_n hC 1 32 rfl d_C_number_31 rfl rfl ?_
  refine j_callVi hC jE_loc jT_good (As := [_]) c_O_hasNumber yk_O_hasNumber lk_C_121 ⟨rfl, rfl⟩ ⟨Nat.le_of_ble_eq_true rfl, Nat.le_of_ble_eq_true rfl⟩ 1 rfl rfl rfl rfl (Nat.le_of_ble_eq_true rfl) ⟨Nat.zero_le _, Nat.zero_le _⟩ d_C_number_32 35 rfl rfl ?_
  refine j_if_eq hC 48 38 rfl d_C_number_35 (by decide) (fun c_35 => ?_) (fun c_35 => absurd c_35 (fun q => q (by rw [ha]; rfl)))
  refine j_aload_n hC 0 49 rfl d_C_number_48 rfl rfl ?_
  refine g_C_ops hC 52 rfl d_C_number_49 ?_
  refine j_iload_n hC 1 53 rfl d_C_number_52 rfl rfl ?_
  refine j_iload_n hC 2 54 rfl d_C_number_53 rfl rfl ?_
  refine j_callVv hC jE_loc jT_good (As := [_, _]) c_O_setNumber yk_O_setNumber lk_C_126 ⟨rfl, rfl⟩ ⟨Nat.le_of_ble_eq_true rfl, Nat.le_of_ble_eq_true rfl⟩ 1 rfl rfl rfl rfl (Nat.le_of_ble_eq_true rfl) ⟨Nat.zero_le _, Nat.zero_le _⟩ d_C_number_54 57 rfl rfl ?_
  refine j_aload_n hC 0 58 rfl d_C_number_57 rfl rfl ?_
  refine g_C_ops hC 61 rfl d_C_number_58 ?_
  refine j_iload_n hC 1 62 rfl d_C_number_61 rfl rfl ?_
  refine j_callVi hC jE_loc jT_good (As := [_]) c_O_bytesOf yk_O_bytesOf lk_C_94 ⟨rfl, rfl⟩ ⟨Nat.le_of_ble_eq_true rfl, Nat.le_of_ble_eq_true rfl⟩ 1 rfl rfl rfl rfl (Nat.le_of_ble_eq_true rfl) ⟨Nat.zero_le _, Nat.zero_le _⟩ d_C_number_62 65 rfl rfl ?_
  exact j_iret hC hr hlk d_C_number_65 rfl rfl
set_option maxHeartbeats 4000000 in
set_option maxRecDepth 100000 in
theorem c_C_tried {op : Int32} (h1 : ¬ op < 0) (h2 : op < σ 0 0) (h0 : 0 ≤ σ 1 0) (hw : (!decide (op < σ 1 0) && !decide (σ 0 0 ≤ op)) = true) (hk : σ 10 (ix op) = 0) (ha : β 0 (ix op) = true) (hd : β 2 (ix op) = false) : kM l dC dI cI cZ cB cJ y_C_tried b_C_tried 2 (some .int) 5 116 [.ref (ad 0), .int op] (wC ad cI cZ cB σ β mk ρ) (some (.int ((trR σ β mk op).1))) (wC ad cI cZ cB (trR σ β mk op).2.1 (trR σ β mk op).2.2 mk ρ) := by
  refine jM.of (lv := [(0, .ref (ad 0)), (1, .int op)]) (own := R_C) jE_loc (by decide) rfl rfl (Nat.le_of_ble_eq_true rfl) rfl ?_
  intro p e s m args below meth c A hC hr hlk
  refine j_aload_n hC 0 1 rfl d_C_tried_0 rfl rfl ?_
  refine j_iload_n hC 1 2 rfl d_C_tried_1 rfl rfl ?_
  refine j_callVv hC jE_loc jT_good (As := [_]) (c_C_requireOp h1 h2) yk_C_requireOp lk_C_77 ⟨rfl, rfl⟩ ⟨Nat.le_of_ble_eq_true rfl, Nat.le_of_ble_eq_true rfl⟩ 0 rfl rfl rfl rfl (Nat.le_of_ble_eq_true rfl) ⟨Nat.zero_le _, Nat.zero_le _⟩ d_C_tried_2 5 rfl rfl ?_
  refine j_aload_n hC 0 6 rfl d_C_tried_5 rfl rfl ?_
  refine j_iload_n hC 1 7 rfl d_C_tried_6 rfl rfl ?_
  refine j_callVi hC jE_loc jT_good (As := [_]) c_C_waits yk_C_waits lk_C_81 ⟨rfl, rfl⟩ ⟨Nat.le_of_ble_eq_true rfl, Nat.le_of_ble_eq_true rfl⟩ 0 rfl rfl rfl rfl (Nat.le_of_ble_eq_true rfl) ⟨Nat.zero_le _, Nat.zero_le _⟩ d_C_tried_7 10 rfl rfl ?_
  refine j_if_eq hC 46 13 rfl d_C_tried_10 (by decide) (fun c_10 => absurd c_10 (by rw [hw]; decide)) (fun c_10 => ?_)
  refine j_aload_n hC 0 14 rfl d_C_tried_13 rfl rfl ?_
  refine g_C_ops hC 17 rfl d_C_tried_14 ?_
  refine j_iload_n hC 1 18 rfl d_C_tried_17 rfl rfl ?_
  refine j_callVi hC jE_loc jT_good (As := [_]) c_O_kindOf yk_O_kindOf lk_C_85 ⟨rfl, rfl⟩ ⟨Nat.le_of_ble_eq_true rfl, Nat.le_of_ble_eq_true rfl⟩ 1 rfl rfl rfl rfl (Nat.le_of_ble_eq_true rfl) ⟨Nat.zero_le _, Nat.zero_le _⟩ d_C_tried_18 21 rfl rfl ?_
  refine j_if_ne hC 46 24 rfl d_C_tried_21 (by decide) (fun c_21 => absurd c_21 (fun q => q hk)) (fun c_21 => ?_)
  refine j_aload_n hC 0 25 rfl d_C_tried_24 rfl rfl ?_
  refine g_C_ops hC 28 rfl d_C_tried_25 ?_
  refine j_iload_n hC 1 29 rfl d_C_tried_28 rfl rfl ?_
  refine j_callVi hC jE_loc jT_good (As := [_]) c_O_hasAddress yk_O_hasAddress lk_C_89 ⟨rfl, rfl⟩ ⟨Nat.le_of_ble_eq_true rfl, Nat.le_of_ble_eq_true rfl⟩ 1 rfl rfl rfl rfl (Nat.le_of_ble_eq_true rfl) ⟨Nat.zero_le _, Nat.zero_le _⟩ d_C_tried_29 32 rfl rfl ?_
  refine j_if_eq hC 46 35 rfl d_C_tried_32 (by decide) (fun c_32 => absurd c_32 (by rw [ha]; decide)) (fun c_32 => ?_)
  refine j_aload_n hC 0 36 rfl d_C_tried_35 rfl rfl ?_
  refine g_C_ops hC 39 rfl d_C_tried_36 ?_
  refine j_iload_n hC 1 40 rfl d_C_tried_39 rfl rfl ?_
  refine j_callVi hC jE_loc jT_good (As := [_]) c_O_isDone yk_O_isDone lk_C_129 ⟨rfl, rfl⟩ ⟨Nat.le_of_ble_eq_true rfl, Nat.le_of_ble_eq_true rfl⟩ 1 rfl rfl rfl rfl (Nat.le_of_ble_eq_true rfl) ⟨Nat.zero_le _, Nat.zero_le _⟩ d_C_tried_40 43 rfl rfl ?_
  refine j_if_eq hC 56 46 rfl d_C_tried_43 (by decide) (fun c_43 => ?_) (fun c_43 => absurd c_43 (fun q => q (by rw [hd]; rfl)))
  refine j_aload_n hC 0 57 rfl d_C_tried_56 rfl rfl ?_
  refine j_iload_n hC 1 58 rfl d_C_tried_57 rfl rfl ?_
  refine j_callVi hC jE_loc jT_good (As := [_]) c_C_isHeldBack yk_C_isHeldBack lk_C_134 ⟨rfl, rfl⟩ ⟨Nat.le_of_ble_eq_true rfl, Nat.le_of_ble_eq_true rfl⟩ 0 rfl rfl rfl rfl (Nat.le_of_ble_eq_true rfl) ⟨Nat.zero_le _, Nat.zero_le _⟩ d_C_tried_58 61 rfl rfl ?_
  refine j_if_eq hC 66 64 rfl d_C_tried_61 (by decide) (fun c_61 => ?_) (fun c_61 => ?_)
  · refine j_aload_n hC 0 67 rfl d_C_tried_66 rfl rfl ?_
    refine j_aload_n hC 0 68 rfl d_C_tried_67 rfl rfl ?_
    refine g_C_ops hC 71 rfl d_C_tried_68 ?_
    refine j_iload_n hC 1 72 rfl d_C_tried_71 rfl rfl ?_
    refine j_callVi hC jE_loc jT_good (As := [_]) c_O_programOf yk_O_programOf lk_C_109 ⟨rfl, rfl⟩ ⟨Nat.le_of_ble_eq_true rfl, Nat.le_of_ble_eq_true rfl⟩ 1 rfl rfl rfl rfl (Nat.le_of_ble_eq_true rfl) ⟨Nat.zero_le _, Nat.zero_le _⟩ d_C_tried_72 75 rfl rfl ?_
    refine j_callVi hC jE_loc jT_good (As := [_]) c_C_marked yk_C_marked lk_C_137 ⟨rfl, rfl⟩ ⟨Nat.le_of_ble_eq_true rfl, Nat.le_of_ble_eq_true rfl⟩ 0 rfl rfl rfl rfl (Nat.le_of_ble_eq_true rfl) ⟨Nat.zero_le _, Nat.zero_le _⟩ d_C_tried_75 78 rfl rfl ?_
    refine j_if_eq hC 91 81 rfl d_C_tried_78 (by decide) (fun c_78 => ?_) (fun c_78 => ?_)
    · refine j_aload_n hC 0 92 rfl d_C_tried_91 rfl rfl ?_
      refine j_iload_n hC 1 93 rfl d_C_tried_92 rfl rfl ?_
      refine j_callVi hC jE_loc jT_good (As := [_]) (c_C_storeWithoutNumberFor h0) yk_C_storeWithoutNumberFor lk_C_143 ⟨rfl, rfl⟩ ⟨Nat.le_of_ble_eq_true rfl, Nat.le_of_ble_eq_true rfl⟩ 0 rfl rfl rfl rfl (Nat.le_of_ble_eq_true rfl) ⟨Nat.zero_le _, Nat.zero_le _⟩ d_C_tried_93 96 rfl rfl ?_
      refine j_if_eq hC 101 99 rfl d_C_tried_96 (by decide) (fun c_96 => ?_) (fun c_96 => ?_)
      · refine j_aload_n hC 0 102 rfl d_C_tried_101 rfl rfl ?_
        refine j_iload_n hC 1 103 rfl d_C_tried_102 rfl rfl ?_
        refine j_callVv hC jE_loc jT_good (As := [_]) (c_C_doLoad h0) yk_C_doLoad lk_C_146 ⟨rfl, rfl⟩ ⟨Nat.le_of_ble_eq_true rfl, Nat.le_of_ble_eq_true rfl⟩ 0 rfl rfl rfl rfl (Nat.le_of_ble_eq_true rfl) ⟨Nat.zero_le _, Nat.zero_le _⟩ d_C_tried_103 106 rfl rfl ?_
        refine j_iconst (v := 1) hC 107 rfl d_C_tried_106 (by decide) ?_
        exact j_iret hC hr hlk d_C_tried_107 (by simp only [trR, bI1 c_10, c_21, bI1 c_32, bI0 c_43, bI0 c_61, bI0 c_78, bI0 c_96, reduceIte, Bool.false_eq_true] <;> rfl) (by simp only [trR, bI1 c_10, c_21, bI1 c_32, bI0 c_43, bI0 c_61, bI0 c_78, bI0 c_96, reduceIte, Bool.false_eq_true] <;> rfl)
      · refine j_iconst (v := 4) hC 100 rfl d_C_tried_99 (by decide) ?_
        exact j_iret hC hr hlk d_C_tried_100 (by simp only [trR, bI1 c_10, c_21, bI1 c_32, bI0 c_43, bI0 c_61, bI0 c_78, bI1 c_96, reduceIte, Bool.false_eq_true] <;> rfl) (by simp only [trR, bI1 c_10, c_21, bI1 c_32, bI0 c_43, bI0 c_61, bI0 c_78, bI1 c_96, reduceIte, Bool.false_eq_true] <;> rfl)
    · refine j_aload_n hC 0 82 rfl d_C_tried_81 rfl rfl ?_
      refine j_iload_n hC 1 83 rfl d_C_tried_82 rfl rfl ?_
      refine j_callVi hC jE_loc jT_good (As := [_]) c_C_storeWithoutAddressBefore yk_C_storeWithoutAddressBefore lk_C_140 ⟨rfl, rfl⟩ ⟨Nat.le_of_ble_eq_true rfl, Nat.le_of_ble_eq_true rfl⟩ 0 rfl rfl rfl rfl (Nat.le_of_ble_eq_true rfl) ⟨Nat.zero_le _, Nat.zero_le _⟩ d_C_tried_83 86 rfl rfl ?_
      refine j_if_eq hC 91 89 rfl d_C_tried_86 (by decide) (fun c_86 => ?_) (fun c_86 => ?_)
      · refine j_aload_n hC 0 92 rfl d_C_tried_91 rfl rfl ?_
        refine j_iload_n hC 1 93 rfl d_C_tried_92 rfl rfl ?_
        refine j_callVi hC jE_loc jT_good (As := [_]) (c_C_storeWithoutNumberFor h0) yk_C_storeWithoutNumberFor lk_C_143 ⟨rfl, rfl⟩ ⟨Nat.le_of_ble_eq_true rfl, Nat.le_of_ble_eq_true rfl⟩ 0 rfl rfl rfl rfl (Nat.le_of_ble_eq_true rfl) ⟨Nat.zero_le _, Nat.zero_le _⟩ d_C_tried_93 96 rfl rfl ?_
        refine j_if_eq hC 101 99 rfl d_C_tried_96 (by decide) (fun c_96 => ?_) (fun c_96 => ?_)
        · refine j_aload_n hC 0 102 rfl d_C_tried_101 rfl rfl ?_
          refine j_iload_n hC 1 103 rfl d_C_tried_102 rfl rfl ?_
          refine j_callVv hC jE_loc jT_good (As := [_]) (c_C_doLoad h0) yk_C_doLoad lk_C_146 ⟨rfl, rfl⟩ ⟨Nat.le_of_ble_eq_true rfl, Nat.le_of_ble_eq_true rfl⟩ 0 rfl rfl rfl rfl (Nat.le_of_ble_eq_true rfl) ⟨Nat.zero_le _, Nat.zero_le _⟩ d_C_tried_103 106 rfl rfl ?_
          refine j_iconst (v := 1) hC 107 rfl d_C_tried_106 (by decide) ?_
          exact j_iret hC hr hlk d_C_tried_107 (by simp only [trR, bI1 c_10, c_21, bI1 c_32, bI0 c_43, bI0 c_61, bI1 c_78, bI0 c_86, bI0 c_96, reduceIte, Bool.false_eq_true] <;> rfl) (by simp only [trR, bI1 c_10, c_21, bI1 c_32, bI0 c_43, bI0 c_61, bI1 c_78, bI0 c_86, bI0 c_96, reduceIte, Bool.false_eq_true] <;> rfl)
        · refine j_iconst (v := 4) hC 100 rfl d_C_tried_99 (by decide) ?_
          exact j_iret hC hr hlk d_C_tried_100 (by simp only [trR, bI1 c_10, c_21, bI1 c_32, bI0 c_43, bI0 c_61, bI1 c_78, bI0 c_86, bI1 c_96, reduceIte, Bool.false_eq_true] <;> rfl) (by simp only [trR, bI1 c_10, c_21, bI1 c_32, bI0 c_43, bI0 c_61, bI1 c_78, bI0 c_86, bI1 c_96, reduceIte, Bool.false_eq_true] <;> rfl)
      · refine j_iconst (v := 3) hC 90 rfl d_C_tried_89 (by decide) ?_
        exact j_iret hC hr hlk d_C_tried_90 (by simp only [trR, bI1 c_10, c_21, bI1 c_32, bI0 c_43, bI0 c_61, bI1 c_78, bI1 c_86, reduceIte, Bool.false_eq_true] <;> rfl) (by simp only [trR, bI1 c_10, c_21, bI1 c_32, bI0 c_43, bI0 c_61, bI1 c_78, bI1 c_86, reduceIte, Bool.false_eq_true] <;> rfl)
  · refine j_iconst (v := 2) hC 65 rfl d_C_tried_64 (by decide) ?_
    exact j_iret hC hr hlk d_C_tried_65 (by simp only [trR, bI1 c_10, c_21, bI1 c_32, bI0 c_43, bI1 c_61, reduceIte, Bool.false_eq_true] <;> rfl) (by simp only [trR, bI1 c_10, c_21, bI1 c_32, bI0 c_43, bI1 c_61, reduceIte, Bool.false_eq_true] <;> rfl)
set_option maxHeartbeats 4000000 in
set_option maxRecDepth 100000 in
theorem c_C_loaded {op : Int32} (h1 : ¬ op < 0) (h2 : op < σ 0 0) (hl : σ 0 0 - 1 - op < 64) (hk : hlC σ β op = true) : kM l dC dI cI cZ cB cJ y_C_loaded b_C_loaded 2 (some .int) 2 42 [.ref (ad 0), .int op] (wC ad cI cZ cB σ β mk ρ) (some (.int (σ 18 (ix op)))) (wC ad cI cZ cB σ β mk ρ) := by
  refine jM.of (lv := [(0, .ref (ad 0)), (1, .int op)]) (own := R_C) jE_loc (by decide) rfl rfl (Nat.le_of_ble_eq_true rfl) rfl ?_
  intro p e s m args below meth c A hC hr hlk
  refine j_aload_n hC 0 1 rfl d_C_loaded_0 rfl rfl ?_
  refine j_iload_n hC 1 2 rfl d_C_loaded_1 rfl rfl ?_
  refine j_callVv hC jE_loc jT_good (As := [_]) (c_C_requireOp h1 h2) yk_C_requireOp lk_C_77 ⟨rfl, rfl⟩ ⟨Nat.le_of_ble_eq_true rfl, Nat.le_of_ble_eq_true rfl⟩ 0 rfl rfl rfl rfl (Nat.le_of_ble_eq_true rfl) ⟨Nat.zero_le _, Nat.zero_le _⟩ d_C_loaded_2 5 rfl rfl ?_
  refine j_aload_n hC 0 6 rfl d_C_loaded_5 rfl rfl ?_
  refine g_C_nextOp hC 9 rfl d_C_loaded_6 ?_
  refine j_iconst (v := 1) hC 10 rfl d_C_loaded_9 (by decide) ?_
  refine j_isub hC 11 rfl d_C_loaded_10 ?_
  refine j_iload_n hC 1 12 rfl d_C_loaded_11 rfl rfl ?_
  refine j_isub hC 13 rfl d_C_loaded_12 ?_
  refine j_bipush (v := 64) hC 15 rfl d_C_loaded_13 (by decide) ?_
  refine j_icmp_lt hC 28 18 rfl d_C_loaded_15 (by decide) (fun c_15 => ?_) (fun c_15 => absurd c_15 (fun q => q hl))
  refine j_aload_n hC 0 29 rfl d_C_loaded_28 rfl rfl ?_
  refine j_iload_n hC 1 30 rfl d_C_loaded_29 rfl rfl ?_
  refine j_callVi hC jE_loc jT_good (As := [_]) c_C_hasLoaded yk_C_hasLoaded lk_C_154 ⟨rfl, rfl⟩ ⟨Nat.le_of_ble_eq_true rfl, Nat.le_of_ble_eq_true rfl⟩ 0 rfl rfl rfl rfl (Nat.le_of_ble_eq_true rfl) ⟨Nat.zero_le _, Nat.zero_le _⟩ d_C_loaded_30 33 rfl rfl ?_
  refine j_if_ne hC 46 36 rfl d_C_loaded_33 (by decide) (fun c_33 => ?_) (fun c_33 => absurd c_33 (by rw [hk]; decide))
  refine j_aload_n hC 0 47 rfl d_C_loaded_46 rfl rfl ?_
  refine g_C_ops hC 50 rfl d_C_loaded_47 ?_
  refine j_iload_n hC 1 51 rfl d_C_loaded_50 rfl rfl ?_
  refine j_callVi hC jE_loc jT_good (As := [_]) c_O_loadedBy yk_O_loadedBy lk_C_159 ⟨rfl, rfl⟩ ⟨Nat.le_of_ble_eq_true rfl, Nat.le_of_ble_eq_true rfl⟩ 1 rfl rfl rfl rfl (Nat.le_of_ble_eq_true rfl) ⟨Nat.zero_le _, Nat.zero_le _⟩ d_C_loaded_51 54 rfl rfl ?_
  exact j_iret hC hr hlk d_C_loaded_54 rfl rfl
set_option maxHeartbeats 4000000 in
set_option maxRecDepth 100000 in
theorem c_C_source {op k : Int32} (h1 : ¬ op < 0) (h2 : op < σ 0 0) (hw : (!decide (op < σ 1 0) && !decide (σ 0 0 ≤ op)) = true) (hd : β 2 (ix op) = true) (hk : ¬ k < 0) (hk2 : k < σ 11 (ix op)) : kM l dC dI cI cZ cB cJ y_C_source b_C_source 4 (some .int) 2 43 [.ref (ad 0), .int op, .int k] (wC ad cI cZ cB σ β mk ρ) (some (.int (if σ 19 (isx op k) < 0 then -1 else σ 19 (isx op k)))) (wC ad cI cZ cB σ β mk ρ) := by
  refine jM.of (lv := [(0, .ref (ad 0)), (1, .int op), (2, .int k)]) (own := R_C) jE_loc (by decide) rfl rfl (Nat.le_of_ble_eq_true rfl) rfl ?_
  intro p e s m args below meth c A hC hr hlk
  refine j_aload_n hC 0 1 rfl d_C_source_0 rfl rfl ?_
  refine j_iload_n hC 1 2 rfl d_C_source_1 rfl rfl ?_
  refine j_callVv hC jE_loc jT_good (As := [_]) (c_C_requireOp h1 h2) yk_C_requireOp lk_C_77 ⟨rfl, rfl⟩ ⟨Nat.le_of_ble_eq_true rfl, Nat.le_of_ble_eq_true rfl⟩ 0 rfl rfl rfl rfl (Nat.le_of_ble_eq_true rfl) ⟨Nat.zero_le _, Nat.zero_le _⟩ d_C_source_2 5 rfl rfl ?_
  refine j_aload_n hC 0 6 rfl d_C_source_5 rfl rfl ?_
  refine j_iload_n hC 1 7 rfl d_C_source_6 rfl rfl ?_
  refine j_callVi hC jE_loc jT_good (As := [_]) c_C_waits yk_C_waits lk_C_81 ⟨rfl, rfl⟩ ⟨Nat.le_of_ble_eq_true rfl, Nat.le_of_ble_eq_true rfl⟩ 0 rfl rfl rfl rfl (Nat.le_of_ble_eq_true rfl) ⟨Nat.zero_le _, Nat.zero_le _⟩ d_C_source_7 10 rfl rfl ?_
  refine j_if_eq hC 24 13 rfl d_C_source_10 (by decide) (fun c_10 => absurd c_10 (by rw [hw]; decide)) (fun c_10 => ?_)
  refine j_aload_n hC 0 14 rfl d_C_source_13 rfl rfl ?_
  refine g_C_ops hC 17 rfl d_C_source_14 ?_
  refine j_iload_n hC 1 18 rfl d_C_source_17 rfl rfl ?_
  refine j_callVi hC jE_loc jT_good (As := [_]) c_O_isDone yk_O_isDone lk_C_129 ⟨rfl, rfl⟩ ⟨Nat.le_of_ble_eq_true rfl, Nat.le_of_ble_eq_true rfl⟩ 1 rfl rfl rfl rfl (Nat.le_of_ble_eq_true rfl) ⟨Nat.zero_le _, Nat.zero_le _⟩ d_C_source_18 21 rfl rfl ?_
  refine j_if_ne hC 34 24 rfl d_C_source_21 (by decide) (fun c_21 => ?_) (fun c_21 => absurd c_21 (by rw [hd]; decide))
  refine j_iload_n hC 2 35 rfl d_C_source_34 rfl rfl ?_
  refine j_if_lt hC 50 38 rfl d_C_source_35 (by decide) (fun c_35 => absurd c_35 hk) (fun c_35 => ?_)
  refine j_iload_n hC 2 39 rfl d_C_source_38 rfl rfl ?_
  refine j_aload_n hC 0 40 rfl d_C_source_39 rfl rfl ?_
  refine g_C_ops hC 43 rfl d_C_source_40 ?_
  refine j_iload_n hC 1 44 rfl d_C_source_43 rfl rfl ?_
  refine j_callVi hC jE_loc jT_good (As := [_]) c_O_bytesOf yk_O_bytesOf lk_C_94 ⟨rfl, rfl⟩ ⟨Nat.le_of_ble_eq_true rfl, Nat.le_of_ble_eq_true rfl⟩ 1 rfl rfl rfl rfl (Nat.le_of_ble_eq_true rfl) ⟨Nat.zero_le _, Nat.zero_le _⟩ d_C_source_44 47 rfl rfl ?_
  refine j_icmp_lt hC 60 50 rfl d_C_source_47 (by decide) (fun c_47 => ?_) (fun c_47 => absurd c_47 (fun q => q hk2))
  refine j_aload_n hC 0 61 rfl d_C_source_60 rfl rfl ?_
  refine g_C_ops hC 64 rfl d_C_source_61 ?_
  refine j_iload_n hC 1 65 rfl d_C_source_64 rfl rfl ?_
  refine j_iload_n hC 2 66 rfl d_C_source_65 rfl rfl ?_
  refine j_callVi hC jE_loc jT_good (As := [_, _]) c_O_sourceOf yk_O_sourceOf lk_C_166 ⟨rfl, rfl⟩ ⟨Nat.le_of_ble_eq_true rfl, Nat.le_of_ble_eq_true rfl⟩ 1 rfl rfl rfl rfl (Nat.le_of_ble_eq_true rfl) ⟨Nat.zero_le _, Nat.zero_le _⟩ d_C_source_66 69 rfl rfl ?_
  refine j_istore_n (lv' := [(3, _), (0, _), (1, _), (2, _)]) hC 70 rfl d_C_source_69 rfl (by decide) rfl ?_
  refine j_iload_n hC 0 71 rfl d_C_source_70 rfl rfl ?_
  refine j_if_lt hC 78 74 rfl d_C_source_71 (by decide) (fun c_71 => ?_) (fun c_71 => ?_)
  · refine j_iconst (v := (-1)) hC 79 rfl d_C_source_78 (by decide) ?_
    exact j_iret hC hr hlk d_C_source_79 (by simp only [bI1 c_10, bI1 c_21, c_35, c_47, c_71, reduceIte]) rfl
  · refine j_iload_n hC 0 75 rfl d_C_source_74 rfl rfl ?_
    refine j_goto hC 79 d_C_source_75 (by decide) ?_
    exact j_iret hC hr hlk d_C_source_79 (by simp only [bI1 c_10, bI1 c_21, c_35, c_47, c_71, reduceIte]) rfl
set_option maxHeartbeats 4000000 in
set_option maxRecDepth 100000 in
theorem c_C_other {at0 v : Int32} (hm : (!decide (at0 < 0) && !decide (4096 ≤ at0)) = true) (hv : ¬ v < 0) (hv2 : v ≤ 255) : kM l dC dI cI cZ cB cJ y_C_other b_C_other 4 (some .int) 3 66 [.ref (ad 0), .int at0, .int v] (wC ad cI cZ cB σ β mk ρ) (some (.int ((otR (sA σ 24 (iy at0) v.toInt8.toInt32) β at0).1))) (wC ad cI cZ cB (otR (sA σ 24 (iy at0) v.toInt8.toInt32) β at0).2.1 (otR (sA σ 24 (iy at0) v.toInt8.toInt32) β at0).2.2 mk ρ) := by
  refine jM.of (lv := [(0, .ref (ad 0)), (1, .int at0), (2, .int v)]) (own := R_C) jE_loc (by decide) rfl rfl (Nat.le_of_ble_eq_true rfl) rfl ?_
  intro p e s m args below meth c A hC hr hlk
  refine j_iload_n hC 1 1 rfl d_C_other_0 rfl rfl ?_
  refine j_callSi hC jE_loc jT_good (As := [_]) c_C_isMemoryByte yk_C_isMemoryByte lk_C_187 ⟨rfl, rfl⟩ ⟨Nat.le_of_ble_eq_true rfl, Nat.le_of_ble_eq_true rfl⟩ rfl (Nat.le_of_ble_eq_true rfl) ⟨Nat.zero_le _, Nat.zero_le _⟩ d_C_other_1 4 rfl rfl ?_
  refine j_if_eq hC 18 7 rfl d_C_other_4 (by decide) (fun c_4 => absurd c_4 (by rw [hm]; decide)) (fun c_4 => ?_)
  refine j_iload_n hC 2 8 rfl d_C_other_7 rfl rfl ?_
  refine j_if_lt hC 18 11 rfl d_C_other_8 (by decide) (fun c_8 => absurd c_8 hv) (fun c_8 => ?_)
  refine j_iload_n hC 2 12 rfl d_C_other_11 rfl rfl ?_
  refine j_sipush (v := 255) hC 15 rfl d_C_other_12 (by decide) ?_
  refine j_icmp_le hC 28 18 rfl d_C_other_15 (by decide) (fun c_15 => ?_) (fun c_15 => absurd c_15 (fun q => q hv2))
  refine j_aload_n hC 0 29 rfl d_C_other_28 rfl rfl ?_
  refine g_C_mainMemory hC 32 rfl d_C_other_29 ?_
  refine j_iload_n hC 1 33 rfl d_C_other_32 rfl rfl ?_
  refine j_iload_n hC 2 34 rfl d_C_other_33 rfl rfl ?_
  refine j_callVv hC jE_loc jT_good (As := [_, _]) c_Y_setByte yk_Y_setByte lk_C_192 ⟨rfl, rfl⟩ ⟨Nat.le_of_ble_eq_true rfl, Nat.le_of_ble_eq_true rfl⟩ 3 rfl rfl rfl rfl (Nat.le_of_ble_eq_true rfl) ⟨Nat.zero_le _, Nat.zero_le _⟩ d_C_other_34 37 rfl rfl ?_
  refine j_aload_n hC 0 38 rfl d_C_other_37 rfl rfl ?_
  refine j_iload_n hC 1 39 rfl d_C_other_38 rfl rfl ?_
  refine j_callVi hC jE_loc jT_good (As := [_]) c_C_oldestLoadFromMemory yk_C_oldestLoadFromMemory lk_C_195 ⟨rfl, rfl⟩ ⟨Nat.le_of_ble_eq_true rfl, Nat.le_of_ble_eq_true rfl⟩ 0 rfl rfl rfl rfl (Nat.le_of_ble_eq_true rfl) ⟨Nat.zero_le _, Nat.zero_le _⟩ d_C_other_39 42 rfl rfl ?_
  refine j_istore_n (lv' := [(3, _), (0, _), (1, _), (2, _)]) hC 43 rfl d_C_other_42 rfl (by decide) rfl ?_
  refine j_iload_n hC 0 44 rfl d_C_other_43 rfl rfl ?_
  refine j_iconst (v := (-1)) hC 45 rfl d_C_other_44 (by decide) ?_
  refine j_icmp_ne hC 52 48 rfl d_C_other_45 (by decide) (fun c_45 => ?_) (fun c_45 => ?_)
  · refine j_aload_n hC 1 53 rfl d_C_other_52 rfl rfl ?_
    refine j_iload_n hC 0 54 rfl d_C_other_53 rfl rfl ?_
    refine j_callVi hC jE_loc jT_good (As := [_]) c_C_undoWrong yk_C_undoWrong lk_C_115 ⟨rfl, rfl⟩ ⟨Nat.le_of_ble_eq_true rfl, Nat.le_of_ble_eq_true rfl⟩ 0 rfl rfl rfl rfl (Nat.le_of_ble_eq_true rfl) ⟨Nat.zero_le _, Nat.zero_le _⟩ d_C_other_54 57 rfl rfl ?_
    exact j_iret hC hr hlk d_C_other_57 (by simp only [otR, bI1 c_4, c_8, c_15, c_45, reduceIte, Bool.false_eq_true] <;> rfl) (by simp only [otR, bI1 c_4, c_8, c_15, c_45, reduceIte, Bool.false_eq_true] <;> rfl)
  · refine j_iconst (v := 0) hC 49 rfl d_C_other_48 (by decide) ?_
    refine j_goto hC 57 d_C_other_49 (by decide) ?_
    exact j_iret hC hr hlk d_C_other_57 (by simp only [otR, bI1 c_4, c_8, c_15, c_45, reduceIte, Bool.false_eq_true] <;> rfl) (by simp only [otR, bI1 c_4, c_8, c_15, c_45, reduceIte, Bool.false_eq_true] <;> rfl)
set_option maxHeartbeats 4000000 in
set_option maxRecDepth 100000 in
theorem c_C_memory {at0 : Int32} (hm : (!decide (at0 < 0) && !decide (4096 ≤ at0)) = true) : kM l dC dI cI cZ cB cJ y_C_memory b_C_memory 2 (some .int) 1 21 [.ref (ad 0), .int at0] (wC ad cI cZ cB σ β mk ρ) (some (.int (σ 24 (iy at0) &&& 255))) (wC ad cI cZ cB σ β mk ρ) := by
  refine jM.of (lv := [(0, .ref (ad 0)), (1, .int at0)]) (own := R_C) jE_loc (by decide) rfl rfl (Nat.le_of_ble_eq_true rfl) rfl ?_
  intro p e s m args below meth c A hC hr hlk
  refine j_iload_n hC 1 1 rfl d_C_memory_0 rfl rfl ?_
  refine j_callSi hC jE_loc jT_good (As := [_]) c_C_isMemoryByte yk_C_isMemoryByte lk_C_187 ⟨rfl, rfl⟩ ⟨Nat.le_of_ble_eq_true rfl, Nat.le_of_ble_eq_true rfl⟩ rfl (Nat.le_of_ble_eq_true rfl) ⟨Nat.zero_le _, Nat.zero_le _⟩ d_C_memory_1 4 rfl rfl ?_
  refine j_if_ne hC 17 7 rfl d_C_memory_4 (by decide) (fun c_4 => ?_) (fun c_4 => absurd c_4 (by rw [hm]; decide))
  refine j_aload_n hC 0 18 rfl d_C_memory_17 rfl rfl ?_
  refine g_C_mainMemory hC 21 rfl d_C_memory_18 ?_
  refine j_iload_n hC 1 22 rfl d_C_memory_21 rfl rfl ?_
  refine j_callVi hC jE_loc jT_good (As := [_]) c_Y_byteAt yk_Y_byteAt lk_C_200 ⟨rfl, rfl⟩ ⟨Nat.le_of_ble_eq_true rfl, Nat.le_of_ble_eq_true rfl⟩ 3 rfl rfl rfl rfl (Nat.le_of_ble_eq_true rfl) ⟨Nat.zero_le _, Nat.zero_le _⟩ d_C_memory_22 25 rfl rfl ?_
  exact j_iret hC hr hlk d_C_memory_25 rfl rfl
set_option maxHeartbeats 4000000 in
set_option maxRecDepth 100000 in
theorem c_C_forget {op : Int32} (h1 : ¬ op < 0) (h2 : op < σ 0 0) (hw : (!decide (op < σ 1 0) && !decide (σ 0 0 ≤ op)) = true) : kM l dC dI cI cZ cB cJ y_C_forget b_C_forget 3 (some .int) 1 21 [.ref (ad 0), .int op] (wC ad cI cZ cB σ β mk ρ) (some (.int (σ 0 0 - op))) (wC ad cI cZ cB (sS σ 0 op) β mk ρ) := by
  refine jM.of (lv := [(0, .ref (ad 0)), (1, .int op)]) (own := R_C) jE_loc (by decide) rfl rfl (Nat.le_of_ble_eq_true rfl) rfl ?_
  intro p e s m args below meth c A hC hr hlk
  refine j_aload_n hC 0 1 rfl d_C_forget_0 rfl rfl ?_
  refine j_iload_n hC 1 2 rfl d_C_forget_1 rfl rfl ?_
  refine j_callVv hC jE_loc jT_good (As := [_]) (c_C_requireOp h1 h2) yk_C_requireOp lk_C_77 ⟨rfl, rfl⟩ ⟨Nat.le_of_ble_eq_true rfl, Nat.le_of_ble_eq_true rfl⟩ 0 rfl rfl rfl rfl (Nat.le_of_ble_eq_true rfl) ⟨Nat.zero_le _, Nat.zero_le _⟩ d_C_forget_2 5 rfl rfl ?_
  refine j_aload_n hC 0 6 rfl d_C_forget_5 rfl rfl ?_
  refine j_iload_n hC 1 7 rfl d_C_forget_6 rfl rfl ?_
  refine j_callVi hC jE_loc jT_good (As := [_]) c_C_waits yk_C_waits lk_C_81 ⟨rfl, rfl⟩ ⟨Nat.le_of_ble_eq_true rfl, Nat.le_of_ble_eq_true rfl⟩ 0 rfl rfl rfl rfl (Nat.le_of_ble_eq_true rfl) ⟨Nat.zero_le _, Nat.zero_le _⟩ d_C_forget_7 10 rfl rfl ?_
  refine j_if_ne hC 23 13 rfl d_C_forget_10 (by decide) (fun c_10 => ?_) (fun c_10 => absurd c_10 (by rw [hw]; decide))
  refine j_aload_n hC 0 24 rfl d_C_forget_23 rfl rfl ?_
  refine g_C_nextOp hC 27 rfl d_C_forget_24 ?_
  refine j_iload_n hC 1 28 rfl d_C_forget_27 rfl rfl ?_
  refine j_isub hC 29 rfl d_C_forget_28 ?_
  refine j_istore_n (lv' := [(2, _), (0, _), (1, _)]) hC 30 rfl d_C_forget_29 rfl (by decide) rfl ?_
  refine j_aload_n hC 1 31 rfl d_C_forget_30 rfl rfl ?_
  refine j_iload_n hC 2 32 rfl d_C_forget_31 rfl rfl ?_
  refine p_C_nextOp hC 35 rfl d_C_forget_32 ?_
  refine j_iload_n hC 0 36 rfl d_C_forget_35 rfl rfl ?_
  exact j_iret hC hr hlk d_C_forget_36 rfl rfl
end KC
