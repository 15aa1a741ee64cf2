section KT
variable {l : Launch} {dC : Nat → ClassId} {dI : Nat → Nat → Nat} {cI cZ cB cJ : ClassId} {ad : Nat → Nat} {σ : S2} {β : B2} {mk : Int64} {ρ : va_W}
set_option maxHeartbeats 4000000 in
set_option maxRecDepth 100000 in
theorem t_C_requireOp_1 {op : Int32} (hst : l.stackTraces = false) (h : op < 0 ∨ σ 0 0 ≤ op) : kT l dC dI cI cZ cB cJ y_C_requireOp b_C_requireOp 2 none 6 82 [.ref (ad 0), .int op] (wC ad cI cZ cB σ β mk ρ) "java/lang/IndexOutOfBoundsException" := by
  refine tM.of (lv := [(0, .ref (ad 0)), (1, .int op)]) (own := R_C) (ret := none) hst jE_loc (by decide) rfl rfl (Nat.le_of_ble_eq_true rfl) rfl ?_
  intro p e s m args below meth c A hC hlk hex htr
  refine j_iload_n hC 1 1 rfl d_C_requireOp_0 rfl rfl ?_
  refine j_if_lt hC 12 4 rfl d_C_requireOp_1 (by decide) (fun c_1 => ?_) (fun c_1 => ?_)
  · exact j_throw hC hlk hex htr tw_224 tf_224 (List.mem_of_getElem? (i := 2) rfl) tc_220 ti_224 t6_224 ⟨Nat.le_of_ble_eq_true rfl, Nat.le_of_ble_eq_true rfl, Nat.le_of_ble_eq_true rfl, Nat.le_of_ble_eq_true rfl⟩ 15 16 18 21 rfl rfl rfl rfl d_C_requireOp_12 d_C_requireOp_15 d_C_requireOp_16 d_C_requireOp_18 d_C_requireOp_21
  · refine j_iload_n hC 1 5 rfl d_C_requireOp_4 rfl rfl ?_
    refine j_aload_n hC 0 6 rfl d_C_requireOp_5 rfl rfl ?_
    refine g_C_nextOp hC 9 rfl d_C_requireOp_6 ?_
    refine j_icmp_lt hC 22 12 rfl d_C_requireOp_9 (by decide) (fun c_9 => ?_) (fun c_9 => ?_)
    · exact (h.elim c_1 (fun q => Int32.not_le.mpr c_9 q)).elim
    · exact j_throw hC hlk hex htr tw_224 tf_224 (List.mem_of_getElem? (i := 2) rfl) tc_220 ti_224 t6_224 ⟨Nat.le_of_ble_eq_true rfl, Nat.le_of_ble_eq_true rfl, Nat.le_of_ble_eq_true rfl, Nat.le_of_ble_eq_true rfl⟩ 15 16 18 21 rfl rfl rfl rfl d_C_requireOp_12 d_C_requireOp_15 d_C_requireOp_16 d_C_requireOp_18 d_C_requireOp_21
set_option maxHeartbeats 4000000 in
set_option maxRecDepth 100000 in
theorem t_C_op_1 {kind bytes prog : Int32} (hst : l.stackTraces = false) (hk : kwb kind bytes = false) : kT l dC dI cI cZ cB cJ y_C_op b_C_op 5 (some .int) 7 110 [.ref (ad 0), .int kind, .int bytes, .int prog] (wC ad cI cZ cB σ β mk ρ) "java/lang/IllegalArgumentException" := by
  refine tM.of (lv := [(0, .ref (ad 0)), (1, .int kind), (2, .int bytes), (3, .int prog)]) (own := R_C) (ret := (some .int)) hst jE_loc (by decide) rfl rfl (Nat.le_of_ble_eq_true rfl) rfl ?_
  intro p e s m args below meth c A hC hlk hex htr
  refine j_iload_n hC 1 1 rfl d_C_op_0 rfl rfl ?_
  refine j_iload_n hC 2 2 rfl d_C_op_1 rfl rfl ?_
  refine j_callSRi hC jE_loc jT_good (As := [_, _]) r_C_isKindWithBytes yk_C_isKindWithBytes lk_C_53 ⟨rfl, rfl⟩ ⟨Nat.le_of_ble_eq_true rfl, Nat.le_of_ble_eq_true rfl⟩ rfl (Nat.le_of_ble_eq_true rfl) ⟨Nat.zero_le _, Nat.zero_le _⟩ d_C_op_2 5 rfl rfl ?_
  refine j_if_ne hC 18 8 rfl d_C_op_5 (by decide) (fun c_5 => absurd c_5 (fun q => q (by rw [hk]; rfl))) (fun c_5 => ?_)
  exact j_throw hC hlk hex htr tw_61 tf_61 (List.mem_of_getElem? (i := 0) rfl) tc_57 ti_61 t6_61 ⟨Nat.le_of_ble_eq_true rfl, Nat.le_of_ble_eq_true rfl, Nat.le_of_ble_eq_true rfl, Nat.le_of_ble_eq_true rfl⟩ 11 12 14 17 rfl rfl rfl rfl d_C_op_8 d_C_op_11 d_C_op_12 d_C_op_14 d_C_op_17
set_option maxHeartbeats 4000000 in
set_option maxRecDepth 100000 in
theorem t_C_op_2 {kind bytes prog : Int32} (hst : l.stackTraces = false) (hk : kwb kind bytes = true) (hw : ¬ σ 0 0 - σ 1 0 < 32) : kT l dC dI cI cZ cB cJ y_C_op b_C_op 5 (some .int) 7 110 [.ref (ad 0), .int kind, .int bytes, .int prog] (wC ad cI cZ cB σ β mk ρ) "java/lang/UnsupportedOperationException" := by
  refine tM.of (lv := [(0, .ref (ad 0)), (1, .int kind), (2, .int bytes), (3, .int prog)]) (own := R_C) (ret := (some .int)) hst jE_loc (by decide) rfl rfl (Nat.le_of_ble_eq_true rfl) rfl ?_
  intro p e s m args below meth c A hC hlk hex htr
  refine j_iload_n hC 1 1 rfl d_C_op_0 rfl rfl ?_
  refine j_iload_n hC 2 2 rfl d_C_op_1 rfl rfl ?_
  refine j_callSRi hC jE_loc jT_good (As := [_, _]) r_C_isKindWithBytes yk_C_isKindWithBytes lk_C_53 ⟨rfl, rfl⟩ ⟨Nat.le_of_ble_eq_true rfl, Nat.le_of_ble_eq_true rfl⟩ rfl (Nat.le_of_ble_eq_true rfl) ⟨Nat.zero_le _, Nat.zero_le _⟩ d_C_op_2 5 rfl rfl ?_
  refine j_if_ne hC 18 8 rfl d_C_op_5 (by decide) (fun c_5 => ?_) (fun c_5 => absurd c_5 (by rw [hk]; decide))
  refine j_aload_n hC 0 19 rfl d_C_op_18 rfl rfl ?_
  refine j_callVRi hC jE_loc jT_good (As := []) r_C_waitingOps yk_C_waitingOps lk_C_64 ⟨rfl, rfl⟩ ⟨Nat.le_of_ble_eq_true rfl, Nat.le_of_ble_eq_true rfl⟩ 0 rfl rfl rfl rfl (Nat.le_of_ble_eq_true rfl) ⟨Nat.zero_le _, Nat.zero_le _⟩ d_C_op_19 22 rfl rfl ?_
  refine j_bipush (v := 32) hC 24 rfl d_C_op_22 (by decide) ?_
  refine j_icmp_lt hC 37 27 rfl d_C_op_24 (by decide) (fun c_24 => absurd c_24 hw) (fun c_24 => ?_)
  exact j_throw hC hlk hex htr tw_72 tf_72 (List.mem_of_getElem? (i := 1) rfl) tc_68 ti_72 t6_72 ⟨Nat.le_of_ble_eq_true rfl, Nat.le_of_ble_eq_true rfl, Nat.le_of_ble_eq_true rfl, Nat.le_of_ble_eq_true rfl⟩ 30 31 33 36 rfl rfl rfl rfl d_C_op_27 d_C_op_30 d_C_op_31 d_C_op_33 d_C_op_36
set_option maxHeartbeats 4000000 in
set_option maxRecDepth 100000 in
theorem t_C_address_1 {op at0 : Int32} (hst : l.stackTraces = false) (h : op < 0 ∨ σ 0 0 ≤ op) : kT l dC dI cI cZ cB cJ y_C_address b_C_address 4 (some .int) 7 110 [.ref (ad 0), .int op, .int at0] (wC ad cI cZ cB σ β mk ρ) "java/lang/IndexOutOfBoundsException" := by
  refine tM.of (lv := [(0, .ref (ad 0)), (1, .int op), (2, .int at0)]) (own := R_C) (ret := (some .int)) hst jE_loc (by decide) rfl rfl (Nat.le_of_ble_eq_true rfl) rfl ?_
  intro p e s m args below meth c A hC hlk hex htr
  refine j_aload_n hC 0 1 rfl d_C_address_0 rfl rfl ?_
  refine j_iload_n hC 1 2 rfl d_C_address_1 rfl rfl ?_
  exact j_callT hC jE_loc jT_good hlk hex (As := [_]) (t_C_requireOp_1 hst h) yk_C_requireOp lk_C_77 ⟨Nat.le_of_ble_eq_true rfl, Nat.le_of_ble_eq_true rfl⟩ ⟨Nat.le_of_ble_eq_true rfl, Nat.le_of_ble_eq_true rfl⟩ 0 rfl rfl rfl rfl (Nat.le_of_ble_eq_true rfl) d_C_address_2 rfl
set_option maxHeartbeats 4000000 in
set_option maxRecDepth 100000 in
theorem t_C_number_1 {op v : Int32} (hst : l.stackTraces = false) (h : op < 0 ∨ σ 0 0 ≤ op) : kT l dC dI cI cZ cB cJ y_C_number b_C_number 3 (some .int) 7 110 [.ref (ad 0), .int op, .int v] (wC ad cI cZ cB σ β mk ρ) "java/lang/IndexOutOfBoundsException" := by
  refine tM.of (lv := [(0, .ref (ad 0)), (1, .int op), (2, .int v)]) (own := R_C) (ret := (some .int)) hst jE_loc (by decide) rfl rfl (Nat.le_of_ble_eq_true rfl) rfl ?_
  intro p e s m args below meth c A hC hlk hex htr
  refine j_aload_n hC 0 1 rfl d_C_number_0 rfl rfl ?_
  refine j_iload_n hC 1 2 rfl d_C_number_1 rfl rfl ?_
  exact j_callT hC jE_loc jT_good hlk hex (As := [_]) (t_C_requireOp_1 hst h) yk_C_requireOp lk_C_77 ⟨Nat.le_of_ble_eq_true rfl, Nat.le_of_ble_eq_true rfl⟩ ⟨Nat.le_of_ble_eq_true rfl, Nat.le_of_ble_eq_true rfl⟩ 0 rfl rfl rfl rfl (Nat.le_of_ble_eq_true rfl) d_C_number_2 rfl
set_option maxHeartbeats 4000000 in
set_option maxRecDepth 100000 in
theorem t_C_tried_1 {op : Int32} (hst : l.stackTraces = false) (h : op < 0 ∨ σ 0 0 ≤ op) : kT l dC dI cI cZ cB cJ y_C_tried b_C_tried 2 (some .int) 7 110 [.ref (ad 0), .int op] (wC ad cI cZ cB σ β mk ρ) "java/lang/IndexOutOfBoundsException" := by
  refine tM.of (lv := [(0, .ref (ad 0)), (1, .int op)]) (own := R_C) (ret := (some .int)) hst jE_loc (by decide) rfl rfl (Nat.le_of_ble_eq_true rfl) rfl ?_
  intro p e s m args below meth c A hC hlk hex htr
  refine j_aload_n hC 0 1 rfl d_C_tried_0 rfl rfl ?_
  refine j_iload_n hC 1 2 rfl d_C_tried_1 rfl rfl ?_
  exact j_callT hC jE_loc jT_good hlk hex (As := [_]) (t_C_requireOp_1 hst h) yk_C_requireOp lk_C_77 ⟨Nat.le_of_ble_eq_true rfl, Nat.le_of_ble_eq_true rfl⟩ ⟨Nat.le_of_ble_eq_true rfl, Nat.le_of_ble_eq_true rfl⟩ 0 rfl rfl rfl rfl (Nat.le_of_ble_eq_true rfl) d_C_tried_2 rfl
set_option maxHeartbeats 4000000 in
set_option maxRecDepth 100000 in
theorem t_C_loaded_1 {op : Int32} (hst : l.stackTraces = false) (h : op < 0 ∨ σ 0 0 ≤ op) : kT l dC dI cI cZ cB cJ y_C_loaded b_C_loaded 2 (some .int) 7 110 [.ref (ad 0), .int op] (wC ad cI cZ cB σ β mk ρ) "java/lang/IndexOutOfBoundsException" := by
  refine tM.of (lv := [(0, .ref (ad 0)), (1, .int op)]) (own := R_C) (ret := (some .int)) hst jE_loc (by decide) rfl rfl (Nat.le_of_ble_eq_true rfl) rfl ?_
  intro p e s m args below meth c A hC hlk hex htr
  refine j_aload_n hC 0 1 rfl d_C_loaded_0 rfl rfl ?_
  refine j_iload_n hC 1 2 rfl d_C_loaded_1 rfl rfl ?_
  exact j_callT hC jE_loc jT_good hlk hex (As := [_]) (t_C_requireOp_1 hst h) yk_C_requireOp lk_C_77 ⟨Nat.le_of_ble_eq_true rfl, Nat.le_of_ble_eq_true rfl⟩ ⟨Nat.le_of_ble_eq_true rfl, Nat.le_of_ble_eq_true rfl⟩ 0 rfl rfl rfl rfl (Nat.le_of_ble_eq_true rfl) d_C_loaded_2 rfl
set_option maxHeartbeats 4000000 in
set_option maxRecDepth 100000 in
theorem t_C_source_1 {op k : Int32} (hst : l.stackTraces = false) (h : op < 0 ∨ σ 0 0 ≤ op) : kT l dC dI cI cZ cB cJ y_C_source b_C_source 4 (some .int) 7 110 [.ref (ad 0), .int op, .int k] (wC ad cI cZ cB σ β mk ρ) "java/lang/IndexOutOfBoundsException" := by
  refine tM.of (lv := [(0, .ref (ad 0)), (1, .int op), (2, .int k)]) (own := R_C) (ret := (some .int)) hst jE_loc (by decide) rfl rfl (Nat.le_of_ble_eq_true rfl) rfl ?_
  intro p e s m args below meth c A hC hlk hex htr
  refine j_aload_n hC 0 1 rfl d_C_source_0 rfl rfl ?_
  refine j_iload_n hC 1 2 rfl d_C_source_1 rfl rfl ?_
  exact j_callT hC jE_loc jT_good hlk hex (As := [_]) (t_C_requireOp_1 hst h) yk_C_requireOp lk_C_77 ⟨Nat.le_of_ble_eq_true rfl, Nat.le_of_ble_eq_true rfl⟩ ⟨Nat.le_of_ble_eq_true rfl, Nat.le_of_ble_eq_true rfl⟩ 0 rfl rfl rfl rfl (Nat.le_of_ble_eq_true rfl) d_C_source_2 rfl
set_option maxHeartbeats 4000000 in
set_option maxRecDepth 100000 in
theorem t_C_forget_1 {op : Int32} (hst : l.stackTraces = false) (h : op < 0 ∨ σ 0 0 ≤ op) : kT l dC dI cI cZ cB cJ y_C_forget b_C_forget 3 (some .int) 7 110 [.ref (ad 0), .int op] (wC ad cI cZ cB σ β mk ρ) "java/lang/IndexOutOfBoundsException" := by
  refine tM.of (lv := [(0, .ref (ad 0)), (1, .int op)]) (own := R_C) (ret := (some .int)) hst jE_loc (by decide) rfl rfl (Nat.le_of_ble_eq_true rfl) rfl ?_
  intro p e s m args below meth c A hC hlk hex htr
  refine j_aload_n hC 0 1 rfl d_C_forget_0 rfl rfl ?_
  refine j_iload_n hC 1 2 rfl d_C_forget_1 rfl rfl ?_
  exact j_callT hC jE_loc jT_good hlk hex (As := [_]) (t_C_requireOp_1 hst h) yk_C_requireOp lk_C_77 ⟨Nat.le_of_ble_eq_true rfl, Nat.le_of_ble_eq_true rfl⟩ ⟨Nat.le_of_ble_eq_true rfl, Nat.le_of_ble_eq_true rfl⟩ 0 rfl rfl rfl rfl (Nat.le_of_ble_eq_true rfl) d_C_forget_2 rfl
set_option maxHeartbeats 4000000 in
set_option maxRecDepth 100000 in
theorem t_C_address_2 {op at0 : Int32} (hst : l.stackTraces = false) (h1 : ¬ op < 0) (h2 : op < σ 0 0) (hno : ¬ ((!decide (op < σ 1 0) && !decide (σ 0 0 ≤ op)) = true ∧ ¬ σ 10 (ix op) = 2 ∧ β 0 (ix op) = false ∧ cba at0 (σ 11 (ix op)) = true)) : kT l dC dI cI cZ cB cJ y_C_address b_C_address 4 (some .int) 7 110 [.ref (ad 0), .int op, .int at0] (wC ad cI cZ cB σ β mk ρ) "java/lang/IllegalArgumentException" := by
  refine tM.of (lv := [(0, .ref (ad 0)), (1, .int op), (2, .int at0)]) (own := R_C) (ret := (some .int)) hst jE_loc (by decide) rfl rfl (Nat.le_of_ble_eq_true rfl) rfl ?_
  intro p e s m args below meth c A hC hlk hex htr
  refine j_aload_n hC 0 1 rfl d_C_address_0 rfl rfl ?_
  refine j_iload_n hC 1 2 rfl d_C_address_1 rfl rfl ?_
  refine j_callVRv hC jE_loc jT_good (As := [_]) (r_C_requireOp h1 h2) yk_C_requireOp lk_C_77 ⟨rfl, rfl⟩ ⟨Nat.le_of_ble_eq_true rfl, Nat.le_of_ble_eq_true rfl⟩ 0 rfl rfl rfl rfl (Nat.le_of_ble_eq_true rfl) ⟨Nat.zero_le _, Nat.zero_le _⟩ d_C_address_2 5 rfl rfl ?_
  refine j_aload_n hC 0 6 rfl d_C_address_5 rfl rfl ?_
  refine j_iload_n hC 1 7 rfl d_C_address_6 rfl rfl ?_
  refine j_callVRi hC jE_loc jT_good (As := [_]) r_C_waits yk_C_waits lk_C_81 ⟨rfl, rfl⟩ ⟨Nat.le_of_ble_eq_true rfl, Nat.le_of_ble_eq_true rfl⟩ 0 rfl rfl rfl rfl (Nat.le_of_ble_eq_true rfl) ⟨Nat.zero_le _, Nat.zero_le _⟩ d_C_address_7 10 rfl rfl ?_
  refine j_if_eq hC 36 13 rfl d_C_address_10 (by decide) (fun c_10 => ?_) (fun c_10 => ?_)
  · exact j_throw hC hlk hex htr tw_61 tf_61 (List.mem_of_getElem? (i := 3) rfl) tc_57 ti_61 t6_61 ⟨Nat.le_of_ble_eq_true rfl, Nat.le_of_ble_eq_true rfl, Nat.le_of_ble_eq_true rfl, Nat.le_of_ble_eq_true rfl⟩ 39 40 42 45 rfl rfl rfl rfl d_C_address_36 d_C_address_39 d_C_address_40 d_C_address_42 d_C_address_45
  · refine j_aload_n hC 0 14 rfl d_C_address_13 rfl rfl ?_
    refine g_C_ops hC 17 rfl d_C_address_14 ?_
    refine j_iload_n hC 1 18 rfl d_C_address_17 rfl rfl ?_
    refine j_callVRi hC jE_loc jT_good (As := [_]) r_O_kindOf yk_O_kindOf lk_C_85 ⟨rfl, rfl⟩ ⟨Nat.le_of_ble_eq_true rfl, Nat.le_of_ble_eq_true rfl⟩ 1 rfl rfl rfl rfl (Nat.le_of_ble_eq_true rfl) ⟨Nat.zero_le _, Nat.zero_le _⟩ d_C_address_18 21 rfl rfl ?_
    refine j_iconst (v := 2) hC 22 rfl d_C_address_21 (by decide) ?_
    refine j_icmp_eq hC 36 25 rfl d_C_address_22 (by decide) (fun c_22 => ?_) (fun c_22 => ?_)
    · exact j_throw hC hlk hex htr tw_61 tf_61 (List.mem_of_getElem? (i := 3) rfl) tc_57 ti_61 t6_61 ⟨Nat.le_of_ble_eq_true rfl, Nat.le_of_ble_eq_true rfl, Nat.le_of_ble_eq_true rfl, Nat.le_of_ble_eq_true rfl⟩ 39 40 42 45 rfl rfl rfl rfl d_C_address_36 d_C_address_39 d_C_address_40 d_C_address_42 d_C_address_45
    · refine j_aload_n hC 0 26 rfl d_C_address_25 rfl rfl ?_
      refine g_C_ops hC 29 rfl d_C_address_26 ?_
      refine j_iload_n hC 1 30 rfl d_C_address_29 rfl rfl ?_
      refine j_callVRi hC jE_loc jT_good (As := [_]) r_O_hasAddress yk_O_hasAddress lk_C_89 ⟨rfl, rfl⟩ ⟨Nat.le_of_ble_eq_true rfl, Nat.le_of_ble_eq_true rfl⟩ 1 rfl rfl rfl rfl (Nat.le_of_ble_eq_true rfl) ⟨Nat.zero_le _, Nat.zero_le _⟩ d_C_address_30 33 rfl rfl ?_
      refine j_if_eq hC 46 36 rfl d_C_address_33 (by decide) (fun c_33 => ?_) (fun c_33 => ?_)
      · refine j_iload_n hC 2 47 rfl d_C_address_46 rfl rfl ?_
        refine j_aload_n hC 0 48 rfl d_C_address_47 rfl rfl ?_
        refine g_C_ops hC 51 rfl d_C_address_48 ?_
        refine j_iload_n hC 1 52 rfl d_C_address_51 rfl rfl ?_
        refine j_callVRi hC jE_loc jT_good (As := [_]) r_O_bytesOf yk_O_bytesOf lk_C_94 ⟨rfl, rfl⟩ ⟨Nat.le_of_ble_eq_true rfl, Nat.le_of_ble_eq_true rfl⟩ 1 rfl rfl rfl rfl (Nat.le_of_ble_eq_true rfl) ⟨Nat.zero_le _, Nat.zero_le _⟩ d_C_address_52 55 rfl rfl ?_
        refine j_callSRi hC jE_loc jT_good (As := [_, _]) r_C_canBeAddress yk_C_canBeAddress lk_C_97 ⟨rfl, rfl⟩ ⟨Nat.le_of_ble_eq_true rfl, Nat.le_of_ble_eq_true rfl⟩ rfl (Nat.le_of_ble_eq_true rfl) ⟨Nat.zero_le _, Nat.zero_le _⟩ d_C_address_55 58 rfl rfl ?_
        refine j_if_ne hC 71 61 rfl d_C_address_58 (by decide) (fun c_58 => ?_) (fun c_58 => ?_)
        · exact absurd ⟨bI1 c_10, c_22, bI0 c_33, bI1 c_58⟩ hno
        · exact j_throw hC hlk hex htr tw_61 tf_61 (List.mem_of_getElem? (i := 4) rfl) tc_57 ti_61 t6_61 ⟨Nat.le_of_ble_eq_true rfl, Nat.le_of_ble_eq_true rfl, Nat.le_of_ble_eq_true rfl, Nat.le_of_ble_eq_true rfl⟩ 64 65 67 70 rfl rfl rfl rfl d_C_address_61 d_C_address_64 d_C_address_65 d_C_address_67 d_C_address_70
      · exact j_throw hC hlk hex htr tw_61 tf_61 (List.mem_of_getElem? (i := 3) rfl) tc_57 ti_61 t6_61 ⟨Nat.le_of_ble_eq_true rfl, Nat.le_of_ble_eq_true rfl, Nat.le_of_ble_eq_true rfl, Nat.le_of_ble_eq_true rfl⟩ 39 40 42 45 rfl rfl rfl rfl d_C_address_36 d_C_address_39 d_C_address_40 d_C_address_42 d_C_address_45
set_option maxHeartbeats 4000000 in
set_option maxRecDepth 100000 in
theorem t_C_number_2 {op v : Int32} (hst : l.stackTraces = false) (h1 : ¬ op < 0) (h2 : op < σ 0 0) (hno : ¬ ((!decide (op < σ 1 0) && !decide (σ 0 0 ≤ op)) = true ∧ (decide (σ 10 (ix op) = 1) || decide (σ 10 (ix op) = 3)) = true ∧ β 1 (ix op) = false)) : kT l dC dI cI cZ cB cJ y_C_number b_C_number 3 (some .int) 7 110 [.ref (ad 0), .int op, .int v] (wC ad cI cZ cB σ β mk ρ) "java/lang/IllegalArgumentException" := by
  refine tM.of (lv := [(0, .ref (ad 0)), (1, .int op), (2, .int v)]) (own := R_C) (ret := (some .int)) hst jE_loc (by decide) rfl rfl (Nat.le_of_ble_eq_true rfl) rfl ?_
  intro p e s m args below meth c A hC hlk hex htr
  refine j_aload_n hC 0 1 rfl d_C_number_0 rfl rfl ?_
  refine j_iload_n hC 1 2 rfl d_C_number_1 rfl rfl ?_
  refine j_callVRv hC jE_loc jT_good (As := [_]) (r_C_requireOp h1 h2) yk_C_requireOp lk_C_77 ⟨rfl, rfl⟩ ⟨Nat.le_of_ble_eq_true rfl, Nat.le_of_ble_eq_true rfl⟩ 0 rfl rfl rfl rfl (Nat.le_of_ble_eq_true rfl) ⟨Nat.zero_le _, Nat.zero_le _⟩ d_C_number_2 5 rfl rfl ?_
  refine j_aload_n hC 0 6 rfl d_C_number_5 rfl rfl ?_
  refine j_iload_n hC 1 7 rfl d_C_number_6 rfl rfl ?_
  refine j_callVRi hC jE_loc jT_good (As := [_]) r_C_waits yk_C_waits lk_C_81 ⟨rfl, rfl⟩ ⟨Nat.le_of_ble_eq_true rfl, Nat.le_of_ble_eq_true rfl⟩ 0 rfl rfl rfl rfl (Nat.le_of_ble_eq_true rfl) ⟨Nat.zero_le _, Nat.zero_le _⟩ d_C_number_7 10 rfl rfl ?_
  refine j_if_eq hC 38 13 rfl d_C_number_10 (by decide) (fun c_10 => ?_) (fun c_10 => ?_)
  · exact j_throw hC hlk hex htr tw_61 tf_61 (List.mem_of_getElem? (i := 5) rfl) tc_57 ti_61 t6_61 ⟨Nat.le_of_ble_eq_true rfl, Nat.le_of_ble_eq_true rfl, Nat.le_of_ble_eq_true rfl, Nat.le_of_ble_eq_true rfl⟩ 41 42 44 47 rfl rfl rfl rfl d_C_number_38 d_C_number_41 d_C_number_42 d_C_number_44 d_C_number_47
  · refine j_aload_n hC 0 14 rfl d_C_number_13 rfl rfl ?_
    refine g_C_ops hC 17 rfl d_C_number_14 ?_
    refine j_iload_n hC 1 18 rfl d_C_number_17 rfl rfl ?_
    refine j_callVRi hC jE_loc jT_good (As := [_]) r_O_kindOf yk_O_kindOf lk_C_85 ⟨rfl, rfl⟩ ⟨Nat.le_of_ble_eq_true rfl, Nat.le_of_ble_eq_true rfl⟩ 1 rfl rfl rfl rfl (Nat.le_of_ble_eq_true rfl) ⟨Nat.zero_le _, Nat.zero_le _⟩ d_C_number_18 21 rfl rfl ?_
    refine j_callSRi hC jE_loc jT_good (As := [_]) r_C_takesNumber yk_C_takesNumber lk_C_118 ⟨rfl, rfl⟩ ⟨Nat.le_of_ble_eq_true rfl, Nat.le_of_ble_eq_true rfl⟩ rfl (Nat.le_of_ble_eq_true rfl) ⟨Nat.zero_le _, Nat.zero_le _⟩ d_C_number_21 24 rfl rfl ?_
    refine j_if_eq hC 38 27 rfl d_C_number_24 (by decide) (fun c_24 => ?_) (fun c_24 => ?_)
    · exact j_throw hC hlk hex htr tw_61 tf_61 (List.mem_of_getElem? (i := 5) rfl) tc_57 ti_61 t6_61 ⟨Nat.le_of_ble_eq_true rfl, Nat.le_of_ble_eq_true rfl, Nat.le_of_ble_eq_true rfl, Nat.le_of_ble_eq_true rfl⟩ 41 42 44 47 rfl rfl rfl rfl d_C_number_38 d_C_number_41 d_C_number_42 d_C_number_44 d_C_number_47
    · refine j_aload_n hC 0 28 rfl d_C_number_27 rfl rfl ?_
      refine g_C_ops hC 31 rfl d_C_number_28 ?_
      refine j_iload_n hC 1 32 rfl d_C_number_31 rfl rfl ?_
      refine j_callVRi hC jE_loc jT_good (As := [_]) r_O_hasNumber yk_O_hasNumber lk_C_121 ⟨rfl, rfl⟩ ⟨Nat.le_of_ble_eq_true rfl, Nat.le_of_ble_eq_true rfl⟩ 1 rfl rfl rfl rfl (Nat.le_of_ble_eq_true rfl) ⟨Nat.zero_le _, Nat.zero_le _⟩ d_C_number_32 35 rfl rfl ?_
      refine j_if_eq hC 48 38 rfl d_C_number_35 (by decide) (fun c_35 => ?_) (fun c_35 => ?_)
      · exact absurd ⟨bI1 c_10, bI1 c_24, bI0 c_35⟩ hno
      · exact j_throw hC hlk hex htr tw_61 tf_61 (List.mem_of_getElem? (i := 5) rfl) tc_57 ti_61 t6_61 ⟨Nat.le_of_ble_eq_true rfl, Nat.le_of_ble_eq_true rfl, Nat.le_of_ble_eq_true rfl, Nat.le_of_ble_eq_true rfl⟩ 41 42 44 47 rfl rfl rfl rfl d_C_number_38 d_C_number_41 d_C_number_42 d_C_number_44 d_C_number_47
set_option maxHeartbeats 4000000 in
set_option maxRecDepth 100000 in
theorem t_C_tried_2 {op : Int32} (hst : l.stackTraces = false) (h1 : ¬ op < 0) (h2 : op < σ 0 0) (hno : ¬ ((!decide (op < σ 1 0) && !decide (σ 0 0 ≤ op)) = true ∧ σ 10 (ix op) = 0 ∧ β 0 (ix op) = true ∧ β 2 (ix op) = false)) : kT l dC dI cI cZ cB cJ y_C_tried b_C_tried 2 (some .int) 7 110 [.ref (ad 0), .int op] (wC ad cI cZ cB σ β mk ρ) "java/lang/IllegalArgumentException" := by
  refine tM.of (lv := [(0, .ref (ad 0)), (1, .int op)]) (own := R_C) (ret := (some .int)) hst jE_loc (by decide) rfl rfl (Nat.le_of_ble_eq_true rfl) rfl ?_
  intro p e s m args below meth c A hC hlk hex htr
  refine j_aload_n hC 0 1 rfl d_C_tried_0 rfl rfl ?_
  refine j_iload_n hC 1 2 rfl d_C_tried_1 rfl rfl ?_
  refine j_callVRv hC jE_loc jT_good (As := [_]) (r_C_requireOp h1 h2) yk_C_requireOp lk_C_77 ⟨rfl, rfl⟩ ⟨Nat.le_of_ble_eq_true rfl, Nat.le_of_ble_eq_true rfl⟩ 0 rfl rfl rfl rfl (Nat.le_of_ble_eq_true rfl) ⟨Nat.zero_le _, Nat.zero_le _⟩ d_C_tried_2 5 rfl rfl ?_
  refine j_aload_n hC 0 6 rfl d_C_tried_5 rfl rfl ?_
  refine j_iload_n hC 1 7 rfl d_C_tried_6 rfl rfl ?_
  refine j_callVRi hC jE_loc jT_good (As := [_]) r_C_waits yk_C_waits lk_C_81 ⟨rfl, rfl⟩ ⟨Nat.le_of_ble_eq_true rfl, Nat.le_of_ble_eq_true rfl⟩ 0 rfl rfl rfl rfl (Nat.le_of_ble_eq_true rfl) ⟨Nat.zero_le _, Nat.zero_le _⟩ d_C_tried_7 10 rfl rfl ?_
  refine j_if_eq hC 46 13 rfl d_C_tried_10 (by decide) (fun c_10 => ?_) (fun c_10 => ?_)
  · exact j_throw hC hlk hex htr tw_61 tf_61 (List.mem_of_getElem? (i := 6) rfl) tc_57 ti_61 t6_61 ⟨Nat.le_of_ble_eq_true rfl, Nat.le_of_ble_eq_true rfl, Nat.le_of_ble_eq_true rfl, Nat.le_of_ble_eq_true rfl⟩ 49 50 52 55 rfl rfl rfl rfl d_C_tried_46 d_C_tried_49 d_C_tried_50 d_C_tried_52 d_C_tried_55
  · refine j_aload_n hC 0 14 rfl d_C_tried_13 rfl rfl ?_
    refine g_C_ops hC 17 rfl d_C_tried_14 ?_
    refine j_iload_n hC 1 18 rfl d_C_tried_17 rfl rfl ?_
    refine j_callVRi hC jE_loc jT_good (As := [_]) r_O_kindOf yk_O_kindOf lk_C_85 ⟨rfl, rfl⟩ ⟨Nat.le_of_ble_eq_true rfl, Nat.le_of_ble_eq_true rfl⟩ 1 rfl rfl rfl rfl (Nat.le_of_ble_eq_true rfl) ⟨Nat.zero_le _, Nat.zero_le _⟩ d_C_tried_18 21 rfl rfl ?_
    refine j_if_ne hC 46 24 rfl d_C_tried_21 (by decide) (fun c_21 => ?_) (fun c_21 => ?_)
    · exact j_throw hC hlk hex htr tw_61 tf_61 (List.mem_of_getElem? (i := 6) rfl) tc_57 ti_61 t6_61 ⟨Nat.le_of_ble_eq_true rfl, Nat.le_of_ble_eq_true rfl, Nat.le_of_ble_eq_true rfl, Nat.le_of_ble_eq_true rfl⟩ 49 50 52 55 rfl rfl rfl rfl d_C_tried_46 d_C_tried_49 d_C_tried_50 d_C_tried_52 d_C_tried_55
    · refine j_aload_n hC 0 25 rfl d_C_tried_24 rfl rfl ?_
      refine g_C_ops hC 28 rfl d_C_tried_25 ?_
      refine j_iload_n hC 1 29 rfl d_C_tried_28 rfl rfl ?_
      refine j_callVRi hC jE_loc jT_good (As := [_]) r_O_hasAddress yk_O_hasAddress lk_C_89 ⟨rfl, rfl⟩ ⟨Nat.le_of_ble_eq_true rfl, Nat.le_of_ble_eq_true rfl⟩ 1 rfl rfl rfl rfl (Nat.le_of_ble_eq_true rfl) ⟨Nat.zero_le _, Nat.zero_le _⟩ d_C_tried_29 32 rfl rfl ?_
      refine j_if_eq hC 46 35 rfl d_C_tried_32 (by decide) (fun c_32 => ?_) (fun c_32 => ?_)
      · exact j_throw hC hlk hex htr tw_61 tf_61 (List.mem_of_getElem? (i := 6) rfl) tc_57 ti_61 t6_61 ⟨Nat.le_of_ble_eq_true rfl, Nat.le_of_ble_eq_true rfl, Nat.le_of_ble_eq_true rfl, Nat.le_of_ble_eq_true rfl⟩ 49 50 52 55 rfl rfl rfl rfl d_C_tried_46 d_C_tried_49 d_C_tried_50 d_C_tried_52 d_C_tried_55
      · refine j_aload_n hC 0 36 rfl d_C_tried_35 rfl rfl ?_
        refine g_C_ops hC 39 rfl d_C_tried_36 ?_
        refine j_iload_n hC 1 40 rfl d_C_tried_39 rfl rfl ?_
        refine j_callVRi hC jE_loc jT_good (As := [_]) r_O_isDone yk_O_isDone lk_C_129 ⟨rfl, rfl⟩ ⟨Nat.le_of_ble_eq_true rfl, Nat.le_of_ble_eq_true rfl⟩ 1 rfl rfl rfl rfl (Nat.le_of_ble_eq_true rfl) ⟨Nat.zero_le _, Nat.zero_le _⟩ d_C_tried_40 43 rfl rfl ?_
        refine j_if_eq hC 56 46 rfl d_C_tried_43 (by decide) (fun c_43 => ?_) (fun c_43 => ?_)
        · exact absurd ⟨bI1 c_10, c_21, bI1 c_32, bI0 c_43⟩ hno
        · exact j_throw hC hlk hex htr tw_61 tf_61 (List.mem_of_getElem? (i := 6) rfl) tc_57 ti_61 t6_61 ⟨Nat.le_of_ble_eq_true rfl, Nat.le_of_ble_eq_true rfl, Nat.le_of_ble_eq_true rfl, Nat.le_of_ble_eq_true rfl⟩ 49 50 52 55 rfl rfl rfl rfl d_C_tried_46 d_C_tried_49 d_C_tried_50 d_C_tried_52 d_C_tried_55
set_option maxHeartbeats 4000000 in
set_option maxRecDepth 100000 in
theorem t_C_loaded_3 {op : Int32} (hst : l.stackTraces = false) (h1 : ¬ op < 0) (h2 : op < σ 0 0) (hl : ¬ σ 0 0 - 1 - op < 64) : kT l dC dI cI cZ cB cJ y_C_loaded b_C_loaded 2 (some .int) 7 110 [.ref (ad 0), .int op] (wC ad cI cZ cB σ β mk ρ) "java/lang/IllegalStateException" := by
  refine tM.of (lv := [(0, .ref (ad 0)), (1, .int op)]) (own := R_C) (ret := (some .int)) hst jE_loc (by decide) rfl rfl (Nat.le_of_ble_eq_true rfl) rfl ?_
  intro p e s m args below meth c A hC hlk hex htr
  refine j_aload_n hC 0 1 rfl d_C_loaded_0 rfl rfl ?_
  refine j_iload_n hC 1 2 rfl d_C_loaded_1 rfl rfl ?_
  refine j_callVRv hC jE_loc jT_good (As := [_]) (r_C_requireOp h1 h2) yk_C_requireOp lk_C_77 ⟨rfl, rfl⟩ ⟨Nat.le_of_ble_eq_true rfl, Nat.le_of_ble_eq_true rfl⟩ 0 rfl rfl rfl rfl (Nat.le_of_ble_eq_true rfl) ⟨Nat.zero_le _, Nat.zero_le _⟩ d_C_loaded_2 5 rfl rfl ?_
  refine j_aload_n hC 0 6 rfl d_C_loaded_5 rfl rfl ?_
  refine g_C_nextOp hC 9 rfl d_C_loaded_6 ?_
  refine j_iconst (v := 1) hC 10 rfl d_C_loaded_9 (by decide) ?_
  refine j_isub hC 11 rfl d_C_loaded_10 ?_
  refine j_iload_n hC 1 12 rfl d_C_loaded_11 rfl rfl ?_
  refine j_isub hC 13 rfl d_C_loaded_12 ?_
  refine j_bipush (v := 64) hC 15 rfl d_C_loaded_13 (by decide) ?_
  refine j_icmp_lt hC 28 18 rfl d_C_loaded_15 (by decide) (fun c_15 => absurd c_15 hl) (fun c_15 => ?_)
  exact j_throw hC hlk hex htr tw_153 tf_153 (List.mem_of_getElem? (i := 7) rfl) tc_149 ti_153 t6_153 ⟨Nat.le_of_ble_eq_true rfl, Nat.le_of_ble_eq_true rfl, Nat.le_of_ble_eq_true rfl, Nat.le_of_ble_eq_true rfl⟩ 21 22 24 27 rfl rfl rfl rfl d_C_loaded_18 d_C_loaded_21 d_C_loaded_22 d_C_loaded_24 d_C_loaded_27
set_option maxHeartbeats 4000000 in
set_option maxRecDepth 100000 in
theorem t_C_loaded_2 {op : Int32} (hst : l.stackTraces = false) (h1 : ¬ op < 0) (h2 : op < σ 0 0) (hl : σ 0 0 - 1 - op < 64) (hk : hlC σ β op = false) : kT l dC dI cI cZ cB cJ y_C_loaded b_C_loaded 2 (some .int) 7 110 [.ref (ad 0), .int op] (wC ad cI cZ cB σ β mk ρ) "java/lang/IllegalArgumentException" := by
  refine tM.of (lv := [(0, .ref (ad 0)), (1, .int op)]) (own := R_C) (ret := (some .int)) hst jE_loc (by decide) rfl rfl (Nat.le_of_ble_eq_true rfl) rfl ?_
  intro p e s m args below meth c A hC hlk hex htr
  refine j_aload_n hC 0 1 rfl d_C_loaded_0 rfl rfl ?_
  refine j_iload_n hC 1 2 rfl d_C_loaded_1 rfl rfl ?_
  refine j_callVRv hC jE_loc jT_good (As := [_]) (r_C_requireOp h1 h2) yk_C_requireOp lk_C_77 ⟨rfl, rfl⟩ ⟨Nat.le_of_ble_eq_true rfl, Nat.le_of_ble_eq_true rfl⟩ 0 rfl rfl rfl rfl (Nat.le_of_ble_eq_true rfl) ⟨Nat.zero_le _, Nat.zero_le _⟩ d_C_loaded_2 5 rfl rfl ?_
  refine j_aload_n hC 0 6 rfl d_C_loaded_5 rfl rfl ?_
  refine g_C_nextOp hC 9 rfl d_C_loaded_6 ?_
  refine j_iconst (v := 1) hC 10 rfl d_C_loaded_9 (by decide) ?_
  refine j_isub hC 11 rfl d_C_loaded_10 ?_
  refine j_iload_n hC 1 12 rfl d_C_loaded_11 rfl rfl ?_
  refine j_isub hC 13 rfl d_C_loaded_12 ?_
  refine j_bipush (v := 64) hC 15 rfl d_C_loaded_13 (by decide) ?_
  refine j_icmp_lt hC 28 18 rfl d_C_loaded_15 (by decide) (fun c_15 => ?_) (fun c_15 => absurd c_15 (fun q => q hl))
  refine j_aload_n hC 0 29 rfl d_C_loaded_28 rfl rfl ?_
  refine j_iload_n hC 1 30 rfl d_C_loaded_29 rfl rfl ?_
  refine j_callVRi hC jE_loc jT_good (As := [_]) r_C_hasLoaded yk_C_hasLoaded lk_C_154 ⟨rfl, rfl⟩ ⟨Nat.le_of_ble_eq_true rfl, Nat.le_of_ble_eq_true rfl⟩ 0 rfl rfl rfl rfl (Nat.le_of_ble_eq_true rfl) ⟨Nat.zero_le _, Nat.zero_le _⟩ d_C_loaded_30 33 rfl rfl ?_
  refine j_if_ne hC 46 36 rfl d_C_loaded_33 (by decide) (fun c_33 => absurd c_33 (fun q => q (by rw [hk]; rfl))) (fun c_33 => ?_)
  exact j_throw hC hlk hex htr tw_61 tf_61 (List.mem_of_getElem? (i := 8) rfl) tc_57 ti_61 t6_61 ⟨Nat.le_of_ble_eq_true rfl, Nat.le_of_ble_eq_true rfl, Nat.le_of_ble_eq_true rfl, Nat.le_of_ble_eq_true rfl⟩ 39 40 42 45 rfl rfl rfl rfl d_C_loaded_36 d_C_loaded_39 d_C_loaded_40 d_C_loaded_42 d_C_loaded_45
set_option maxHeartbeats 4000000 in
set_option maxRecDepth 100000 in
theorem t_C_source_2 {op k : Int32} (hst : l.stackTraces = false) (h1 : ¬ op < 0) (h2 : op < σ 0 0) (hno : ¬ ((!decide (op < σ 1 0) && !decide (σ 0 0 ≤ op)) = true ∧ β 2 (ix op) = true)) : kT l dC dI cI cZ cB cJ y_C_source b_C_source 4 (some .int) 7 110 [.ref (ad 0), .int op, .int k] (wC ad cI cZ cB σ β mk ρ) "java/lang/IllegalArgumentException" := by
  refine tM.of (lv := [(0, .ref (ad 0)), (1, .int op), (2, .int k)]) (own := R_C) (ret := (some .int)) hst jE_loc (by decide) rfl rfl (Nat.le_of_ble_eq_true rfl) rfl ?_
  intro p e s m args below meth c A hC hlk hex htr
  refine j_aload_n hC 0 1 rfl d_C_source_0 rfl rfl ?_
  refine j_iload_n hC 1 2 rfl d_C_source_1 rfl rfl ?_
  refine j_callVRv hC jE_loc jT_good (As := [_]) (r_C_requireOp h1 h2) yk_C_requireOp lk_C_77 ⟨rfl, rfl⟩ ⟨Nat.le_of_ble_eq_true rfl, Nat.le_of_ble_eq_true rfl⟩ 0 rfl rfl rfl rfl (Nat.le_of_ble_eq_true rfl) ⟨Nat.zero_le _, Nat.zero_le _⟩ d_C_source_2 5 rfl rfl ?_
  refine j_aload_n hC 0 6 rfl d_C_source_5 rfl rfl ?_
  refine j_iload_n hC 1 7 rfl d_C_source_6 rfl rfl ?_
  refine j_callVRi hC jE_loc jT_good (As := [_]) r_C_waits yk_C_waits lk_C_81 ⟨rfl, rfl⟩ ⟨Nat.le_of_ble_eq_true rfl, Nat.le_of_ble_eq_true rfl⟩ 0 rfl rfl rfl rfl (Nat.le_of_ble_eq_true rfl) ⟨Nat.zero_le _, Nat.zero_le _⟩ d_C_source_7 10 rfl rfl ?_
  refine j_if_eq hC 24 13 rfl d_C_source_10 (by decide) (fun c_10 => ?_) (fun c_10 => ?_)
  · exact j_throw hC hlk hex htr tw_61 tf_61 (List.mem_of_getElem? (i := 9) rfl) tc_57 ti_61 t6_61 ⟨Nat.le_of_ble_eq_true rfl, Nat.le_of_ble_eq_true rfl, Nat.le_of_ble_eq_true rfl, Nat.le_of_ble_eq_true rfl⟩ 27 28 30 33 rfl rfl rfl rfl d_C_source_24 d_C_source_27 d_C_source_28 d_C_source_30 d_C_source_33
  · refine j_aload_n hC 0 14 rfl d_C_source_13 rfl rfl ?_
    refine g_C_ops hC 17 rfl d_C_source_14 ?_
    refine j_iload_n hC 1 18 rfl d_C_source_17 rfl rfl ?_
    refine j_callVRi hC jE_loc jT_good (As := [_]) r_O_isDone yk_O_isDone lk_C_129 ⟨rfl, rfl⟩ ⟨Nat.le_of_ble_eq_true rfl, Nat.le_of_ble_eq_true rfl⟩ 1 rfl rfl rfl rfl (Nat.le_of_ble_eq_true rfl) ⟨Nat.zero_le _, Nat.zero_le _⟩ d_C_source_18 21 rfl rfl ?_
    refine j_if_ne hC 34 24 rfl d_C_source_21 (by decide) (fun c_21 => ?_) (fun c_21 => ?_)
    · exact absurd ⟨bI1 c_10, bI1 c_21⟩ hno
    · exact j_throw hC hlk hex htr tw_61 tf_61 (List.mem_of_getElem? (i := 9) rfl) tc_57 ti_61 t6_61 ⟨Nat.le_of_ble_eq_true rfl, Nat.le_of_ble_eq_true rfl, Nat.le_of_ble_eq_true rfl, Nat.le_of_ble_eq_true rfl⟩ 27 28 30 33 rfl rfl rfl rfl d_C_source_24 d_C_source_27 d_C_source_28 d_C_source_30 d_C_source_33
set_option maxHeartbeats 4000000 in
set_option maxRecDepth 100000 in
theorem t_C_source_3 {op k : Int32} (hst : l.stackTraces = false) (h1 : ¬ op < 0) (h2 : op < σ 0 0) (hw : (!decide (op < σ 1 0) && !decide (σ 0 0 ≤ op)) = true) (hd : β 2 (ix op) = true) (hno : ¬ (¬ k < 0 ∧ k < σ 11 (ix op))) : kT l dC dI cI cZ cB cJ y_C_source b_C_source 4 (some .int) 7 110 [.ref (ad 0), .int op, .int k] (wC ad cI cZ cB σ β mk ρ) "java/lang/IllegalStateException" := by
  refine tM.of (lv := [(0, .ref (ad 0)), (1, .int op), (2, .int k)]) (own := R_C) (ret := (some .int)) hst jE_loc (by decide) rfl rfl (Nat.le_of_ble_eq_true rfl) rfl ?_
  intro p e s m args below meth c A hC hlk hex htr
  refine j_aload_n hC 0 1 rfl d_C_source_0 rfl rfl ?_
  refine j_iload_n hC 1 2 rfl d_C_source_1 rfl rfl ?_
  refine j_callVRv hC jE_loc jT_good (As := [_]) (r_C_requireOp h1 h2) yk_C_requireOp lk_C_77 ⟨rfl, rfl⟩ ⟨Nat.le_of_ble_eq_true rfl, Nat.le_of_ble_eq_true rfl⟩ 0 rfl rfl rfl rfl (Nat.le_of_ble_eq_true rfl) ⟨Nat.zero_le _, Nat.zero_le _⟩ d_C_source_2 5 rfl rfl ?_
  refine j_aload_n hC 0 6 rfl d_C_source_5 rfl rfl ?_
  refine j_iload_n hC 1 7 rfl d_C_source_6 rfl rfl ?_
  refine j_callVRi hC jE_loc jT_good (As := [_]) r_C_waits yk_C_waits lk_C_81 ⟨rfl, rfl⟩ ⟨Nat.le_of_ble_eq_true rfl, Nat.le_of_ble_eq_true rfl⟩ 0 rfl rfl rfl rfl (Nat.le_of_ble_eq_true rfl) ⟨Nat.zero_le _, Nat.zero_le _⟩ d_C_source_7 10 rfl rfl ?_
  refine j_if_eq hC 24 13 rfl d_C_source_10 (by decide) (fun c_10 => absurd c_10 (by rw [hw]; decide)) (fun c_10 => ?_)
  refine j_aload_n hC 0 14 rfl d_C_source_13 rfl rfl ?_
  refine g_C_ops hC 17 rfl d_C_source_14 ?_
  refine j_iload_n hC 1 18 rfl d_C_source_17 rfl rfl ?_
  refine j_callVRi hC jE_loc jT_good (As := [_]) r_O_isDone yk_O_isDone lk_C_129 ⟨rfl, rfl⟩ ⟨Nat.le_of_ble_eq_true rfl, Nat.le_of_ble_eq_true rfl⟩ 1 rfl rfl rfl rfl (Nat.le_of_ble_eq_true rfl) ⟨Nat.zero_le _, Nat.zero_le _⟩ d_C_source_18 21 rfl rfl ?_
  refine j_if_ne hC 34 24 rfl d_C_source_21 (by decide) (fun c_21 => ?_) (fun c_21 => absurd c_21 (by rw [hd]; decide))
  refine j_iload_n hC 2 35 rfl d_C_source_34 rfl rfl ?_
  refine j_if_lt hC 50 38 rfl d_C_source_35 (by decide) (fun c_35 => ?_) (fun c_35 => ?_)
  · exact j_throw hC hlk hex htr tw_153 tf_153 (List.mem_of_getElem? (i := 10) rfl) tc_149 ti_153 t6_153 ⟨Nat.le_of_ble_eq_true rfl, Nat.le_of_ble_eq_true rfl, Nat.le_of_ble_eq_true rfl, Nat.le_of_ble_eq_true rfl⟩ 53 54 56 59 rfl rfl rfl rfl d_C_source_50 d_C_source_53 d_C_source_54 d_C_source_56 d_C_source_59
  · refine j_iload_n hC 2 39 rfl d_C_source_38 rfl rfl ?_
    refine j_aload_n hC 0 40 rfl d_C_source_39 rfl rfl ?_
    refine g_C_ops hC 43 rfl d_C_source_40 ?_
    refine j_iload_n hC 1 44 rfl d_C_source_43 rfl rfl ?_
    refine j_callVRi hC jE_loc jT_good (As := [_]) r_O_bytesOf yk_O_bytesOf lk_C_94 ⟨rfl, rfl⟩ ⟨Nat.le_of_ble_eq_true rfl, Nat.le_of_ble_eq_true rfl⟩ 1 rfl rfl rfl rfl (Nat.le_of_ble_eq_true rfl) ⟨Nat.zero_le _, Nat.zero_le _⟩ d_C_source_44 47 rfl rfl ?_
    refine j_icmp_lt hC 60 50 rfl d_C_source_47 (by decide) (fun c_47 => ?_) (fun c_47 => ?_)
    · exact absurd ⟨c_35, c_47⟩ hno
    · exact j_throw hC hlk hex htr tw_153 tf_153 (List.mem_of_getElem? (i := 10) rfl) tc_149 ti_153 t6_153 ⟨Nat.le_of_ble_eq_true rfl, Nat.le_of_ble_eq_true rfl, Nat.le_of_ble_eq_true rfl, Nat.le_of_ble_eq_true rfl⟩ 53 54 56 59 rfl rfl rfl rfl d_C_source_50 d_C_source_53 d_C_source_54 d_C_source_56 d_C_source_59
set_option maxHeartbeats 4000000 in
set_option maxRecDepth 100000 in
theorem t_C_other_1 {at0 v : Int32} (hst : l.stackTraces = false) (hno : ¬ ((!decide (at0 < 0) && !decide (4096 ≤ at0)) = true ∧ ¬ v < 0 ∧ v ≤ 255)) : kT l dC dI cI cZ cB cJ y_C_other b_C_other 4 (some .int) 7 110 [.ref (ad 0), .int at0, .int v] (wC ad cI cZ cB σ β mk ρ) "java/lang/IllegalArgumentException" := by
  refine tM.of (lv := [(0, .ref (ad 0)), (1, .int at0), (2, .int v)]) (own := R_C) (ret := (some .int)) hst jE_loc (by decide) rfl rfl (Nat.le_of_ble_eq_true rfl) rfl ?_
  intro p e s m args below meth c A hC hlk hex htr
  refine j_iload_n hC 1 1 rfl d_C_other_0 rfl rfl ?_
  refine j_callSRi hC jE_loc jT_good (As := [_]) r_C_isMemoryByte yk_C_isMemoryByte lk_C_187 ⟨rfl, rfl⟩ ⟨Nat.le_of_ble_eq_true rfl, Nat.le_of_ble_eq_true rfl⟩ rfl (Nat.le_of_ble_eq_true rfl) ⟨Nat.zero_le _, Nat.zero_le _⟩ d_C_other_1 4 rfl rfl ?_
  refine j_if_eq hC 18 7 rfl d_C_other_4 (by decide) (fun c_4 => ?_) (fun c_4 => ?_)
  · exact j_throw hC hlk hex htr tw_61 tf_61 (List.mem_of_getElem? (i := 11) rfl) tc_57 ti_61 t6_61 ⟨Nat.le_of_ble_eq_true rfl, Nat.le_of_ble_eq_true rfl, Nat.le_of_ble_eq_true rfl, Nat.le_of_ble_eq_true rfl⟩ 21 22 24 27 rfl rfl rfl rfl d_C_other_18 d_C_other_21 d_C_other_22 d_C_other_24 d_C_other_27
  · refine j_iload_n hC 2 8 rfl d_C_other_7 rfl rfl ?_
    refine j_if_lt hC 18 11 rfl d_C_other_8 (by decide) (fun c_8 => ?_) (fun c_8 => ?_)
    · exact j_throw hC hlk hex htr tw_61 tf_61 (List.mem_of_getElem? (i := 11) rfl) tc_57 ti_61 t6_61 ⟨Nat.le_of_ble_eq_true rfl, Nat.le_of_ble_eq_true rfl, Nat.le_of_ble_eq_true rfl, Nat.le_of_ble_eq_true rfl⟩ 21 22 24 27 rfl rfl rfl rfl d_C_other_18 d_C_other_21 d_C_other_22 d_C_other_24 d_C_other_27
    · refine j_iload_n hC 2 12 rfl d_C_other_11 rfl rfl ?_
      refine j_sipush (v := 255) hC 15 rfl d_C_other_12 (by decide) ?_
      refine j_icmp_le hC 28 18 rfl d_C_other_15 (by decide) (fun c_15 => ?_) (fun c_15 => ?_)
      · exact absurd ⟨bI1 c_4, c_8, c_15⟩ hno
      · exact j_throw hC hlk hex htr tw_61 tf_61 (List.mem_of_getElem? (i := 11) rfl) tc_57 ti_61 t6_61 ⟨Nat.le_of_ble_eq_true rfl, Nat.le_of_ble_eq_true rfl, Nat.le_of_ble_eq_true rfl, Nat.le_of_ble_eq_true rfl⟩ 21 22 24 27 rfl rfl rfl rfl d_C_other_18 d_C_other_21 d_C_other_22 d_C_other_24 d_C_other_27
set_option maxHeartbeats 4000000 in
set_option maxRecDepth 100000 in
theorem t_C_memory_1 {at0 : Int32} (hst : l.stackTraces = false) (hm : (!decide (at0 < 0) && !decide (4096 ≤ at0)) = false) : kT l dC dI cI cZ cB cJ y_C_memory b_C_memory 2 (some .int) 7 110 [.ref (ad 0), .int at0] (wC ad cI cZ cB σ β mk ρ) "java/lang/IllegalArgumentException" := by
  refine tM.of (lv := [(0, .ref (ad 0)), (1, .int at0)]) (own := R_C) (ret := (some .int)) hst jE_loc (by decide) rfl rfl (Nat.le_of_ble_eq_true rfl) rfl ?_
  intro p e s m args below meth c A hC hlk hex htr
  refine j_iload_n hC 1 1 rfl d_C_memory_0 rfl rfl ?_
  refine j_callSRi hC jE_loc jT_good (As := [_]) r_C_isMemoryByte yk_C_isMemoryByte lk_C_187 ⟨rfl, rfl⟩ ⟨Nat.le_of_ble_eq_true rfl, Nat.le_of_ble_eq_true rfl⟩ rfl (Nat.le_of_ble_eq_true rfl) ⟨Nat.zero_le _, Nat.zero_le _⟩ d_C_memory_1 4 rfl rfl ?_
  refine j_if_ne hC 17 7 rfl d_C_memory_4 (by decide) (fun c_4 => absurd c_4 (fun q => q (by rw [hm]; rfl))) (fun c_4 => ?_)
  exact j_throw hC hlk hex htr tw_61 tf_61 (List.mem_of_getElem? (i := 12) rfl) tc_57 ti_61 t6_61 ⟨Nat.le_of_ble_eq_true rfl, Nat.le_of_ble_eq_true rfl, Nat.le_of_ble_eq_true rfl, Nat.le_of_ble_eq_true rfl⟩ 10 11 13 16 rfl rfl rfl rfl d_C_memory_7 d_C_memory_10 d_C_memory_11 d_C_memory_13 d_C_memory_16
set_option maxHeartbeats 4000000 in
set_option maxRecDepth 100000 in
theorem t_C_forget_2 {op : Int32} (hst : l.stackTraces = false) (h1 : ¬ op < 0) (h2 : op < σ 0 0) (hw : (!decide (op < σ 1 0) && !decide (σ 0 0 ≤ op)) = false) : kT l dC dI cI cZ cB cJ y_C_forget b_C_forget 3 (some .int) 7 110 [.ref (ad 0), .int op] (wC ad cI cZ cB σ β mk ρ) "java/lang/IllegalArgumentException" := by
  refine tM.of (lv := [(0, .ref (ad 0)), (1, .int op)]) (own := R_C) (ret := (some .int)) hst jE_loc (by decide) rfl rfl (Nat.le_of_ble_eq_true rfl) rfl ?_
  intro p e s m args below meth c A hC hlk hex htr
  refine j_aload_n hC 0 1 rfl d_C_forget_0 rfl rfl ?_
  refine j_iload_n hC 1 2 rfl d_C_forget_1 rfl rfl ?_
  refine j_callVRv hC jE_loc jT_good (As := [_]) (r_C_requireOp h1 h2) yk_C_requireOp lk_C_77 ⟨rfl, rfl⟩ ⟨Nat.le_of_ble_eq_true rfl, Nat.le_of_ble_eq_true rfl⟩ 0 rfl rfl rfl rfl (Nat.le_of_ble_eq_true rfl) ⟨Nat.zero_le _, Nat.zero_le _⟩ d_C_forget_2 5 rfl rfl ?_
  refine j_aload_n hC 0 6 rfl d_C_forget_5 rfl rfl ?_
  refine j_iload_n hC 1 7 rfl d_C_forget_6 rfl rfl ?_
  refine j_callVRi hC jE_loc jT_good (As := [_]) r_C_waits yk_C_waits lk_C_81 ⟨rfl, rfl⟩ ⟨Nat.le_of_ble_eq_true rfl, Nat.le_of_ble_eq_true rfl⟩ 0 rfl rfl rfl rfl (Nat.le_of_ble_eq_true rfl) ⟨Nat.zero_le _, Nat.zero_le _⟩ d_C_forget_7 10 rfl rfl ?_
  refine j_if_ne hC 23 13 rfl d_C_forget_10 (by decide) (fun c_10 => absurd c_10 (fun q => q (by rw [hw]; rfl))) (fun c_10 => ?_)
  exact j_throw hC hlk hex htr tw_61 tf_61 (List.mem_of_getElem? (i := 13) rfl) tc_57 ti_61 t6_61 ⟨Nat.le_of_ble_eq_true rfl, Nat.le_of_ble_eq_true rfl, Nat.le_of_ble_eq_true rfl, Nat.le_of_ble_eq_true rfl⟩ 16 17 19 22 rfl rfl rfl rfl d_C_forget_13 d_C_forget_16 d_C_forget_17 d_C_forget_19 d_C_forget_22
end KT
