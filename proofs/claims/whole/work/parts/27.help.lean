section KH
variable {l : Launch} {dC : Nat → ClassId} {dI : Nat → Nat → Nat} {cI cZ cB cJ : ClassId} {ad : Nat → Nat} {σ σ' : S2} {β β' : B2} {mk mk' : Int64} {ρ : va_W} {ao : Nat} {f : Nat → Int64}
set_option maxHeartbeats 4000000 in
set_option maxRecDepth 100000 in
theorem h_op_0 {kind bytes prog v0 : Int32} (hK : kM l dC dI cI cZ cB cJ y_C_op b_C_op 5 (some .int) 1 25 [.ref (ad 0), .int kind, .int bytes, .int prog] (wC ad cI cZ cB σ β mk (wo ao cJ f ρ)) (some (.int v0)) (wC ad cI cZ cB σ' β' mk' (wo ao cJ f ρ))) : kH l dC dI cI cZ cB cJ y_L_op b_L_op 6 [(0, 12, 15, 13), (0, 12, 19, 15)] [.ref (ad 0), .int kind, .int bytes, .int prog, .ref ao] (wC ad cI cZ cB σ β mk (wo ao cJ f ρ)) 0 (wC ad cI cZ cB σ' β' mk' (wo ao cJ (vp_updL f 0 v0.toInt64) ρ)) := by
  refine hM.of (lv := [(0, .ref (ad 0)), (1, .int kind), (2, .int bytes), (3, .int prog), (4, .ref ao)]) (own := R_L) jE2_loc (by decide) rfl rfl (Nat.le_of_ble_eq_true rfl) rfl ?_
  intro p e s m args below meth c A hC0 hr hlk htab
  have hC := hC0.weak jE2_1
  refine j_aload hC 4 2 rfl d_L_op_0 rfl ?_
  refine j_iconst (v := 0) hC 3 rfl d_L_op_2 (by decide) ?_
  refine j_aload_n hC 0 4 rfl d_L_op_3 rfl rfl ?_
  refine j_iload_n hC 1 5 rfl d_L_op_4 rfl rfl ?_
  refine j_iload_n hC 2 6 rfl d_L_op_5 rfl rfl ?_
  refine j_iload_n hC 3 7 rfl d_L_op_6 rfl rfl ?_
  refine j_callVi hC jE_loc jT_good (As := [_, _, _]) hK yk_C_op lk_L_7 ⟨rfl, rfl⟩ ⟨Nat.le_of_ble_eq_true rfl, Nat.le_of_ble_eq_true rfl⟩ 0 rfl rfl rfl rfl (Nat.le_of_ble_eq_true rfl) ⟨Nat.zero_le _, Nat.zero_le _⟩ d_L_op_7 10 rfl rfl ?_
  refine j_i2l hC 11 rfl d_L_op_10 rfl ?_
  refine j_last hC 19 3 rfl rfl in0_1 12 rfl d_L_op_11 ?_
  refine j_goto hC 23 d_L_op_12 (by decide) ?_
  refine j_iconst (v := 0) hC 24 rfl d_L_op_23 (by decide) ?_
  exact j_iretH hC hr hlk d_L_op_24 rfl rfl ⟨Nat.zero_le _, Nat.zero_le _⟩
set_option maxHeartbeats 4000000 in
set_option maxRecDepth 100000 in
theorem h_op_1 {kind bytes prog v0 : Int32} (hK : kT l dC dI cI cZ cB cJ y_C_op b_C_op 5 (some .int) 7 110 [.ref (ad 0), .int kind, .int bytes, .int prog] (wC ad cI cZ cB σ β mk (wo ao cJ f ρ)) "java/lang/IllegalArgumentException") : kH l dC dI cI cZ cB cJ y_L_op b_L_op 6 [(0, 12, 15, 13), (0, 12, 19, 15)] [.ref (ad 0), .int kind, .int bytes, .int prog, .ref ao] (wC ad cI cZ cB σ β mk (wo ao cJ f ρ)) 1 (wC ad cI cZ cB σ β mk (wo ao cJ f ρ)) := by
  refine hM.of (lv := [(0, .ref (ad 0)), (1, .int kind), (2, .int bytes), (3, .int prog), (4, .ref ao)]) (own := R_L) jE2_loc (by decide) rfl rfl (Nat.le_of_ble_eq_true rfl) rfl ?_
  intro p e s m args below meth c A hC0 hr hlk htab
  have hC := hC0.weak jE2_1
  refine j_aload hC 4 2 rfl d_L_op_0 rfl ?_
  refine j_iconst (v := 0) hC 3 rfl d_L_op_2 (by decide) ?_
  refine j_aload_n hC 0 4 rfl d_L_op_3 rfl rfl ?_
  refine j_iload_n hC 1 5 rfl d_L_op_4 rfl rfl ?_
  refine j_iload_n hC 2 6 rfl d_L_op_5 rfl rfl ?_
  refine j_iload_n hC 3 7 rfl d_L_op_6 rfl rfl ?_
  refine j_catch hC jE_loc jT_good htab (As := [_, _, _]) hK yk_C_op lk_L_7 ⟨Nat.le_of_ble_eq_true rfl, Nat.le_of_ble_eq_true rfl⟩ ⟨Nat.le_of_ble_eq_true rfl, Nat.le_of_ble_eq_true rfl⟩ 0 rfl rfl rfl rfl (Nat.le_of_ble_eq_true rfl) d_L_op_7 rfl 15 ⟨⟨by decide, by decide, by decide⟩, "java/lang/IllegalArgumentException", hC.t _ (List.mem_cons_of_mem _ hc_13), Or.inl ⟨rfl, rfl⟩⟩ (fun a => ?_)
  refine j_astore (lv' := [(5, _), (0, _), (1, _), (2, _), (3, _), (4, _)]) hC 17 rfl d_L_op_15 (by decide) rfl ?_
  refine j_iconst (v := 1) hC 18 rfl d_L_op_17 (by decide) ?_
  exact j_iretH hC hr hlk d_L_op_18 rfl rfl ⟨Nat.le_refl _, Nat.le_refl _⟩
set_option maxHeartbeats 4000000 in
set_option maxRecDepth 100000 in
theorem h_op_2 {kind bytes prog v0 : Int32} (hK : kT l dC dI cI cZ cB cJ y_C_op b_C_op 5 (some .int) 7 110 [.ref (ad 0), .int kind, .int bytes, .int prog] (wC ad cI cZ cB σ β mk (wo ao cJ f ρ)) "java/lang/UnsupportedOperationException") : kH l dC dI cI cZ cB cJ y_L_op b_L_op 6 [(0, 12, 15, 13), (0, 12, 19, 15)] [.ref (ad 0), .int kind, .int bytes, .int prog, .ref ao] (wC ad cI cZ cB σ β mk (wo ao cJ f ρ)) 2 (wC ad cI cZ cB σ β mk (wo ao cJ f ρ)) := by
  refine hM.of (lv := [(0, .ref (ad 0)), (1, .int kind), (2, .int bytes), (3, .int prog), (4, .ref ao)]) (own := R_L) jE2_loc (by decide) rfl rfl (Nat.le_of_ble_eq_true rfl) rfl ?_
  intro p e s m args below meth c A hC0 hr hlk htab
  have hC := hC0.weak jE2_1
  refine j_aload hC 4 2 rfl d_L_op_0 rfl ?_
  refine j_iconst (v := 0) hC 3 rfl d_L_op_2 (by decide) ?_
  refine j_aload_n hC 0 4 rfl d_L_op_3 rfl rfl ?_
  refine j_iload_n hC 1 5 rfl d_L_op_4 rfl rfl ?_
  refine j_iload_n hC 2 6 rfl d_L_op_5 rfl rfl ?_
  refine j_iload_n hC 3 7 rfl d_L_op_6 rfl rfl ?_
  refine j_catch hC jE_loc jT_good htab (As := [_, _, _]) hK yk_C_op lk_L_7 ⟨Nat.le_of_ble_eq_true rfl, Nat.le_of_ble_eq_true rfl⟩ ⟨Nat.le_of_ble_eq_true rfl, Nat.le_of_ble_eq_true rfl⟩ 0 rfl rfl rfl rfl (Nat.le_of_ble_eq_true rfl) d_L_op_7 rfl 19 ⟨⟨by decide, by decide, by decide⟩, "java/lang/IllegalArgumentException", hC.t _ (List.mem_cons_of_mem _ hc_13), Or.inr ⟨(hC0.ev s (fun _ _ _ => rfl) (State.WarmedH.refl s)).2 _ (List.mem_of_getElem? (i := 0) rfl), ⟨⟨by decide, by decide, by decide⟩, "java/lang/UnsupportedOperationException", hC.t _ (List.mem_cons_of_mem _ hc_15), Or.inl ⟨rfl, rfl⟩⟩⟩⟩ (fun a => ?_)
  refine j_astore (lv' := [(5, _), (0, _), (1, _), (2, _), (3, _), (4, _)]) hC 21 rfl d_L_op_19 (by decide) rfl ?_
  refine j_iconst (v := 2) hC 22 rfl d_L_op_21 (by decide) ?_
  exact j_iretH hC hr hlk d_L_op_22 rfl rfl ⟨Nat.le_refl _, Nat.le_refl _⟩
set_option maxHeartbeats 4000000 in
set_option maxRecDepth 100000 in
theorem h_address_0 {op at0 v0 : Int32} (hK : kM l dC dI cI cZ cB cJ y_C_address b_C_address 4 (some .int) 4 90 [.ref (ad 0), .int op, .int at0] (wC ad cI cZ cB σ β mk (wo ao cJ f ρ)) (some (.int v0)) (wC ad cI cZ cB σ' β' mk' (wo ao cJ f ρ))) : kH l dC dI cI cZ cB cJ y_L_address b_L_address 5 [(0, 10, 13, 21), (0, 10, 17, 13)] [.ref (ad 0), .int op, .int at0, .ref ao] (wC ad cI cZ cB σ β mk (wo ao cJ f ρ)) 0 (wC ad cI cZ cB σ' β' mk' (wo ao cJ (vp_updL f 0 v0.toInt64) ρ)) := by
  refine hM.of (lv := [(0, .ref (ad 0)), (1, .int op), (2, .int at0), (3, .ref ao)]) (own := R_L) jE2_loc (by decide) rfl rfl (Nat.le_of_ble_eq_true rfl) rfl ?_
  intro p e s m args below meth c A hC0 hr hlk htab
  have hC := hC0.weak jE2_1
  refine j_aload_n hC 3 1 rfl d_L_address_0 rfl rfl ?_
  refine j_iconst (v := 0) hC 2 rfl d_L_address_1 (by decide) ?_
  refine j_aload_n hC 0 3 rfl d_L_address_2 rfl rfl ?_
  refine j_iload_n hC 1 4 rfl d_L_address_3 rfl rfl ?_
  refine j_iload_n hC 2 5 rfl d_L_address_4 rfl rfl ?_
  refine j_callVi hC jE_loc jT_good (As := [_, _]) hK yk_C_address lk_L_17 ⟨rfl, rfl⟩ ⟨Nat.le_of_ble_eq_true rfl, Nat.le_of_ble_eq_true rfl⟩ 0 rfl rfl rfl rfl (Nat.le_of_ble_eq_true rfl) ⟨Nat.zero_le _, Nat.zero_le _⟩ d_L_address_5 8 rfl rfl ?_
  refine j_i2l hC 9 rfl d_L_address_8 rfl ?_
  refine j_last hC 19 3 rfl rfl in0_1 10 rfl d_L_address_9 ?_
  refine j_goto hC 21 d_L_address_10 (by decide) ?_
  refine j_iconst (v := 0) hC 22 rfl d_L_address_21 (by decide) ?_
  exact j_iretH hC hr hlk d_L_address_22 rfl rfl ⟨Nat.zero_le _, Nat.zero_le _⟩
set_option maxHeartbeats 4000000 in
set_option maxRecDepth 100000 in
theorem h_address_1 {op at0 v0 : Int32} (hK : kT l dC dI cI cZ cB cJ y_C_address b_C_address 4 (some .int) 7 110 [.ref (ad 0), .int op, .int at0] (wC ad cI cZ cB σ β mk (wo ao cJ f ρ)) "java/lang/IndexOutOfBoundsException") : kH l dC dI cI cZ cB cJ y_L_address b_L_address 5 [(0, 10, 13, 21), (0, 10, 17, 13)] [.ref (ad 0), .int op, .int at0, .ref ao] (wC ad cI cZ cB σ β mk (wo ao cJ f ρ)) 1 (wC ad cI cZ cB σ β mk (wo ao cJ f ρ)) := by
  refine hM.of (lv := [(0, .ref (ad 0)), (1, .int op), (2, .int at0), (3, .ref ao)]) (own := R_L) jE2_loc (by decide) rfl rfl (Nat.le_of_ble_eq_true rfl) rfl ?_
  intro p e s m args below meth c A hC0 hr hlk htab
  have hC := hC0.weak jE2_1
  refine j_aload_n hC 3 1 rfl d_L_address_0 rfl rfl ?_
  refine j_iconst (v := 0) hC 2 rfl d_L_address_1 (by decide) ?_
  refine j_aload_n hC 0 3 rfl d_L_address_2 rfl rfl ?_
  refine j_iload_n hC 1 4 rfl d_L_address_3 rfl rfl ?_
  refine j_iload_n hC 2 5 rfl d_L_address_4 rfl rfl ?_
  refine j_catch hC jE_loc jT_good htab (As := [_, _]) hK yk_C_address lk_L_17 ⟨Nat.le_of_ble_eq_true rfl, Nat.le_of_ble_eq_true rfl⟩ ⟨Nat.le_of_ble_eq_true rfl, Nat.le_of_ble_eq_true rfl⟩ 0 rfl rfl rfl rfl (Nat.le_of_ble_eq_true rfl) d_L_address_5 rfl 13 ⟨⟨by decide, by decide, by decide⟩, "java/lang/IndexOutOfBoundsException", hC.t _ (List.mem_cons_of_mem _ hc_21), Or.inl ⟨rfl, rfl⟩⟩ (fun a => ?_)
  refine j_astore (lv' := [(4, _), (0, _), (1, _), (2, _), (3, _)]) hC 15 rfl d_L_address_13 (by decide) rfl ?_
  refine j_iconst (v := 1) hC 16 rfl d_L_address_15 (by decide) ?_
  exact j_iretH hC hr hlk d_L_address_16 rfl rfl ⟨Nat.le_refl _, Nat.le_refl _⟩
set_option maxHeartbeats 4000000 in
set_option maxRecDepth 100000 in
theorem h_address_2 {op at0 v0 : Int32} (hK : kT l dC dI cI cZ cB cJ y_C_address b_C_address 4 (some .int) 7 110 [.ref (ad 0), .int op, .int at0] (wC ad cI cZ cB σ β mk (wo ao cJ f ρ)) "java/lang/IllegalArgumentException") : kH l dC dI cI cZ cB cJ y_L_address b_L_address 5 [(0, 10, 13, 21), (0, 10, 17, 13)] [.ref (ad 0), .int op, .int at0, .ref ao] (wC ad cI cZ cB σ β mk (wo ao cJ f ρ)) 2 (wC ad cI cZ cB σ β mk (wo ao cJ f ρ)) := by
  refine hM.of (lv := [(0, .ref (ad 0)), (1, .int op), (2, .int at0), (3, .ref ao)]) (own := R_L) jE2_loc (by decide) rfl rfl (Nat.le_of_ble_eq_true rfl) rfl ?_
  intro p e s m args below meth c A hC0 hr hlk htab
  have hC := hC0.weak jE2_1
  refine j_aload_n hC 3 1 rfl d_L_address_0 rfl rfl ?_
  refine j_iconst (v := 0) hC 2 rfl d_L_address_1 (by decide) ?_
  refine j_aload_n hC 0 3 rfl d_L_address_2 rfl rfl ?_
  refine j_iload_n hC 1 4 rfl d_L_address_3 rfl rfl ?_
  refine j_iload_n hC 2 5 rfl d_L_address_4 rfl rfl ?_
  refine j_catch hC jE_loc jT_good htab (As := [_, _]) hK yk_C_address lk_L_17 ⟨Nat.le_of_ble_eq_true rfl, Nat.le_of_ble_eq_true rfl⟩ ⟨Nat.le_of_ble_eq_true rfl, Nat.le_of_ble_eq_true rfl⟩ 0 rfl rfl rfl rfl (Nat.le_of_ble_eq_true rfl) d_L_address_5 rfl 17 ⟨⟨by decide, by decide, by decide⟩, "java/lang/IndexOutOfBoundsException", hC.t _ (List.mem_cons_of_mem _ hc_21), Or.inr ⟨(hC0.ev s (fun _ _ _ => rfl) (State.WarmedH.refl s)).2 _ (List.mem_of_getElem? (i := 1) rfl), ⟨⟨by decide, by decide, by decide⟩, "java/lang/IllegalArgumentException", hC.t _ (List.mem_cons_of_mem _ hc_13), Or.inl ⟨rfl, rfl⟩⟩⟩⟩ (fun a => ?_)
  refine j_astore (lv' := [(4, _), (0, _), (1, _), (2, _), (3, _)]) hC 19 rfl d_L_address_17 (by decide) rfl ?_
  refine j_iconst (v := 2) hC 20 rfl d_L_address_19 (by decide) ?_
  exact j_iretH hC hr hlk d_L_address_20 rfl rfl ⟨Nat.le_refl _, Nat.le_refl _⟩
set_option maxHeartbeats 4000000 in
set_option maxRecDepth 100000 in
theorem h_number_0 {op v v0 : Int32} (hK : kM l dC dI cI cZ cB cJ y_C_number b_C_number 3 (some .int) 1 22 [.ref (ad 0), .int op, .int v] (wC ad cI cZ cB σ β mk (wo ao cJ f ρ)) (some (.int v0)) (wC ad cI cZ cB σ' β' mk' (wo ao cJ f ρ))) : kH l dC dI cI cZ cB cJ y_L_number b_L_number 5 [(0, 10, 13, 21), (0, 10, 17, 13)] [.ref (ad 0), .int op, .int v, .ref ao] (wC ad cI cZ cB σ β mk (wo ao cJ f ρ)) 0 (wC ad cI cZ cB σ' β' mk' (wo ao cJ (vp_updL f 0 v0.toInt64) ρ)) := by
  refine hM.of (lv := [(0, .ref (ad 0)), (1, .int op), (2, .int v), (3, .ref ao)]) (own := R_L) jE2_loc (by decide) rfl rfl (Nat.le_of_ble_eq_true rfl) rfl ?_
  intro p e s m args below meth c A hC0 hr hlk htab
  have hC := hC0.weak jE2_1
  refine j_aload_n hC 3 1 rfl d_L_number_0 rfl rfl ?_
  refine j_iconst (v := 0) hC 2 rfl d_L_number_1 (by decide) ?_
  refine j_aload_n hC 0 3 rfl d_L_number_2 rfl rfl ?_
  refine j_iload_n hC 1 4 rfl d_L_number_3 rfl rfl ?_
  refine j_iload_n hC 2 5 rfl d_L_number_4 rfl rfl ?_
  refine j_callVi hC jE_loc jT_good (As := [_, _]) hK yk_C_number lk_L_23 ⟨rfl, rfl⟩ ⟨Nat.le_of_ble_eq_true rfl, Nat.le_of_ble_eq_true rfl⟩ 0 rfl rfl rfl rfl (Nat.le_of_ble_eq_true rfl) ⟨Nat.zero_le _, Nat.zero_le _⟩ d_L_number_5 8 rfl rfl ?_
  refine j_i2l hC 9 rfl d_L_number_8 rfl ?_
  refine j_last hC 19 3 rfl rfl in0_1 10 rfl d_L_number_9 ?_
  refine j_goto hC 21 d_L_number_10 (by decide) ?_
  refine j_iconst (v := 0) hC 22 rfl d_L_number_21 (by decide) ?_
  exact j_iretH hC hr hlk d_L_number_22 rfl rfl ⟨Nat.zero_le _, Nat.zero_le _⟩
set_option maxHeartbeats 4000000 in
set_option maxRecDepth 100000 in
theorem h_number_1 {op v v0 : Int32} (hK : kT l dC dI cI cZ cB cJ y_C_number b_C_number 3 (some .int) 7 110 [.ref (ad 0), .int op, .int v] (wC ad cI cZ cB σ β mk (wo ao cJ f ρ)) "java/lang/IndexOutOfBoundsException") : kH l dC dI cI cZ cB cJ y_L_number b_L_number 5 [(0, 10, 13, 21), (0, 10, 17, 13)] [.ref (ad 0), .int op, .int v, .ref ao] (wC ad cI cZ cB σ β mk (wo ao cJ f ρ)) 1 (wC ad cI cZ cB σ β mk (wo ao cJ f ρ)) := by
  refine hM.of (lv := [(0, .ref (ad 0)), (1, .int op), (2, .int v), (3, .ref ao)]) (own := R_L) jE2_loc (by decide) rfl rfl (Nat.le_of_ble_eq_true rfl) rfl ?_
  intro p e s m args below meth c A hC0 hr hlk htab
  have hC := hC0.weak jE2_1
  refine j_aload_n hC 3 1 rfl d_L_number_0 rfl rfl ?_
  refine j_iconst (v := 0) hC 2 rfl d_L_number_1 (by decide) ?_
  refine j_aload_n hC 0 3 rfl d_L_number_2 rfl rfl ?_
  refine j_iload_n hC 1 4 rfl d_L_number_3 rfl rfl ?_
  refine j_iload_n hC 2 5 rfl d_L_number_4 rfl rfl ?_
  refine j_catch hC jE_loc jT_good htab (As := [_, _]) hK yk_C_number lk_L_23 ⟨Nat.le_of_ble_eq_true rfl, Nat.le_of_ble_eq_true rfl⟩ ⟨Nat.le_of_ble_eq_true rfl, Nat.le_of_ble_eq_true rfl⟩ 0 rfl rfl rfl rfl (Nat.le_of_ble_eq_true rfl) d_L_number_5 rfl 13 ⟨⟨by decide, by decide, by decide⟩, "java/lang/IndexOutOfBoundsException", hC.t _ (List.mem_cons_of_mem _ hc_21), Or.inl ⟨rfl, rfl⟩⟩ (fun a => ?_)
  refine j_astore (lv' := [(4, _), (0, _), (1, _), (2, _), (3, _)]) hC 15 rfl d_L_number_13 (by decide) rfl ?_
  refine j_iconst (v := 1) hC 16 rfl d_L_number_15 (by decide) ?_
  exact j_iretH hC hr hlk d_L_number_16 rfl rfl ⟨Nat.le_refl _, Nat.le_refl _⟩
set_option maxHeartbeats 4000000 in
set_option maxRecDepth 100000 in
theorem h_number_2 {op v v0 : Int32} (hK : kT l dC dI cI cZ cB cJ y_C_number b_C_number 3 (some .int) 7 110 [.ref (ad 0), .int op, .int v] (wC ad cI cZ cB σ β mk (wo ao cJ f ρ)) "java/lang/IllegalArgumentException") : kH l dC dI cI cZ cB cJ y_L_number b_L_number 5 [(0, 10, 13, 21), (0, 10, 17, 13)] [.ref (ad 0), .int op, .int v, .ref ao] (wC ad cI cZ cB σ β mk (wo ao cJ f ρ)) 2 (wC ad cI cZ cB σ β mk (wo ao cJ f ρ)) := by
  refine hM.of (lv := [(0, .ref (ad 0)), (1, .int op), (2, .int v), (3, .ref ao)]) (own := R_L) jE2_loc (by decide) rfl rfl (Nat.le_of_ble_eq_true rfl) rfl ?_
  intro p e s m args below meth c A hC0 hr hlk htab
  have hC := hC0.weak jE2_1
  refine j_aload_n hC 3 1 rfl d_L_number_0 rfl rfl ?_
  refine j_iconst (v := 0) hC 2 rfl d_L_number_1 (by decide) ?_
  refine j_aload_n hC 0 3 rfl d_L_number_2 rfl rfl ?_
  refine j_iload_n hC 1 4 rfl d_L_number_3 rfl rfl ?_
  refine j_iload_n hC 2 5 rfl d_L_number_4 rfl rfl ?_
  refine j_catch hC jE_loc jT_good htab (As := [_, _]) hK yk_C_number lk_L_23 ⟨Nat.le_of_ble_eq_true rfl, Nat.le_of_ble_eq_true rfl⟩ ⟨Nat.le_of_ble_eq_true rfl, Nat.le_of_ble_eq_true rfl⟩ 0 rfl rfl rfl rfl (Nat.le_of_ble_eq_true rfl) d_L_number_5 rfl 17 ⟨⟨by decide, by decide, by decide⟩, "java/lang/IndexOutOfBoundsException", hC.t _ (List.mem_cons_of_mem _ hc_21), Or.inr ⟨(hC0.ev s (fun _ _ _ => rfl) (State.WarmedH.refl s)).2 _ (List.mem_of_getElem? (i := 1) rfl), ⟨⟨by decide, by decide, by decide⟩, "java/lang/IllegalArgumentException", hC.t _ (List.mem_cons_of_mem _ hc_13), Or.inl ⟨rfl, rfl⟩⟩⟩⟩ (fun a => ?_)
  refine j_astore (lv' := [(4, _), (0, _), (1, _), (2, _), (3, _)]) hC 19 rfl d_L_number_17 (by decide) rfl ?_
  refine j_iconst (v := 2) hC 20 rfl d_L_number_19 (by decide) ?_
  exact j_iretH hC hr hlk d_L_number_20 rfl rfl ⟨Nat.le_refl _, Nat.le_refl _⟩
set_option maxHeartbeats 4000000 in
set_option maxRecDepth 100000 in
theorem h_tried_0 {op v0 : Int32} (hK : kM l dC dI cI cZ cB cJ y_C_tried b_C_tried 2 (some .int) 5 116 [.ref (ad 0), .int op] (wC ad cI cZ cB σ β mk (wo ao cJ f ρ)) (some (.int v0)) (wC ad cI cZ cB σ' β' mk' (wo ao cJ f ρ))) : kH l dC dI cI cZ cB cJ y_L_tried b_L_tried 4 [(0, 9, 12, 21), (0, 9, 15, 13)] [.ref (ad 0), .int op, .ref ao] (wC ad cI cZ cB σ β mk (wo ao cJ f ρ)) 0 (wC ad cI cZ cB σ' β' mk' (wo ao cJ (vp_updL f 0 v0.toInt64) ρ)) := by
  refine hM.of (lv := [(0, .ref (ad 0)), (1, .int op), (2, .ref ao)]) (own := R_L) jE2_loc (by decide) rfl rfl (Nat.le_of_ble_eq_true rfl) rfl ?_
  intro p e s m args below meth c A hC0 hr hlk htab
  have hC := hC0.weak jE2_1
  refine j_aload_n hC 2 1 rfl d_L_tried_0 rfl rfl ?_
  refine j_iconst (v := 0) hC 2 rfl d_L_tried_1 (by decide) ?_
  refine j_aload_n hC 0 3 rfl d_L_tried_2 rfl rfl ?_
  refine j_iload_n hC 1 4 rfl d_L_tried_3 rfl rfl ?_
  refine j_callVi hC jE_loc jT_good (As := [_]) hK yk_C_tried lk_L_26 ⟨rfl, rfl⟩ ⟨Nat.le_of_ble_eq_true rfl, Nat.le_of_ble_eq_true rfl⟩ 0 rfl rfl rfl rfl (Nat.le_of_ble_eq_true rfl) ⟨Nat.zero_le _, Nat.zero_le _⟩ d_L_tried_4 7 rfl rfl ?_
  refine j_i2l hC 8 rfl d_L_tried_7 rfl ?_
  refine j_last hC 19 3 rfl rfl in0_1 9 rfl d_L_tried_8 ?_
  refine j_goto hC 18 d_L_tried_9 (by decide) ?_
  refine j_iconst (v := 0) hC 19 rfl d_L_tried_18 (by decide) ?_
  exact j_iretH hC hr hlk d_L_tried_19 rfl rfl ⟨Nat.zero_le _, Nat.zero_le _⟩
set_option maxHeartbeats 4000000 in
set_option maxRecDepth 100000 in
theorem h_tried_1 {op v0 : Int32} (hK : kT l dC dI cI cZ cB cJ y_C_tried b_C_tried 2 (some .int) 7 110 [.ref (ad 0), .int op] (wC ad cI cZ cB σ β mk (wo ao cJ f ρ)) "java/lang/IndexOutOfBoundsException") : kH l dC dI cI cZ cB cJ y_L_tried b_L_tried 4 [(0, 9, 12, 21), (0, 9, 15, 13)] [.ref (ad 0), .int op, .ref ao] (wC ad cI cZ cB σ β mk (wo ao cJ f ρ)) 1 (wC ad cI cZ cB σ β mk (wo ao cJ f ρ)) := by
  refine hM.of (lv := [(0, .ref (ad 0)), (1, .int op), (2, .ref ao)]) (own := R_L) jE2_loc (by decide) rfl rfl (Nat.le_of_ble_eq_true rfl) rfl ?_
  intro p e s m args below meth c A hC0 hr hlk htab
  have hC := hC0.weak jE2_1
  refine j_aload_n hC 2 1 rfl d_L_tried_0 rfl rfl ?_
  refine j_iconst (v := 0) hC 2 rfl d_L_tried_1 (by decide) ?_
  refine j_aload_n hC 0 3 rfl d_L_tried_2 rfl rfl ?_
  refine j_iload_n hC 1 4 rfl d_L_tried_3 rfl rfl ?_
  refine j_catch hC jE_loc jT_good htab (As := [_]) hK yk_C_tried lk_L_26 ⟨Nat.le_of_ble_eq_true rfl, Nat.le_of_ble_eq_true rfl⟩ ⟨Nat.le_of_ble_eq_true rfl, Nat.le_of_ble_eq_true rfl⟩ 0 rfl rfl rfl rfl (Nat.le_of_ble_eq_true rfl) d_L_tried_4 rfl 12 ⟨⟨by decide, by decide, by decide⟩, "java/lang/IndexOutOfBoundsException", hC.t _ (List.mem_cons_of_mem _ hc_21), Or.inl ⟨rfl, rfl⟩⟩ (fun a => ?_)
  refine j_astore_n (lv' := [(3, _), (0, _), (1, _), (2, _)]) hC 13 rfl d_L_tried_12 rfl (by decide) rfl ?_
  refine j_iconst (v := 1) hC 14 rfl d_L_tried_13 (by decide) ?_
  exact j_iretH hC hr hlk d_L_tried_14 rfl rfl ⟨Nat.le_refl _, Nat.le_refl _⟩
set_option maxHeartbeats 4000000 in
set_option maxRecDepth 100000 in
theorem h_tried_2 {op v0 : Int32} (hK : kT l dC dI cI cZ cB cJ y_C_tried b_C_tried 2 (some .int) 7 110 [.ref (ad 0), .int op] (wC ad cI cZ cB σ β mk (wo ao cJ f ρ)) "java/lang/IllegalArgumentException") : kH l dC dI cI cZ cB cJ y_L_tried b_L_tried 4 [(0, 9, 12, 21), (0, 9, 15, 13)] [.ref (ad 0), .int op, .ref ao] (wC ad cI cZ cB σ β mk (wo ao cJ f ρ)) 2 (wC ad cI cZ cB σ β mk (wo ao cJ f ρ)) := by
  refine hM.of (lv := [(0, .ref (ad 0)), (1, .int op), (2, .ref ao)]) (own := R_L) jE2_loc (by decide) rfl rfl (Nat.le_of_ble_eq_true rfl) rfl ?_
  intro p e s m args below meth c A hC0 hr hlk htab
  have hC := hC0.weak jE2_1
  refine j_aload_n hC 2 1 rfl d_L_tried_0 rfl rfl ?_
  refine j_iconst (v := 0) hC 2 rfl d_L_tried_1 (by decide) ?_
  refine j_aload_n hC 0 3 rfl d_L_tried_2 rfl rfl ?_
  refine j_iload_n hC 1 4 rfl d_L_tried_3 rfl rfl ?_
  refine j_catch hC jE_loc jT_good htab (As := [_]) hK yk_C_tried lk_L_26 ⟨Nat.le_of_ble_eq_true rfl, Nat.le_of_ble_eq_true rfl⟩ ⟨Nat.le_of_ble_eq_true rfl, Nat.le_of_ble_eq_true rfl⟩ 0 rfl rfl rfl rfl (Nat.le_of_ble_eq_true rfl) d_L_tried_4 rfl 15 ⟨⟨by decide, by decide, by decide⟩, "java/lang/IndexOutOfBoundsException", hC.t _ (List.mem_cons_of_mem _ hc_21), Or.inr ⟨(hC0.ev s (fun _ _ _ => rfl) (State.WarmedH.refl s)).2 _ (List.mem_of_getElem? (i := 1) rfl), ⟨⟨by decide, by decide, by decide⟩, "java/lang/IllegalArgumentException", hC.t _ (List.mem_cons_of_mem _ hc_13), Or.inl ⟨rfl, rfl⟩⟩⟩⟩ (fun a => ?_)
  refine j_astore_n (lv' := [(3, _), (0, _), (1, _), (2, _)]) hC 16 rfl d_L_tried_15 rfl (by decide) rfl ?_
  refine j_iconst (v := 2) hC 17 rfl d_L_tried_16 (by decide) ?_
  exact j_iretH hC hr hlk d_L_tried_17 rfl rfl ⟨Nat.le_refl _, Nat.le_refl _⟩
set_option maxHeartbeats 4000000 in
set_option maxRecDepth 100000 in
theorem h_loaded_0 {op v0 : Int32} (hK : kM l dC dI cI cZ cB cJ y_C_loaded b_C_loaded 2 (some .int) 2 42 [.ref (ad 0), .int op] (wC ad cI cZ cB σ β mk (wo ao cJ f ρ)) (some (.int v0)) (wC ad cI cZ cB σ' β' mk' (wo ao cJ f ρ))) : kH l dC dI cI cZ cB cJ y_L_loaded b_L_loaded 4 [(0, 9, 12, 21), (0, 9, 15, 13), (0, 9, 18, 33)] [.ref (ad 0), .int op, .ref ao] (wC ad cI cZ cB σ β mk (wo ao cJ f ρ)) 0 (wC ad cI cZ cB σ' β' mk' (wo ao cJ (vp_updL f 0 v0.toInt64) ρ)) := by
  refine hM.of (lv := [(0, .ref (ad 0)), (1, .int op), (2, .ref ao)]) (own := R_L) jE2_loc (by decide) rfl rfl (Nat.le_of_ble_eq_true rfl) rfl ?_
  intro p e s m args below meth c A hC0 hr hlk htab
  have hC := hC0.weak jE2_1
  refine j_aload_n hC 2 1 rfl d_L_loaded_0 rfl rfl ?_
  refine j_iconst (v := 0) hC 2 rfl d_L_loaded_1 (by decide) ?_
  refine j_aload_n hC 0 3 rfl d_L_loaded_2 rfl rfl ?_
  refine j_iload_n hC 1 4 rfl d_L_loaded_3 rfl rfl ?_
  refine j_callVi hC jE_loc jT_good (As := [_]) hK yk_C_loaded lk_L_30 ⟨rfl, rfl⟩ ⟨Nat.le_of_ble_eq_true rfl, Nat.le_of_ble_eq_true rfl⟩ 0 rfl rfl rfl rfl (Nat.le_of_ble_eq_true rfl) ⟨Nat.zero_le _, Nat.zero_le _⟩ d_L_loaded_4 7 rfl rfl ?_
  refine j_i2l hC 8 rfl d_L_loaded_7 rfl ?_
  refine j_last hC 19 3 rfl rfl in0_1 9 rfl d_L_loaded_8 ?_
  refine j_goto hC 21 d_L_loaded_9 (by decide) ?_
  refine j_iconst (v := 0) hC 22 rfl d_L_loaded_21 (by decide) ?_
  exact j_iretH hC hr hlk d_L_loaded_22 rfl rfl ⟨Nat.zero_le _, Nat.zero_le _⟩
set_option maxHeartbeats 4000000 in
set_option maxRecDepth 100000 in
theorem h_loaded_1 {op v0 : Int32} (hK : kT l dC dI cI cZ cB cJ y_C_loaded b_C_loaded 2 (some .int) 7 110 [.ref (ad 0), .int op] (wC ad cI cZ cB σ β mk (wo ao cJ f ρ)) "java/lang/IndexOutOfBoundsException") : kH l dC dI cI cZ cB cJ y_L_loaded b_L_loaded 4 [(0, 9, 12, 21), (0, 9, 15, 13), (0, 9, 18, 33)] [.ref (ad 0), .int op, .ref ao] (wC ad cI cZ cB σ β mk (wo ao cJ f ρ)) 1 (wC ad cI cZ cB σ β mk (wo ao cJ f ρ)) := by
  refine hM.of (lv := [(0, .ref (ad 0)), (1, .int op), (2, .ref ao)]) (own := R_L) jE2_loc (by decide) rfl rfl (Nat.le_of_ble_eq_true rfl) rfl ?_
  intro p e s m args below meth c A hC0 hr hlk htab
  have hC := hC0.weak jE2_1
  refine j_aload_n hC 2 1 rfl d_L_loaded_0 rfl rfl ?_
  refine j_iconst (v := 0) hC 2 rfl d_L_loaded_1 (by decide) ?_
  refine j_aload_n hC 0 3 rfl d_L_loaded_2 rfl rfl ?_
  refine j_iload_n hC 1 4 rfl d_L_loaded_3 rfl rfl ?_
  refine j_catch hC jE_loc jT_good htab (As := [_]) hK yk_C_loaded lk_L_30 ⟨Nat.le_of_ble_eq_true rfl, Nat.le_of_ble_eq_true rfl⟩ ⟨Nat.le_of_ble_eq_true rfl, Nat.le_of_ble_eq_true rfl⟩ 0 rfl rfl rfl rfl (Nat.le_of_ble_eq_true rfl) d_L_loaded_4 rfl 12 ⟨⟨by decide, by decide, by decide⟩, "java/lang/IndexOutOfBoundsException", hC.t _ (List.mem_cons_of_mem _ hc_21), Or.inl ⟨rfl, rfl⟩⟩ (fun a => ?_)
  refine j_astore_n (lv' := [(3, _), (0, _), (1, _), (2, _)]) hC 13 rfl d_L_loaded_12 rfl (by decide) rfl ?_
  refine j_iconst (v := 1) hC 14 rfl d_L_loaded_13 (by decide) ?_
  exact j_iretH hC hr hlk d_L_loaded_14 rfl rfl ⟨Nat.le_refl _, Nat.le_refl _⟩
set_option maxHeartbeats 4000000 in
set_option maxRecDepth 100000 in
theorem h_loaded_2 {op v0 : Int32} (hK : kT l dC dI cI cZ cB cJ y_C_loaded b_C_loaded 2 (some .int) 7 110 [.ref (ad 0), .int op] (wC ad cI cZ cB σ β mk (wo ao cJ f ρ)) "java/lang/IllegalArgumentException") : kH l dC dI cI cZ cB cJ y_L_loaded b_L_loaded 4 [(0, 9, 12, 21), (0, 9, 15, 13), (0, 9, 18, 33)] [.ref (ad 0), .int op, .ref ao] (wC ad cI cZ cB σ β mk (wo ao cJ f ρ)) 2 (wC ad cI cZ cB σ β mk (wo ao cJ f ρ)) := by
  refine hM.of (lv := [(0, .ref (ad 0)), (1, .int op), (2, .ref ao)]) (own := R_L) jE2_loc (by decide) rfl rfl (Nat.le_of_ble_eq_true rfl) rfl ?_
  intro p e s m args below meth c A hC0 hr hlk htab
  have hC := hC0.weak jE2_1
  refine j_aload_n hC 2 1 rfl d_L_loaded_0 rfl rfl ?_
  refine j_iconst (v := 0) hC 2 rfl d_L_loaded_1 (by decide) ?_
  refine j_aload_n hC 0 3 rfl d_L_loaded_2 rfl rfl ?_
  refine j_iload_n hC 1 4 rfl d_L_loaded_3 rfl rfl ?_
  refine j_catch hC jE_loc jT_good htab (As := [_]) hK yk_C_loaded lk_L_30 ⟨Nat.le_of_ble_eq_true rfl, Nat.le_of_ble_eq_true rfl⟩ ⟨Nat.le_of_ble_eq_true rfl, Nat.le_of_ble_eq_true rfl⟩ 0 rfl rfl rfl rfl (Nat.le_of_ble_eq_true rfl) d_L_loaded_4 rfl 15 ⟨⟨by decide, by decide, by decide⟩, "java/lang/IndexOutOfBoundsException", hC.t _ (List.mem_cons_of_mem _ hc_21), Or.inr ⟨(hC0.ev s (fun _ _ _ => rfl) (State.WarmedH.refl s)).2 _ (List.mem_of_getElem? (i := 1) rfl), ⟨⟨by decide, by decide, by decide⟩, "java/lang/IllegalArgumentException", hC.t _ (List.mem_cons_of_mem _ hc_13), Or.inl ⟨rfl, rfl⟩⟩⟩⟩ (fun a => ?_)
  refine j_astore_n (lv' := [(3, _), (0, _), (1, _), (2, _)]) hC 16 rfl d_L_loaded_15 rfl (by decide) rfl ?_
  refine j_iconst (v := 2) hC 17 rfl d_L_loaded_16 (by decide) ?_
  exact j_iretH hC hr hlk d_L_loaded_17 rfl rfl ⟨Nat.le_refl _, Nat.le_refl _⟩
set_option maxHeartbeats 4000000 in
set_option maxRecDepth 100000 in
theorem h_loaded_3 {op v0 : Int32} (hK : kT l dC dI cI cZ cB cJ y_C_loaded b_C_loaded 2 (some .int) 7 110 [.ref (ad 0), .int op] (wC ad cI cZ cB σ β mk (wo ao cJ f ρ)) "java/lang/IllegalStateException") : kH l dC dI cI cZ cB cJ y_L_loaded b_L_loaded 4 [(0, 9, 12, 21), (0, 9, 15, 13), (0, 9, 18, 33)] [.ref (ad 0), .int op, .ref ao] (wC ad cI cZ cB σ β mk (wo ao cJ f ρ)) 3 (wC ad cI cZ cB σ β mk (wo ao cJ f ρ)) := by
  refine hM.of (lv := [(0, .ref (ad 0)), (1, .int op), (2, .ref ao)]) (own := R_L) jE2_loc (by decide) rfl rfl (Nat.le_of_ble_eq_true rfl) rfl ?_
  intro p e s m args below meth c A hC0 hr hlk htab
  have hC := hC0.weak jE2_1
  refine j_aload_n hC 2 1 rfl d_L_loaded_0 rfl rfl ?_
  refine j_iconst (v := 0) hC 2 rfl d_L_loaded_1 (by decide) ?_
  refine j_aload_n hC 0 3 rfl d_L_loaded_2 rfl rfl ?_
  refine j_iload_n hC 1 4 rfl d_L_loaded_3 rfl rfl ?_
  refine j_catch hC jE_loc jT_good htab (As := [_]) hK yk_C_loaded lk_L_30 ⟨Nat.le_of_ble_eq_true rfl, Nat.le_of_ble_eq_true rfl⟩ ⟨Nat.le_of_ble_eq_true rfl, Nat.le_of_ble_eq_true rfl⟩ 0 rfl rfl rfl rfl (Nat.le_of_ble_eq_true rfl) d_L_loaded_4 rfl 18 ⟨⟨by decide, by decide, by decide⟩, "java/lang/IndexOutOfBoundsException", hC.t _ (List.mem_cons_of_mem _ hc_21), Or.inr ⟨(hC0.ev s (fun _ _ _ => rfl) (State.WarmedH.refl s)).2 _ (List.mem_of_getElem? (i := 2) rfl), ⟨⟨by decide, by decide, by decide⟩, "java/lang/IllegalArgumentException", hC.t _ (List.mem_cons_of_mem _ hc_13), Or.inr ⟨(hC0.ev s (fun _ _ _ => rfl) (State.WarmedH.refl s)).2 _ (List.mem_of_getElem? (i := 3) rfl), ⟨⟨by decide, by decide, by decide⟩, "java/lang/IllegalStateException", hC.t _ (List.mem_cons_of_mem _ hc_33), Or.inl ⟨rfl, rfl⟩⟩⟩⟩⟩⟩ (fun a => ?_)
  refine j_astore_n (lv' := [(3, _), (0, _), (1, _), (2, _)]) hC 19 rfl d_L_loaded_18 rfl (by decide) rfl ?_
  refine j_iconst (v := 3) hC 20 rfl d_L_loaded_19 (by decide) ?_
  exact j_iretH hC hr hlk d_L_loaded_20 rfl rfl ⟨Nat.le_refl _, Nat.le_refl _⟩
set_option maxHeartbeats 4000000 in
set_option maxRecDepth 100000 in
theorem h_source_0 {op k v0 : Int32} (hK : kM l dC dI cI cZ cB cJ y_C_source b_C_source 4 (some .int) 2 43 [.ref (ad 0), .int op, .int k] (wC ad cI cZ cB σ β mk (wo ao cJ f ρ)) (some (.int v0)) (wC ad cI cZ cB σ' β' mk' (wo ao cJ f ρ))) : kH l dC dI cI cZ cB cJ y_L_source b_L_source 5 [(0, 10, 13, 21), (0, 10, 17, 13), (0, 10, 21, 33)] [.ref (ad 0), .int op, .int k, .ref ao] (wC ad cI cZ cB σ β mk (wo ao cJ f ρ)) 0 (wC ad cI cZ cB σ' β' mk' (wo ao cJ (vp_updL f 0 v0.toInt64) ρ)) := by
  refine hM.of (lv := [(0, .ref (ad 0)), (1, .int op), (2, .int k), (3, .ref ao)]) (own := R_L) jE2_loc (by decide) rfl rfl (Nat.le_of_ble_eq_true rfl) rfl ?_
  intro p e s m args below meth c A hC0 hr hlk htab
  have hC := hC0.weak jE2_1
  refine j_aload_n hC 3 1 rfl d_L_source_0 rfl rfl ?_
  refine j_iconst (v := 0) hC 2 rfl d_L_source_1 (by decide) ?_
  refine j_aload_n hC 0 3 rfl d_L_source_2 rfl rfl ?_
  refine j_iload_n hC 1 4 rfl d_L_source_3 rfl rfl ?_
  refine j_iload_n hC 2 5 rfl d_L_source_4 rfl rfl ?_
  refine j_callVi hC jE_loc jT_good (As := [_, _]) hK yk_C_source lk_L_35 ⟨rfl, rfl⟩ ⟨Nat.le_of_ble_eq_true rfl, Nat.le_of_ble_eq_true rfl⟩ 0 rfl rfl rfl rfl (Nat.le_of_ble_eq_true rfl) ⟨Nat.zero_le _, Nat.zero_le _⟩ d_L_source_5 8 rfl rfl ?_
  refine j_i2l hC 9 rfl d_L_source_8 rfl ?_
  refine j_last hC 19 3 rfl rfl in0_1 10 rfl d_L_source_9 ?_
  refine j_goto hC 25 d_L_source_10 (by decide) ?_
  refine j_iconst (v := 0) hC 26 rfl d_L_source_25 (by decide) ?_
  exact j_iretH hC hr hlk d_L_source_26 rfl rfl ⟨Nat.zero_le _, Nat.zero_le _⟩
set_option maxHeartbeats 4000000 in
set_option maxRecDepth 100000 in
theorem h_source_1 {op k v0 : Int32} (hK : kT l dC dI cI cZ cB cJ y_C_source b_C_source 4 (some .int) 7 110 [.ref (ad 0), .int op, .int k] (wC ad cI cZ cB σ β mk (wo ao cJ f ρ)) "java/lang/IndexOutOfBoundsException") : kH l dC dI cI cZ cB cJ y_L_source b_L_source 5 [(0, 10, 13, 21), (0, 10, 17, 13), (0, 10, 21, 33)] [.ref (ad 0), .int op, .int k, .ref ao] (wC ad cI cZ cB σ β mk (wo ao cJ f ρ)) 1 (wC ad cI cZ cB σ β mk (wo ao cJ f ρ)) := by
  refine hM.of (lv := [(0, .ref (ad 0)), (1, .int op), (2, .int k), (3, .ref ao)]) (own := R_L) jE2_loc (by decide) rfl rfl (Nat.le_of_ble_eq_true rfl) rfl ?_
  intro p e s m args below meth c A hC0 hr hlk htab
  have hC := hC0.weak jE2_1
  refine j_aload_n hC 3 1 rfl d_L_source_0 rfl rfl ?_
  refine j_iconst (v := 0) hC 2 rfl d_L_source_1 (by decide) ?_
  refine j_aload_n hC 0 3 rfl d_L_source_2 rfl rfl ?_
  refine j_iload_n hC 1 4 rfl d_L_source_3 rfl rfl ?_
  refine j_iload_n hC 2 5 rfl d_L_source_4 rfl rfl ?_
  refine j_catch hC jE_loc jT_good htab (As := [_, _]) hK yk_C_source lk_L_35 ⟨Nat.le_of_ble_eq_true rfl, Nat.le_of_ble_eq_true rfl⟩ ⟨Nat.le_of_ble_eq_true rfl, Nat.le_of_ble_eq_true rfl⟩ 0 rfl rfl rfl rfl (Nat.le_of_ble_eq_true rfl) d_L_source_5 rfl 13 ⟨⟨by decide, by decide, by decide⟩, "java/lang/IndexOutOfBoundsException", hC.t _ (List.mem_cons_of_mem _ hc_21), Or.inl ⟨rfl, rfl⟩⟩ (fun a => ?_)
  refine j_astore (lv' := [(4, _), (0, _), (1, _), (2, _), (3, _)]) hC 15 rfl d_L_source_13 (by decide) rfl ?_
  refine j_iconst (v := 1) hC 16 rfl d_L_source_15 (by decide) ?_
  exact j_iretH hC hr hlk d_L_source_16 rfl rfl ⟨Nat.le_refl _, Nat.le_refl _⟩
set_option maxHeartbeats 4000000 in
set_option maxRecDepth 100000 in
theorem h_source_2 {op k v0 : Int32} (hK : kT l dC dI cI cZ cB cJ y_C_source b_C_source 4 (some .int) 7 110 [.ref (ad 0), .int op, .int k] (wC ad cI cZ cB σ β mk (wo ao cJ f ρ)) "java/lang/IllegalArgumentException") : kH l dC dI cI cZ cB cJ y_L_source b_L_source 5 [(0, 10, 13, 21), (0, 10, 17, 13), (0, 10, 21, 33)] [.ref (ad 0), .int op, .int k, .ref ao] (wC ad cI cZ cB σ β mk (wo ao cJ f ρ)) 2 (wC ad cI cZ cB σ β mk (wo ao cJ f ρ)) := by
  refine hM.of (lv := [(0, .ref (ad 0)), (1, .int op), (2, .int k), (3, .ref ao)]) (own := R_L) jE2_loc (by decide) rfl rfl (Nat.le_of_ble_eq_true rfl) rfl ?_
  intro p e s m args below meth c A hC0 hr hlk htab
  have hC := hC0.weak jE2_1
  refine j_aload_n hC 3 1 rfl d_L_source_0 rfl rfl ?_
  refine j_iconst (v := 0) hC 2 rfl d_L_source_1 (by decide) ?_
  refine j_aload_n hC 0 3 rfl d_L_source_2 rfl rfl ?_
  refine j_iload_n hC 1 4 rfl d_L_source_3 rfl rfl ?_
  refine j_iload_n hC 2 5 rfl d_L_source_4 rfl rfl ?_
  refine j_catch hC jE_loc jT_good htab (As := [_, _]) hK yk_C_source lk_L_35 ⟨Nat.le_of_ble_eq_true rfl, Nat.le_of_ble_eq_true rfl⟩ ⟨Nat.le_of_ble_eq_true rfl, Nat.le_of_ble_eq_true rfl⟩ 0 rfl rfl rfl rfl (Nat.le_of_ble_eq_true rfl) d_L_source_5 rfl 17 ⟨⟨by decide, by decide, by decide⟩, "java/lang/IndexOutOfBoundsException", hC.t _ (List.mem_cons_of_mem _ hc_21), Or.inr ⟨(hC0.ev s (fun _ _ _ => rfl) (State.WarmedH.refl s)).2 _ (List.mem_of_getElem? (i := 1) rfl), ⟨⟨by decide, by decide, by decide⟩, "java/lang/IllegalArgumentException", hC.t _ (List.mem_cons_of_mem _ hc_13), Or.inl ⟨rfl, rfl⟩⟩⟩⟩ (fun a => ?_)
  refine j_astore (lv' := [(4, _), (0, _), (1, _), (2, _), (3, _)]) hC 19 rfl d_L_source_17 (by decide) rfl ?_
  refine j_iconst (v := 2) hC 20 rfl d_L_source_19 (by decide) ?_
  exact j_iretH hC hr hlk d_L_source_20 rfl rfl ⟨Nat.le_refl _, Nat.le_refl _⟩
set_option maxHeartbeats 4000000 in
set_option maxRecDepth 100000 in
theorem h_source_3 {op k v0 : Int32} (hK : kT l dC dI cI cZ cB cJ y_C_source b_C_source 4 (some .int) 7 110 [.ref (ad 0), .int op, .int k] (wC ad cI cZ cB σ β mk (wo ao cJ f ρ)) "java/lang/IllegalStateException") : kH l dC dI cI cZ cB cJ y_L_source b_L_source 5 [(0, 10, 13, 21), (0, 10, 17, 13), (0, 10, 21, 33)] [.ref (ad 0), .int op, .int k, .ref ao] (wC ad cI cZ cB σ β mk (wo ao cJ f ρ)) 3 (wC ad cI cZ cB σ β mk (wo ao cJ f ρ)) := by
  refine hM.of (lv := [(0, .ref (ad 0)), (1, .int op), (2, .int k), (3, .ref ao)]) (own := R_L) jE2_loc (by decide) rfl rfl (Nat.le_of_ble_eq_true rfl) rfl ?_
  intro p e s m args below meth c A hC0 hr hlk htab
  have hC := hC0.weak jE2_1
  refine j_aload_n hC 3 1 rfl d_L_source_0 rfl rfl ?_
  refine j_iconst (v := 0) hC 2 rfl d_L_source_1 (by decide) ?_
  refine j_aload_n hC 0 3 rfl d_L_source_2 rfl rfl ?_
  refine j_iload_n hC 1 4 rfl d_L_source_3 rfl rfl ?_
  refine j_iload_n hC 2 5 rfl d_L_source_4 rfl rfl ?_
  refine j_catch hC jE_loc jT_good htab (As := [_, _]) hK yk_C_source lk_L_35 ⟨Nat.le_of_ble_eq_true rfl, Nat.le_of_ble_eq_true rfl⟩ ⟨Nat.le_of_ble_eq_true rfl, Nat.le_of_ble_eq_true rfl⟩ 0 rfl rfl rfl rfl (Nat.le_of_ble_eq_true rfl) d_L_source_5 rfl 21 ⟨⟨by decide, by decide, by decide⟩, "java/lang/IndexOutOfBoundsException", hC.t _ (List.mem_cons_of_mem _ hc_21), Or.inr ⟨(hC0.ev s (fun _ _ _ => rfl) (State.WarmedH.refl s)).2 _ (List.mem_of_getElem? (i := 2) rfl), ⟨⟨by decide, by decide, by decide⟩, "java/lang/IllegalArgumentException", hC.t _ (List.mem_cons_of_mem _ hc_13), Or.inr ⟨(hC0.ev s (fun _ _ _ => rfl) (State.WarmedH.refl s)).2 _ (List.mem_of_getElem? (i := 3) rfl), ⟨⟨by decide, by decide, by decide⟩, "java/lang/IllegalStateException", hC.t _ (List.mem_cons_of_mem _ hc_33), Or.inl ⟨rfl, rfl⟩⟩⟩⟩⟩⟩ (fun a => ?_)
  refine j_astore (lv' := [(4, _), (0, _), (1, _), (2, _), (3, _)]) hC 23 rfl d_L_source_21 (by decide) rfl ?_
  refine j_iconst (v := 3) hC 24 rfl d_L_source_23 (by decide) ?_
  exact j_iretH hC hr hlk d_L_source_24 rfl rfl ⟨Nat.le_refl _, Nat.le_refl _⟩
set_option maxHeartbeats 4000000 in
set_option maxRecDepth 100000 in
theorem h_other_0 {at0 v v0 : Int32} (hK : kM l dC dI cI cZ cB cJ y_C_other b_C_other 4 (some .int) 3 66 [.ref (ad 0), .int at0, .int v] (wC ad cI cZ cB σ β mk (wo ao cJ f ρ)) (some (.int v0)) (wC ad cI cZ cB σ' β' mk' (wo ao cJ f ρ))) : kH l dC dI cI cZ cB cJ y_L_other b_L_other 5 [(0, 10, 13, 13)] [.ref (ad 0), .int at0, .int v, .ref ao] (wC ad cI cZ cB σ β mk (wo ao cJ f ρ)) 0 (wC ad cI cZ cB σ' β' mk' (wo ao cJ (vp_updL f 0 v0.toInt64) ρ)) := by
  refine hM.of (lv := [(0, .ref (ad 0)), (1, .int at0), (2, .int v), (3, .ref ao)]) (own := R_L) jE2_loc (by decide) rfl rfl (Nat.le_of_ble_eq_true rfl) rfl ?_
  intro p e s m args below meth c A hC0 hr hlk htab
  have hC := hC0.weak jE2_1
  refine j_aload_n hC 3 1 rfl d_L_other_0 rfl rfl ?_
  refine j_iconst (v := 0) hC 2 rfl d_L_other_1 (by decide) ?_
  refine j_aload_n hC 0 3 rfl d_L_other_2 rfl rfl ?_
  refine j_iload_n hC 1 4 rfl d_L_other_3 rfl rfl ?_
  refine j_iload_n hC 2 5 rfl d_L_other_4 rfl rfl ?_
  refine j_callVi hC jE_loc jT_good (As := [_, _]) hK yk_C_other lk_L_38 ⟨rfl, rfl⟩ ⟨Nat.le_of_ble_eq_true rfl, Nat.le_of_ble_eq_true rfl⟩ 0 rfl rfl rfl rfl (Nat.le_of_ble_eq_true rfl) ⟨Nat.zero_le _, Nat.zero_le _⟩ d_L_other_5 8 rfl rfl ?_
  refine j_i2l hC 9 rfl d_L_other_8 rfl ?_
  refine j_last hC 19 3 rfl rfl in0_1 10 rfl d_L_other_9 ?_
  refine j_goto hC 17 d_L_other_10 (by decide) ?_
  refine j_iconst (v := 0) hC 18 rfl d_L_other_17 (by decide) ?_
  exact j_iretH hC hr hlk d_L_other_18 rfl rfl ⟨Nat.zero_le _, Nat.zero_le _⟩
set_option maxHeartbeats 4000000 in
set_option maxRecDepth 100000 in
theorem h_other_1 {at0 v v0 : Int32} (hK : kT l dC dI cI cZ cB cJ y_C_other b_C_other 4 (some .int) 7 110 [.ref (ad 0), .int at0, .int v] (wC ad cI cZ cB σ β mk (wo ao cJ f ρ)) "java/lang/IllegalArgumentException") : kH l dC dI cI cZ cB cJ y_L_other b_L_other 5 [(0, 10, 13, 13)] [.ref (ad 0), .int at0, .int v, .ref ao] (wC ad cI cZ cB σ β mk (wo ao cJ f ρ)) 1 (wC ad cI cZ cB σ β mk (wo ao cJ f ρ)) := by
  refine hM.of (lv := [(0, .ref (ad 0)), (1, .int at0), (2, .int v), (3, .ref ao)]) (own := R_L) jE2_loc (by decide) rfl rfl (Nat.le_of_ble_eq_true rfl) rfl ?_
  intro p e s m args below meth c A hC0 hr hlk htab
  have hC := hC0.weak jE2_1
  refine j_aload_n hC 3 1 rfl d_L_other_0 rfl rfl ?_
  refine j_iconst (v := 0) hC 2 rfl d_L_other_1 (by decide) ?_
  refine j_aload_n hC 0 3 rfl d_L_other_2 rfl rfl ?_
  refine j_iload_n hC 1 4 rfl d_L_other_3 rfl rfl ?_
  refine j_iload_n hC 2 5 rfl d_L_other_4 rfl rfl ?_
  refine j_catch hC jE_loc jT_good htab (As := [_, _]) hK yk_C_other lk_L_38 ⟨Nat.le_of_ble_eq_true rfl, Nat.le_of_ble_eq_true rfl⟩ ⟨Nat.le_of_ble_eq_true rfl, Nat.le_of_ble_eq_true rfl⟩ 0 rfl rfl rfl rfl (Nat.le_of_ble_eq_true rfl) d_L_other_5 rfl 13 ⟨⟨by decide, by decide, by decide⟩, "java/lang/IllegalArgumentException", hC.t _ (List.mem_cons_of_mem _ hc_13), Or.inl ⟨rfl, rfl⟩⟩ (fun a => ?_)
  refine j_astore (lv' := [(4, _), (0, _), (1, _), (2, _), (3, _)]) hC 15 rfl d_L_other_13 (by decide) rfl ?_
  refine j_iconst (v := 1) hC 16 rfl d_L_other_15 (by decide) ?_
  exact j_iretH hC hr hlk d_L_other_16 rfl rfl ⟨Nat.le_refl _, Nat.le_refl _⟩
set_option maxHeartbeats 4000000 in
set_option maxRecDepth 100000 in
theorem h_memory_0 {at0 v0 : Int32} (hK : kM l dC dI cI cZ cB cJ y_C_memory b_C_memory 2 (some .int) 1 21 [.ref (ad 0), .int at0] (wC ad cI cZ cB σ β mk (wo ao cJ f ρ)) (some (.int v0)) (wC ad cI cZ cB σ' β' mk' (wo ao cJ f ρ))) : kH l dC dI cI cZ cB cJ y_L_memory b_L_memory 4 [(0, 9, 12, 13)] [.ref (ad 0), .int at0, .ref ao] (wC ad cI cZ cB σ β mk (wo ao cJ f ρ)) 0 (wC ad cI cZ cB σ' β' mk' (wo ao cJ (vp_updL f 0 v0.toInt64) ρ)) := by
  refine hM.of (lv := [(0, .ref (ad 0)), (1, .int at0), (2, .ref ao)]) (own := R_L) jE2_loc (by decide) rfl rfl (Nat.le_of_ble_eq_true rfl) rfl ?_
  intro p e s m args below meth c A hC0 hr hlk htab
  have hC := hC0.weak jE2_1
  refine j_aload_n hC 2 1 rfl d_L_memory_0 rfl rfl ?_
  refine j_iconst (v := 0) hC 2 rfl d_L_memory_1 (by decide) ?_
  refine j_aload_n hC 0 3 rfl d_L_memory_2 rfl rfl ?_
  refine j_iload_n hC 1 4 rfl d_L_memory_3 rfl rfl ?_
  refine j_callVi hC jE_loc jT_good (As := [_]) hK yk_C_memory lk_L_41 ⟨rfl, rfl⟩ ⟨Nat.le_of_ble_eq_true rfl, Nat.le_of_ble_eq_true rfl⟩ 0 rfl rfl rfl rfl (Nat.le_of_ble_eq_true rfl) ⟨Nat.zero_le _, Nat.zero_le _⟩ d_L_memory_4 7 rfl rfl ?_
  refine j_i2l hC 8 rfl d_L_memory_7 rfl ?_
  refine j_last hC 19 3 rfl rfl in0_1 9 rfl d_L_memory_8 ?_
  refine j_goto hC 15 d_L_memory_9 (by decide) ?_
  refine j_iconst (v := 0) hC 16 rfl d_L_memory_15 (by decide) ?_
  exact j_iretH hC hr hlk d_L_memory_16 rfl rfl ⟨Nat.zero_le _, Nat.zero_le _⟩
set_option maxHeartbeats 4000000 in
set_option maxRecDepth 100000 in
theorem h_memory_1 {at0 v0 : Int32} (hK : kT l dC dI cI cZ cB cJ y_C_memory b_C_memory 2 (some .int) 7 110 [.ref (ad 0), .int at0] (wC ad cI cZ cB σ β mk (wo ao cJ f ρ)) "java/lang/IllegalArgumentException") : kH l dC dI cI cZ cB cJ y_L_memory b_L_memory 4 [(0, 9, 12, 13)] [.ref (ad 0), .int at0, .ref ao] (wC ad cI cZ cB σ β mk (wo ao cJ f ρ)) 1 (wC ad cI cZ cB σ β mk (wo ao cJ f ρ)) := by
  refine hM.of (lv := [(0, .ref (ad 0)), (1, .int at0), (2, .ref ao)]) (own := R_L) jE2_loc (by decide) rfl rfl (Nat.le_of_ble_eq_true rfl) rfl ?_
  intro p e s m args below meth c A hC0 hr hlk htab
  have hC := hC0.weak jE2_1
  refine j_aload_n hC 2 1 rfl d_L_memory_0 rfl rfl ?_
  refine j_iconst (v := 0) hC 2 rfl d_L_memory_1 (by decide) ?_
  refine j_aload_n hC 0 3 rfl d_L_memory_2 rfl rfl ?_
  refine j_iload_n hC 1 4 rfl d_L_memory_3 rfl rfl ?_
  refine j_catch hC jE_loc jT_good htab (As := [_]) hK yk_C_memory lk_L_41 ⟨Nat.le_of_ble_eq_true rfl, Nat.le_of_ble_eq_true rfl⟩ ⟨Nat.le_of_ble_eq_true rfl, Nat.le_of_ble_eq_true rfl⟩ 0 rfl rfl rfl rfl (Nat.le_of_ble_eq_true rfl) d_L_memory_4 rfl 12 ⟨⟨by decide, by decide, by decide⟩, "java/lang/IllegalArgumentException", hC.t _ (List.mem_cons_of_mem _ hc_13), Or.inl ⟨rfl, rfl⟩⟩ (fun a => ?_)
  refine j_astore_n (lv' := [(3, _), (0, _), (1, _), (2, _)]) hC 13 rfl d_L_memory_12 rfl (by decide) rfl ?_
  refine j_iconst (v := 1) hC 14 rfl d_L_memory_13 (by decide) ?_
  exact j_iretH hC hr hlk d_L_memory_14 rfl rfl ⟨Nat.le_refl _, Nat.le_refl _⟩
set_option maxHeartbeats 4000000 in
set_option maxRecDepth 100000 in
theorem h_forget_0 {op v0 : Int32} (hK : kM l dC dI cI cZ cB cJ y_C_forget b_C_forget 3 (some .int) 1 21 [.ref (ad 0), .int op] (wC ad cI cZ cB σ β mk (wo ao cJ f ρ)) (some (.int v0)) (wC ad cI cZ cB σ' β' mk' (wo ao cJ f ρ))) : kH l dC dI cI cZ cB cJ y_L_forget b_L_forget 4 [(0, 9, 12, 21), (0, 9, 15, 13)] [.ref (ad 0), .int op, .ref ao] (wC ad cI cZ cB σ β mk (wo ao cJ f ρ)) 0 (wC ad cI cZ cB σ' β' mk' (wo ao cJ (vp_updL f 0 v0.toInt64) ρ)) := by
  refine hM.of (lv := [(0, .ref (ad 0)), (1, .int op), (2, .ref ao)]) (own := R_L) jE2_loc (by decide) rfl rfl (Nat.le_of_ble_eq_true rfl) rfl ?_
  intro p e s m args below meth c A hC0 hr hlk htab
  have hC := hC0.weak jE2_1
  refine j_aload_n hC 2 1 rfl d_L_forget_0 rfl rfl ?_
  refine j_iconst (v := 0) hC 2 rfl d_L_forget_1 (by decide) ?_
  refine j_aload_n hC 0 3 rfl d_L_forget_2 rfl rfl ?_
  refine j_iload_n hC 1 4 rfl d_L_forget_3 rfl rfl ?_
  refine j_callVi hC jE_loc jT_good (As := [_]) hK yk_C_forget lk_L_44 ⟨rfl, rfl⟩ ⟨Nat.le_of_ble_eq_true rfl, Nat.le_of_ble_eq_true rfl⟩ 0 rfl rfl rfl rfl (Nat.le_of_ble_eq_true rfl) ⟨Nat.zero_le _, Nat.zero_le _⟩ d_L_forget_4 7 rfl rfl ?_
  refine j_i2l hC 8 rfl d_L_forget_7 rfl ?_
  refine j_last hC 19 3 rfl rfl in0_1 9 rfl d_L_forget_8 ?_
  refine j_goto hC 18 d_L_forget_9 (by decide) ?_
  refine j_iconst (v := 0) hC 19 rfl d_L_forget_18 (by decide) ?_
  exact j_iretH hC hr hlk d_L_forget_19 rfl rfl ⟨Nat.zero_le _, Nat.zero_le _⟩
set_option maxHeartbeats 4000000 in
set_option maxRecDepth 100000 in
theorem h_forget_1 {op v0 : Int32} (hK : kT l dC dI cI cZ cB cJ y_C_forget b_C_forget 3 (some .int) 7 110 [.ref (ad 0), .int op] (wC ad cI cZ cB σ β mk (wo ao cJ f ρ)) "java/lang/IndexOutOfBoundsException") : kH l dC dI cI cZ cB cJ y_L_forget b_L_forget 4 [(0, 9, 12, 21), (0, 9, 15, 13)] [.ref (ad 0), .int op, .ref ao] (wC ad cI cZ cB σ β mk (wo ao cJ f ρ)) 1 (wC ad cI cZ cB σ β mk (wo ao cJ f ρ)) := by
  refine hM.of (lv := [(0, .ref (ad 0)), (1, .int op), (2, .ref ao)]) (own := R_L) jE2_loc (by decide) rfl rfl (Nat.le_of_ble_eq_true rfl) rfl ?_
  intro p e s m args below meth c A hC0 hr hlk htab
  have hC := hC0.weak jE2_1
  refine j_aload_n hC 2 1 rfl d_L_forget_0 rfl rfl ?_
  refine j_iconst (v := 0) hC 2 rfl d_L_forget_1 (by decide) ?_
  refine j_aload_n hC 0 3 rfl d_L_forget_2 rfl rfl ?_
  refine j_iload_n hC 1 4 rfl d_L_forget_3 rfl rfl ?_
  refine j_catch hC jE_loc jT_good htab (As := [_]) hK yk_C_forget lk_L_44 ⟨Nat.le_of_ble_eq_true rfl, Nat.le_of_ble_eq_true rfl⟩ ⟨Nat.le_of_ble_eq_true rfl, Nat.le_of_ble_eq_true rfl⟩ 0 rfl rfl rfl rfl (Nat.le_of_ble_eq_true rfl) d_L_forget_4 rfl 12 ⟨⟨by decide, by decide, by decide⟩, "java/lang/IndexOutOfBoundsException", hC.t _ (List.mem_cons_of_mem _ hc_21), Or.inl ⟨rfl, rfl⟩⟩ (fun a => ?_)
  refine j_astore_n (lv' := [(3, _), (0, _), (1, _), (2, _)]) hC 13 rfl d_L_forget_12 rfl (by decide) rfl ?_
  refine j_iconst (v := 1) hC 14 rfl d_L_forget_13 (by decide) ?_
  exact j_iretH hC hr hlk d_L_forget_14 rfl rfl ⟨Nat.le_refl _, Nat.le_refl _⟩
set_option maxHeartbeats 4000000 in
set_option maxRecDepth 100000 in
theorem h_forget_2 {op v0 : Int32} (hK : kT l dC dI cI cZ cB cJ y_C_forget b_C_forget 3 (some .int) 7 110 [.ref (ad 0), .int op] (wC ad cI cZ cB σ β mk (wo ao cJ f ρ)) "java/lang/IllegalArgumentException") : kH l dC dI cI cZ cB cJ y_L_forget b_L_forget 4 [(0, 9, 12, 21), (0, 9, 15, 13)] [.ref (ad 0), .int op, .ref ao] (wC ad cI cZ cB σ β mk (wo ao cJ f ρ)) 2 (wC ad cI cZ cB σ β mk (wo ao cJ f ρ)) := by
  refine hM.of (lv := [(0, .ref (ad 0)), (1, .int op), (2, .ref ao)]) (own := R_L) jE2_loc (by decide) rfl rfl (Nat.le_of_ble_eq_true rfl) rfl ?_
  intro p e s m args below meth c A hC0 hr hlk htab
  have hC := hC0.weak jE2_1
  refine j_aload_n hC 2 1 rfl d_L_forget_0 rfl rfl ?_
  refine j_iconst (v := 0) hC 2 rfl d_L_forget_1 (by decide) ?_
  refine j_aload_n hC 0 3 rfl d_L_forget_2 rfl rfl ?_
  refine j_iload_n hC 1 4 rfl d_L_forget_3 rfl rfl ?_
  refine j_catch hC jE_loc jT_good htab (As := [_]) hK yk_C_forget lk_L_44 ⟨Nat.le_of_ble_eq_true rfl, Nat.le_of_ble_eq_true rfl⟩ ⟨Nat.le_of_ble_eq_true rfl, Nat.le_of_ble_eq_true rfl⟩ 0 rfl rfl rfl rfl (Nat.le_of_ble_eq_true rfl) d_L_forget_4 rfl 15 ⟨⟨by decide, by decide, by decide⟩, "java/lang/IndexOutOfBoundsException", hC.t _ (List.mem_cons_of_mem _ hc_21), Or.inr ⟨(hC0.ev s (fun _ _ _ => rfl) (State.WarmedH.refl s)).2 _ (List.mem_of_getElem? (i := 1) rfl), ⟨⟨by decide, by decide, by decide⟩, "java/lang/IllegalArgumentException", hC.t _ (List.mem_cons_of_mem _ hc_13), Or.inl ⟨rfl, rfl⟩⟩⟩⟩ (fun a => ?_)
  refine j_astore_n (lv' := [(3, _), (0, _), (1, _), (2, _)]) hC 16 rfl d_L_forget_15 rfl (by decide) rfl ?_
  refine j_iconst (v := 2) hC 17 rfl d_L_forget_16 (by decide) ?_
  exact j_iretH hC hr hlk d_L_forget_17 rfl rfl ⟨Nat.le_refl _, Nat.le_refl _⟩
end KH
