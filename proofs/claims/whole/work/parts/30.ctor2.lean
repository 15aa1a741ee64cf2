section KI
variable {l : Launch} {dC : Nat → ClassId} {dI : Nat → Nat → Nat} {cI cZ cB cJ : ClassId} {ρ : va_W}
set_option maxHeartbeats 4000000 in
set_option maxRecDepth 100000 in
theorem i_O_init {a : Nat} : kI l dC dI cI cZ cB cJ y_O_init b_O_init 10 1664 1 20 a ((a, .inr (1, [.null, .null, .null, .null, .null, .null, .null, .null, .null, .null])) :: (ρ)) (fun w' => ∃ q0 q1 q2 q3 q4 q5 q6 q7 q8 q9 : Nat, w' = (a, .inr (1, [.ref q0, .ref q1, .ref q2, .ref q3, .ref q4, .ref q5, .ref q6, .ref q7, .ref q8, .ref q9])) :: (ρ ++ [(q0, .inl (cI, 128, .inl (fun _ => 0)))] ++ [(q1, .inl (cI, 128, .inl (fun _ => 0)))] ++ [(q2, .inl (cI, 128, .inl (fun _ => 0)))] ++ [(q3, .inl (cI, 128, .inl (fun _ => 0)))] ++ [(q4, .inl (cZ, 128, .inl (fun _ => 0)))] ++ [(q5, .inl (cI, 128, .inl (fun _ => 0)))] ++ [(q6, .inl (cZ, 128, .inl (fun _ => 0)))] ++ [(q7, .inl (cZ, 128, .inl (fun _ => 0)))] ++ [(q8, .inl (cI, 128, .inl (fun _ => 0)))] ++ [(q9, .inl (cI, 512, .inl (fun _ => 0)))])) := by
  refine iM.of (lv := [(0, .ref a)]) (own := R_O) (ret := none) jE_loc (by decide) rfl rfl (Nat.le_of_ble_eq_true rfl) rfl ?_
  intro p e s m args below meth c A hC hr hlk hnm
  refine j_aload_n hC 0 1 rfl d_O_init_0 rfl rfl ?_
  refine j_obj hC (List.mem_cons_of_mem _ ol_O) (List.mem_cons_of_mem _ oi_1) (List.mem_cons_of_mem _ oi_2) (Nat.le_of_ble_eq_true rfl) (Nat.le_of_ble_eq_true rfl) 4 rfl d_O_init_1 ?_
  refine j_aload_n hC 0 5 rfl d_O_init_4 rfl rfl ?_
  refine j_sipush (v := 128) hC 8 rfl d_O_init_5 (by decide) ?_
  refine j_newa hC (ty := .int) rfl (List.mem_cons_of_mem _ ac_int) 0 rfl ra_int (N' := 128) (a0 := (128, .inl (fun _ => 0))) (fun _ => rfl) (by decide) (by decide) (Nat.le_of_ble_eq_true rfl) (Nat.le_of_ble_eq_true rfl) (Nat.le_of_ble_eq_true rfl) 10 rfl d_O_init_8 (fun q0 => ?_)
  refine j_putF hC iw_O t_O tk_O n_O 0 rfl rfl 0 (by decide) (List.mem_cons_of_mem _ fk_O_kinds) rfl hnm rfl (ty := .array .int) (v := .ref q0) (by decide +kernel) rfl rfl (Nat.le_of_ble_eq_true rfl) 13 rfl d_O_init_10 ?_
  refine j_eqw (w2 := (a, .inr (1, [.ref q0, .null, .null, .null, .null, .null, .null, .null, .null, .null])) :: (ρ ++ [(q0, .inl (cI, 128, .inl (fun _ => 0)))])) rfl ?_
  refine j_aload_n hC 0 14 rfl d_O_init_13 rfl rfl ?_
  refine j_sipush (v := 128) hC 17 rfl d_O_init_14 (by decide) ?_
  refine j_newa hC (ty := .int) rfl (List.mem_cons_of_mem _ ac_int) 0 rfl ra_int (N' := 128) (a0 := (128, .inl (fun _ => 0))) (fun _ => rfl) (by decide) (by decide) (Nat.le_of_ble_eq_true rfl) (Nat.le_of_ble_eq_true rfl) (Nat.le_of_ble_eq_true rfl) 19 rfl d_O_init_17 (fun q1 => ?_)
  refine j_putF hC iw_O t_O tk_O n_O 0 rfl rfl 1 (by decide) (List.mem_cons_of_mem _ fk_O_sizes) rfl hnm rfl (ty := .array .int) (v := .ref q1) (by decide +kernel) rfl rfl (Nat.le_of_ble_eq_true rfl) 22 rfl d_O_init_19 ?_
  refine j_eqw (w2 := (a, .inr (1, [.ref q0, .ref q1, .null, .null, .null, .null, .null, .null, .null, .null])) :: (ρ ++ [(q0, .inl (cI, 128, .inl (fun _ => 0)))] ++ [(q1, .inl (cI, 128, .inl (fun _ => 0)))])) rfl ?_
  refine j_aload_n hC 0 23 rfl d_O_init_22 rfl rfl ?_
  refine j_sipush (v := 128) hC 26 rfl d_O_init_23 (by decide) ?_
  refine j_newa hC (ty := .int) rfl (List.mem_cons_of_mem _ ac_int) 0 rfl ra_int (N' := 128) (a0 := (128, .inl (fun _ => 0))) (fun _ => rfl) (by decide) (by decide) (Nat.le_of_ble_eq_true rfl) (Nat.le_of_ble_eq_true rfl) (Nat.le_of_ble_eq_true rfl) 28 rfl d_O_init_26 (fun q2 => ?_)
  refine j_putF hC iw_O t_O tk_O n_O 0 rfl rfl 2 (by decide) (List.mem_cons_of_mem _ fk_O_programs) rfl hnm rfl (ty := .array .int) (v := .ref q2) (by decide +kernel) rfl rfl (Nat.le_of_ble_eq_true rfl) 31 rfl d_O_init_28 ?_
  refine j_eqw (w2 := (a, .inr (1, [.ref q0, .ref q1, .ref q2, .null, .null, .null, .null, .null, .null, .null])) :: (ρ ++ [(q0, .inl (cI, 128, .inl (fun _ => 0)))] ++ [(q1, .inl (cI, 128, .inl (fun _ => 0)))] ++ [(q2, .inl (cI, 128, .inl (fun _ => 0)))])) rfl ?_
  refine j_aload_n hC 0 32 rfl d_O_init_31 rfl rfl ?_
  refine j_sipush (v := 128) hC 35 rfl d_O_init_32 (by decide) ?_
  refine j_newa hC (ty := .int) rfl (List.mem_cons_of_mem _ ac_int) 0 rfl ra_int (N' := 128) (a0 := (128, .inl (fun _ => 0))) (fun _ => rfl) (by decide) (by decide) (Nat.le_of_ble_eq_true rfl) (Nat.le_of_ble_eq_true rfl) (Nat.le_of_ble_eq_true rfl) 37 rfl d_O_init_35 (fun q3 => ?_)
  refine j_putF hC iw_O t_O tk_O n_O 0 rfl rfl 3 (by decide) (List.mem_cons_of_mem _ fk_O_addresses) rfl hnm rfl (ty := .array .int) (v := .ref q3) (by decide +kernel) rfl rfl (Nat.le_of_ble_eq_true rfl) 40 rfl d_O_init_37 ?_
  refine j_eqw (w2 := (a, .inr (1, [.ref q0, .ref q1, .ref q2, .ref q3, .null, .null, .null, .null, .null, .null])) :: (ρ ++ [(q0, .inl (cI, 128, .inl (fun _ => 0)))] ++ [(q1, .inl (cI, 128, .inl (fun _ => 0)))] ++ [(q2, .inl (cI, 128, .inl (fun _ => 0)))] ++ [(q3, .inl (cI, 128, .inl (fun _ => 0)))])) rfl ?_
  refine j_aload_n hC 0 41 rfl d_O_init_40 rfl rfl ?_
  refine j_sipush (v := 128) hC 44 rfl d_O_init_41 (by decide) ?_
  refine j_newa hC (ty := .boolean) rfl (List.mem_cons_of_mem _ ac_boolean) 1 rfl ra_boolean (N' := 128) (a0 := (128, .inl (fun _ => 0))) (fun _ => rfl) (by decide) (by decide) (Nat.le_of_ble_eq_true rfl) (Nat.le_of_ble_eq_true rfl) (Nat.le_of_ble_eq_true rfl) 46 rfl d_O_init_44 (fun q4 => ?_)
  refine j_putF hC iw_O t_O tk_O n_O 0 rfl rfl 4 (by decide) (List.mem_cons_of_mem _ fk_O_addressTold) rfl hnm rfl (ty := .array .boolean) (v := .ref q4) (by decide +kernel) rfl rfl (Nat.le_of_ble_eq_true rfl) 49 rfl d_O_init_46 ?_
  refine j_eqw (w2 := (a, .inr (1, [.ref q0, .ref q1, .ref q2, .ref q3, .ref q4, .null, .null, .null, .null, .null])) :: (ρ ++ [(q0, .inl (cI, 128, .inl (fun _ => 0)))] ++ [(q1, .inl (cI, 128, .inl (fun _ => 0)))] ++ [(q2, .inl (cI, 128, .inl (fun _ => 0)))] ++ [(q3, .inl (cI, 128, .inl (fun _ => 0)))] ++ [(q4, .inl (cZ, 128, .inl (fun _ => 0)))])) rfl ?_
  refine j_aload_n hC 0 50 rfl d_O_init_49 rfl rfl ?_
  refine j_sipush (v := 128) hC 53 rfl d_O_init_50 (by decide) ?_
  refine j_newa hC (ty := .int) rfl (List.mem_cons_of_mem _ ac_int) 0 rfl ra_int (N' := 128) (a0 := (128, .inl (fun _ => 0))) (fun _ => rfl) (by decide) (by decide) (Nat.le_of_ble_eq_true rfl) (Nat.le_of_ble_eq_true rfl) (Nat.le_of_ble_eq_true rfl) 55 rfl d_O_init_53 (fun q5 => ?_)
  refine j_putF hC iw_O t_O tk_O n_O 0 rfl rfl 5 (by decide) (List.mem_cons_of_mem _ fk_O_numbers) rfl hnm rfl (ty := .array .int) (v := .ref q5) (by decide +kernel) rfl rfl (Nat.le_of_ble_eq_true rfl) 58 rfl d_O_init_55 ?_
  refine j_eqw (w2 := (a, .inr (1, [.ref q0, .ref q1, .ref q2, .ref q3, .ref q4, .ref q5, .null, .null, .null, .null])) :: (ρ ++ [(q0, .inl (cI, 128, .inl (fun _ => 0)))] ++ [(q1, .inl (cI, 128, .inl (fun _ => 0)))] ++ [(q2, .inl (cI, 128, .inl (fun _ => 0)))] ++ [(q3, .inl (cI, 128, .inl (fun _ => 0)))] ++ [(q4, .inl (cZ, 128, .inl (fun _ => 0)))] ++ [(q5, .inl (cI, 128, .inl (fun _ => 0)))])) rfl ?_
  refine j_aload_n hC 0 59 rfl d_O_init_58 rfl rfl ?_
  refine j_sipush (v := 128) hC 62 rfl d_O_init_59 (by decide) ?_
  refine j_newa hC (ty := .boolean) rfl (List.mem_cons_of_mem _ ac_boolean) 1 rfl ra_boolean (N' := 128) (a0 := (128, .inl (fun _ => 0))) (fun _ => rfl) (by decide) (by decide) (Nat.le_of_ble_eq_true rfl) (Nat.le_of_ble_eq_true rfl) (Nat.le_of_ble_eq_true rfl) 64 rfl d_O_init_62 (fun q6 => ?_)
  refine j_putF hC iw_O t_O tk_O n_O 0 rfl rfl 6 (by decide) (List.mem_cons_of_mem _ fk_O_numberTold) rfl hnm rfl (ty := .array .boolean) (v := .ref q6) (by decide +kernel) rfl rfl (Nat.le_of_ble_eq_true rfl) 67 rfl d_O_init_64 ?_
  refine j_eqw (w2 := (a, .inr (1, [.ref q0, .ref q1, .ref q2, .ref q3, .ref q4, .ref q5, .ref q6, .null, .null, .null])) :: (ρ ++ [(q0, .inl (cI, 128, .inl (fun _ => 0)))] ++ [(q1, .inl (cI, 128, .inl (fun _ => 0)))] ++ [(q2, .inl (cI, 128, .inl (fun _ => 0)))] ++ [(q3, .inl (cI, 128, .inl (fun _ => 0)))] ++ [(q4, .inl (cZ, 128, .inl (fun _ => 0)))] ++ [(q5, .inl (cI, 128, .inl (fun _ => 0)))] ++ [(q6, .inl (cZ, 128, .inl (fun _ => 0)))])) rfl ?_
  refine j_aload_n hC 0 68 rfl d_O_init_67 rfl rfl ?_
  refine j_sipush (v := 128) hC 71 rfl d_O_init_68 (by decide) ?_
  refine j_newa hC (ty := .boolean) rfl (List.mem_cons_of_mem _ ac_boolean) 1 rfl ra_boolean (N' := 128) (a0 := (128, .inl (fun _ => 0))) (fun _ => rfl) (by decide) (by decide) (Nat.le_of_ble_eq_true rfl) (Nat.le_of_ble_eq_true rfl) (Nat.le_of_ble_eq_true rfl) 73 rfl d_O_init_71 (fun q7 => ?_)
  refine j_putF hC iw_O t_O tk_O n_O 0 rfl rfl 7 (by decide) (List.mem_cons_of_mem _ fk_O_done) rfl hnm rfl (ty := .array .boolean) (v := .ref q7) (by decide +kernel) rfl rfl (Nat.le_of_ble_eq_true rfl) 76 rfl d_O_init_73 ?_
  refine j_eqw (w2 := (a, .inr (1, [.ref q0, .ref q1, .ref q2, .ref q3, .ref q4, .ref q5, .ref q6, .ref q7, .null, .null])) :: (ρ ++ [(q0, .inl (cI, 128, .inl (fun _ => 0)))] ++ [(q1, .inl (cI, 128, .inl (fun _ => 0)))] ++ [(q2, .inl (cI, 128, .inl (fun _ => 0)))] ++ [(q3, .inl (cI, 128, .inl (fun _ => 0)))] ++ [(q4, .inl (cZ, 128, .inl (fun _ => 0)))] ++ [(q5, .inl (cI, 128, .inl (fun _ => 0)))] ++ [(q6, .inl (cZ, 128, .inl (fun _ => 0)))] ++ [(q7, .inl (cZ, 128, .inl (fun _ => 0)))])) rfl ?_
  refine j_aload_n hC 0 77 rfl d_O_init_76 rfl rfl ?_
  refine j_sipush (v := 128) hC 80 rfl d_O_init_77 (by decide) ?_
  refine j_newa hC (ty := .int) rfl (List.mem_cons_of_mem _ ac_int) 0 rfl ra_int (N' := 128) (a0 := (128, .inl (fun _ => 0))) (fun _ => rfl) (by decide) (by decide) (Nat.le_of_ble_eq_true rfl) (Nat.le_of_ble_eq_true rfl) (Nat.le_of_ble_eq_true rfl) 82 rfl d_O_init_80 (fun q8 => ?_)
  refine j_putF hC iw_O t_O tk_O n_O 0 rfl rfl 8 (by decide) (List.mem_cons_of_mem _ fk_O_loadedNumbers) rfl hnm rfl (ty := .array .int) (v := .ref q8) (by decide +kernel) rfl rfl (Nat.le_of_ble_eq_true rfl) 85 rfl d_O_init_82 ?_
  refine j_eqw (w2 := (a, .inr (1, [.ref q0, .ref q1, .ref q2, .ref q3, .ref q4, .ref q5, .ref q6, .ref q7, .ref q8, .null])) :: (ρ ++ [(q0, .inl (cI, 128, .inl (fun _ => 0)))] ++ [(q1, .inl (cI, 128, .inl (fun _ => 0)))] ++ [(q2, .inl (cI, 128, .inl (fun _ => 0)))] ++ [(q3, .inl (cI, 128, .inl (fun _ => 0)))] ++ [(q4, .inl (cZ, 128, .inl (fun _ => 0)))] ++ [(q5, .inl (cI, 128, .inl (fun _ => 0)))] ++ [(q6, .inl (cZ, 128, .inl (fun _ => 0)))] ++ [(q7, .inl (cZ, 128, .inl (fun _ => 0)))] ++ [(q8, .inl (cI, 128, .inl (fun _ => 0)))])) rfl ?_
  refine j_aload_n hC 0 86 rfl d_O_init_85 rfl rfl ?_
  refine j_sipush (v := 512) hC 89 rfl d_O_init_86 (by decide) ?_
  refine j_newa hC (ty := .int) rfl (List.mem_cons_of_mem _ ac_int) 0 rfl ra_int (N' := 512) (a0 := (512, .inl (fun _ => 0))) (fun _ => rfl) (by decide) (by decide) (Nat.le_of_ble_eq_true rfl) (Nat.le_of_ble_eq_true rfl) (Nat.le_of_ble_eq_true rfl) 91 rfl d_O_init_89 (fun q9 => ?_)
  refine j_putF hC iw_O t_O tk_O n_O 0 rfl rfl 9 (by decide) (List.mem_cons_of_mem _ fk_O_sources) rfl hnm rfl (ty := .array .int) (v := .ref q9) (by decide +kernel) rfl rfl (Nat.le_of_ble_eq_true rfl) 94 rfl d_O_init_91 ?_
  refine j_eqw (w2 := (a, .inr (1, [.ref q0, .ref q1, .ref q2, .ref q3, .ref q4, .ref q5, .ref q6, .ref q7, .ref q8, .ref q9])) :: (ρ ++ [(q0, .inl (cI, 128, .inl (fun _ => 0)))] ++ [(q1, .inl (cI, 128, .inl (fun _ => 0)))] ++ [(q2, .inl (cI, 128, .inl (fun _ => 0)))] ++ [(q3, .inl (cI, 128, .inl (fun _ => 0)))] ++ [(q4, .inl (cZ, 128, .inl (fun _ => 0)))] ++ [(q5, .inl (cI, 128, .inl (fun _ => 0)))] ++ [(q6, .inl (cZ, 128, .inl (fun _ => 0)))] ++ [(q7, .inl (cZ, 128, .inl (fun _ => 0)))] ++ [(q8, .inl (cI, 128, .inl (fun _ => 0)))] ++ [(q9, .inl (cI, 512, .inl (fun _ => 0)))])) rfl ?_
  exact j_vretI hC hr hlk d_O_init_94 ⟨q0, q1, q2, q3, q4, q5, q6, q7, q8, q9, rfl⟩
set_option maxHeartbeats 4000000 in
set_option maxRecDepth 100000 in
theorem i_B_init {a : Nat} : kI l dC dI cI cZ cB cJ y_B_init b_B_init 4 16 1 20 a ((a, .inr (2, [.null, .null, .null, .null, .int 0])) :: (ρ)) (fun w' => ∃ q0 q1 q2 q3 : Nat, w' = (a, .inr (2, [.ref q0, .ref q1, .ref q2, .ref q3, .int 0])) :: (ρ ++ [(q0, .inl (cI, 4, .inl (fun _ => 0)))] ++ [(q1, .inl (cI, 4, .inl (fun _ => 0)))] ++ [(q2, .inl (cI, 4, .inl (fun _ => 0)))] ++ [(q3, .inl (cI, 4, .inl (fun _ => 0)))])) := by
  refine iM.of (lv := [(0, .ref a)]) (own := R_B) (ret := none) jE_loc (by decide) rfl rfl (Nat.le_of_ble_eq_true rfl) rfl ?_
  intro p e s m args below meth c A hC hr hlk hnm
  refine j_aload_n hC 0 1 rfl d_B_init_0 rfl rfl ?_
  refine j_obj hC (List.mem_cons_of_mem _ ol_B) (List.mem_cons_of_mem _ oi_1) (List.mem_cons_of_mem _ oi_2) (Nat.le_of_ble_eq_true rfl) (Nat.le_of_ble_eq_true rfl) 4 rfl d_B_init_1 ?_
  refine j_aload_n hC 0 5 rfl d_B_init_4 rfl rfl ?_
  refine j_iconst (v := 4) hC 6 rfl d_B_init_5 (by decide) ?_
  refine j_newa hC (ty := .int) rfl (List.mem_cons_of_mem _ ac_int) 0 rfl ra_int (N' := 4) (a0 := (4, .inl (fun _ => 0))) (fun _ => rfl) (by decide) (by decide) (Nat.le_of_ble_eq_true rfl) (Nat.le_of_ble_eq_true rfl) (Nat.le_of_ble_eq_true rfl) 8 rfl d_B_init_6 (fun q0 => ?_)
  refine j_putF hC iw_B t_B tk_B n_B 0 rfl rfl 0 (by decide) (List.mem_cons_of_mem _ fk_B_stores) rfl hnm rfl (ty := .array .int) (v := .ref q0) (by decide +kernel) rfl rfl (Nat.le_of_ble_eq_true rfl) 11 rfl d_B_init_8 ?_
  refine j_eqw (w2 := (a, .inr (2, [.ref q0, .null, .null, .null, .int 0])) :: (ρ ++ [(q0, .inl (cI, 4, .inl (fun _ => 0)))])) rfl ?_
  refine j_aload_n hC 0 12 rfl d_B_init_11 rfl rfl ?_
  refine j_iconst (v := 4) hC 13 rfl d_B_init_12 (by decide) ?_
  refine j_newa hC (ty := .int) rfl (List.mem_cons_of_mem _ ac_int) 0 rfl ra_int (N' := 4) (a0 := (4, .inl (fun _ => 0))) (fun _ => rfl) (by decide) (by decide) (Nat.le_of_ble_eq_true rfl) (Nat.le_of_ble_eq_true rfl) (Nat.le_of_ble_eq_true rfl) 15 rfl d_B_init_13 (fun q1 => ?_)
  refine j_putF hC iw_B t_B tk_B n_B 0 rfl rfl 1 (by decide) (List.mem_cons_of_mem _ fk_B_addresses) rfl hnm rfl (ty := .array .int) (v := .ref q1) (by decide +kernel) rfl rfl (Nat.le_of_ble_eq_true rfl) 18 rfl d_B_init_15 ?_
  refine j_eqw (w2 := (a, .inr (2, [.ref q0, .ref q1, .null, .null, .int 0])) :: (ρ ++ [(q0, .inl (cI, 4, .inl (fun _ => 0)))] ++ [(q1, .inl (cI, 4, .inl (fun _ => 0)))])) rfl ?_
  refine j_aload_n hC 0 19 rfl d_B_init_18 rfl rfl ?_
  refine j_iconst (v := 4) hC 20 rfl d_B_init_19 (by decide) ?_
  refine j_newa hC (ty := .int) rfl (List.mem_cons_of_mem _ ac_int) 0 rfl ra_int (N' := 4) (a0 := (4, .inl (fun _ => 0))) (fun _ => rfl) (by decide) (by decide) (Nat.le_of_ble_eq_true rfl) (Nat.le_of_ble_eq_true rfl) (Nat.le_of_ble_eq_true rfl) 22 rfl d_B_init_20 (fun q2 => ?_)
  refine j_putF hC iw_B t_B tk_B n_B 0 rfl rfl 2 (by decide) (List.mem_cons_of_mem _ fk_B_sizes) rfl hnm rfl (ty := .array .int) (v := .ref q2) (by decide +kernel) rfl rfl (Nat.le_of_ble_eq_true rfl) 25 rfl d_B_init_22 ?_
  refine j_eqw (w2 := (a, .inr (2, [.ref q0, .ref q1, .ref q2, .null, .int 0])) :: (ρ ++ [(q0, .inl (cI, 4, .inl (fun _ => 0)))] ++ [(q1, .inl (cI, 4, .inl (fun _ => 0)))] ++ [(q2, .inl (cI, 4, .inl (fun _ => 0)))])) rfl ?_
  refine j_aload_n hC 0 26 rfl d_B_init_25 rfl rfl ?_
  refine j_iconst (v := 4) hC 27 rfl d_B_init_26 (by decide) ?_
  refine j_newa hC (ty := .int) rfl (List.mem_cons_of_mem _ ac_int) 0 rfl ra_int (N' := 4) (a0 := (4, .inl (fun _ => 0))) (fun _ => rfl) (by decide) (by decide) (Nat.le_of_ble_eq_true rfl) (Nat.le_of_ble_eq_true rfl) (Nat.le_of_ble_eq_true rfl) 29 rfl d_B_init_27 (fun q3 => ?_)
  refine j_putF hC iw_B t_B tk_B n_B 0 rfl rfl 3 (by decide) (List.mem_cons_of_mem _ fk_B_numbers) rfl hnm rfl (ty := .array .int) (v := .ref q3) (by decide +kernel) rfl rfl (Nat.le_of_ble_eq_true rfl) 32 rfl d_B_init_29 ?_
  refine j_eqw (w2 := (a, .inr (2, [.ref q0, .ref q1, .ref q2, .ref q3, .int 0])) :: (ρ ++ [(q0, .inl (cI, 4, .inl (fun _ => 0)))] ++ [(q1, .inl (cI, 4, .inl (fun _ => 0)))] ++ [(q2, .inl (cI, 4, .inl (fun _ => 0)))] ++ [(q3, .inl (cI, 4, .inl (fun _ => 0)))])) rfl ?_
  refine j_aload_n hC 0 33 rfl d_B_init_32 rfl rfl ?_
  refine j_iconst (v := 0) hC 34 rfl d_B_init_33 (by decide) ?_
  refine j_putI hC iw_B t_B tk_B n_B 0 rfl rfl 4 (by decide) (List.mem_cons_of_mem _ fk_B_held) rfl rfl (ty := .int) (v := .int 0) (by decide +kernel) rfl rfl (Nat.le_of_ble_eq_true rfl) 37 rfl d_B_init_34 ?_
  refine j_eqw (w2 := (a, .inr (2, [.ref q0, .ref q1, .ref q2, .ref q3, .int 0])) :: (ρ ++ [(q0, .inl (cI, 4, .inl (fun _ => 0)))] ++ [(q1, .inl (cI, 4, .inl (fun _ => 0)))] ++ [(q2, .inl (cI, 4, .inl (fun _ => 0)))] ++ [(q3, .inl (cI, 4, .inl (fun _ => 0)))])) rfl ?_
  exact j_vretI hC hr hlk d_B_init_37 ⟨q0, q1, q2, q3, rfl⟩
set_option maxHeartbeats 4000000 in
set_option maxRecDepth 100000 in
theorem i_Y_init {a : Nat} : kI l dC dI cI cZ cB cJ y_Y_init b_Y_init 1 4096 1 20 a ((a, .inr (3, [.null])) :: (ρ)) (fun w' => ∃ q0 : Nat, w' = (a, .inr (3, [.ref q0])) :: (ρ ++ [(q0, .inl (cB, 4096, .inl (fun _ => 0)))])) := by
  refine iM.of (lv := [(0, .ref a)]) (own := R_Y) (ret := none) jE_loc (by decide) rfl rfl (Nat.le_of_ble_eq_true rfl) rfl ?_
  intro p e s m args below meth c A hC hr hlk hnm
  refine j_aload_n hC 0 1 rfl d_Y_init_0 rfl rfl ?_
  refine j_obj hC (List.mem_cons_of_mem _ ol_Y) (List.mem_cons_of_mem _ oi_1) (List.mem_cons_of_mem _ oi_2) (Nat.le_of_ble_eq_true rfl) (Nat.le_of_ble_eq_true rfl) 4 rfl d_Y_init_1 ?_
  refine j_aload_n hC 0 5 rfl d_Y_init_4 rfl rfl ?_
  refine j_sipush (v := 4096) hC 8 rfl d_Y_init_5 (by decide) ?_
  refine j_newa hC (ty := .byte) rfl (List.mem_cons_of_mem _ ac_byte) 2 rfl ra_byte (N' := 4096) (a0 := (4096, .inl (fun _ => 0))) (fun _ => rfl) (by decide) (by decide) (Nat.le_of_ble_eq_true rfl) (Nat.le_of_ble_eq_true rfl) (Nat.le_of_ble_eq_true rfl) 10 rfl d_Y_init_8 (fun q0 => ?_)
  refine j_putF hC iw_Y t_Y tk_Y n_Y 0 rfl rfl 0 (by decide) (List.mem_cons_of_mem _ fk_Y_cells) rfl hnm rfl (ty := .array .byte) (v := .ref q0) (by decide +kernel) rfl rfl (Nat.le_of_ble_eq_true rfl) 13 rfl d_Y_init_10 ?_
  refine j_eqw (w2 := (a, .inr (3, [.ref q0])) :: (ρ ++ [(q0, .inl (cB, 4096, .inl (fun _ => 0)))])) rfl ?_
  exact j_vretI hC hr hlk d_Y_init_13 ⟨q0, rfl⟩
end KI
