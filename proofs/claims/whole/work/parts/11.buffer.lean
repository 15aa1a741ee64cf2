section KC
variable {l : Launch} {dC : Nat → ClassId} {dI : Nat → Nat → Nat} {cI cZ cB cJ : ClassId} {ad : Nat → Nat} {σ : S2} {β : B2} {mk : Int64} {ρ : va_W} {am : Nat → Nat} {μ : S2} {ν : B2}
set_option maxHeartbeats 4000000 in
set_option maxRecDepth 100000 in
theorem c_O_byteAt {op at0 : Int32}  : kM l dC dI cI cZ cB cJ y_O_byteAt b_O_byteAt 3 (some .int) 1 22 [.ref (ad 1), .int op, .int at0] (wC ad cI cZ cB σ β mk ρ) (some (.int (bon (σ 15 (ix op)) (σ 11 (ix op)) (at0 - σ 13 (ix op))))) (wC ad cI cZ cB σ β mk ρ) := by
  refine jM.of (lv := [(0, .ref (ad 1)), (1, .int op), (2, .int at0)]) (own := R_O) jE_loc (by decide) rfl rfl (Nat.le_of_ble_eq_true rfl) rfl ?_
  intro p e s m args below meth c A hC hr hlk
  refine j_aload_n hC 0 1 rfl d_O_byteAt_0 rfl rfl ?_
  refine j_iload_n hC 1 2 rfl d_O_byteAt_1 rfl rfl ?_
  refine j_callVi hC jE_loc jT_good (As := [_]) c_O_numberOf yk_O_numberOf lk_O_61 ⟨rfl, rfl⟩ ⟨Nat.le_of_ble_eq_true rfl, Nat.le_of_ble_eq_true rfl⟩ 1 rfl rfl rfl rfl (Nat.le_of_ble_eq_true rfl) ⟨Nat.zero_le _, Nat.zero_le _⟩ d_O_byteAt_2 5 rfl rfl ?_
  refine j_aload_n hC 0 6 rfl d_O_byteAt_5 rfl rfl ?_
  refine j_iload_n hC 1 7 rfl d_O_byteAt_6 rfl rfl ?_
  refine j_callVi hC jE_loc jT_good (As := [_]) c_O_bytesOf yk_O_bytesOf lk_O_58 ⟨rfl, rfl⟩ ⟨Nat.le_of_ble_eq_true rfl, Nat.le_of_ble_eq_true rfl⟩ 1 rfl rfl rfl rfl (Nat.le_of_ble_eq_true rfl) ⟨Nat.zero_le _, Nat.zero_le _⟩ d_O_byteAt_7 10 rfl rfl ?_
  refine j_iload_n hC 2 11 rfl d_O_byteAt_10 rfl rfl ?_
  refine j_aload_n hC 0 12 rfl d_O_byteAt_11 rfl rfl ?_
  refine j_iload_n hC 1 13 rfl d_O_byteAt_12 rfl rfl ?_
  refine j_callVi hC jE_loc jT_good (As := [_]) c_O_addressOf yk_O_addressOf lk_O_54 ⟨rfl, rfl⟩ ⟨Nat.le_of_ble_eq_true rfl, Nat.le_of_ble_eq_true rfl⟩ 1 rfl rfl rfl rfl (Nat.le_of_ble_eq_true rfl) ⟨Nat.zero_le _, Nat.zero_le _⟩ d_O_byteAt_13 16 rfl rfl ?_
  refine j_isub hC 17 rfl d_O_byteAt_16 ?_
  refine j_callSNi hC jE_loc jT_good (As := [_, _, _]) c_C_byteOfNumber yk_C_byteOfNumber (nest_O_64 hC) ⟨rfl, rfl⟩ ⟨Nat.le_of_ble_eq_true rfl, Nat.le_of_ble_eq_true rfl⟩ rfl (Nat.le_of_ble_eq_true rfl) ⟨Nat.zero_le _, Nat.zero_le _⟩ d_O_byteAt_17 20 rfl rfl ?_
  exact j_iret hC hr hlk d_O_byteAt_20 rfl rfl
set_option maxHeartbeats 4000000 in
set_option maxRecDepth 100000 in
theorem c_Y_byteAt {at0 : Int32}  : kM l dC dI cI cZ cB cJ y_Y_byteAt b_Y_byteAt 2 (some .int) 0 0 [.ref (ad 3), .int at0] (wC ad cI cZ cB σ β mk ρ) (some (.int (σ 24 (iy at0) &&& 255))) (wC ad cI cZ cB σ β mk ρ) := by
  refine jM.of (lv := [(0, .ref (ad 3)), (1, .int at0)]) (own := R_Y) jE_loc (by decide) rfl rfl (Nat.le_of_ble_eq_true rfl) rfl ?_
  intro p e s m args below meth c A hC hr hlk
  refine j_aload_n hC 0 1 rfl d_Y_byteAt_0 rfl rfl ?_
  refine g_Y_cells hC 4 rfl d_Y_byteAt_1 ?_
  refine j_iload_n hC 1 5 rfl d_Y_byteAt_4 rfl rfl ?_
  refine j_sipush (v := 4095) hC 8 rfl d_Y_byteAt_5 (by decide) ?_
  refine j_iand hC 9 rfl d_Y_byteAt_8 ?_
  refine ld_Y_cells hC (iy_in _) 10 rfl d_Y_byteAt_9 ?_
  refine j_sipush (v := 255) hC 13 rfl d_Y_byteAt_10 (by decide) ?_
  refine j_iand hC 14 rfl d_Y_byteAt_13 ?_
  exact j_iret hC hr hlk d_Y_byteAt_14 rfl rfl
set_option maxHeartbeats 4000000 in
set_option maxRecDepth 100000 in
theorem c_Y_setByte {at0 v : Int32}  : kM l dC dI cI cZ cB cJ y_Y_setByte b_Y_setByte 3 none 0 0 [.ref (ad 3), .int at0, .int v] (wC ad cI cZ cB σ β mk ρ) none (wC ad cI cZ cB (sA σ 24 (iy at0) v.toInt8.toInt32) β mk ρ) := by
  refine jM.of (lv := [(0, .ref (ad 3)), (1, .int at0), (2, .int v)]) (own := R_Y) jE_loc (by decide) rfl rfl (Nat.le_of_ble_eq_true rfl) rfl ?_
  intro p e s m args below meth c A hC hr hlk
  refine j_aload_n hC 0 1 rfl d_Y_setByte_0 rfl rfl ?_
  refine g_Y_cells hC 4 rfl d_Y_setByte_1 ?_
  refine j_iload_n hC 1 5 rfl d_Y_setByte_4 rfl rfl ?_
  refine j_sipush (v := 4095) hC 8 rfl d_Y_setByte_5 (by decide) ?_
  refine j_iand hC 9 rfl d_Y_setByte_8 ?_
  refine j_iload_n hC 2 10 rfl d_Y_setByte_9 rfl rfl ?_
  refine j_i2b hC 11 rfl d_Y_setByte_10 rfl ?_
  refine st_Y_cells hC (iy_in _) 12 rfl d_Y_setByte_11 ?_
  exact j_vret hC hr hlk d_Y_setByte_12 (by simp only [i8i8] <;> rfl)
set_option maxHeartbeats 4000000 in
set_option maxRecDepth 100000 in
theorem c_Y_numberAt {at0 size : Int32}  : kM l dC dI cI cZ cB cJ y_Y_numberAt b_Y_numberAt 5 (some .int) 1 21 [.ref (ad 3), .int at0, .int size] (wC ad cI cZ cB σ β mk ρ) (some (.int (nAL (σ 24) at0 size 0 0))) (wC ad cI cZ cB σ β mk ρ) := by
  refine jM.of (lv := [(0, .ref (ad 3)), (1, .int at0), (2, .int size)]) (own := R_Y) jE_loc (by decide) rfl rfl (Nat.le_of_ble_eq_true rfl) rfl ?_
  intro p e s m args below meth c A hC hr hlk
  have loop : ∀ (n : Nat) (k x : Int32), dist k size < n → nAL (σ 24) at0 size k x = nAL (σ 24) at0 size 0 0 → kJ l dC dI p e s m args below meth c A 1 21 5 (some (.int (nAL (σ 24) at0 size 0 0))) (wC ad cI cZ cB σ β mk ρ) (wC ad cI cZ cB σ β mk ρ) 5 [(4, .int k), (3, .int x), (0, .ref (ad 3)), (1, .int at0), (2, .int size)] [] := by
    intro n
    induction n with
    | zero => intro k x hd hR; exact absurd hd (Nat.not_lt_zero _)
    | succ n ih =>
      intro k x hd hR
      refine j_iload hC 0 7 rfl d_Y_numberAt_5 rfl ?_
      refine j_iload_n hC 4 8 rfl d_Y_numberAt_7 rfl rfl ?_
      refine j_icmp_ge hC 31 11 rfl d_Y_numberAt_8 (by decide) (fun c_8 => ?_) (fun c_8 => ?_)
      · refine j_iload_n hC 1 32 rfl d_Y_numberAt_31 rfl rfl ?_
        exact j_iret hC hr hlk d_Y_numberAt_32 (by rw [← hR, nAL_out c_8]) rfl
      · refine j_iload_n hC 1 12 rfl d_Y_numberAt_11 rfl rfl ?_
        refine j_bipush (v := 8) hC 14 rfl d_Y_numberAt_12 (by decide) ?_
        refine j_ishl hC 15 rfl d_Y_numberAt_14 ?_
        refine j_aload_n hC 2 16 rfl d_Y_numberAt_15 rfl rfl ?_
        refine j_iload_n hC 3 17 rfl d_Y_numberAt_16 rfl rfl ?_
        refine j_iload hC 0 19 rfl d_Y_numberAt_17 rfl ?_
        refine j_iadd hC 20 rfl d_Y_numberAt_19 ?_
        refine j_callVi hC jE_loc jT_good (As := [_]) c_Y_byteAt yk_Y_byteAt lk_Y_15 ⟨rfl, rfl⟩ ⟨Nat.le_of_ble_eq_true rfl, Nat.le_of_ble_eq_true rfl⟩ 3 rfl rfl rfl rfl (Nat.le_of_ble_eq_true rfl) ⟨Nat.zero_le _, Nat.zero_le _⟩ d_Y_numberAt_20 23 rfl rfl ?_
        refine j_ior hC 24 rfl d_Y_numberAt_23 ?_
        refine j_istore_n (lv' := [(3, _), (4, _), (0, _), (1, _), (2, _)]) hC 25 rfl d_Y_numberAt_24 rfl (by decide) rfl ?_
        refine j_iinc (lv' := [(4, _), (3, _), (0, _), (1, _), (2, _)]) hC 1 28 rfl d_Y_numberAt_25 rfl (inc1 _) (by decide) rfl ?_
        refine j_goto hC 5 d_Y_numberAt_28 (by decide) ?_
        exact ih _ _ (dist_lt c_8 hd) (by rw [← hR, nAL_in c_8])
  refine j_iconst (v := 0) hC 1 rfl d_Y_numberAt_0 (by decide) ?_
  refine j_istore_n (lv' := [(3, _), (0, _), (1, _), (2, _)]) hC 2 rfl d_Y_numberAt_1 rfl (by decide) rfl ?_
  refine j_iconst (v := 0) hC 3 rfl d_Y_numberAt_2 (by decide) ?_
  refine j_istore (lv' := [(4, _), (3, _), (0, _), (1, _), (2, _)]) hC 5 rfl d_Y_numberAt_3 (by decide) rfl ?_
  exact loop _ 0 0 (Nat.lt_succ_self _) rfl
set_option maxHeartbeats 4000000 in
set_option maxRecDepth 100000 in
theorem c_Y_write {at0 size v : Int32}  : kM l dC dI cI cZ cB cJ y_Y_write b_Y_write 5 none 1 22 [.ref (ad 3), .int at0, .int size, .int v] (wC ad cI cZ cB σ β mk ρ) none (wC ad cI cZ cB (mWL at0 size v 0 σ) β mk ρ) := by
  refine jM.of (lv := [(0, .ref (ad 3)), (1, .int at0), (2, .int size), (3, .int v)]) (own := R_Y) jE_loc (by decide) rfl rfl (Nat.le_of_ble_eq_true rfl) rfl ?_
  intro p e s m args below meth c A hC hr hlk
  have loop : ∀ (n : Nat) (k : Int32) (τ : S2), dist k size < n → mWL at0 size v k τ = mWL at0 size v 0 σ → kJ l dC dI p e s m args below meth c A 1 22 5 none (wC ad cI cZ cB (mWL at0 size v 0 σ) β mk ρ) (wC ad cI cZ cB τ β mk ρ) 3 [(4, .int k), (0, .ref (ad 3)), (1, .int at0), (2, .int size), (3, .int v)] [] := by
    intro n
    induction n with
    | zero => intro k τ hd hR; exact absurd hd (Nat.not_lt_zero _)
    | succ n ih =>
      intro k τ hd hR
      refine j_iload hC 0 5 rfl d_Y_write_3 rfl ?_
      refine j_iload_n hC 3 6 rfl d_Y_write_5 rfl rfl ?_
      refine j_icmp_ge hC 30 9 rfl d_Y_write_6 (by decide) (fun c_6 => ?_) (fun c_6 => ?_)
      · exact j_vret hC hr hlk d_Y_write_30 (by rw [← hR, mWL_out c_6])
      · refine j_aload_n hC 1 10 rfl d_Y_write_9 rfl rfl ?_
        refine j_iload_n hC 2 11 rfl d_Y_write_10 rfl rfl ?_
        refine j_iload hC 0 13 rfl d_Y_write_11 rfl ?_
        refine j_iadd hC 14 rfl d_Y_write_13 ?_
        refine j_iload_n hC 4 15 rfl d_Y_write_14 rfl rfl ?_
        refine j_iload_n hC 3 16 rfl d_Y_write_15 rfl rfl ?_
        refine j_iload hC 0 18 rfl d_Y_write_16 rfl ?_
        refine j_callSNi hC jE_loc jT_good (As := [_, _, _]) c_C_byteOfNumber yk_C_byteOfNumber (nest_Y_19 hC) ⟨rfl, rfl⟩ ⟨Nat.le_of_ble_eq_true rfl, Nat.le_of_ble_eq_true rfl⟩ rfl (Nat.le_of_ble_eq_true rfl) ⟨Nat.zero_le _, Nat.zero_le _⟩ d_Y_write_18 21 rfl rfl ?_
        refine j_callVv hC jE_loc jT_good (As := [_, _]) c_Y_setByte yk_Y_setByte lk_Y_23 ⟨rfl, rfl⟩ ⟨Nat.le_of_ble_eq_true rfl, Nat.le_of_ble_eq_true rfl⟩ 3 rfl rfl rfl rfl (Nat.le_of_ble_eq_true rfl) ⟨Nat.zero_le _, Nat.zero_le _⟩ d_Y_write_21 24 rfl rfl ?_
        refine j_iinc (lv' := [(4, _), (0, _), (1, _), (2, _), (3, _)]) hC 0 27 rfl d_Y_write_24 rfl (inc1 _) (by decide) rfl ?_
        refine j_goto hC 3 d_Y_write_27 (by decide) ?_
        exact ih _ _ (dist_lt c_6 hd) (by rw [← hR, mWL_in c_6])
  refine j_iconst (v := 0) hC 1 rfl d_Y_write_0 (by decide) ?_
  refine j_istore (lv' := [(4, _), (0, _), (1, _), (2, _), (3, _)]) hC 3 rfl d_Y_write_1 (by decide) rfl ?_
  exact loop _ 0 _ (Nat.lt_succ_self _) rfl
set_option maxHeartbeats 4000000 in
set_option maxRecDepth 100000 in
theorem c_B_size   : kM l dC dI cI cZ cB cJ y_B_size b_B_size 1 (some .int) 0 0 [.ref (ad 2)] (wC ad cI cZ cB σ β mk ρ) (some (.int (σ 6 0))) (wC ad cI cZ cB σ β mk ρ) := by
  refine jM.of (lv := [(0, .ref (ad 2))]) (own := R_B) jE_loc (by decide) rfl rfl (Nat.le_of_ble_eq_true rfl) rfl ?_
  intro p e s m args below meth c A hC hr hlk
  refine j_aload_n hC 0 1 rfl d_B_size_0 rfl rfl ?_
  refine g_B_held hC 4 rfl d_B_size_1 ?_
  exact j_iret hC hr hlk d_B_size_4 rfl rfl
set_option maxHeartbeats 4000000 in
set_option maxRecDepth 100000 in
theorem c_B_isEmpty   : kM l dC dI cI cZ cB cJ y_B_isEmpty b_B_isEmpty 1 (some .boolean) 0 0 [.ref (ad 2)] (wC ad cI cZ cB σ β mk ρ) (some (.int (bI (decide (σ 6 0 = 0))))) (wC ad cI cZ cB σ β mk ρ) := by
  refine jM.of (lv := [(0, .ref (ad 2))]) (own := R_B) jE_loc (by decide) rfl rfl (Nat.le_of_ble_eq_true rfl) rfl ?_
  intro p e s m args below meth c A hC hr hlk
  refine j_aload_n hC 0 1 rfl d_B_isEmpty_0 rfl rfl ?_
  refine g_B_held hC 4 rfl d_B_isEmpty_1 ?_
  refine j_if_ne hC 11 7 rfl d_B_isEmpty_4 (by decide) (fun c_4 => ?_) (fun c_4 => ?_)
  · refine j_iconst (v := 0) hC 12 rfl d_B_isEmpty_11 (by decide) ?_
    exact j_zret hC hr hlk d_B_isEmpty_12 (by simp [bI, c_4]) rfl
  · refine j_iconst (v := 1) hC 8 rfl d_B_isEmpty_7 (by decide) ?_
    refine j_goto hC 12 d_B_isEmpty_8 (by decide) ?_
    exact j_zret hC hr hlk d_B_isEmpty_12 (by simp [bI, c_4]) rfl
set_option maxHeartbeats 4000000 in
set_option maxRecDepth 100000 in
theorem c_B_hasRoom   : kM l dC dI cI cZ cB cJ y_B_hasRoom b_B_hasRoom 1 (some .boolean) 0 0 [.ref (ad 2)] (wC ad cI cZ cB σ β mk ρ) (some (.int (bI (!decide (4 ≤ σ 6 0))))) (wC ad cI cZ cB σ β mk ρ) := by
  refine jM.of (lv := [(0, .ref (ad 2))]) (own := R_B) jE_loc (by decide) rfl rfl (Nat.le_of_ble_eq_true rfl) rfl ?_
  intro p e s m args below meth c A hC hr hlk
  refine j_aload_n hC 0 1 rfl d_B_hasRoom_0 rfl rfl ?_
  refine g_B_held hC 4 rfl d_B_hasRoom_1 ?_
  refine j_iconst (v := 4) hC 5 rfl d_B_hasRoom_4 (by decide) ?_
  refine j_icmp_ge hC 12 8 rfl d_B_hasRoom_5 (by decide) (fun c_5 => ?_) (fun c_5 => ?_)
  · refine j_iconst (v := 0) hC 13 rfl d_B_hasRoom_12 (by decide) ?_
    exact j_zret hC hr hlk d_B_hasRoom_13 (by simp [bI, c_5]) rfl
  · refine j_iconst (v := 1) hC 9 rfl d_B_hasRoom_8 (by decide) ?_
    refine j_goto hC 13 d_B_hasRoom_9 (by decide) ?_
    exact j_zret hC hr hlk d_B_hasRoom_13 (by simp [bI, c_5]) rfl
set_option maxHeartbeats 4000000 in
set_option maxRecDepth 100000 in
theorem c_B_oldestStore   : kM l dC dI cI cZ cB cJ y_B_oldestStore b_B_oldestStore 1 (some .int) 0 0 [.ref (ad 2)] (wC ad cI cZ cB σ β mk ρ) (some (.int (if σ 6 0 = 0 then -1 else σ 20 0))) (wC ad cI cZ cB σ β mk ρ) := by
  refine jM.of (lv := [(0, .ref (ad 2))]) (own := R_B) jE_loc (by decide) rfl rfl (Nat.le_of_ble_eq_true rfl) rfl ?_
  intro p e s m args below meth c A hC hr hlk
  refine j_aload_n hC 0 1 rfl d_B_oldestStore_0 rfl rfl ?_
  refine g_B_held hC 4 rfl d_B_oldestStore_1 ?_
  refine j_if_ne hC 11 7 rfl d_B_oldestStore_4 (by decide) (fun c_4 => ?_) (fun c_4 => ?_)
  · refine j_aload_n hC 0 12 rfl d_B_oldestStore_11 rfl rfl ?_
    refine g_B_stores hC 15 rfl d_B_oldestStore_12 ?_
    refine j_iconst (v := 0) hC 16 rfl d_B_oldestStore_15 (by decide) ?_
    refine ld_B_stores hC in0_4 17 rfl d_B_oldestStore_16 ?_
    exact j_iret hC hr hlk d_B_oldestStore_17 (by simp [bI, c_4]) rfl
  · refine j_iconst (v := (-1)) hC 8 rfl d_B_oldestStore_7 (by decide) ?_
    refine j_goto hC 17 d_B_oldestStore_8 (by decide) ?_
    exact j_iret hC hr hlk d_B_oldestStore_17 (by simp [bI, c_4]) rfl
set_option maxHeartbeats 4000000 in
set_option maxRecDepth 100000 in
theorem c_B_append {st at0 size v : Int32}  : kM l dC dI cI cZ cB cJ y_B_append b_B_append 5 none 0 0 [.ref (ad 2), .int st, .int at0, .int size, .int v] (wC ad cI cZ cB σ β mk ρ) none (wC ad cI cZ cB (apS σ st at0 size v) β mk ρ) := by
  refine jM.of (lv := [(0, .ref (ad 2)), (1, .int st), (2, .int at0), (3, .int size), (4, .int v)]) (own := R_B) jE_loc (by decide) rfl rfl (Nat.le_of_ble_eq_true rfl) rfl ?_
  intro p e s m args below meth c A hC hr hlk
  refine j_aload_n hC 0 1 rfl d_B_append_0 rfl rfl ?_
  refine g_B_held hC 4 rfl d_B_append_1 ?_
  refine j_if_lt hC 15 7 rfl d_B_append_4 (by decide) (fun c_4 => ?_) (fun c_4 => ?_)
  · exact j_vret hC hr hlk d_B_append_15 (by rw [apS_out (by first | exact Or.inl c_4 | exact Or.inr c_12)])
  · refine j_aload_n hC 0 8 rfl d_B_append_7 rfl rfl ?_
    refine g_B_held hC 11 rfl d_B_append_8 ?_
    refine j_iconst (v := 4) hC 12 rfl d_B_append_11 (by decide) ?_
    refine j_icmp_lt hC 16 15 rfl d_B_append_12 (by decide) (fun c_12 => ?_) (fun c_12 => ?_)
    · refine j_aload_n hC 0 17 rfl d_B_append_16 rfl rfl ?_
      refine g_B_stores hC 20 rfl d_B_append_17 ?_
      refine j_aload_n hC 0 21 rfl d_B_append_20 rfl rfl ?_
      refine g_B_held hC 24 rfl d_B_append_21 ?_
      refine j_iload_n hC 1 25 rfl d_B_append_24 rfl rfl ?_
      refine st_B_stores hC (in4 c_4 c_12) 26 rfl d_B_append_25 ?_
      refine j_aload_n hC 0 27 rfl d_B_append_26 rfl rfl ?_
      refine g_B_addresses hC 30 rfl d_B_append_27 ?_
      refine j_aload_n hC 0 31 rfl d_B_append_30 rfl rfl ?_
      refine g_B_held hC 34 rfl d_B_append_31 ?_
      refine j_iload_n hC 2 35 rfl d_B_append_34 rfl rfl ?_
      refine st_B_addresses hC (in4 c_4 c_12) 36 rfl d_B_append_35 ?_
      refine j_aload_n hC 0 37 rfl d_B_append_36 rfl rfl ?_
      refine g_B_sizes hC 40 rfl d_B_append_37 ?_
      refine j_aload_n hC 0 41 rfl d_B_append_40 rfl rfl ?_
      refine g_B_held hC 44 rfl d_B_append_41 ?_
      refine j_iload_n hC 3 45 rfl d_B_append_44 rfl rfl ?_
      refine st_B_sizes hC (in4 c_4 c_12) 46 rfl d_B_append_45 ?_
      refine j_aload_n hC 0 47 rfl d_B_append_46 rfl rfl ?_
      refine g_B_numbers hC 50 rfl d_B_append_47 ?_
      refine j_aload_n hC 0 51 rfl d_B_append_50 rfl rfl ?_
      refine g_B_held hC 54 rfl d_B_append_51 ?_
      refine j_iload hC 4 56 rfl d_B_append_54 rfl ?_
      refine st_B_numbers hC (in4 c_4 c_12) 57 rfl d_B_append_56 ?_
      refine j_aload_n hC 0 58 rfl d_B_append_57 rfl rfl ?_
      refine j_dup hC 59 rfl d_B_append_58 rfl ?_
      refine g_B_held hC 62 rfl d_B_append_59 ?_
      refine j_iconst (v := 1) hC 63 rfl d_B_append_62 (by decide) ?_
      refine j_iadd hC 64 rfl d_B_append_63 ?_
      refine p_B_held hC 67 rfl d_B_append_64 ?_
      exact j_vret hC hr hlk d_B_append_67 (by rw [apS_in c_4 c_12] <;> rfl)
    · exact j_vret hC hr hlk d_B_append_15 (by rw [apS_out (by first | exact Or.inl c_4 | exact Or.inr c_12)])
set_option maxHeartbeats 4000000 in
set_option maxRecDepth 100000 in
theorem c_B_byteAt {at0 : Int32}  : kM l dC dI cI cZ cB cJ y_B_byteAt b_B_byteAt 4 (some .int) 1 22 [.ref (ad 2), .int at0] (wC ad cI cZ cB σ β mk ρ) (some (.int (bbL σ at0 0 (-1)))) (wC ad cI cZ cB σ β mk ρ) := by
  refine jM.of (lv := [(0, .ref (ad 2)), (1, .int at0)]) (own := R_B) jE_loc (by decide) rfl rfl (Nat.le_of_ble_eq_true rfl) rfl ?_
  intro p e s m args below meth c A hC hr hlk
  have loop : ∀ (n : Nat) (i x : Int32), 0 ≤ i → dist i 4 < n → bbL σ at0 i x = bbL σ at0 0 (-1) → kJ l dC dI p e s m args below meth c A 1 22 4 (some (.int (bbL σ at0 0 (-1)))) (wC ad cI cZ cB σ β mk ρ) (wC ad cI cZ cB σ β mk ρ) 4 [(3, .int i), (2, .int x), (0, .ref (ad 2)), (1, .int at0)] [] := by
    intro n
    induction n with
    | zero => intro i x hi0 hd hR; exact absurd hd (Nat.not_lt_zero _)
    | succ n ih =>
      intro i x hi0 hd hR
      refine j_iload_n hC 0 5 rfl d_B_byteAt_4 rfl rfl ?_
      refine j_iconst (v := 4) hC 6 rfl d_B_byteAt_5 (by decide) ?_
      refine j_icmp_ge hC 74 9 rfl d_B_byteAt_6 (by decide) (fun c_6 => ?_) (fun c_6 => ?_)
      · refine j_iload_n hC 1 75 rfl d_B_byteAt_74 rfl rfl ?_
        exact j_iret hC hr hlk d_B_byteAt_75 (by rw [← hR, bbL_out c_6]) rfl
      · refine j_iload_n hC 0 10 rfl d_B_byteAt_9 rfl rfl ?_
        refine j_aload_n hC 2 11 rfl d_B_byteAt_10 rfl rfl ?_
        refine g_B_held hC 14 rfl d_B_byteAt_11 ?_
        refine j_icmp_ge hC 68 17 rfl d_B_byteAt_14 (by decide) (fun c_14 => ?_) (fun c_14 => ?_)
        · refine j_iinc (lv' := [(3, _), (2, _), (0, _), (1, _)]) hC 0 71 rfl d_B_byteAt_68 rfl (inc1 _) (by decide) rfl ?_
          refine j_goto hC 4 d_B_byteAt_71 (by decide) ?_
          exact ih _ _ (nn1 hi0 c_6) (dist_lt c_6 hd) (by rw [← hR, bbL_in c_6]; simp [bbS, bbV, c_6, c_14])
        · refine j_iload_n hC 3 18 rfl d_B_byteAt_17 rfl rfl ?_
          refine j_aload_n hC 2 19 rfl d_B_byteAt_18 rfl rfl ?_
          refine g_B_addresses hC 22 rfl d_B_byteAt_19 ?_
          refine j_iload_n hC 0 23 rfl d_B_byteAt_22 rfl rfl ?_
          refine ld_B_addresses hC (in4' hi0 c_6) 24 rfl d_B_byteAt_23 ?_
          refine j_icmp_lt hC 68 27 rfl d_B_byteAt_24 (by decide) (fun c_24 => ?_) (fun c_24 => ?_)
          · refine j_iinc (lv' := [(3, _), (2, _), (0, _), (1, _)]) hC 0 71 rfl d_B_byteAt_68 rfl (inc1 _) (by decide) rfl ?_
            refine j_goto hC 4 d_B_byteAt_71 (by decide) ?_
            exact ih _ _ (nn1 hi0 c_6) (dist_lt c_6 hd) (by rw [← hR, bbL_in c_6]; simp [bbS, bbV, c_6, c_14, c_24])
          · refine j_iload_n hC 3 28 rfl d_B_byteAt_27 rfl rfl ?_
            refine j_aload_n hC 2 29 rfl d_B_byteAt_28 rfl rfl ?_
            refine g_B_addresses hC 32 rfl d_B_byteAt_29 ?_
            refine j_iload_n hC 0 33 rfl d_B_byteAt_32 rfl rfl ?_
            refine ld_B_addresses hC (in4' hi0 c_6) 34 rfl d_B_byteAt_33 ?_
            refine j_aload_n hC 2 35 rfl d_B_byteAt_34 rfl rfl ?_
            refine g_B_sizes hC 38 rfl d_B_byteAt_35 ?_
            refine j_iload_n hC 0 39 rfl d_B_byteAt_38 rfl rfl ?_
            refine ld_B_sizes hC (in4' hi0 c_6) 40 rfl d_B_byteAt_39 ?_
            refine j_iadd hC 41 rfl d_B_byteAt_40 ?_
            refine j_icmp_ge hC 68 44 rfl d_B_byteAt_41 (by decide) (fun c_41 => ?_) (fun c_41 => ?_)
            · refine j_iinc (lv' := [(3, _), (2, _), (0, _), (1, _)]) hC 0 71 rfl d_B_byteAt_68 rfl (inc1 _) (by decide) rfl ?_
              refine j_goto hC 4 d_B_byteAt_71 (by decide) ?_
              exact ih _ _ (nn1 hi0 c_6) (dist_lt c_6 hd) (by rw [← hR, bbL_in c_6]; simp [bbS, bbV, c_6, c_14, c_24, c_41])
            · refine j_aload_n hC 2 45 rfl d_B_byteAt_44 rfl rfl ?_
              refine g_B_numbers hC 48 rfl d_B_byteAt_45 ?_
              refine j_iload_n hC 0 49 rfl d_B_byteAt_48 rfl rfl ?_
              refine ld_B_numbers hC (in4' hi0 c_6) 50 rfl d_B_byteAt_49 ?_
              refine j_aload_n hC 2 51 rfl d_B_byteAt_50 rfl rfl ?_
              refine g_B_sizes hC 54 rfl d_B_byteAt_51 ?_
              refine j_iload_n hC 0 55 rfl d_B_byteAt_54 rfl rfl ?_
              refine ld_B_sizes hC (in4' hi0 c_6) 56 rfl d_B_byteAt_55 ?_
              refine j_iload_n hC 3 57 rfl d_B_byteAt_56 rfl rfl ?_
              refine j_aload_n hC 2 58 rfl d_B_byteAt_57 rfl rfl ?_
              refine g_B_addresses hC 61 rfl d_B_byteAt_58 ?_
              refine j_iload_n hC 0 62 rfl d_B_byteAt_61 rfl rfl ?_
              refine ld_B_addresses hC (in4' hi0 c_6) 63 rfl d_B_byteAt_62 ?_
              refine j_isub hC 64 rfl d_B_byteAt_63 ?_
              refine j_callSNi hC jE_loc jT_good (As := [_, _, _]) c_C_byteOfNumber yk_C_byteOfNumber (nest_B_34 hC) ⟨rfl, rfl⟩ ⟨Nat.le_of_ble_eq_true rfl, Nat.le_of_ble_eq_true rfl⟩ rfl (Nat.le_of_ble_eq_true rfl) ⟨Nat.zero_le _, Nat.zero_le _⟩ d_B_byteAt_64 67 rfl rfl ?_
              refine j_istore_n (lv' := [(2, _), (3, _), (0, _), (1, _)]) hC 68 rfl d_B_byteAt_67 rfl (by decide) rfl ?_
              refine j_iinc (lv' := [(3, _), (2, _), (0, _), (1, _)]) hC 1 71 rfl d_B_byteAt_68 rfl (inc1 _) (by decide) rfl ?_
              refine j_goto hC 4 d_B_byteAt_71 (by decide) ?_
              exact ih _ _ (nn1 hi0 c_6) (dist_lt c_6 hd) (by rw [← hR, bbL_in c_6]; simp [bbS, bbV, c_6, c_14, c_24, c_41])
  refine j_iconst (v := (-1)) hC 1 rfl d_B_byteAt_0 (by decide) ?_
  refine j_istore_n (lv' := [(2, _), (0, _), (1, _)]) hC 2 rfl d_B_byteAt_1 rfl (by decide) rfl ?_
  refine j_iconst (v := 0) hC 3 rfl d_B_byteAt_2 (by decide) ?_
  refine j_istore_n (lv' := [(3, _), (2, _), (0, _), (1, _)]) hC 4 rfl d_B_byteAt_3 rfl (by decide) rfl ?_
  exact loop _ 0 (-1) (by decide) (Nat.lt_succ_self _) rfl
set_option maxHeartbeats 4000000 in
set_option maxRecDepth 100000 in
theorem c_B_moveOldestTo   : kM l dC dI cI cZ cB cJ y_B_moveOldestTo b_B_moveOldestTo 3 none 2 46 [.ref (ad 2), .ref (ad 3)] (wC ad cI cZ cB σ β mk ρ) none (wC ad cI cZ cB (mvS σ) β mk ρ) := by
  refine jM.of (lv := [(0, .ref (ad 2)), (1, .ref (ad 3))]) (own := R_B) jE_loc (by decide) rfl rfl (Nat.le_of_ble_eq_true rfl) rfl ?_
  intro p e s m args below meth c A hC hr hlk
  have loop : 0 < σ 6 0 → ∀ (n : Nat) (i : Int32) (τ : S2), 1 ≤ i → dist i 4 < n → shL i τ = shL 1 (mWL (σ 21 0) (σ 22 0) (σ 23 0) 0 σ) → kJ l dC dI p e s m args below meth c A 2 46 3 none (wC ad cI cZ cB (mvS σ) β mk ρ) (wC ad cI cZ cB τ β mk ρ) 32 [(2, .int i), (0, .ref (ad 2)), (1, .ref (ad 3))] [] := by
    intro c_4 n
    induction n with
    | zero => intro i τ hi hd hR; exact absurd hd (Nat.not_lt_zero _)
    | succ n ih =>
      intro i τ hi hd hR
      refine j_iload_n hC 0 33 rfl d_B_moveOldestTo_32 rfl rfl ?_
      refine j_iconst (v := 4) hC 34 rfl d_B_moveOldestTo_33 (by decide) ?_
      refine j_icmp_ge hC 99 37 rfl d_B_moveOldestTo_34 (by decide) (fun c_34 => ?_) (fun c_34 => ?_)
      · refine j_aload_n hC 1 100 rfl d_B_moveOldestTo_99 rfl rfl ?_
        refine j_dup hC 101 rfl d_B_moveOldestTo_100 rfl ?_
        refine g_B_held hC 104 rfl d_B_moveOldestTo_101 ?_
        refine j_iconst (v := 1) hC 105 rfl d_B_moveOldestTo_104 (by decide) ?_
        refine j_isub hC 106 rfl d_B_moveOldestTo_105 ?_
        refine p_B_held hC 109 rfl d_B_moveOldestTo_106 ?_
        exact j_vret hC hr hlk d_B_moveOldestTo_109 (by rw [mvS, if_pos c_4, ← hR, shL_out c_34] <;> rfl)
      · refine j_aload_n hC 1 38 rfl d_B_moveOldestTo_37 rfl rfl ?_
        refine g_B_stores hC 41 rfl d_B_moveOldestTo_38 ?_
        refine j_iload_n hC 0 42 rfl d_B_moveOldestTo_41 rfl rfl ?_
        refine j_iconst (v := 1) hC 43 rfl d_B_moveOldestTo_42 (by decide) ?_
        refine j_isub hC 44 rfl d_B_moveOldestTo_43 ?_
        refine j_aload_n hC 1 45 rfl d_B_moveOldestTo_44 rfl rfl ?_
        refine g_B_stores hC 48 rfl d_B_moveOldestTo_45 ?_
        refine j_iload_n hC 0 49 rfl d_B_moveOldestTo_48 rfl rfl ?_
        refine ld_B_stores hC (in4' (le0_of1 hi) c_34) 50 rfl d_B_moveOldestTo_49 ?_
        refine st_B_stores hC (in4m hi c_34) 51 rfl d_B_moveOldestTo_50 ?_
        refine j_aload_n hC 1 52 rfl d_B_moveOldestTo_51 rfl rfl ?_
        refine g_B_addresses hC 55 rfl d_B_moveOldestTo_52 ?_
        refine j_iload_n hC 0 56 rfl d_B_moveOldestTo_55 rfl rfl ?_
        refine j_iconst (v := 1) hC 57 rfl d_B_moveOldestTo_56 (by decide) ?_
        refine j_isub hC 58 rfl d_B_moveOldestTo_57 ?_
        refine j_aload_n hC 1 59 rfl d_B_moveOldestTo_58 rfl rfl ?_
        refine g_B_addresses hC 62 rfl d_B_moveOldestTo_59 ?_
        refine j_iload_n hC 0 63 rfl d_B_moveOldestTo_62 rfl rfl ?_
        refine ld_B_addresses hC (in4' (le0_of1 hi) c_34) 64 rfl d_B_moveOldestTo_63 ?_
        refine st_B_addresses hC (in4m hi c_34) 65 rfl d_B_moveOldestTo_64 ?_
        refine j_aload_n hC 1 66 rfl d_B_moveOldestTo_65 rfl rfl ?_
        refine g_B_sizes hC 69 rfl d_B_moveOldestTo_66 ?_
        refine j_iload_n hC 0 70 rfl d_B_moveOldestTo_69 rfl rfl ?_
        refine j_iconst (v := 1) hC 71 rfl d_B_moveOldestTo_70 (by decide) ?_
        refine j_isub hC 72 rfl d_B_moveOldestTo_71 ?_
        refine j_aload_n hC 1 73 rfl d_B_moveOldestTo_72 rfl rfl ?_
        refine g_B_sizes hC 76 rfl d_B_moveOldestTo_73 ?_
        refine j_iload_n hC 0 77 rfl d_B_moveOldestTo_76 rfl rfl ?_
        refine ld_B_sizes hC (in4' (le0_of1 hi) c_34) 78 rfl d_B_moveOldestTo_77 ?_
        refine st_B_sizes hC (in4m hi c_34) 79 rfl d_B_moveOldestTo_78 ?_
        refine j_aload_n hC 1 80 rfl d_B_moveOldestTo_79 rfl rfl ?_
        refine g_B_numbers hC 83 rfl d_B_moveOldestTo_80 ?_
        refine j_iload_n hC 0 84 rfl d_B_moveOldestTo_83 rfl rfl ?_
        refine j_iconst (v := 1) hC 85 rfl d_B_moveOldestTo_84 (by decide) ?_
        refine j_isub hC 86 rfl d_B_moveOldestTo_85 ?_
        refine j_aload_n hC 1 87 rfl d_B_moveOldestTo_86 rfl rfl ?_
        refine g_B_numbers hC 90 rfl d_B_moveOldestTo_87 ?_
        refine j_iload_n hC 0 91 rfl d_B_moveOldestTo_90 rfl rfl ?_
        refine ld_B_numbers hC (in4' (le0_of1 hi) c_34) 92 rfl d_B_moveOldestTo_91 ?_
        refine st_B_numbers hC (in4m hi c_34) 93 rfl d_B_moveOldestTo_92 ?_
        refine j_iinc (lv' := [(2, _), (0, _), (1, _)]) hC 0 96 rfl d_B_moveOldestTo_93 rfl (inc1 _) (by decide) rfl ?_
        refine j_goto hC 32 d_B_moveOldestTo_96 (by decide) ?_
        exact ih _ _ (nn2 hi c_34) (dist_lt c_34 hd) (by rw [← hR, shL_in c_34] <;> rfl)
  refine j_aload_n hC 0 1 rfl d_B_moveOldestTo_0 rfl rfl ?_
  refine g_B_held hC 4 rfl d_B_moveOldestTo_1 ?_
  refine j_if_gt hC 8 7 rfl d_B_moveOldestTo_4 (by decide) (fun c_4 => ?_) (fun c_4 => ?_)
  · refine j_aload_n hC 1 9 rfl d_B_moveOldestTo_8 rfl rfl ?_
    refine j_aload_n hC 0 10 rfl d_B_moveOldestTo_9 rfl rfl ?_
    refine g_B_addresses hC 13 rfl d_B_moveOldestTo_10 ?_
    refine j_iconst (v := 0) hC 14 rfl d_B_moveOldestTo_13 (by decide) ?_
    refine ld_B_addresses hC in0_4 15 rfl d_B_moveOldestTo_14 ?_
    refine j_aload_n hC 0 16 rfl d_B_moveOldestTo_15 rfl rfl ?_
    refine g_B_sizes hC 19 rfl d_B_moveOldestTo_16 ?_
    refine j_iconst (v := 0) hC 20 rfl d_B_moveOldestTo_19 (by decide) ?_
    refine ld_B_sizes hC in0_4 21 rfl d_B_moveOldestTo_20 ?_
    refine j_aload_n hC 0 22 rfl d_B_moveOldestTo_21 rfl rfl ?_
    refine g_B_numbers hC 25 rfl d_B_moveOldestTo_22 ?_
    refine j_iconst (v := 0) hC 26 rfl d_B_moveOldestTo_25 (by decide) ?_
    refine ld_B_numbers hC in0_4 27 rfl d_B_moveOldestTo_26 ?_
    refine j_callVv hC jE_loc jT_good (As := [_, _, _]) c_Y_write yk_Y_write lk_B_28 ⟨rfl, rfl⟩ ⟨Nat.le_of_ble_eq_true rfl, Nat.le_of_ble_eq_true rfl⟩ 3 rfl rfl rfl rfl (Nat.le_of_ble_eq_true rfl) ⟨Nat.zero_le _, Nat.zero_le _⟩ d_B_moveOldestTo_27 30 rfl rfl ?_
    refine j_iconst (v := 1) hC 31 rfl d_B_moveOldestTo_30 (by decide) ?_
    refine j_istore_n (lv' := [(2, _), (0, _), (1, _)]) hC 32 rfl d_B_moveOldestTo_31 rfl (by decide) rfl ?_
    exact loop c_4 _ 1 _ (by decide) (Nat.lt_succ_self _) rfl
  · exact j_vret hC hr hlk d_B_moveOldestTo_7 (by rw [mvS, if_neg c_4])
end KC
