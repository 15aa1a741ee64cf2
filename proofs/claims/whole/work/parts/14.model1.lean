section KC
variable {l : Launch} {dC : Nat → ClassId} {dI : Nat → Nat → Nat} {cI cZ cB cJ : ClassId} {ad : Nat → Nat} {σ : S2} {β : B2} {mk : Int64} {ρ : va_W} {am : Nat → Nat} {μ : S2} {ν : B2}
set_option maxHeartbeats 4000000 in
set_option maxRecDepth 100000 in
theorem c_M_thrown   : kM l dC dI cI cZ cB cJ y_M_thrown b_M_thrown 1 (some .int) 0 0 [.ref (am 0)] (wM am cI cZ μ ν ρ) (some (.int (μ 0 0))) (wM am cI cZ μ ν ρ) := by
  refine jM.of (lv := [(0, .ref (am 0))]) (own := R_M) jE_loc (by decide) rfl rfl (Nat.le_of_ble_eq_true rfl) rfl ?_
  intro p e s m args below meth c A hC hr hlk
  refine j_aload_n hC 0 1 rfl d_M_thrown_0 rfl rfl ?_
  refine g_M_thrown hC 4 rfl d_M_thrown_1 ?_
  exact j_iret hC hr hlk d_M_thrown_4 rfl rfl
set_option maxHeartbeats 4000000 in
set_option maxRecDepth 100000 in
theorem c_M_isOp {op : Int32}  : kM l dC dI cI cZ cB cJ y_M_isOp b_M_isOp 2 (some .boolean) 0 0 [.ref (am 0), .int op] (wM am cI cZ μ ν ρ) (some (.int (bI (ioM μ op)))) (wM am cI cZ μ ν ρ) := by
  refine jM.of (lv := [(0, .ref (am 0)), (1, .int op)]) (own := R_M) jE_loc (by decide) rfl rfl (Nat.le_of_ble_eq_true rfl) rfl ?_
  intro p e s m args below meth c A hC hr hlk
  refine j_iload_n hC 1 1 rfl d_M_isOp_0 rfl rfl ?_
  refine j_if_lt hC 16 4 rfl d_M_isOp_1 (by decide) (fun c_1 => ?_) (fun c_1 => ?_)
  · refine j_iconst (v := 0) hC 17 rfl d_M_isOp_16 (by decide) ?_
    exact j_zret hC hr hlk d_M_isOp_17 (by simp [bI, ioM, c_1]) rfl
  · refine j_iload_n hC 1 5 rfl d_M_isOp_4 rfl rfl ?_
    refine j_aload_n hC 0 6 rfl d_M_isOp_5 rfl rfl ?_
    refine g_M_total hC 9 rfl d_M_isOp_6 ?_
    refine j_icmp_ge hC 16 12 rfl d_M_isOp_9 (by decide) (fun c_9 => ?_) (fun c_9 => ?_)
    · refine j_iconst (v := 0) hC 17 rfl d_M_isOp_16 (by decide) ?_
      exact j_zret hC hr hlk d_M_isOp_17 (by simp [bI, ioM, c_1, c_9]) rfl
    · refine j_iconst (v := 1) hC 13 rfl d_M_isOp_12 (by decide) ?_
      refine j_goto hC 17 d_M_isOp_13 (by decide) ?_
      exact j_zret hC hr hlk d_M_isOp_17 (by simp [bI, ioM, c_1, c_9]) rfl
set_option maxHeartbeats 4000000 in
set_option maxRecDepth 100000 in
theorem c_M_waits {op : Int32}  : kM l dC dI cI cZ cB cJ y_M_waits b_M_waits 2 (some .boolean) 0 0 [.ref (am 0), .int op] (wM am cI cZ μ ν ρ) (some (.int (bI (waM μ op)))) (wM am cI cZ μ ν ρ) := by
  refine jM.of (lv := [(0, .ref (am 0)), (1, .int op)]) (own := R_M) jE_loc (by decide) rfl rfl (Nat.le_of_ble_eq_true rfl) rfl ?_
  intro p e s m args below meth c A hC hr hlk
  refine j_iload_n hC 1 1 rfl d_M_waits_0 rfl rfl ?_
  refine j_aload_n hC 0 2 rfl d_M_waits_1 rfl rfl ?_
  refine g_M_oldest hC 5 rfl d_M_waits_2 ?_
  refine j_icmp_lt hC 20 8 rfl d_M_waits_5 (by decide) (fun c_5 => ?_) (fun c_5 => ?_)
  · refine j_iconst (v := 0) hC 21 rfl d_M_waits_20 (by decide) ?_
    exact j_zret hC hr hlk d_M_waits_21 (by simp [bI, waM, c_5]) rfl
  · refine j_iload_n hC 1 9 rfl d_M_waits_8 rfl rfl ?_
    refine j_aload_n hC 0 10 rfl d_M_waits_9 rfl rfl ?_
    refine g_M_total hC 13 rfl d_M_waits_10 ?_
    refine j_icmp_ge hC 20 16 rfl d_M_waits_13 (by decide) (fun c_13 => ?_) (fun c_13 => ?_)
    · refine j_iconst (v := 0) hC 21 rfl d_M_waits_20 (by decide) ?_
      exact j_zret hC hr hlk d_M_waits_21 (by simp [bI, waM, c_5, c_13]) rfl
    · refine j_iconst (v := 1) hC 17 rfl d_M_waits_16 (by decide) ?_
      refine j_goto hC 21 d_M_waits_17 (by decide) ?_
      exact j_zret hC hr hlk d_M_waits_21 (by simp [bI, waM, c_5, c_13]) rfl
set_option maxHeartbeats 4000000 in
set_option maxRecDepth 100000 in
theorem c_M_isSize {kind size : Int32}  : kM l dC dI cI cZ cB cJ y_M_isSize b_M_isSize 2 (some .boolean) 0 0 [.int kind, .int size] (wM am cI cZ μ ν ρ) (some (.int (bI (iszM kind size)))) (wM am cI cZ μ ν ρ) := by
  refine jM.of (lv := [(0, .int kind), (1, .int size)]) (own := R_M) jE_loc (by decide) rfl rfl (Nat.le_of_ble_eq_true rfl) rfl ?_
  intro p e s m args below meth c A hC hr hlk
  refine j_iload_n hC 0 1 rfl d_M_isSize_0 rfl rfl ?_
  refine j_iconst (v := 2) hC 2 rfl d_M_isSize_1 (by decide) ?_
  refine j_icmp_ne hC 17 5 rfl d_M_isSize_2 (by decide) (fun c_2 => ?_) (fun c_2 => ?_)
  · refine j_iload_n hC 1 18 rfl d_M_isSize_17 rfl rfl ?_
    refine j_iconst (v := 1) hC 19 rfl d_M_isSize_18 (by decide) ?_
    refine j_icmp_eq hC 32 22 rfl d_M_isSize_19 (by decide) (fun c_19 => ?_) (fun c_19 => ?_)
    · refine j_iconst (v := 1) hC 33 rfl d_M_isSize_32 (by decide) ?_
      refine j_goto hC 37 d_M_isSize_33 (by decide) ?_
      exact j_zret hC hr hlk d_M_isSize_37 (by simp [bI, iszM, c_2, c_19]) rfl
    · refine j_iload_n hC 1 23 rfl d_M_isSize_22 rfl rfl ?_
      refine j_iconst (v := 2) hC 24 rfl d_M_isSize_23 (by decide) ?_
      refine j_icmp_eq hC 32 27 rfl d_M_isSize_24 (by decide) (fun c_24 => ?_) (fun c_24 => ?_)
      · refine j_iconst (v := 1) hC 33 rfl d_M_isSize_32 (by decide) ?_
        refine j_goto hC 37 d_M_isSize_33 (by decide) ?_
        exact j_zret hC hr hlk d_M_isSize_37 (by simp [bI, iszM, c_2, c_19, c_24]) rfl
      · refine j_iload_n hC 1 28 rfl d_M_isSize_27 rfl rfl ?_
        refine j_iconst (v := 4) hC 29 rfl d_M_isSize_28 (by decide) ?_
        refine j_icmp_ne hC 36 32 rfl d_M_isSize_29 (by decide) (fun c_29 => ?_) (fun c_29 => ?_)
        · refine j_iconst (v := 0) hC 37 rfl d_M_isSize_36 (by decide) ?_
          exact j_zret hC hr hlk d_M_isSize_37 (by simp [bI, iszM, c_2, c_19, c_24, c_29]) rfl
        · refine j_iconst (v := 1) hC 33 rfl d_M_isSize_32 (by decide) ?_
          refine j_goto hC 37 d_M_isSize_33 (by decide) ?_
          exact j_zret hC hr hlk d_M_isSize_37 (by simp [bI, iszM, c_2, c_19, c_24, c_29]) rfl
  · refine j_iload_n hC 1 6 rfl d_M_isSize_5 rfl rfl ?_
    refine j_if_ne hC 13 9 rfl d_M_isSize_6 (by decide) (fun c_6 => ?_) (fun c_6 => ?_)
    · refine j_iconst (v := 0) hC 14 rfl d_M_isSize_13 (by decide) ?_
      refine j_goto hC 37 d_M_isSize_14 (by decide) ?_
      exact j_zret hC hr hlk d_M_isSize_37 (by simp [bI, iszM, c_2, c_6]) rfl
    · refine j_iconst (v := 1) hC 10 rfl d_M_isSize_9 (by decide) ?_
      refine j_goto hC 37 d_M_isSize_10 (by decide) ?_
      exact j_zret hC hr hlk d_M_isSize_37 (by simp [bI, iszM, c_2, c_6]) rfl
set_option maxHeartbeats 4000000 in
set_option maxRecDepth 100000 in
theorem c_M_byteOf {v s k : Int32}  : kM l dC dI cI cZ cB cJ y_M_byteOf b_M_byteOf 3 (some .int) 0 0 [.int v, .int s, .int k] (wM am cI cZ μ ν ρ) (some (.int (bom v s k))) (wM am cI cZ μ ν ρ) := by
  refine jM.of (lv := [(0, .int v), (1, .int s), (2, .int k)]) (own := R_M) jE_loc (by decide) rfl rfl (Nat.le_of_ble_eq_true rfl) rfl ?_
  intro p e s m args below meth c A hC hr hlk
  refine j_iload_n hC 0 1 rfl d_M_byteOf_0 rfl rfl ?_
  refine j_bipush (v := 8) hC 3 rfl d_M_byteOf_1 (by decide) ?_
  refine j_iload_n hC 1 4 rfl d_M_byteOf_3 rfl rfl ?_
  refine j_iconst (v := 1) hC 5 rfl d_M_byteOf_4 (by decide) ?_
  refine j_isub hC 6 rfl d_M_byteOf_5 ?_
  refine j_iload_n hC 2 7 rfl d_M_byteOf_6 rfl rfl ?_
  refine j_isub hC 8 rfl d_M_byteOf_7 ?_
  refine j_imul hC 9 rfl d_M_byteOf_8 ?_
  refine j_ishr hC 10 rfl d_M_byteOf_9 ?_
  refine j_sipush (v := 255) hC 13 rfl d_M_byteOf_10 (by decide) ?_
  refine j_iand hC 14 rfl d_M_byteOf_13 ?_
  exact j_iret hC hr hlk d_M_byteOf_14 rfl rfl
set_option maxHeartbeats 4000000 in
set_option maxRecDepth 100000 in
theorem c_M_covers {pl sz at0 : Int32}  : kM l dC dI cI cZ cB cJ y_M_covers b_M_covers 3 (some .boolean) 0 0 [.int pl, .int sz, .int at0] (wM am cI cZ μ ν ρ) (some (.int (bI (cvM pl sz at0)))) (wM am cI cZ μ ν ρ) := by
  refine jM.of (lv := [(0, .int pl), (1, .int sz), (2, .int at0)]) (own := R_M) jE_loc (by decide) rfl rfl (Nat.le_of_ble_eq_true rfl) rfl ?_
  intro p e s m args below meth c A hC hr hlk
  refine j_iload_n hC 2 1 rfl d_M_covers_0 rfl rfl ?_
  refine j_iload_n hC 0 2 rfl d_M_covers_1 rfl rfl ?_
  refine j_icmp_lt hC 16 5 rfl d_M_covers_2 (by decide) (fun c_2 => ?_) (fun c_2 => ?_)
  · refine j_iconst (v := 0) hC 17 rfl d_M_covers_16 (by decide) ?_
    exact j_zret hC hr hlk d_M_covers_17 (by simp [bI, cvM, c_2]) rfl
  · refine j_iload_n hC 2 6 rfl d_M_covers_5 rfl rfl ?_
    refine j_iload_n hC 0 7 rfl d_M_covers_6 rfl rfl ?_
    refine j_iload_n hC 1 8 rfl d_M_covers_7 rfl rfl ?_
    refine j_iadd hC 9 rfl d_M_covers_8 ?_
    refine j_icmp_ge hC 16 12 rfl d_M_covers_9 (by decide) (fun c_9 => ?_) (fun c_9 => ?_)
    · refine j_iconst (v := 0) hC 17 rfl d_M_covers_16 (by decide) ?_
      exact j_zret hC hr hlk d_M_covers_17 (by simp [bI, cvM, c_2, c_9]) rfl
    · refine j_iconst (v := 1) hC 13 rfl d_M_covers_12 (by decide) ?_
      refine j_goto hC 17 d_M_covers_13 (by decide) ?_
      exact j_zret hC hr hlk d_M_covers_17 (by simp [bI, cvM, c_2, c_9]) rfl
set_option maxHeartbeats 4000000 in
set_option maxRecDepth 100000 in
theorem c_M_has {i at0 : Int32} (hi : vp_in i 128) : kM l dC dI cI cZ cB cJ y_M_has b_M_has 3 (some .boolean) 1 22 [.ref (am 0), .int i, .int at0] (wM am cI cZ μ ν ρ) (some (.int (bI (haM μ i.toNatClampNeg at0)))) (wM am cI cZ μ ν ρ) := by
  refine jM.of (lv := [(0, .ref (am 0)), (1, .int i), (2, .int at0)]) (own := R_M) jE_loc (by decide) rfl rfl (Nat.le_of_ble_eq_true rfl) rfl ?_
  intro p e s m args below meth c A hC hr hlk
  refine j_aload_n hC 0 1 rfl d_M_has_0 rfl rfl ?_
  refine g_M_places hC 4 rfl d_M_has_1 ?_
  refine j_iload_n hC 1 5 rfl d_M_has_4 rfl rfl ?_
  refine ld_M_places hC hi 6 rfl d_M_has_5 ?_
  refine j_if_lt hC 32 9 rfl d_M_has_6 (by decide) (fun c_6 => ?_) (fun c_6 => ?_)
  · refine j_iconst (v := 0) hC 33 rfl d_M_has_32 (by decide) ?_
    exact j_zret hC hr hlk d_M_has_33 (by simp [bI, haM, c_6]) rfl
  · refine j_aload_n hC 0 10 rfl d_M_has_9 rfl rfl ?_
    refine g_M_places hC 13 rfl d_M_has_10 ?_
    refine j_iload_n hC 1 14 rfl d_M_has_13 rfl rfl ?_
    refine ld_M_places hC hi 15 rfl d_M_has_14 ?_
    refine j_aload_n hC 0 16 rfl d_M_has_15 rfl rfl ?_
    refine g_M_sizes hC 19 rfl d_M_has_16 ?_
    refine j_iload_n hC 1 20 rfl d_M_has_19 rfl rfl ?_
    refine ld_M_sizes hC hi 21 rfl d_M_has_20 ?_
    refine j_iload_n hC 2 22 rfl d_M_has_21 rfl rfl ?_
    refine j_callSi hC jE_loc jT_good (As := [_, _, _]) c_M_covers yk_M_covers lk_M_74 ⟨rfl, rfl⟩ ⟨Nat.le_of_ble_eq_true rfl, Nat.le_of_ble_eq_true rfl⟩ rfl (Nat.le_of_ble_eq_true rfl) ⟨Nat.zero_le _, Nat.zero_le _⟩ d_M_has_22 25 rfl rfl ?_
    refine j_if_eq hC 32 28 rfl d_M_has_25 (by decide) (fun c_25 => ?_) (fun c_25 => ?_)
    · refine j_iconst (v := 0) hC 33 rfl d_M_has_32 (by decide) ?_
      exact j_zret hC hr hlk d_M_has_33 (by simp [bI, haM, c_6, bI0 c_25]) rfl
    · refine j_iconst (v := 1) hC 29 rfl d_M_has_28 (by decide) ?_
      refine j_goto hC 33 d_M_has_29 (by decide) ?_
      exact j_zret hC hr hlk d_M_has_33 (by simp [bI, haM, c_6, bI1 c_25]) rfl
set_option maxHeartbeats 4000000 in
set_option maxRecDepth 100000 in
theorem c_M_write {pl sz v : Int32} (hp : ∀ k : Int32, 0 ≤ k → ¬ sz ≤ k → vp_in (pl + k) 4096) : kM l dC dI cI cZ cB cJ y_M_write b_M_write 5 none 1 22 [.ref (am 0), .int pl, .int sz, .int v] (wM am cI cZ μ ν ρ) none (wM am cI cZ (wrL pl sz v 0 μ) ν ρ) := by
  refine jM.of (lv := [(0, .ref (am 0)), (1, .int pl), (2, .int sz), (3, .int v)]) (own := R_M) jE_loc (by decide) rfl rfl (Nat.le_of_ble_eq_true rfl) rfl ?_
  intro p e s m args below meth c A hC hr hlk
  have loop : ∀ (n : Nat) (k : Int32) (τ : S2), 0 ≤ k → dist k sz < n → wrL pl sz v k τ = wrL pl sz v 0 μ → kJ l dC dI p e s m args below meth c A 1 22 5 none (wM am cI cZ (wrL pl sz v 0 μ) ν ρ) (wM am cI cZ τ ν ρ) 3 [(4, .int k), (0, .ref (am 0)), (1, .int pl), (2, .int sz), (3, .int v)] [] := by
    intro n
    induction n with
    | zero => intro k τ hk hd hR; exact absurd hd (Nat.not_lt_zero _)
    | succ n ih =>
      intro k τ hk hd hR
      refine j_iload hC 0 5 rfl d_M_write_3 rfl ?_
      refine j_iload_n hC 3 6 rfl d_M_write_5 rfl rfl ?_
      refine j_icmp_ge hC 31 9 rfl d_M_write_6 (by decide) (fun c_6 => ?_) (fun c_6 => ?_)
      · exact j_vret hC hr hlk d_M_write_31 (by rw [← hR, wrL_out c_6])
      · refine j_aload_n hC 1 10 rfl d_M_write_9 rfl rfl ?_
        refine g_M_bytes hC 13 rfl d_M_write_10 ?_
        refine j_iload_n hC 2 14 rfl d_M_write_13 rfl rfl ?_
        refine j_iload hC 0 16 rfl d_M_write_14 rfl ?_
        refine j_iadd hC 17 rfl d_M_write_16 ?_
        refine j_iload_n hC 4 18 rfl d_M_write_17 rfl rfl ?_
        refine j_iload_n hC 3 19 rfl d_M_write_18 rfl rfl ?_
        refine j_iload hC 0 21 rfl d_M_write_19 rfl ?_
        refine j_callSi hC jE_loc jT_good (As := [_, _, _]) c_M_byteOf yk_M_byteOf lk_M_70 ⟨rfl, rfl⟩ ⟨Nat.le_of_ble_eq_true rfl, Nat.le_of_ble_eq_true rfl⟩ rfl (Nat.le_of_ble_eq_true rfl) ⟨Nat.zero_le _, Nat.zero_le _⟩ d_M_write_21 24 rfl rfl ?_
        refine st_M_bytes hC (hp _ hk c_6) 25 rfl d_M_write_24 ?_
        refine j_iinc (lv' := [(4, _), (0, _), (1, _), (2, _), (3, _)]) hC 0 28 rfl d_M_write_25 rfl (inc1 _) (by decide) rfl ?_
        refine j_goto hC 3 d_M_write_28 (by decide) ?_
        exact ih _ _ (nn1 hk c_6) (dist_lt c_6 hd) (by rw [← hR, wrL_in c_6] <;> rfl)
  refine j_iconst (v := 0) hC 1 rfl d_M_write_0 (by decide) ?_
  refine j_istore (lv' := [(4, _), (0, _), (1, _), (2, _), (3, _)]) hC 3 rfl d_M_write_1 (by decide) rfl ?_
  exact loop _ 0 _ (by decide) (Nat.lt_succ_self _) rfl
set_option maxHeartbeats 4000000 in
set_option maxRecDepth 100000 in
theorem c_M_storeOf {op at0 : Int32} (h0 : 0 ≤ μ 2 0) : kM l dC dI cI cZ cB cJ y_M_storeOf b_M_storeOf 4 (some .int) 2 44 [.ref (am 0), .int op, .int at0] (wM am cI cZ μ ν ρ) (some (.int (soM μ op at0))) (wM am cI cZ μ ν ρ) := by
  refine jM.of (lv := [(0, .ref (am 0)), (1, .int op), (2, .int at0)]) (own := R_M) jE_loc (by decide) rfl rfl (Nat.le_of_ble_eq_true rfl) rfl ?_
  intro p e s m args below meth c A hC hr hlk
  have loop : ∀ (n : Nat) (i : Int32), dnst (μ 2 0) i < n → soM μ op at0 = laL (soP μ at0) (μ 2 0) i → kJ l dC dI p e s m args below meth c A 2 44 4 (some (.int (soM μ op at0))) (wM am cI cZ μ ν ρ) (wM am cI cZ μ ν ρ) 4 [(3, .int i), (0, .ref (am 0)), (1, .int op), (2, .int at0)] [] := by
    intro n
    induction n with
    | zero => intro i hd hR; exact absurd hd (Nat.not_lt_zero _)
    | succ n ih =>
      intro i hd hR
      refine j_iload_n hC 0 5 rfl d_M_storeOf_4 rfl rfl ?_
      refine j_aload_n hC 1 6 rfl d_M_storeOf_5 rfl rfl ?_
      refine g_M_oldest hC 9 rfl d_M_storeOf_6 ?_
      refine j_icmp_lt hC 45 12 rfl d_M_storeOf_9 (by decide) (fun c_9 => ?_) (fun c_9 => ?_)
      · refine j_iconst (v := (-1)) hC 46 rfl d_M_storeOf_45 (by decide) ?_
        exact j_iret hC hr hlk d_M_storeOf_46 (by rw [hR, laL_out c_9]) rfl
      · refine j_aload_n hC 1 13 rfl d_M_storeOf_12 rfl rfl ?_
        refine g_M_kinds hC 16 rfl d_M_storeOf_13 ?_
        refine j_iload_n hC 0 17 rfl d_M_storeOf_16 rfl rfl ?_
        refine j_bipush (v := 127) hC 19 rfl d_M_storeOf_17 (by decide) ?_
        refine j_iand hC 20 rfl d_M_storeOf_19 ?_
        refine ld_M_kinds hC (ix_in _) 21 rfl d_M_storeOf_20 ?_
        refine j_iconst (v := 1) hC 22 rfl d_M_storeOf_21 (by decide) ?_
        refine j_icmp_ne hC 39 25 rfl d_M_storeOf_22 (by decide) (fun c_22 => ?_) (fun c_22 => ?_)
        · refine j_iinc (lv' := [(3, _), (0, _), (1, _), (2, _)]) hC 0 42 rfl d_M_storeOf_39 rfl (dec1 _) (by decide) rfl ?_
          refine j_goto hC 4 d_M_storeOf_42 (by decide) ?_
          exact ih _ (dnst_lt h0 c_9 hd) (by rw [hR, laL_in h0 c_9]; simp [soP, ix, c_9, c_22])
        · refine j_aload_n hC 1 26 rfl d_M_storeOf_25 rfl rfl ?_
          refine j_iload_n hC 0 27 rfl d_M_storeOf_26 rfl rfl ?_
          refine j_bipush (v := 127) hC 29 rfl d_M_storeOf_27 (by decide) ?_
          refine j_iand hC 30 rfl d_M_storeOf_29 ?_
          refine j_iload_n hC 3 31 rfl d_M_storeOf_30 rfl rfl ?_
          refine j_callVi hC jE_loc jT_good (As := [_, _]) (c_M_has (ix_in _)) yk_M_has lk_M_78 ⟨rfl, rfl⟩ ⟨Nat.le_of_ble_eq_true rfl, Nat.le_of_ble_eq_true rfl⟩ 0 rfl rfl rfl rfl (Nat.le_of_ble_eq_true rfl) ⟨Nat.zero_le _, Nat.zero_le _⟩ d_M_storeOf_31 34 rfl rfl ?_
          refine j_if_eq hC 39 37 rfl d_M_storeOf_34 (by decide) (fun c_34 => ?_) (fun c_34 => ?_)
          · refine j_iinc (lv' := [(3, _), (0, _), (1, _), (2, _)]) hC 0 42 rfl d_M_storeOf_39 rfl (dec1 _) (by decide) rfl ?_
            refine j_goto hC 4 d_M_storeOf_42 (by decide) ?_
            exact ih _ (dnst_lt h0 c_9 hd) (by rw [hR, laL_in h0 c_9]; simp [soP, ix, c_9, c_22, bI0 c_34])
          · refine j_iload_n hC 0 38 rfl d_M_storeOf_37 rfl rfl ?_
            exact j_iret hC hr hlk d_M_storeOf_38 (by rw [hR, laL_in h0 c_9]; simp [soP, ix, c_9, c_22, bI1 c_34]) rfl
  refine j_iload_n hC 1 1 rfl d_M_storeOf_0 rfl rfl ?_
  refine j_iconst (v := 1) hC 2 rfl d_M_storeOf_1 (by decide) ?_
  refine j_isub hC 3 rfl d_M_storeOf_2 ?_
  refine j_istore_n (lv' := [(3, _), (0, _), (1, _), (2, _)]) hC 4 rfl d_M_storeOf_3 rfl (by decide) rfl ?_
  exact loop _ _ (Nat.lt_succ_self _) rfl
set_option maxHeartbeats 4000000 in
set_option maxRecDepth 100000 in
theorem c_M_bufferOf {at0 : Int32} (hb : μ 7 0 ≤ 4) : kM l dC dI cI cZ cB cJ y_M_bufferOf b_M_bufferOf 4 (some .int) 1 22 [.ref (am 0), .int at0] (wM am cI cZ μ ν ρ) (some (.int (buL μ at0 0 (-1)))) (wM am cI cZ μ ν ρ) := by
  refine jM.of (lv := [(0, .ref (am 0)), (1, .int at0)]) (own := R_M) jE_loc (by decide) rfl rfl (Nat.le_of_ble_eq_true rfl) rfl ?_
  intro p e s m args below meth c A hC hr hlk
  have loop : ∀ (n : Nat) (i x : Int32), 0 ≤ i → dist i (μ 7 0) < n → buL μ at0 i x = buL μ at0 0 (-1) → kJ l dC dI p e s m args below meth c A 1 22 4 (some (.int (buL μ at0 0 (-1)))) (wM am cI cZ μ ν ρ) (wM am cI cZ μ ν ρ) 4 [(3, .int i), (2, .int x), (0, .ref (am 0)), (1, .int at0)] [] := by
    intro n
    induction n with
    | zero => intro i x hi0 hd hR; exact absurd hd (Nat.not_lt_zero _)
    | succ n ih =>
      intro i x hi0 hd hR
      refine j_iload_n hC 0 5 rfl d_M_bufferOf_4 rfl rfl ?_
      refine j_aload_n hC 2 6 rfl d_M_bufferOf_5 rfl rfl ?_
      refine g_M_buffered hC 9 rfl d_M_bufferOf_6 ?_
      refine j_icmp_ge hC 43 12 rfl d_M_bufferOf_9 (by decide) (fun c_9 => ?_) (fun c_9 => ?_)
      · refine j_iload_n hC 1 44 rfl d_M_bufferOf_43 rfl rfl ?_
        exact j_iret hC hr hlk d_M_bufferOf_44 (by rw [← hR, buL_out c_9]) rfl
      · refine j_aload_n hC 2 13 rfl d_M_bufferOf_12 rfl rfl ?_
        refine g_M_waitPlace hC 16 rfl d_M_bufferOf_13 ?_
        refine j_iload_n hC 0 17 rfl d_M_bufferOf_16 rfl rfl ?_
        refine ld_M_waitPlace hC (in4b hi0 c_9 hb) 18 rfl d_M_bufferOf_17 ?_
        refine j_aload_n hC 2 19 rfl d_M_bufferOf_18 rfl rfl ?_
        refine g_M_waitSize hC 22 rfl d_M_bufferOf_19 ?_
        refine j_iload_n hC 0 23 rfl d_M_bufferOf_22 rfl rfl ?_
        refine ld_M_waitSize hC (in4b hi0 c_9 hb) 24 rfl d_M_bufferOf_23 ?_
        refine j_iload_n hC 3 25 rfl d_M_bufferOf_24 rfl rfl ?_
        refine j_callSi hC jE_loc jT_good (As := [_, _, _]) c_M_covers yk_M_covers lk_M_74 ⟨rfl, rfl⟩ ⟨Nat.le_of_ble_eq_true rfl, Nat.le_of_ble_eq_true rfl⟩ rfl (Nat.le_of_ble_eq_true rfl) ⟨Nat.zero_le _, Nat.zero_le _⟩ d_M_bufferOf_25 28 rfl rfl ?_
        refine j_if_eq hC 35 31 rfl d_M_bufferOf_28 (by decide) (fun c_28 => ?_) (fun c_28 => ?_)
        · refine j_iload_n hC 1 36 rfl d_M_bufferOf_35 rfl rfl ?_
          refine j_istore_n (lv' := [(2, _), (3, _), (0, _), (1, _)]) hC 37 rfl d_M_bufferOf_36 rfl (by decide) rfl ?_
          refine j_iinc (lv' := [(3, _), (2, _), (0, _), (1, _)]) hC 1 40 rfl d_M_bufferOf_37 rfl (inc1 _) (by decide) rfl ?_
          refine j_goto hC 4 d_M_bufferOf_40 (by decide) ?_
          exact ih _ _ (nn1 hi0 c_9) (dist_lt c_9 hd) (by rw [← hR, buL_in c_9]; simp [c_9, bI0 c_28])
        · refine j_iload_n hC 0 32 rfl d_M_bufferOf_31 rfl rfl ?_
          refine j_goto hC 36 d_M_bufferOf_32 (by decide) ?_
          refine j_istore_n (lv' := [(2, _), (3, _), (0, _), (1, _)]) hC 37 rfl d_M_bufferOf_36 rfl (by decide) rfl ?_
          refine j_iinc (lv' := [(3, _), (2, _), (0, _), (1, _)]) hC 1 40 rfl d_M_bufferOf_37 rfl (inc1 _) (by decide) rfl ?_
          refine j_goto hC 4 d_M_bufferOf_40 (by decide) ?_
          exact ih _ _ (nn1 hi0 c_9) (dist_lt c_9 hd) (by rw [← hR, buL_in c_9]; simp [c_9, bI1 c_28])
  refine j_iconst (v := (-1)) hC 1 rfl d_M_bufferOf_0 (by decide) ?_
  refine j_istore_n (lv' := [(2, _), (0, _), (1, _)]) hC 2 rfl d_M_bufferOf_1 rfl (by decide) rfl ?_
  refine j_iconst (v := 0) hC 3 rfl d_M_bufferOf_2 (by decide) ?_
  refine j_istore_n (lv' := [(3, _), (2, _), (0, _), (1, _)]) hC 4 rfl d_M_bufferOf_3 rfl (by decide) rfl ?_
  exact loop _ 0 (-1) (by decide) (Nat.lt_succ_self _) rfl
set_option maxHeartbeats 4000000 in
set_option maxRecDepth 100000 in
theorem c_M_canBe {op at0 : Int32}  : kM l dC dI cI cZ cB cJ y_M_canBe b_M_canBe 4 (some .boolean) 1 21 [.ref (am 0), .int op, .int at0] (wM am cI cZ μ ν ρ) (some (.int (bI (cbM μ op at0)))) (wM am cI cZ μ ν ρ) := by
  refine jM.of (lv := [(0, .ref (am 0)), (1, .int op), (2, .int at0)]) (own := R_M) jE_loc (by decide) rfl rfl (Nat.le_of_ble_eq_true rfl) rfl ?_
  intro p e s m args below meth c A hC hr hlk
  refine j_iload_n hC 1 1 rfl d_M_canBe_0 rfl rfl ?_
  refine j_bipush (v := 127) hC 3 rfl d_M_canBe_1 (by decide) ?_
  refine j_iand hC 4 rfl d_M_canBe_3 ?_
  refine j_istore_n (lv' := [(3, _), (0, _), (1, _), (2, _)]) hC 5 rfl d_M_canBe_4 rfl (by decide) rfl ?_
  refine j_aload_n hC 1 6 rfl d_M_canBe_5 rfl rfl ?_
  refine j_iload_n hC 2 7 rfl d_M_canBe_6 rfl rfl ?_
  refine j_callVi hC jE_loc jT_good (As := [_]) c_M_waits yk_M_waits lk_M_84 ⟨rfl, rfl⟩ ⟨Nat.le_of_ble_eq_true rfl, Nat.le_of_ble_eq_true rfl⟩ 0 rfl rfl rfl rfl (Nat.le_of_ble_eq_true rfl) ⟨Nat.zero_le _, Nat.zero_le _⟩ d_M_canBe_7 10 rfl rfl ?_
  refine j_if_eq hC 51 13 rfl d_M_canBe_10 (by decide) (fun c_10 => ?_) (fun c_10 => ?_)
  · refine j_iconst (v := 0) hC 52 rfl d_M_canBe_51 (by decide) ?_
    exact j_zret hC hr hlk d_M_canBe_52 (by simp [bI, cbM, ix, bI0 c_10]) rfl
  · refine j_aload_n hC 1 14 rfl d_M_canBe_13 rfl rfl ?_
    refine g_M_kinds hC 17 rfl d_M_canBe_14 ?_
    refine j_iload_n hC 0 18 rfl d_M_canBe_17 rfl rfl ?_
    refine ld_M_kinds hC (ix_in _) 19 rfl d_M_canBe_18 ?_
    refine j_iconst (v := 2) hC 20 rfl d_M_canBe_19 (by decide) ?_
    refine j_icmp_eq hC 51 23 rfl d_M_canBe_20 (by decide) (fun c_20 => ?_) (fun c_20 => ?_)
    · refine j_iconst (v := 0) hC 52 rfl d_M_canBe_51 (by decide) ?_
      exact j_zret hC hr hlk d_M_canBe_52 (by simp [bI, cbM, ix, bI1 c_10, c_20]) rfl
    · refine j_aload_n hC 1 24 rfl d_M_canBe_23 rfl rfl ?_
      refine g_M_places hC 27 rfl d_M_canBe_24 ?_
      refine j_iload_n hC 0 28 rfl d_M_canBe_27 rfl rfl ?_
      refine ld_M_places hC (ix_in _) 29 rfl d_M_canBe_28 ?_
      refine j_iconst (v := (-1)) hC 30 rfl d_M_canBe_29 (by decide) ?_
      refine j_icmp_ne hC 51 33 rfl d_M_canBe_30 (by decide) (fun c_30 => ?_) (fun c_30 => ?_)
      · refine j_iconst (v := 0) hC 52 rfl d_M_canBe_51 (by decide) ?_
        exact j_zret hC hr hlk d_M_canBe_52 (by simp [bI, cbM, ix, bI1 c_10, c_20, c_30]) rfl
      · refine j_iload_n hC 3 34 rfl d_M_canBe_33 rfl rfl ?_
        refine j_if_lt hC 51 37 rfl d_M_canBe_34 (by decide) (fun c_34 => ?_) (fun c_34 => ?_)
        · refine j_iconst (v := 0) hC 52 rfl d_M_canBe_51 (by decide) ?_
          exact j_zret hC hr hlk d_M_canBe_52 (by simp [bI, cbM, ix, bI1 c_10, c_20, c_30, c_34]) rfl
        · refine j_iload_n hC 3 38 rfl d_M_canBe_37 rfl rfl ?_
          refine j_sipush (v := 4096) hC 41 rfl d_M_canBe_38 (by decide) ?_
          refine j_aload_n hC 1 42 rfl d_M_canBe_41 rfl rfl ?_
          refine g_M_sizes hC 45 rfl d_M_canBe_42 ?_
          refine j_iload_n hC 0 46 rfl d_M_canBe_45 rfl rfl ?_
          refine ld_M_sizes hC (ix_in _) 47 rfl d_M_canBe_46 ?_
          refine j_isub hC 48 rfl d_M_canBe_47 ?_
          refine j_icmp_le hC 53 51 rfl d_M_canBe_48 (by decide) (fun c_48 => ?_) (fun c_48 => ?_)
          · refine j_iload_n hC 3 54 rfl d_M_canBe_53 rfl rfl ?_
            refine j_sipush (v := 3072) hC 57 rfl d_M_canBe_54 (by decide) ?_
            refine j_icmp_ge hC 74 60 rfl d_M_canBe_57 (by decide) (fun c_57 => ?_) (fun c_57 => ?_)
            · refine j_iconst (v := 1) hC 75 rfl d_M_canBe_74 (by decide) ?_
              refine j_goto hC 79 d_M_canBe_75 (by decide) ?_
              exact j_zret hC hr hlk d_M_canBe_79 (by simp [bI, cbM, ix, bI1 c_10, c_20, c_30, c_34, c_48, c_57]) rfl
            · refine j_iload_n hC 3 61 rfl d_M_canBe_60 rfl rfl ?_
              refine j_aload_n hC 1 62 rfl d_M_canBe_61 rfl rfl ?_
              refine g_M_sizes hC 65 rfl d_M_canBe_62 ?_
              refine j_iload_n hC 0 66 rfl d_M_canBe_65 rfl rfl ?_
              refine ld_M_sizes hC (ix_in _) 67 rfl d_M_canBe_66 ?_
              refine j_iadd hC 68 rfl d_M_canBe_67 ?_
              refine j_sipush (v := 3072) hC 71 rfl d_M_canBe_68 (by decide) ?_
              refine j_icmp_gt hC 78 74 rfl d_M_canBe_71 (by decide) (fun c_71 => ?_) (fun c_71 => ?_)
              · refine j_iconst (v := 0) hC 79 rfl d_M_canBe_78 (by decide) ?_
                exact j_zret hC hr hlk d_M_canBe_79 (by simp [bI, cbM, ix, bI1 c_10, c_20, c_30, c_34, c_48, c_57, c_71]) rfl
              · refine j_iconst (v := 1) hC 75 rfl d_M_canBe_74 (by decide) ?_
                refine j_goto hC 79 d_M_canBe_75 (by decide) ?_
                exact j_zret hC hr hlk d_M_canBe_79 (by simp [bI, cbM, ix, bI1 c_10, c_20, c_30, c_34, c_48, c_57, c_71]) rfl
          · refine j_iconst (v := 0) hC 52 rfl d_M_canBe_51 (by decide) ?_
            exact j_zret hC hr hlk d_M_canBe_52 (by simp [bI, cbM, ix, bI1 c_10, c_20, c_30, c_34, c_48]) rfl
set_option maxHeartbeats 4000000 in
set_option maxRecDepth 100000 in
theorem c_M_isDone {op : Int32}  : kM l dC dI cI cZ cB cJ y_M_isDone b_M_isDone 2 (some .boolean) 0 0 [.ref (am 0), .int op] (wM am cI cZ μ ν ρ) (some (.int (bI (idM μ ν op)))) (wM am cI cZ μ ν ρ) := by
  refine jM.of (lv := [(0, .ref (am 0)), (1, .int op)]) (own := R_M) jE_loc (by decide) rfl rfl (Nat.le_of_ble_eq_true rfl) rfl ?_
  intro p e s m args below meth c A hC hr hlk
  refine j_aload_n hC 0 1 rfl d_M_isDone_0 rfl rfl ?_
  refine g_M_kinds hC 4 rfl d_M_isDone_1 ?_
  refine j_iload_n hC 1 5 rfl d_M_isDone_4 rfl rfl ?_
  refine j_bipush (v := 127) hC 7 rfl d_M_isDone_5 (by decide) ?_
  refine j_iand hC 8 rfl d_M_isDone_7 ?_
  refine ld_M_kinds hC (ix_in _) 9 rfl d_M_isDone_8 ?_
  refine j_if_ne hC 28 12 rfl d_M_isDone_9 (by decide) (fun c_9 => ?_) (fun c_9 => ?_)
  · refine j_iconst (v := 0) hC 29 rfl d_M_isDone_28 (by decide) ?_
    exact j_zret hC hr hlk d_M_isDone_29 (by simp [bI, idM, ix, c_9]) rfl
  · refine j_aload_n hC 0 13 rfl d_M_isDone_12 rfl rfl ?_
    refine g_M_done hC 16 rfl d_M_isDone_13 ?_
    refine j_iload_n hC 1 17 rfl d_M_isDone_16 rfl rfl ?_
    refine j_bipush (v := 127) hC 19 rfl d_M_isDone_17 (by decide) ?_
    refine j_iand hC 20 rfl d_M_isDone_19 ?_
    refine ld_M_done hC (ix_in _) 21 rfl d_M_isDone_20 ?_
    refine j_if_eq hC 28 24 rfl d_M_isDone_21 (by decide) (fun c_21 => ?_) (fun c_21 => ?_)
    · refine j_iconst (v := 0) hC 29 rfl d_M_isDone_28 (by decide) ?_
      exact j_zret hC hr hlk d_M_isDone_29 (by simp [bI, idM, ix, c_9, bI0 c_21]) rfl
    · refine j_iconst (v := 1) hC 25 rfl d_M_isDone_24 (by decide) ?_
      refine j_goto hC 29 d_M_isDone_25 (by decide) ?_
      exact j_zret hC hr hlk d_M_isDone_29 (by simp [bI, idM, ix, c_9, bI1 c_21]) rfl
set_option maxHeartbeats 4000000 in
set_option maxRecDepth 100000 in
theorem c_M_tookOlder {load st : Int32} (hz : ∀ i, μ 13 i ≤ 4) : kM l dC dI cI cZ cB cJ y_M_tookOlder b_M_tookOlder 6 (some .boolean) 2 44 [.ref (am 0), .int load, .int st] (wM am cI cZ μ ν ρ) (some (.int (bI (toM μ load st)))) (wM am cI cZ μ ν ρ) := by
  refine jM.of (lv := [(0, .ref (am 0)), (1, .int load), (2, .int st)]) (own := R_M) jE_loc (by decide) rfl rfl (Nat.le_of_ble_eq_true rfl) rfl ?_
  intro p e s m args below meth c A hC hr hlk
  have loop : ∀ (n : Nat) (k : Int32) (x : Bool), 0 ≤ k → dist k (μ 13 (ix load)) < n → toM μ load st = (x || exL (toP μ load st) k (μ 13 (ix load))) → kJ l dC dI p e s m args below meth c A 2 44 6 (some (.int (bI (toM μ load st)))) (wM am cI cZ μ ν ρ) (wM am cI cZ μ ν ρ) 11 [(5, .int k), (4, .int (bI x)), (3, .int (load &&& 127)), (0, .ref (am 0)), (1, .int load), (2, .int st)] [] := by
    intro n
    induction n with
    | zero => intro k x hk hd hR; exact absurd hd (Nat.not_lt_zero _)
    | succ n ih =>
      intro k x hk hd hR
      refine j_iload hC 0 13 rfl d_M_tookOlder_11 rfl ?_
      refine j_aload_n hC 3 14 rfl d_M_tookOlder_13 rfl rfl ?_
      refine g_M_sizes hC 17 rfl d_M_tookOlder_14 ?_
      refine j_iload_n hC 2 18 rfl d_M_tookOlder_17 rfl rfl ?_
      refine ld_M_sizes hC (ix_in _) 19 rfl d_M_tookOlder_18 ?_
      refine j_icmp_ge hC 75 22 rfl d_M_tookOlder_19 (by decide) (fun c_19 => ?_) (fun c_19 => ?_)
      · refine j_iload hC 1 77 rfl d_M_tookOlder_75 rfl ?_
        exact j_zret hC hr hlk d_M_tookOlder_77 (by rw [hR, exL_out (b := μ 13 (ix load)) c_19]; simp) rfl
      · refine j_iload hC 1 24 rfl d_M_tookOlder_22 rfl ?_
        refine j_if_ne hC 62 27 rfl d_M_tookOlder_24 (by decide) (fun c_24 => ?_) (fun c_24 => ?_)
        · refine j_iconst (v := (bI true)) hC 63 rfl d_M_tookOlder_62 rfl ?_
          refine j_goto hC 67 d_M_tookOlder_63 (by decide) ?_
          refine j_istore (lv' := [(4, _), (5, _), (3, _), (0, _), (1, _), (2, _)]) hC 69 rfl d_M_tookOlder_67 (by decide) rfl ?_
          refine j_iinc (lv' := [(5, _), (4, _), (3, _), (0, _), (1, _), (2, _)]) hC 1 72 rfl d_M_tookOlder_69 rfl (inc1 _) (by decide) rfl ?_
          refine j_goto hC 11 d_M_tookOlder_72 (by decide) ?_
          exact ih _ _ (nn1 hk c_19) (dist_lt c_19 hd) (by rw [hR, exL_in (b := μ 13 (ix load)) c_19]; simp [toP, ix, c_19, bI1 c_24])
        · refine j_aload_n hC 3 28 rfl d_M_tookOlder_27 rfl rfl ?_
          refine j_iload_n hC 5 29 rfl d_M_tookOlder_28 rfl rfl ?_
          refine j_bipush (v := 127) hC 31 rfl d_M_tookOlder_29 (by decide) ?_
          refine j_iand hC 32 rfl d_M_tookOlder_31 ?_
          refine j_aload_n hC 3 33 rfl d_M_tookOlder_32 rfl rfl ?_
          refine g_M_places hC 36 rfl d_M_tookOlder_33 ?_
          refine j_iload_n hC 2 37 rfl d_M_tookOlder_36 rfl rfl ?_
          refine ld_M_places hC (ix_in _) 38 rfl d_M_tookOlder_37 ?_
          refine j_iload hC 0 40 rfl d_M_tookOlder_38 rfl ?_
          refine j_iadd hC 41 rfl d_M_tookOlder_40 ?_
          refine j_callVi hC jE_loc jT_good (As := [_, _]) (c_M_has (ix_in _)) yk_M_has lk_M_78 ⟨rfl, rfl⟩ ⟨Nat.le_of_ble_eq_true rfl, Nat.le_of_ble_eq_true rfl⟩ 0 rfl rfl rfl rfl (Nat.le_of_ble_eq_true rfl) ⟨Nat.zero_le _, Nat.zero_le _⟩ d_M_tookOlder_41 44 rfl rfl ?_
          refine j_if_eq hC 66 47 rfl d_M_tookOlder_44 (by decide) (fun c_44 => ?_) (fun c_44 => ?_)
          · refine j_iconst (v := (bI false)) hC 67 rfl d_M_tookOlder_66 rfl ?_
            refine j_istore (lv' := [(4, _), (5, _), (3, _), (0, _), (1, _), (2, _)]) hC 69 rfl d_M_tookOlder_67 (by decide) rfl ?_
            refine j_iinc (lv' := [(5, _), (4, _), (3, _), (0, _), (1, _), (2, _)]) hC 1 72 rfl d_M_tookOlder_69 rfl (inc1 _) (by decide) rfl ?_
            refine j_goto hC 11 d_M_tookOlder_72 (by decide) ?_
            exact ih _ _ (nn1 hk c_19) (dist_lt c_19 hd) (by rw [hR, exL_in (b := μ 13 (ix load)) c_19]; simp [toP, ix, c_19, bI0 c_24, bI0 c_44])
          · refine j_aload_n hC 3 48 rfl d_M_tookOlder_47 rfl rfl ?_
            refine g_M_from hC 51 rfl d_M_tookOlder_48 ?_
            refine j_iconst (v := 4) hC 52 rfl d_M_tookOlder_51 (by decide) ?_
            refine j_iload_n hC 2 53 rfl d_M_tookOlder_52 rfl rfl ?_
            refine j_imul hC 54 rfl d_M_tookOlder_53 ?_
            refine j_iload hC 0 56 rfl d_M_tookOlder_54 rfl ?_
            refine j_iadd hC 57 rfl d_M_tookOlder_56 ?_
            refine ld_M_from hC (fr_in hk c_19 (hz _)) 58 rfl d_M_tookOlder_57 ?_
            refine j_iload_n hC 5 59 rfl d_M_tookOlder_58 rfl rfl ?_
            refine j_icmp_ge hC 66 62 rfl d_M_tookOlder_59 (by decide) (fun c_59 => ?_) (fun c_59 => ?_)
            · refine j_iconst (v := (bI false)) hC 67 rfl d_M_tookOlder_66 rfl ?_
              refine j_istore (lv' := [(4, _), (5, _), (3, _), (0, _), (1, _), (2, _)]) hC 69 rfl d_M_tookOlder_67 (by decide) rfl ?_
              refine j_iinc (lv' := [(5, _), (4, _), (3, _), (0, _), (1, _), (2, _)]) hC 1 72 rfl d_M_tookOlder_69 rfl (inc1 _) (by decide) rfl ?_
              refine j_goto hC 11 d_M_tookOlder_72 (by decide) ?_
              exact ih _ _ (nn1 hk c_19) (dist_lt c_19 hd) (by rw [hR, exL_in (b := μ 13 (ix load)) c_19]; simp [toP, ix, c_19, bI0 c_24, bI1 c_44, c_59])
            · refine j_iconst (v := (bI true)) hC 63 rfl d_M_tookOlder_62 rfl ?_
              refine j_goto hC 67 d_M_tookOlder_63 (by decide) ?_
              refine j_istore (lv' := [(4, _), (5, _), (3, _), (0, _), (1, _), (2, _)]) hC 69 rfl d_M_tookOlder_67 (by decide) rfl ?_
              refine j_iinc (lv' := [(5, _), (4, _), (3, _), (0, _), (1, _), (2, _)]) hC 1 72 rfl d_M_tookOlder_69 rfl (inc1 _) (by decide) rfl ?_
              refine j_goto hC 11 d_M_tookOlder_72 (by decide) ?_
              exact ih _ _ (nn1 hk c_19) (dist_lt c_19 hd) (by rw [hR, exL_in (b := μ 13 (ix load)) c_19]; simp [toP, ix, c_19, bI0 c_24, bI1 c_44, c_59])
  refine j_iload_n hC 1 1 rfl d_M_tookOlder_0 rfl rfl ?_
  refine j_bipush (v := 127) hC 3 rfl d_M_tookOlder_1 (by decide) ?_
  refine j_iand hC 4 rfl d_M_tookOlder_3 ?_
  refine j_istore_n (lv' := [(3, _), (0, _), (1, _), (2, _)]) hC 5 rfl d_M_tookOlder_4 rfl (by decide) rfl ?_
  refine j_iconst (v := (bI false)) hC 6 rfl d_M_tookOlder_5 rfl ?_
  refine j_istore (lv' := [(4, _), (3, _), (0, _), (1, _), (2, _)]) hC 8 rfl d_M_tookOlder_6 (by decide) rfl ?_
  refine j_iconst (v := 0) hC 9 rfl d_M_tookOlder_8 (by decide) ?_
  refine j_istore (lv' := [(5, _), (4, _), (3, _), (0, _), (1, _), (2, _)]) hC 11 rfl d_M_tookOlder_9 (by decide) rfl ?_
  exact loop _ 0 false (by decide) (Nat.lt_succ_self _) (by simp [toM])
set_option maxHeartbeats 4000000 in
set_option maxRecDepth 100000 in
theorem c_M_undo {fi : Int32}  : kM l dC dI cI cZ cB cJ y_M_undo b_M_undo 4 (some .int) 1 21 [.ref (am 0), .int fi] (wM am cI cZ μ ν ρ) (some (.int ((udL μ fi (μ 1 0) ν 0).2))) (wM am cI cZ (sS (sS μ 4 (μ 4 0 + 1)) 3 (μ 3 0 + (udL μ fi (μ 1 0) ν 0).2)) (udL μ fi (μ 1 0) ν 0).1 ρ) := by
  refine jM.of (lv := [(0, .ref (am 0)), (1, .int fi)]) (own := R_M) jE_loc (by decide) rfl rfl (Nat.le_of_ble_eq_true rfl) rfl ?_
  intro p e s m args below meth c A hC hr hlk
  have loop : ∀ (n : Nat) (i x : Int32) (δ : B2), dist i (μ 1 0) < n → udL μ fi (μ 1 0) ν 0 = udL μ i (μ 1 0) δ x → kJ l dC dI p e s m args below meth c A 1 21 4 (some (.int ((udL μ fi (μ 1 0) ν 0).2))) (wM am cI cZ (sS (sS μ 4 (μ 4 0 + 1)) 3 (μ 3 0 + (udL μ fi (μ 1 0) ν 0).2)) (udL μ fi (μ 1 0) ν 0).1 ρ) (wM am cI cZ μ δ ρ) 4 [(3, .int i), (2, .int x), (0, .ref (am 0)), (1, .int fi)] [] := by
    intro n
    induction n with
    | zero => intro i x δ hd hR; exact absurd hd (Nat.not_lt_zero _)
    | succ n ih =>
      intro i x δ hd hR
      refine j_iload_n hC 0 5 rfl d_M_undo_4 rfl rfl ?_
      refine j_aload_n hC 2 6 rfl d_M_undo_5 rfl rfl ?_
      refine g_M_total hC 9 rfl d_M_undo_6 ?_
      refine j_icmp_ge hC 42 12 rfl d_M_undo_9 (by decide) (fun c_9 => ?_) (fun c_9 => ?_)
      · refine j_aload_n hC 2 43 rfl d_M_undo_42 rfl rfl ?_
        refine j_dup hC 44 rfl d_M_undo_43 rfl ?_
        refine g_M_wrong hC 47 rfl d_M_undo_44 ?_
        refine j_iconst (v := 1) hC 48 rfl d_M_undo_47 (by decide) ?_
        refine j_iadd hC 49 rfl d_M_undo_48 ?_
        refine p_M_wrong hC 52 rfl d_M_undo_49 ?_
        refine j_aload_n hC 2 53 rfl d_M_undo_52 rfl rfl ?_
        refine j_dup hC 54 rfl d_M_undo_53 rfl ?_
        refine g_M_undone hC 57 rfl d_M_undo_54 ?_
        refine j_iload_n hC 1 58 rfl d_M_undo_57 rfl rfl ?_
        refine j_iadd hC 59 rfl d_M_undo_58 ?_
        refine p_M_undone hC 62 rfl d_M_undo_59 ?_
        refine j_iload_n hC 1 63 rfl d_M_undo_62 rfl rfl ?_
        exact j_iret hC hr hlk d_M_undo_63 (by rw [hR, udL_out c_9]) (by rw [hR, udL_out c_9] <;> rfl)
      · refine j_aload_n hC 2 13 rfl d_M_undo_12 rfl rfl ?_
        refine j_iload_n hC 0 14 rfl d_M_undo_13 rfl rfl ?_
        refine j_callVi hC jE_loc jT_good (As := [_]) c_M_isDone yk_M_isDone lk_M_94 ⟨rfl, rfl⟩ ⟨Nat.le_of_ble_eq_true rfl, Nat.le_of_ble_eq_true rfl⟩ 0 rfl rfl rfl rfl (Nat.le_of_ble_eq_true rfl) ⟨Nat.zero_le _, Nat.zero_le _⟩ d_M_undo_14 17 rfl rfl ?_
        refine j_if_ne hC 23 20 rfl d_M_undo_17 (by decide) (fun c_17 => ?_) (fun c_17 => ?_)
        · refine j_aload_n hC 2 24 rfl d_M_undo_23 rfl rfl ?_
          refine g_M_done hC 27 rfl d_M_undo_24 ?_
          refine j_iload_n hC 0 28 rfl d_M_undo_27 rfl rfl ?_
          refine j_bipush (v := 127) hC 30 rfl d_M_undo_28 (by decide) ?_
          refine j_iand hC 31 rfl d_M_undo_30 ?_
          refine j_iconst (v := 0) hC 32 rfl d_M_undo_31 (by decide) ?_
          refine st_M_done hC (ix_in _) (b := false) rfl 33 rfl d_M_undo_32 ?_
          refine j_iinc (lv' := [(2, _), (3, _), (0, _), (1, _)]) hC 1 36 rfl d_M_undo_33 rfl (inc1 _) (by decide) rfl ?_
          refine j_iinc (lv' := [(3, _), (2, _), (0, _), (1, _)]) hC 1 39 rfl d_M_undo_36 rfl (inc1 _) (by decide) rfl ?_
          refine j_goto hC 4 d_M_undo_39 (by decide) ?_
          exact ih _ _ _ (dist_lt c_9 hd) (by rw [hR, udL_in c_9]; simp [c_9, bI1 c_17] <;> rfl)
        · refine j_goto hC 36 d_M_undo_20 (by decide) ?_
          refine j_iinc (lv' := [(3, _), (2, _), (0, _), (1, _)]) hC 0 39 rfl d_M_undo_36 rfl (inc1 _) (by decide) rfl ?_
          refine j_goto hC 4 d_M_undo_39 (by decide) ?_
          exact ih _ _ _ (dist_lt c_9 hd) (by rw [hR, udL_in c_9]; simp [c_9, bI0 c_17] <;> rfl)
  refine j_iconst (v := 0) hC 1 rfl d_M_undo_0 (by decide) ?_
  refine j_istore_n (lv' := [(2, _), (0, _), (1, _)]) hC 2 rfl d_M_undo_1 rfl (by decide) rfl ?_
  refine j_iload_n hC 2 3 rfl d_M_undo_2 rfl rfl ?_
  refine j_istore_n (lv' := [(3, _), (2, _), (0, _), (1, _)]) hC 4 rfl d_M_undo_3 rfl (by decide) rfl ?_
  exact loop _ _ _ _ (Nat.lt_succ_self _) rfl
end KC
