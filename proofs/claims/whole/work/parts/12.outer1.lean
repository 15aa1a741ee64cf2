section KC
variable {l : Launch} {dC : Nat → ClassId} {dI : Nat → Nat → Nat} {cI cZ cB cJ : ClassId} {ad : Nat → Nat} {σ : S2} {β : B2} {mk : Int64} {ρ : va_W} {am : Nat → Nat} {μ : S2} {ν : B2}
set_option maxHeartbeats 4000000 in
set_option maxRecDepth 100000 in
theorem r_C_waitingOps   : kR l dC dI cI cZ cB cJ y_C_waitingOps b_C_waitingOps 1 (some .int) 0 0 [.ref (ad 0)] (wC ad cI cZ cB σ β mk ρ) (some (.int (σ 0 0 - σ 1 0))) := by
  refine jR.of (lv := [(0, .ref (ad 0))]) (own := R_C) jE_loc (by decide) rfl rfl (Nat.le_of_ble_eq_true rfl) rfl ?_
  intro p e s m args below meth c A hC hr hlk
  refine j_aload_n hC 0 1 rfl d_C_waitingOps_0 rfl rfl ?_
  refine g_C_nextOp hC 4 rfl d_C_waitingOps_1 ?_
  refine j_aload_n hC 0 5 rfl d_C_waitingOps_4 rfl rfl ?_
  refine g_C_oldestWaiting hC 8 rfl d_C_waitingOps_5 ?_
  refine j_isub hC 9 rfl d_C_waitingOps_8 ?_
  exact j_iretR hC hr hlk d_C_waitingOps_9 rfl
theorem c_C_waitingOps   : kM l dC dI cI cZ cB cJ y_C_waitingOps b_C_waitingOps 1 (some .int) 0 0 [.ref (ad 0)] (wC ad cI cZ cB σ β mk ρ) (some (.int (σ 0 0 - σ 1 0))) (wC ad cI cZ cB σ β mk ρ) := (r_C_waitingOps ).toM
set_option maxHeartbeats 4000000 in
set_option maxRecDepth 100000 in
theorem r_C_waits {op : Int32}  : kR l dC dI cI cZ cB cJ y_C_waits b_C_waits 2 (some .boolean) 0 0 [.ref (ad 0), .int op] (wC ad cI cZ cB σ β mk ρ) (some (.int (bI (!decide (op < σ 1 0) && !decide (σ 0 0 ≤ op))))) := by
  refine jR.of (lv := [(0, .ref (ad 0)), (1, .int op)]) (own := R_C) jE_loc (by decide) rfl rfl (Nat.le_of_ble_eq_true rfl) rfl ?_
  intro p e s m args below meth c A hC hr hlk
  refine j_iload_n hC 1 1 rfl d_C_waits_0 rfl rfl ?_
  refine j_aload_n hC 0 2 rfl d_C_waits_1 rfl rfl ?_
  refine g_C_oldestWaiting hC 5 rfl d_C_waits_2 ?_
  refine j_icmp_lt hC 20 8 rfl d_C_waits_5 (by decide) (fun c_5 => ?_) (fun c_5 => ?_)
  · refine j_iconst (v := 0) hC 21 rfl d_C_waits_20 (by decide) ?_
    exact j_zretR hC hr hlk d_C_waits_21 (by simp [bI, c_5])
  · refine j_iload_n hC 1 9 rfl d_C_waits_8 rfl rfl ?_
    refine j_aload_n hC 0 10 rfl d_C_waits_9 rfl rfl ?_
    refine g_C_nextOp hC 13 rfl d_C_waits_10 ?_
    refine j_icmp_ge hC 20 16 rfl d_C_waits_13 (by decide) (fun c_13 => ?_) (fun c_13 => ?_)
    · refine j_iconst (v := 0) hC 21 rfl d_C_waits_20 (by decide) ?_
      exact j_zretR hC hr hlk d_C_waits_21 (by simp [bI, c_5, c_13])
    · refine j_iconst (v := 1) hC 17 rfl d_C_waits_16 (by decide) ?_
      refine j_goto hC 21 d_C_waits_17 (by decide) ?_
      exact j_zretR hC hr hlk d_C_waits_21 (by simp [bI, c_5, c_13])
theorem c_C_waits {op : Int32}  : kM l dC dI cI cZ cB cJ y_C_waits b_C_waits 2 (some .boolean) 0 0 [.ref (ad 0), .int op] (wC ad cI cZ cB σ β mk ρ) (some (.int (bI (!decide (op < σ 1 0) && !decide (σ 0 0 ≤ op))))) (wC ad cI cZ cB σ β mk ρ) := (r_C_waits ).toM
set_option maxHeartbeats 4000000 in
set_option maxRecDepth 100000 in
theorem r_C_hasLoaded {op : Int32}  : kR l dC dI cI cZ cB cJ y_C_hasLoaded b_C_hasLoaded 2 (some .boolean) 1 21 [.ref (ad 0), .int op] (wC ad cI cZ cB σ β mk ρ) (some (.int (bI (hlC σ β op)))) := by
  refine jR.of (lv := [(0, .ref (ad 0)), (1, .int op)]) (own := R_C) jE_loc (by decide) rfl rfl (Nat.le_of_ble_eq_true rfl) rfl ?_
  intro p e s m args below meth c A hC hr hlk
  refine j_aload_n hC 0 1 rfl d_C_hasLoaded_0 rfl rfl ?_
  refine g_C_ops hC 4 rfl d_C_hasLoaded_1 ?_
  refine j_iload_n hC 1 5 rfl d_C_hasLoaded_4 rfl rfl ?_
  refine j_callVRi hC jE_loc jT_good (As := [_]) r_O_kindOf yk_O_kindOf lk_C_85 ⟨rfl, rfl⟩ ⟨Nat.le_of_ble_eq_true rfl, Nat.le_of_ble_eq_true rfl⟩ 1 rfl rfl rfl rfl (Nat.le_of_ble_eq_true rfl) ⟨Nat.zero_le _, Nat.zero_le _⟩ d_C_hasLoaded_5 8 rfl rfl ?_
  refine j_iconst (v := 3) hC 9 rfl d_C_hasLoaded_8 (by decide) ?_
  refine j_icmp_ne hC 28 12 rfl d_C_hasLoaded_9 (by decide) (fun c_9 => ?_) (fun c_9 => ?_)
  · refine j_aload_n hC 0 29 rfl d_C_hasLoaded_28 rfl rfl ?_
    refine g_C_ops hC 32 rfl d_C_hasLoaded_29 ?_
    refine j_iload_n hC 1 33 rfl d_C_hasLoaded_32 rfl rfl ?_
    refine j_callVRi hC jE_loc jT_good (As := [_]) r_O_isDone yk_O_isDone lk_C_129 ⟨rfl, rfl⟩ ⟨Nat.le_of_ble_eq_true rfl, Nat.le_of_ble_eq_true rfl⟩ 1 rfl rfl rfl rfl (Nat.le_of_ble_eq_true rfl) ⟨Nat.zero_le _, Nat.zero_le _⟩ d_C_hasLoaded_33 36 rfl rfl ?_
    exact j_zretR hC hr hlk d_C_hasLoaded_36 (by simp [bI, hlC, c_9])
  · refine j_aload_n hC 0 13 rfl d_C_hasLoaded_12 rfl rfl ?_
    refine j_iload_n hC 1 14 rfl d_C_hasLoaded_13 rfl rfl ?_
    refine j_callVRi hC jE_loc jT_good (As := [_]) r_C_waits yk_C_waits lk_C_81 ⟨rfl, rfl⟩ ⟨Nat.le_of_ble_eq_true rfl, Nat.le_of_ble_eq_true rfl⟩ 0 rfl rfl rfl rfl (Nat.le_of_ble_eq_true rfl) ⟨Nat.zero_le _, Nat.zero_le _⟩ d_C_hasLoaded_14 17 rfl rfl ?_
    refine j_if_ne hC 24 20 rfl d_C_hasLoaded_17 (by decide) (fun c_17 => ?_) (fun c_17 => ?_)
    · refine j_iconst (v := 0) hC 25 rfl d_C_hasLoaded_24 (by decide) ?_
      refine j_goto hC 36 d_C_hasLoaded_25 (by decide) ?_
      exact j_zretR hC hr hlk d_C_hasLoaded_36 (by simp [bI, hlC, c_9, bI1 c_17])
    · refine j_iconst (v := 1) hC 21 rfl d_C_hasLoaded_20 (by decide) ?_
      refine j_goto hC 36 d_C_hasLoaded_21 (by decide) ?_
      exact j_zretR hC hr hlk d_C_hasLoaded_36 (by simp [bI, hlC, c_9, bI0 c_17])
theorem c_C_hasLoaded {op : Int32}  : kM l dC dI cI cZ cB cJ y_C_hasLoaded b_C_hasLoaded 2 (some .boolean) 1 21 [.ref (ad 0), .int op] (wC ad cI cZ cB σ β mk ρ) (some (.int (bI (hlC σ β op)))) (wC ad cI cZ cB σ β mk ρ) := (r_C_hasLoaded ).toM
set_option maxHeartbeats 4000000 in
set_option maxRecDepth 100000 in
theorem c_C_mark {prog : Int32}  : kM l dC dI cI cZ cB cJ y_C_mark b_C_mark 2 none 0 0 [.ref (ad 0), .int prog] (wC ad cI cZ cB σ β mk ρ) none (wC ad cI cZ cB σ β (mkS mk prog) ρ) := by
  refine jM.of (lv := [(0, .ref (ad 0)), (1, .int prog)]) (own := R_C) jE_loc (by decide) rfl rfl (Nat.le_of_ble_eq_true rfl) rfl ?_
  intro p e s m args below meth c A hC hr hlk
  refine j_aload_n hC 0 1 rfl d_C_mark_0 rfl rfl ?_
  refine j_aload_n hC 0 2 rfl d_C_mark_1 rfl rfl ?_
  refine g_C_marks hC 5 rfl d_C_mark_2 ?_
  refine j_lconst (v := 1) hC 6 rfl d_C_mark_5 (by decide) ?_
  refine j_iload_n hC 1 7 rfl d_C_mark_6 rfl rfl ?_
  refine j_bipush (v := 63) hC 9 rfl d_C_mark_7 (by decide) ?_
  refine j_iand hC 10 rfl d_C_mark_9 ?_
  refine j_lshl hC 11 rfl d_C_mark_10 rfl ?_
  refine j_lor hC 12 rfl d_C_mark_11 ?_
  refine p_C_marks hC 15 rfl d_C_mark_12 ?_
  exact j_vret hC hr hlk d_C_mark_15 rfl
set_option maxHeartbeats 4000000 in
set_option maxRecDepth 100000 in
theorem c_C_isHeldBack {load : Int32}  : kM l dC dI cI cZ cB cJ y_C_isHeldBack b_C_isHeldBack 4 (some .boolean) 1 21 [.ref (ad 0), .int load] (wC ad cI cZ cB σ β mk ρ) (some (.int (bI (hbC σ β load)))) (wC ad cI cZ cB σ β mk ρ) := by
  refine jM.of (lv := [(0, .ref (ad 0)), (1, .int load)]) (own := R_C) jE_loc (by decide) rfl rfl (Nat.le_of_ble_eq_true rfl) rfl ?_
  intro p e s m args below meth c A hC hr hlk
  have loop : ∀ (n : Nat) (i : Int32), dist i load < n → hbC σ β load = exL (hbP σ) i load → kJ l dC dI p e s m args below meth c A 1 21 4 (some (.int (bI (hbC σ β load)))) (wC ad cI cZ cB σ β mk ρ) (wC ad cI cZ cB σ β mk ρ) 39 [(2, .int i), (0, .ref (ad 0)), (1, .int load)] [] := by
    intro n
    induction n with
    | zero => intro i hd hR; exact absurd hd (Nat.not_lt_zero _)
    | succ n ih =>
      intro i hd hR
      refine j_iload_n hC 0 40 rfl d_C_isHeldBack_39 rfl rfl ?_
      refine j_iload_n hC 2 41 rfl d_C_isHeldBack_40 rfl rfl ?_
      refine j_icmp_ge hC 71 44 rfl d_C_isHeldBack_41 (by decide) (fun c_41 => ?_) (fun c_41 => ?_)
      · refine j_iconst (v := 0) hC 72 rfl d_C_isHeldBack_71 (by decide) ?_
        exact j_zret hC hr hlk d_C_isHeldBack_72 (by rw [hR, exL_out c_41]; rfl) rfl
      · refine j_aload_n hC 1 45 rfl d_C_isHeldBack_44 rfl rfl ?_
        refine g_C_ops hC 48 rfl d_C_isHeldBack_45 ?_
        refine j_iload_n hC 0 49 rfl d_C_isHeldBack_48 rfl rfl ?_
        refine j_callVi hC jE_loc jT_good (As := [_]) c_O_kindOf yk_O_kindOf lk_C_85 ⟨rfl, rfl⟩ ⟨Nat.le_of_ble_eq_true rfl, Nat.le_of_ble_eq_true rfl⟩ 1 rfl rfl rfl rfl (Nat.le_of_ble_eq_true rfl) ⟨Nat.zero_le _, Nat.zero_le _⟩ d_C_isHeldBack_49 52 rfl rfl ?_
        refine j_istore_n (lv' := [(3, _), (2, _), (0, _), (1, _)]) hC 53 rfl d_C_isHeldBack_52 rfl (by decide) rfl ?_
        refine j_iload_n hC 0 54 rfl d_C_isHeldBack_53 rfl rfl ?_
        refine j_iconst (v := 2) hC 55 rfl d_C_isHeldBack_54 (by decide) ?_
        refine j_icmp_eq hC 63 58 rfl d_C_isHeldBack_55 (by decide) (fun c_55 => ?_) (fun c_55 => ?_)
        · refine j_iconst (v := 1) hC 64 rfl d_C_isHeldBack_63 (by decide) ?_
          exact j_zret hC hr hlk d_C_isHeldBack_64 (by rw [hR, exL_in c_41]; simp [bI, hbP, c_41, c_55]) rfl
        · refine j_iload_n hC 0 59 rfl d_C_isHeldBack_58 rfl rfl ?_
          refine j_iconst (v := 3) hC 60 rfl d_C_isHeldBack_59 (by decide) ?_
          refine j_icmp_ne hC 65 63 rfl d_C_isHeldBack_60 (by decide) (fun c_60 => ?_) (fun c_60 => ?_)
          · refine j_iinc (lv' := [(2, _), (3, _), (0, _), (1, _)]) hC 1 68 rfl d_C_isHeldBack_65 rfl (inc1 _) (by decide) rfl ?_
            refine j_goto hC 39 d_C_isHeldBack_68 (by decide) ?_
            refine j_sub (lv' := [(2, _), (0, _), (1, _)]) [0, 2, 3] rfl ?_
            exact ih _ (dist_lt c_41 hd) (by rw [hR, exL_in c_41]; simp [hbP, c_41, c_55, c_60])
          · refine j_iconst (v := 1) hC 64 rfl d_C_isHeldBack_63 (by decide) ?_
            exact j_zret hC hr hlk d_C_isHeldBack_64 (by rw [hR, exL_in c_41]; simp [bI, hbP, c_41, c_55, c_60]) rfl
  refine j_aload_n hC 0 1 rfl d_C_isHeldBack_0 rfl rfl ?_
  refine g_C_ops hC 4 rfl d_C_isHeldBack_1 ?_
  refine j_iload_n hC 1 5 rfl d_C_isHeldBack_4 rfl rfl ?_
  refine j_callVi hC jE_loc jT_good (As := [_]) c_O_addressOf yk_O_addressOf lk_C_225 ⟨rfl, rfl⟩ ⟨Nat.le_of_ble_eq_true rfl, Nat.le_of_ble_eq_true rfl⟩ 1 rfl rfl rfl rfl (Nat.le_of_ble_eq_true rfl) ⟨Nat.zero_le _, Nat.zero_le _⟩ d_C_isHeldBack_5 8 rfl rfl ?_
  refine j_callSi hC jE_loc jT_good (As := [_]) c_C_isDevice yk_C_isDevice lk_C_217 ⟨rfl, rfl⟩ ⟨Nat.le_of_ble_eq_true rfl, Nat.le_of_ble_eq_true rfl⟩ rfl (Nat.le_of_ble_eq_true rfl) ⟨Nat.zero_le _, Nat.zero_le _⟩ d_C_isHeldBack_8 11 rfl rfl ?_
  refine j_if_eq hC 34 14 rfl d_C_isHeldBack_11 (by decide) (fun c_11 => ?_) (fun c_11 => ?_)
  · refine j_aload_n hC 0 35 rfl d_C_isHeldBack_34 rfl rfl ?_
    refine g_C_oldestWaiting hC 38 rfl d_C_isHeldBack_35 ?_
    refine j_istore_n (lv' := [(2, _), (0, _), (1, _)]) hC 39 rfl d_C_isHeldBack_38 rfl (by decide) rfl ?_
    exact loop _ _ (Nat.lt_succ_self _) (by simp [hbC, bI0 c_11])
  · refine j_iload_n hC 1 15 rfl d_C_isHeldBack_14 rfl rfl ?_
    refine j_aload_n hC 0 16 rfl d_C_isHeldBack_15 rfl rfl ?_
    refine g_C_oldestWaiting hC 19 rfl d_C_isHeldBack_16 ?_
    refine j_icmp_ne hC 32 22 rfl d_C_isHeldBack_19 (by decide) (fun c_19 => ?_) (fun c_19 => ?_)
    · refine j_iconst (v := 1) hC 33 rfl d_C_isHeldBack_32 (by decide) ?_
      exact j_zret hC hr hlk d_C_isHeldBack_33 (by rw [hbC, bI1 c_11]; simp [bI, bI1 c_11, c_19]) rfl
    · refine j_aload_n hC 0 23 rfl d_C_isHeldBack_22 rfl rfl ?_
      refine g_C_buffer hC 26 rfl d_C_isHeldBack_23 ?_
      refine j_callVi hC jE_loc jT_good (As := []) c_B_isEmpty yk_B_isEmpty lk_C_176 ⟨rfl, rfl⟩ ⟨Nat.le_of_ble_eq_true rfl, Nat.le_of_ble_eq_true rfl⟩ 2 rfl rfl rfl rfl (Nat.le_of_ble_eq_true rfl) ⟨Nat.zero_le _, Nat.zero_le _⟩ d_C_isHeldBack_26 29 rfl rfl ?_
      refine j_if_ne hC 34 32 rfl d_C_isHeldBack_29 (by decide) (fun c_29 => ?_) (fun c_29 => ?_)
      · refine j_aload_n hC 0 35 rfl d_C_isHeldBack_34 rfl rfl ?_
        refine g_C_oldestWaiting hC 38 rfl d_C_isHeldBack_35 ?_
        refine j_istore_n (lv' := [(2, _), (0, _), (1, _)]) hC 39 rfl d_C_isHeldBack_38 rfl (by decide) rfl ?_
        exact loop _ _ (Nat.lt_succ_self _) (by simp [hbC, bI1 c_11, c_19, bI1 c_29])
      · refine j_iconst (v := 1) hC 33 rfl d_C_isHeldBack_32 (by decide) ?_
        exact j_zret hC hr hlk d_C_isHeldBack_33 (by rw [hbC, bI1 c_11]; simp [bI, bI1 c_11, c_19, bI0 c_29]) rfl
set_option maxHeartbeats 4000000 in
set_option maxRecDepth 100000 in
theorem c_C_storeWithoutAddressBefore {load : Int32}  : kM l dC dI cI cZ cB cJ y_C_storeWithoutAddressBefore b_C_storeWithoutAddressBefore 3 (some .boolean) 1 21 [.ref (ad 0), .int load] (wC ad cI cZ cB σ β mk ρ) (some (.int (bI (exL (naP σ β) (σ 1 0) load)))) (wC ad cI cZ cB σ β mk ρ) := by
  refine jM.of (lv := [(0, .ref (ad 0)), (1, .int load)]) (own := R_C) jE_loc (by decide) rfl rfl (Nat.le_of_ble_eq_true rfl) rfl ?_
  intro p e s m args below meth c A hC hr hlk
  have loop : ∀ (n : Nat) (i : Int32), dist i load < n → exL (naP σ β) (σ 1 0) load = exL (naP σ β) i load → kJ l dC dI p e s m args below meth c A 1 21 3 (some (.int (bI (exL (naP σ β) (σ 1 0) load)))) (wC ad cI cZ cB σ β mk ρ) (wC ad cI cZ cB σ β mk ρ) 5 [(2, .int i), (0, .ref (ad 0)), (1, .int load)] [] := by
    intro n
    induction n with
    | zero => intro i hd hR; exact absurd hd (Nat.not_lt_zero _)
    | succ n ih =>
      intro i hd hR
      refine j_iload_n hC 0 6 rfl d_C_storeWithoutAddressBefore_5 rfl rfl ?_
      refine j_iload_n hC 2 7 rfl d_C_storeWithoutAddressBefore_6 rfl rfl ?_
      refine j_icmp_ge hC 41 10 rfl d_C_storeWithoutAddressBefore_7 (by decide) (fun c_7 => ?_) (fun c_7 => ?_)
      · refine j_iconst (v := 0) hC 42 rfl d_C_storeWithoutAddressBefore_41 (by decide) ?_
        exact j_zret hC hr hlk d_C_storeWithoutAddressBefore_42 (by rw [hR, exL_out c_7]; rfl) rfl
      · refine j_aload_n hC 1 11 rfl d_C_storeWithoutAddressBefore_10 rfl rfl ?_
        refine g_C_ops hC 14 rfl d_C_storeWithoutAddressBefore_11 ?_
        refine j_iload_n hC 0 15 rfl d_C_storeWithoutAddressBefore_14 rfl rfl ?_
        refine j_callVi hC jE_loc jT_good (As := [_]) c_O_kindOf yk_O_kindOf lk_C_85 ⟨rfl, rfl⟩ ⟨Nat.le_of_ble_eq_true rfl, Nat.le_of_ble_eq_true rfl⟩ 1 rfl rfl rfl rfl (Nat.le_of_ble_eq_true rfl) ⟨Nat.zero_le _, Nat.zero_le _⟩ d_C_storeWithoutAddressBefore_15 18 rfl rfl ?_
        refine j_iconst (v := 1) hC 19 rfl d_C_storeWithoutAddressBefore_18 (by decide) ?_
        refine j_icmp_ne hC 35 22 rfl d_C_storeWithoutAddressBefore_19 (by decide) (fun c_19 => ?_) (fun c_19 => ?_)
        · refine j_iinc (lv' := [(2, _), (0, _), (1, _)]) hC 0 38 rfl d_C_storeWithoutAddressBefore_35 rfl (inc1 _) (by decide) rfl ?_
          refine j_goto hC 5 d_C_storeWithoutAddressBefore_38 (by decide) ?_
          exact ih _ (dist_lt c_7 hd) (by rw [hR, exL_in c_7]; simp [naP, c_7, c_19])
        · refine j_aload_n hC 1 23 rfl d_C_storeWithoutAddressBefore_22 rfl rfl ?_
          refine g_C_ops hC 26 rfl d_C_storeWithoutAddressBefore_23 ?_
          refine j_iload_n hC 0 27 rfl d_C_storeWithoutAddressBefore_26 rfl rfl ?_
          refine j_callVi hC jE_loc jT_good (As := [_]) c_O_hasAddress yk_O_hasAddress lk_C_89 ⟨rfl, rfl⟩ ⟨Nat.le_of_ble_eq_true rfl, Nat.le_of_ble_eq_true rfl⟩ 1 rfl rfl rfl rfl (Nat.le_of_ble_eq_true rfl) ⟨Nat.zero_le _, Nat.zero_le _⟩ d_C_storeWithoutAddressBefore_27 30 rfl rfl ?_
          refine j_if_ne hC 35 33 rfl d_C_storeWithoutAddressBefore_30 (by decide) (fun c_30 => ?_) (fun c_30 => ?_)
          · refine j_iinc (lv' := [(2, _), (0, _), (1, _)]) hC 0 38 rfl d_C_storeWithoutAddressBefore_35 rfl (inc1 _) (by decide) rfl ?_
            refine j_goto hC 5 d_C_storeWithoutAddressBefore_38 (by decide) ?_
            exact ih _ (dist_lt c_7 hd) (by rw [hR, exL_in c_7]; simp [naP, c_7, c_19, bI1 c_30])
          · refine j_iconst (v := 1) hC 34 rfl d_C_storeWithoutAddressBefore_33 (by decide) ?_
            exact j_zret hC hr hlk d_C_storeWithoutAddressBefore_34 (by rw [hR, exL_in c_7]; simp [bI, naP, c_7, c_19, bI0 c_30]) rfl
  refine j_aload_n hC 0 1 rfl d_C_storeWithoutAddressBefore_0 rfl rfl ?_
  refine g_C_oldestWaiting hC 4 rfl d_C_storeWithoutAddressBefore_1 ?_
  refine j_istore_n (lv' := [(2, _), (0, _), (1, _)]) hC 5 rfl d_C_storeWithoutAddressBefore_4 rfl (by decide) rfl ?_
  exact loop _ _ (Nat.lt_succ_self _) rfl
set_option maxHeartbeats 4000000 in
set_option maxRecDepth 100000 in
theorem c_C_newestStoreBefore {load at0 : Int32} (h0 : 0 ≤ σ 1 0) : kM l dC dI cI cZ cB cJ y_C_newestStoreBefore b_C_newestStoreBefore 4 (some .int) 2 44 [.ref (ad 0), .int load, .int at0] (wC ad cI cZ cB σ β mk ρ) (some (.int (nsC σ β load at0))) (wC ad cI cZ cB σ β mk ρ) := by
  refine jM.of (lv := [(0, .ref (ad 0)), (1, .int load), (2, .int at0)]) (own := R_C) jE_loc (by decide) rfl rfl (Nat.le_of_ble_eq_true rfl) rfl ?_
  intro p e s m args below meth c A hC hr hlk
  have loop : ∀ (n : Nat) (i : Int32), dnst (σ 1 0) i < n → nsC σ β load at0 = laL (nsP σ β at0) (σ 1 0) i → kJ l dC dI p e s m args below meth c A 2 44 4 (some (.int (nsC σ β load at0))) (wC ad cI cZ cB σ β mk ρ) (wC ad cI cZ cB σ β mk ρ) 4 [(3, .int i), (0, .ref (ad 0)), (1, .int load), (2, .int at0)] [] := by
    intro n
    induction n with
    | zero => intro i hd hR; exact absurd hd (Nat.not_lt_zero _)
    | succ n ih =>
      intro i hd hR
      refine j_iload_n hC 0 5 rfl d_C_newestStoreBefore_4 rfl rfl ?_
      refine j_aload_n hC 1 6 rfl d_C_newestStoreBefore_5 rfl rfl ?_
      refine g_C_oldestWaiting hC 9 rfl d_C_newestStoreBefore_6 ?_
      refine j_icmp_lt hC 44 12 rfl d_C_newestStoreBefore_9 (by decide) (fun c_9 => ?_) (fun c_9 => ?_)
      · refine j_iconst (v := (-1)) hC 45 rfl d_C_newestStoreBefore_44 (by decide) ?_
        exact j_iret hC hr hlk d_C_newestStoreBefore_45 (by rw [hR, laL_out c_9]) rfl
      · refine j_aload_n hC 1 13 rfl d_C_newestStoreBefore_12 rfl rfl ?_
        refine g_C_ops hC 16 rfl d_C_newestStoreBefore_13 ?_
        refine j_iload_n hC 0 17 rfl d_C_newestStoreBefore_16 rfl rfl ?_
        refine j_callVi hC jE_loc jT_good (As := [_]) c_O_kindOf yk_O_kindOf lk_C_85 ⟨rfl, rfl⟩ ⟨Nat.le_of_ble_eq_true rfl, Nat.le_of_ble_eq_true rfl⟩ 1 rfl rfl rfl rfl (Nat.le_of_ble_eq_true rfl) ⟨Nat.zero_le _, Nat.zero_le _⟩ d_C_newestStoreBefore_17 20 rfl rfl ?_
        refine j_iconst (v := 1) hC 21 rfl d_C_newestStoreBefore_20 (by decide) ?_
        refine j_icmp_ne hC 38 24 rfl d_C_newestStoreBefore_21 (by decide) (fun c_21 => ?_) (fun c_21 => ?_)
        · refine j_iinc (lv' := [(3, _), (0, _), (1, _), (2, _)]) hC 0 41 rfl d_C_newestStoreBefore_38 rfl (dec1 _) (by decide) rfl ?_
          refine j_goto hC 4 d_C_newestStoreBefore_41 (by decide) ?_
          exact ih _ (dnst_lt h0 c_9 hd) (by rw [hR, laL_in h0 c_9]; simp [nsP, c_9, c_21])
        · refine j_aload_n hC 1 25 rfl d_C_newestStoreBefore_24 rfl rfl ?_
          refine g_C_ops hC 28 rfl d_C_newestStoreBefore_25 ?_
          refine j_iload_n hC 0 29 rfl d_C_newestStoreBefore_28 rfl rfl ?_
          refine j_iload_n hC 3 30 rfl d_C_newestStoreBefore_29 rfl rfl ?_
          refine j_callVi hC jE_loc jT_good (As := [_, _]) c_O_covers yk_O_covers lk_C_231 ⟨rfl, rfl⟩ ⟨Nat.le_of_ble_eq_true rfl, Nat.le_of_ble_eq_true rfl⟩ 1 rfl rfl rfl rfl (Nat.le_of_ble_eq_true rfl) ⟨Nat.zero_le _, Nat.zero_le _⟩ d_C_newestStoreBefore_30 33 rfl rfl ?_
          refine j_if_eq hC 38 36 rfl d_C_newestStoreBefore_33 (by decide) (fun c_33 => ?_) (fun c_33 => ?_)
          · refine j_iinc (lv' := [(3, _), (0, _), (1, _), (2, _)]) hC 0 41 rfl d_C_newestStoreBefore_38 rfl (dec1 _) (by decide) rfl ?_
            refine j_goto hC 4 d_C_newestStoreBefore_41 (by decide) ?_
            exact ih _ (dnst_lt h0 c_9 hd) (by rw [hR, laL_in h0 c_9]; simp [nsP, c_9, c_21, bI0 c_33])
          · refine j_iload_n hC 0 37 rfl d_C_newestStoreBefore_36 rfl rfl ?_
            exact j_iret hC hr hlk d_C_newestStoreBefore_37 (by rw [hR, laL_in h0 c_9]; simp [nsP, c_9, c_21, bI1 c_33]) rfl
  refine j_iload_n hC 1 1 rfl d_C_newestStoreBefore_0 rfl rfl ?_
  refine j_iconst (v := 1) hC 2 rfl d_C_newestStoreBefore_1 (by decide) ?_
  refine j_isub hC 3 rfl d_C_newestStoreBefore_2 ?_
  refine j_istore_n (lv' := [(3, _), (0, _), (1, _), (2, _)]) hC 4 rfl d_C_newestStoreBefore_3 rfl (by decide) rfl ?_
  exact loop _ _ (Nat.lt_succ_self _) rfl
set_option maxHeartbeats 4000000 in
set_option maxRecDepth 100000 in
theorem c_C_storeWithoutNumberFor {load : Int32} (h0 : 0 ≤ σ 1 0) : kM l dC dI cI cZ cB cJ y_C_storeWithoutNumberFor b_C_storeWithoutNumberFor 5 (some .boolean) 3 67 [.ref (ad 0), .int load] (wC ad cI cZ cB σ β mk ρ) (some (.int (bI (exL (nnP σ β load) 0 (σ 11 (ix load)))))) (wC ad cI cZ cB σ β mk ρ) := by
  refine jM.of (lv := [(0, .ref (ad 0)), (1, .int load)]) (own := R_C) jE_loc (by decide) rfl rfl (Nat.le_of_ble_eq_true rfl) rfl ?_
  intro p e s m args below meth c A hC hr hlk
  have loop : ∀ (n : Nat) (i : Int32), dist i (σ 11 (ix load)) < n → exL (nnP σ β load) 0 (σ 11 (ix load)) = exL (nnP σ β load) i (σ 11 (ix load)) → kJ l dC dI p e s m args below meth c A 3 67 5 (some (.int (bI (exL (nnP σ β load) 0 (σ 11 (ix load)))))) (wC ad cI cZ cB σ β mk ρ) (wC ad cI cZ cB σ β mk ρ) 11 [(3, .int i), (2, .int (σ 13 (ix load))), (0, .ref (ad 0)), (1, .int load)] [] := by
    intro n
    induction n with
    | zero => intro i hd hR; exact absurd hd (Nat.not_lt_zero _)
    | succ n ih =>
      intro i hd hR
      refine j_iload_n hC 0 12 rfl d_C_storeWithoutNumberFor_11 rfl rfl ?_
      refine j_aload_n hC 2 13 rfl d_C_storeWithoutNumberFor_12 rfl rfl ?_
      refine g_C_ops hC 16 rfl d_C_storeWithoutNumberFor_13 ?_
      refine j_iload_n hC 3 17 rfl d_C_storeWithoutNumberFor_16 rfl rfl ?_
      refine j_callVi hC jE_loc jT_good (As := [_]) c_O_bytesOf yk_O_bytesOf lk_C_94 ⟨rfl, rfl⟩ ⟨Nat.le_of_ble_eq_true rfl, Nat.le_of_ble_eq_true rfl⟩ 1 rfl rfl rfl rfl (Nat.le_of_ble_eq_true rfl) ⟨Nat.zero_le _, Nat.zero_le _⟩ d_C_storeWithoutNumberFor_17 20 rfl rfl ?_
      refine j_icmp_ge hC 59 23 rfl d_C_storeWithoutNumberFor_20 (by decide) (fun c_20 => ?_) (fun c_20 => ?_)
      · refine j_iconst (v := 0) hC 60 rfl d_C_storeWithoutNumberFor_59 (by decide) ?_
        exact j_zret hC hr hlk d_C_storeWithoutNumberFor_60 (by rw [hR, exL_out c_20]; rfl) rfl
      · refine j_aload_n hC 2 24 rfl d_C_storeWithoutNumberFor_23 rfl rfl ?_
        refine j_iload_n hC 3 25 rfl d_C_storeWithoutNumberFor_24 rfl rfl ?_
        refine j_iload_n hC 1 26 rfl d_C_storeWithoutNumberFor_25 rfl rfl ?_
        refine j_iload_n hC 0 27 rfl d_C_storeWithoutNumberFor_26 rfl rfl ?_
        refine j_iadd hC 28 rfl d_C_storeWithoutNumberFor_27 ?_
        refine j_callVi hC jE_loc jT_good (As := [_, _]) (c_C_newestStoreBefore h0) yk_C_newestStoreBefore lk_C_228 ⟨rfl, rfl⟩ ⟨Nat.le_of_ble_eq_true rfl, Nat.le_of_ble_eq_true rfl⟩ 0 rfl rfl rfl rfl (Nat.le_of_ble_eq_true rfl) ⟨Nat.zero_le _, Nat.zero_le _⟩ d_C_storeWithoutNumberFor_28 31 rfl rfl ?_
        refine j_istore (lv' := [(4, _), (3, _), (2, _), (0, _), (1, _)]) hC 33 rfl d_C_storeWithoutNumberFor_31 (by decide) rfl ?_
        refine j_iload hC 0 35 rfl d_C_storeWithoutNumberFor_33 rfl ?_
        refine j_iconst (v := (-1)) hC 36 rfl d_C_storeWithoutNumberFor_35 (by decide) ?_
        refine j_icmp_eq hC 53 39 rfl d_C_storeWithoutNumberFor_36 (by decide) (fun c_36 => ?_) (fun c_36 => ?_)
        · refine j_iinc (lv' := [(3, _), (4, _), (2, _), (0, _), (1, _)]) hC 1 56 rfl d_C_storeWithoutNumberFor_53 rfl (inc1 _) (by decide) rfl ?_
          refine j_goto hC 11 d_C_storeWithoutNumberFor_56 (by decide) ?_
          refine j_sub (lv' := [(3, _), (2, _), (0, _), (1, _)]) [0, 2, 3, 4] rfl ?_
          exact ih _ (dist_lt c_20 hd) (by rw [hR, exL_in c_20]; simp [nnP, c_20, c_36])
        · refine j_aload_n hC 3 40 rfl d_C_storeWithoutNumberFor_39 rfl rfl ?_
          refine g_C_ops hC 43 rfl d_C_storeWithoutNumberFor_40 ?_
          refine j_iload hC 0 45 rfl d_C_storeWithoutNumberFor_43 rfl ?_
          refine j_callVi hC jE_loc jT_good (As := [_]) c_O_hasNumber yk_O_hasNumber lk_C_121 ⟨rfl, rfl⟩ ⟨Nat.le_of_ble_eq_true rfl, Nat.le_of_ble_eq_true rfl⟩ 1 rfl rfl rfl rfl (Nat.le_of_ble_eq_true rfl) ⟨Nat.zero_le _, Nat.zero_le _⟩ d_C_storeWithoutNumberFor_45 48 rfl rfl ?_
          refine j_if_ne hC 53 51 rfl d_C_storeWithoutNumberFor_48 (by decide) (fun c_48 => ?_) (fun c_48 => ?_)
          · refine j_iinc (lv' := [(3, _), (4, _), (2, _), (0, _), (1, _)]) hC 1 56 rfl d_C_storeWithoutNumberFor_53 rfl (inc1 _) (by decide) rfl ?_
            refine j_goto hC 11 d_C_storeWithoutNumberFor_56 (by decide) ?_
            refine j_sub (lv' := [(3, _), (2, _), (0, _), (1, _)]) [0, 2, 3, 4] rfl ?_
            exact ih _ (dist_lt c_20 hd) (by rw [hR, exL_in c_20]; simp [nnP, c_20, c_36, bI1 c_48])
          · refine j_iconst (v := 1) hC 52 rfl d_C_storeWithoutNumberFor_51 (by decide) ?_
            exact j_zret hC hr hlk d_C_storeWithoutNumberFor_52 (by rw [hR, exL_in c_20]; simp [bI, nnP, c_20, c_36, bI0 c_48]) rfl
  refine j_aload_n hC 0 1 rfl d_C_storeWithoutNumberFor_0 rfl rfl ?_
  refine g_C_ops hC 4 rfl d_C_storeWithoutNumberFor_1 ?_
  refine j_iload_n hC 1 5 rfl d_C_storeWithoutNumberFor_4 rfl rfl ?_
  refine j_callVi hC jE_loc jT_good (As := [_]) c_O_addressOf yk_O_addressOf lk_C_225 ⟨rfl, rfl⟩ ⟨Nat.le_of_ble_eq_true rfl, Nat.le_of_ble_eq_true rfl⟩ 1 rfl rfl rfl rfl (Nat.le_of_ble_eq_true rfl) ⟨Nat.zero_le _, Nat.zero_le _⟩ d_C_storeWithoutNumberFor_5 8 rfl rfl ?_
  refine j_istore_n (lv' := [(2, _), (0, _), (1, _)]) hC 9 rfl d_C_storeWithoutNumberFor_8 rfl (by decide) rfl ?_
  refine j_iconst (v := 0) hC 10 rfl d_C_storeWithoutNumberFor_9 (by decide) ?_
  refine j_istore_n (lv' := [(3, _), (2, _), (0, _), (1, _)]) hC 11 rfl d_C_storeWithoutNumberFor_10 rfl (by decide) rfl ?_
  exact loop _ _ (Nat.lt_succ_self _) rfl
set_option maxHeartbeats 4000000 in
set_option maxRecDepth 100000 in
theorem c_C_takeByte {load k at0 : Int32} (h0 : 0 ≤ σ 1 0) : kM l dC dI cI cZ cB cJ y_C_takeByte b_C_takeByte 6 (some .int) 3 67 [.ref (ad 0), .int load, .int k, .int at0] (wC ad cI cZ cB σ β mk ρ) (some (.int (tkB σ β load at0))) (wC ad cI cZ cB (tkS σ β load k at0) β mk ρ) := by
  refine jM.of (lv := [(0, .ref (ad 0)), (1, .int load), (2, .int k), (3, .int at0)]) (own := R_C) jE_loc (by decide) rfl rfl (Nat.le_of_ble_eq_true rfl) rfl ?_
  intro p e s m args below meth c A hC hr hlk
  refine j_aload_n hC 0 1 rfl d_C_takeByte_0 rfl rfl ?_
  refine j_iload_n hC 1 2 rfl d_C_takeByte_1 rfl rfl ?_
  refine j_iload_n hC 3 3 rfl d_C_takeByte_2 rfl rfl ?_
  refine j_callVi hC jE_loc jT_good (As := [_, _]) (c_C_newestStoreBefore h0) yk_C_newestStoreBefore lk_C_228 ⟨rfl, rfl⟩ ⟨Nat.le_of_ble_eq_true rfl, Nat.le_of_ble_eq_true rfl⟩ 0 rfl rfl rfl rfl (Nat.le_of_ble_eq_true rfl) ⟨Nat.zero_le _, Nat.zero_le _⟩ d_C_takeByte_3 6 rfl rfl ?_
  refine j_istore (lv' := [(4, _), (0, _), (1, _), (2, _), (3, _)]) hC 8 rfl d_C_takeByte_6 (by decide) rfl ?_
  refine j_iload hC 0 10 rfl d_C_takeByte_8 rfl ?_
  refine j_iconst (v := (-1)) hC 11 rfl d_C_takeByte_10 (by decide) ?_
  refine j_icmp_eq hC 46 14 rfl d_C_takeByte_11 (by decide) (fun c_11 => ?_) (fun c_11 => ?_)
  · refine j_aload_n hC 1 47 rfl d_C_takeByte_46 rfl rfl ?_
    refine j_dup hC 48 rfl d_C_takeByte_47 rfl ?_
    refine g_C_bytesFromElsewhere hC 51 rfl d_C_takeByte_48 ?_
    refine j_iconst (v := 1) hC 52 rfl d_C_takeByte_51 (by decide) ?_
    refine j_iadd hC 53 rfl d_C_takeByte_52 ?_
    refine p_C_bytesFromElsewhere hC 56 rfl d_C_takeByte_53 ?_
    refine j_aload_n hC 1 57 rfl d_C_takeByte_56 rfl rfl ?_
    refine g_C_buffer hC 60 rfl d_C_takeByte_57 ?_
    refine j_iload_n hC 4 61 rfl d_C_takeByte_60 rfl rfl ?_
    refine j_callVi hC jE_loc jT_good (As := [_]) c_B_byteAt yk_B_byteAt lk_C_251 ⟨rfl, rfl⟩ ⟨Nat.le_of_ble_eq_true rfl, Nat.le_of_ble_eq_true rfl⟩ 2 rfl rfl rfl rfl (Nat.le_of_ble_eq_true rfl) ⟨Nat.zero_le _, Nat.zero_le _⟩ d_C_takeByte_61 64 rfl rfl ?_
    refine j_eqi bbL_5 ?_
    refine j_istore (lv' := [(5, _), (4, _), (0, _), (1, _), (2, _), (3, _)]) hC 66 rfl d_C_takeByte_64 (by decide) rfl ?_
    refine j_iload hC 0 68 rfl d_C_takeByte_66 rfl ?_
    refine j_iconst (v := (-1)) hC 69 rfl d_C_takeByte_68 (by decide) ?_
    refine j_icmp_eq hC 86 72 rfl d_C_takeByte_69 (by decide) (fun c_69 => ?_) (fun c_69 => ?_)
    · refine j_aload_n hC 2 87 rfl d_C_takeByte_86 rfl rfl ?_
      refine g_C_ops hC 90 rfl d_C_takeByte_87 ?_
      refine j_iload_n hC 3 91 rfl d_C_takeByte_90 rfl rfl ?_
      refine j_iload_n hC 4 92 rfl d_C_takeByte_91 rfl rfl ?_
      refine j_iconst (v := (-1)) hC 93 rfl d_C_takeByte_92 (by decide) ?_
      refine j_callVv hC jE_loc jT_good (As := [_, _, _]) c_O_setSource yk_O_setSource lk_C_245 ⟨rfl, rfl⟩ ⟨Nat.le_of_ble_eq_true rfl, Nat.le_of_ble_eq_true rfl⟩ 1 rfl rfl rfl rfl (Nat.le_of_ble_eq_true rfl) ⟨Nat.zero_le _, Nat.zero_le _⟩ d_C_takeByte_93 96 rfl rfl ?_
      refine j_aload_n hC 2 97 rfl d_C_takeByte_96 rfl rfl ?_
      refine g_C_mainMemory hC 100 rfl d_C_takeByte_97 ?_
      refine j_iload_n hC 5 101 rfl d_C_takeByte_100 rfl rfl ?_
      refine j_callVi hC jE_loc jT_good (As := [_]) c_Y_byteAt yk_Y_byteAt lk_C_200 ⟨rfl, rfl⟩ ⟨Nat.le_of_ble_eq_true rfl, Nat.le_of_ble_eq_true rfl⟩ 3 rfl rfl rfl rfl (Nat.le_of_ble_eq_true rfl) ⟨Nat.zero_le _, Nat.zero_le _⟩ d_C_takeByte_101 104 rfl rfl ?_
      exact j_iret hC hr hlk d_C_takeByte_104 (by simp [tkB, c_11, c_69] <;> rfl) (by simp only [tkS, c_11, c_69, reduceIte] <;> rfl)
    · refine j_aload_n hC 2 73 rfl d_C_takeByte_72 rfl rfl ?_
      refine g_C_ops hC 76 rfl d_C_takeByte_73 ?_
      refine j_iload_n hC 3 77 rfl d_C_takeByte_76 rfl rfl ?_
      refine j_iload_n hC 4 78 rfl d_C_takeByte_77 rfl rfl ?_
      refine j_bipush (v := (-2)) hC 80 rfl d_C_takeByte_78 (by decide) ?_
      refine j_callVv hC jE_loc jT_good (As := [_, _, _]) c_O_setSource yk_O_setSource lk_C_245 ⟨rfl, rfl⟩ ⟨Nat.le_of_ble_eq_true rfl, Nat.le_of_ble_eq_true rfl⟩ 1 rfl rfl rfl rfl (Nat.le_of_ble_eq_true rfl) ⟨Nat.zero_le _, Nat.zero_le _⟩ d_C_takeByte_80 83 rfl rfl ?_
      refine j_iload hC 0 85 rfl d_C_takeByte_83 rfl ?_
      exact j_iret hC hr hlk d_C_takeByte_85 (by simp [tkB, c_11, c_69] <;> rfl) (by simp only [tkS, c_11, c_69, reduceIte] <;> rfl)
  · refine j_aload_n hC 1 15 rfl d_C_takeByte_14 rfl rfl ?_
    refine g_C_ops hC 18 rfl d_C_takeByte_15 ?_
    refine j_iload_n hC 2 19 rfl d_C_takeByte_18 rfl rfl ?_
    refine j_iload_n hC 3 20 rfl d_C_takeByte_19 rfl rfl ?_
    refine j_iload hC 0 22 rfl d_C_takeByte_20 rfl ?_
    refine j_callVv hC jE_loc jT_good (As := [_, _, _]) c_O_setSource yk_O_setSource lk_C_245 ⟨rfl, rfl⟩ ⟨Nat.le_of_ble_eq_true rfl, Nat.le_of_ble_eq_true rfl⟩ 1 rfl rfl rfl rfl (Nat.le_of_ble_eq_true rfl) ⟨Nat.zero_le _, Nat.zero_le _⟩ d_C_takeByte_22 25 rfl rfl ?_
    refine j_aload_n hC 1 26 rfl d_C_takeByte_25 rfl rfl ?_
    refine j_dup hC 27 rfl d_C_takeByte_26 rfl ?_
    refine g_C_bytesFromStores hC 30 rfl d_C_takeByte_27 ?_
    refine j_iconst (v := 1) hC 31 rfl d_C_takeByte_30 (by decide) ?_
    refine j_iadd hC 32 rfl d_C_takeByte_31 ?_
    refine p_C_bytesFromStores hC 35 rfl d_C_takeByte_32 ?_
    refine j_aload_n hC 1 36 rfl d_C_takeByte_35 rfl rfl ?_
    refine g_C_ops hC 39 rfl d_C_takeByte_36 ?_
    refine j_iload hC 0 41 rfl d_C_takeByte_39 rfl ?_
    refine j_iload_n hC 4 42 rfl d_C_takeByte_41 rfl rfl ?_
    refine j_callVi hC jE_loc jT_good (As := [_, _]) c_O_byteAt yk_O_byteAt lk_C_249 ⟨rfl, rfl⟩ ⟨Nat.le_of_ble_eq_true rfl, Nat.le_of_ble_eq_true rfl⟩ 1 rfl rfl rfl rfl (Nat.le_of_ble_eq_true rfl) ⟨Nat.zero_le _, Nat.zero_le _⟩ d_C_takeByte_42 45 rfl rfl ?_
    exact j_iret hC hr hlk d_C_takeByte_45 (by simp [tkB, c_11] <;> rfl) (by simp only [tkS, c_11, reduceIte] <;> rfl)
set_option maxHeartbeats 4000000 in
set_option maxRecDepth 100000 in
theorem c_C_doLoad {load : Int32} (h0 : 0 ≤ σ 1 0) : kM l dC dI cI cZ cB cJ y_C_doLoad b_C_doLoad 5 none 4 92 [.ref (ad 0), .int load] (wC ad cI cZ cB σ β mk ρ) none (wC ad cI cZ cB (dlS σ β load) (bA β 2 (ix load) true) mk ρ) := by
  refine jM.of (lv := [(0, .ref (ad 0)), (1, .int load)]) (own := R_C) jE_loc (by decide) rfl rfl (Nat.le_of_ble_eq_true rfl) rfl ?_
  intro p e s m args below meth c A hC hr hlk
  have loop : ∀ (n : Nat) (k x : Int32) (τ : S2), 0 ≤ τ 1 0 → τ 11 (ix load) = σ 11 (ix load) → dist k (σ 11 (ix load)) < n → dlL β load (σ 13 (ix load)) (σ 11 (ix load)) k x τ = dlL β load (σ 13 (ix load)) (σ 11 (ix load)) 0 0 σ → kJ l dC dI p e s m args below meth c A 4 92 5 none (wC ad cI cZ cB (dlS σ β load) (bA β 2 (ix load) true) mk ρ) (wC ad cI cZ cB τ β mk ρ) 14 [(4, .int k), (3, .int x), (2, .int (σ 13 (ix load))), (0, .ref (ad 0)), (1, .int load)] [] := by
    intro n
    induction n with
    | zero => intro k x τ hτ h11 hd hR; exact absurd hd (Nat.not_lt_zero _)
    | succ n ih =>
      intro k x τ hτ h11 hd hR
      refine j_iload hC 0 16 rfl d_C_doLoad_14 rfl ?_
      refine j_aload_n hC 3 17 rfl d_C_doLoad_16 rfl rfl ?_
      refine g_C_ops hC 20 rfl d_C_doLoad_17 ?_
      refine j_iload_n hC 4 21 rfl d_C_doLoad_20 rfl rfl ?_
      refine j_callVi hC jE_loc jT_good (As := [_]) c_O_bytesOf yk_O_bytesOf lk_C_94 ⟨rfl, rfl⟩ ⟨Nat.le_of_ble_eq_true rfl, Nat.le_of_ble_eq_true rfl⟩ 1 rfl rfl rfl rfl (Nat.le_of_ble_eq_true rfl) ⟨Nat.zero_le _, Nat.zero_le _⟩ d_C_doLoad_21 24 rfl rfl ?_
      refine j_eqi h11 ?_
      refine j_icmp_ge hC 50 27 rfl d_C_doLoad_24 (by decide) (fun c_24 => ?_) (fun c_24 => ?_)
      · refine j_aload_n hC 3 51 rfl d_C_doLoad_50 rfl rfl ?_
        refine g_C_ops hC 54 rfl d_C_doLoad_51 ?_
        refine j_iload_n hC 4 55 rfl d_C_doLoad_54 rfl rfl ?_
        refine j_iload_n hC 1 56 rfl d_C_doLoad_55 rfl rfl ?_
        refine j_callVv hC jE_loc jT_good (As := [_, _]) c_O_setLoaded yk_O_setLoaded lk_C_238 ⟨rfl, rfl⟩ ⟨Nat.le_of_ble_eq_true rfl, Nat.le_of_ble_eq_true rfl⟩ 1 rfl rfl rfl rfl (Nat.le_of_ble_eq_true rfl) ⟨Nat.zero_le _, Nat.zero_le _⟩ d_C_doLoad_56 59 rfl rfl ?_
        refine j_aload_n hC 3 60 rfl d_C_doLoad_59 rfl rfl ?_
        refine g_C_ops hC 63 rfl d_C_doLoad_60 ?_
        refine j_iload_n hC 4 64 rfl d_C_doLoad_63 rfl rfl ?_
        refine j_iconst (v := 1) hC 65 rfl d_C_doLoad_64 (by decide) ?_
        refine j_callVv hC jE_loc jT_good (As := [_, _]) (c_O_setDone (b := true)) yk_O_setDone lk_C_241 ⟨rfl, rfl⟩ ⟨Nat.le_of_ble_eq_true rfl, Nat.le_of_ble_eq_true rfl⟩ 1 rfl rfl rfl rfl (Nat.le_of_ble_eq_true rfl) ⟨Nat.zero_le _, Nat.zero_le _⟩ d_C_doLoad_65 68 rfl rfl ?_
        exact j_vret hC hr hlk d_C_doLoad_68 (by rw [dlS, ← hR, dlL_out c_24] <;> rfl)
      · refine j_iload_n hC 1 28 rfl d_C_doLoad_27 rfl rfl ?_
        refine j_bipush (v := 8) hC 30 rfl d_C_doLoad_28 (by decide) ?_
        refine j_ishl hC 31 rfl d_C_doLoad_30 ?_
        refine j_aload_n hC 3 32 rfl d_C_doLoad_31 rfl rfl ?_
        refine j_iload_n hC 4 33 rfl d_C_doLoad_32 rfl rfl ?_
        refine j_iload hC 0 35 rfl d_C_doLoad_33 rfl ?_
        refine j_iload_n hC 2 36 rfl d_C_doLoad_35 rfl rfl ?_
        refine j_iload hC 0 38 rfl d_C_doLoad_36 rfl ?_
        refine j_iadd hC 39 rfl d_C_doLoad_38 ?_
        refine j_callVi hC jE_loc jT_good (As := [_, _, _]) (c_C_takeByte hτ) yk_C_takeByte lk_C_234 ⟨rfl, rfl⟩ ⟨Nat.le_of_ble_eq_true rfl, Nat.le_of_ble_eq_true rfl⟩ 0 rfl rfl rfl rfl (Nat.le_of_ble_eq_true rfl) ⟨Nat.zero_le _, Nat.zero_le _⟩ d_C_doLoad_39 42 rfl rfl ?_
        refine j_ior hC 43 rfl d_C_doLoad_42 ?_
        refine j_istore_n (lv' := [(3, _), (4, _), (2, _), (0, _), (1, _)]) hC 44 rfl d_C_doLoad_43 rfl (by decide) rfl ?_
        refine j_iinc (lv' := [(4, _), (3, _), (2, _), (0, _), (1, _)]) hC 1 47 rfl d_C_doLoad_44 rfl (inc1 _) (by decide) rfl ?_
        refine j_goto hC 14 d_C_doLoad_47 (by decide) ?_
        exact ih _ _ _ (by rw [tkS_1]; exact hτ) (by rw [tkS_11]; exact h11) (dist_lt c_24 hd) (by rw [← hR, dlL_in c_24])
  refine j_aload_n hC 0 1 rfl d_C_doLoad_0 rfl rfl ?_
  refine g_C_ops hC 4 rfl d_C_doLoad_1 ?_
  refine j_iload_n hC 1 5 rfl d_C_doLoad_4 rfl rfl ?_
  refine j_callVi hC jE_loc jT_good (As := [_]) c_O_addressOf yk_O_addressOf lk_C_225 ⟨rfl, rfl⟩ ⟨Nat.le_of_ble_eq_true rfl, Nat.le_of_ble_eq_true rfl⟩ 1 rfl rfl rfl rfl (Nat.le_of_ble_eq_true rfl) ⟨Nat.zero_le _, Nat.zero_le _⟩ d_C_doLoad_5 8 rfl rfl ?_
  refine j_istore_n (lv' := [(2, _), (0, _), (1, _)]) hC 9 rfl d_C_doLoad_8 rfl (by decide) rfl ?_
  refine j_iconst (v := 0) hC 10 rfl d_C_doLoad_9 (by decide) ?_
  refine j_istore_n (lv' := [(3, _), (2, _), (0, _), (1, _)]) hC 11 rfl d_C_doLoad_10 rfl (by decide) rfl ?_
  refine j_iconst (v := 0) hC 12 rfl d_C_doLoad_11 (by decide) ?_
  refine j_istore (lv' := [(4, _), (3, _), (2, _), (0, _), (1, _)]) hC 14 rfl d_C_doLoad_12 (by decide) rfl ?_
  exact loop _ 0 0 _ h0 rfl (Nat.lt_succ_self _) rfl
set_option maxHeartbeats 4000000 in
set_option maxRecDepth 100000 in
theorem c_C_missedByteOf {load st : Int32}  : kM l dC dI cI cZ cB cJ y_C_missedByteOf b_C_missedByteOf 5 (some .boolean) 2 44 [.ref (ad 0), .int load, .int st] (wC ad cI cZ cB σ β mk ρ) (some (.int (bI (mbC σ β load st)))) (wC ad cI cZ cB σ β mk ρ) := by
  refine jM.of (lv := [(0, .ref (ad 0)), (1, .int load), (2, .int st)]) (own := R_C) jE_loc (by decide) rfl rfl (Nat.le_of_ble_eq_true rfl) rfl ?_
  intro p e s m args below meth c A hC hr hlk
  have loop : ∀ (n : Nat) (i : Int32), dist i (σ 11 (ix load)) < n → mbC σ β load st = exL (mbP σ β load st) i (σ 11 (ix load)) → kJ l dC dI p e s m args below meth c A 2 44 5 (some (.int (bI (mbC σ β load st)))) (wC ad cI cZ cB σ β mk ρ) (wC ad cI cZ cB σ β mk ρ) 12 [(4, .int i), (3, .int (σ 13 (ix load))), (0, .ref (ad 0)), (1, .int load), (2, .int st)] [] := by
    intro n
    induction n with
    | zero => intro i hd hR; exact absurd hd (Nat.not_lt_zero _)
    | succ n ih =>
      intro i hd hR
      refine j_iload hC 0 14 rfl d_C_missedByteOf_12 rfl ?_
      refine j_aload_n hC 2 15 rfl d_C_missedByteOf_14 rfl rfl ?_
      refine g_C_ops hC 18 rfl d_C_missedByteOf_15 ?_
      refine j_iload_n hC 3 19 rfl d_C_missedByteOf_18 rfl rfl ?_
      refine j_callVi hC jE_loc jT_good (As := [_]) c_O_bytesOf yk_O_bytesOf lk_C_94 ⟨rfl, rfl⟩ ⟨Nat.le_of_ble_eq_true rfl, Nat.le_of_ble_eq_true rfl⟩ 1 rfl rfl rfl rfl (Nat.le_of_ble_eq_true rfl) ⟨Nat.zero_le _, Nat.zero_le _⟩ d_C_missedByteOf_19 22 rfl rfl ?_
      refine j_icmp_ge hC 62 25 rfl d_C_missedByteOf_22 (by decide) (fun c_22 => ?_) (fun c_22 => ?_)
      · refine j_iconst (v := 0) hC 63 rfl d_C_missedByteOf_62 (by decide) ?_
        exact j_zret hC hr hlk d_C_missedByteOf_63 (by rw [hR, exL_out c_22]; rfl) rfl
      · refine j_aload_n hC 2 26 rfl d_C_missedByteOf_25 rfl rfl ?_
        refine g_C_ops hC 29 rfl d_C_missedByteOf_26 ?_
        refine j_iload_n hC 4 30 rfl d_C_missedByteOf_29 rfl rfl ?_
        refine j_iload_n hC 1 31 rfl d_C_missedByteOf_30 rfl rfl ?_
        refine j_iload hC 0 33 rfl d_C_missedByteOf_31 rfl ?_
        refine j_iadd hC 34 rfl d_C_missedByteOf_33 ?_
        refine j_callVi hC jE_loc jT_good (As := [_, _]) c_O_covers yk_O_covers lk_C_231 ⟨rfl, rfl⟩ ⟨Nat.le_of_ble_eq_true rfl, Nat.le_of_ble_eq_true rfl⟩ 1 rfl rfl rfl rfl (Nat.le_of_ble_eq_true rfl) ⟨Nat.zero_le _, Nat.zero_le _⟩ d_C_missedByteOf_34 37 rfl rfl ?_
        refine j_if_eq hC 56 40 rfl d_C_missedByteOf_37 (by decide) (fun c_37 => ?_) (fun c_37 => ?_)
        · refine j_iinc (lv' := [(4, _), (3, _), (0, _), (1, _), (2, _)]) hC 0 59 rfl d_C_missedByteOf_56 rfl (inc1 _) (by decide) rfl ?_
          refine j_goto hC 12 d_C_missedByteOf_59 (by decide) ?_
          exact ih _ (dist_lt c_22 hd) (by rw [hR, exL_in c_22]; simp [mbP, c_22, bI0 c_37])
        · refine j_aload_n hC 2 41 rfl d_C_missedByteOf_40 rfl rfl ?_
          refine g_C_ops hC 44 rfl d_C_missedByteOf_41 ?_
          refine j_iload_n hC 3 45 rfl d_C_missedByteOf_44 rfl rfl ?_
          refine j_iload hC 0 47 rfl d_C_missedByteOf_45 rfl ?_
          refine j_callVi hC jE_loc jT_good (As := [_, _]) c_O_sourceOf yk_O_sourceOf lk_C_166 ⟨rfl, rfl⟩ ⟨Nat.le_of_ble_eq_true rfl, Nat.le_of_ble_eq_true rfl⟩ 1 rfl rfl rfl rfl (Nat.le_of_ble_eq_true rfl) ⟨Nat.zero_le _, Nat.zero_le _⟩ d_C_missedByteOf_47 50 rfl rfl ?_
          refine j_iload_n hC 4 51 rfl d_C_missedByteOf_50 rfl rfl ?_
          refine j_icmp_ge hC 56 54 rfl d_C_missedByteOf_51 (by decide) (fun c_51 => ?_) (fun c_51 => ?_)
          · refine j_iinc (lv' := [(4, _), (3, _), (0, _), (1, _), (2, _)]) hC 0 59 rfl d_C_missedByteOf_56 rfl (inc1 _) (by decide) rfl ?_
            refine j_goto hC 12 d_C_missedByteOf_59 (by decide) ?_
            exact ih _ (dist_lt c_22 hd) (by rw [hR, exL_in c_22]; simp [mbP, c_22, bI1 c_37, c_51])
          · refine j_iconst (v := 1) hC 55 rfl d_C_missedByteOf_54 (by decide) ?_
            exact j_zret hC hr hlk d_C_missedByteOf_55 (by rw [hR, exL_in c_22]; simp [bI, mbP, c_22, bI1 c_37, c_51]) rfl
  refine j_aload_n hC 0 1 rfl d_C_missedByteOf_0 rfl rfl ?_
  refine g_C_ops hC 4 rfl d_C_missedByteOf_1 ?_
  refine j_iload_n hC 1 5 rfl d_C_missedByteOf_4 rfl rfl ?_
  refine j_callVi hC jE_loc jT_good (As := [_]) c_O_addressOf yk_O_addressOf lk_C_225 ⟨rfl, rfl⟩ ⟨Nat.le_of_ble_eq_true rfl, Nat.le_of_ble_eq_true rfl⟩ 1 rfl rfl rfl rfl (Nat.le_of_ble_eq_true rfl) ⟨Nat.zero_le _, Nat.zero_le _⟩ d_C_missedByteOf_5 8 rfl rfl ?_
  refine j_istore_n (lv' := [(3, _), (0, _), (1, _), (2, _)]) hC 9 rfl d_C_missedByteOf_8 rfl (by decide) rfl ?_
  refine j_iconst (v := 0) hC 10 rfl d_C_missedByteOf_9 (by decide) ?_
  refine j_istore (lv' := [(4, _), (3, _), (0, _), (1, _), (2, _)]) hC 12 rfl d_C_missedByteOf_10 (by decide) rfl ?_
  exact loop _ _ (Nat.lt_succ_self _) rfl
set_option maxHeartbeats 4000000 in
set_option maxRecDepth 100000 in
theorem c_C_oldestLoadPast {st : Int32}  : kM l dC dI cI cZ cB cJ y_C_oldestLoadPast b_C_oldestLoadPast 3 (some .int) 3 68 [.ref (ad 0), .int st] (wC ad cI cZ cB σ β mk ρ) (some (.int (frL (lpP σ β st) (st + 1) (σ 0 0)))) (wC ad cI cZ cB σ β mk ρ) := by
  refine jM.of (lv := [(0, .ref (ad 0)), (1, .int st)]) (own := R_C) jE_loc (by decide) rfl rfl (Nat.le_of_ble_eq_true rfl) rfl ?_
  intro p e s m args below meth c A hC hr hlk
  have loop : ∀ (n : Nat) (i : Int32), dist i (σ 0 0) < n → frL (lpP σ β st) (st + 1) (σ 0 0) = frL (lpP σ β st) i (σ 0 0) → kJ l dC dI p e s m args below meth c A 3 68 3 (some (.int (frL (lpP σ β st) (st + 1) (σ 0 0)))) (wC ad cI cZ cB σ β mk ρ) (wC ad cI cZ cB σ β mk ρ) 4 [(2, .int i), (0, .ref (ad 0)), (1, .int st)] [] := by
    intro n
    induction n with
    | zero => intro i hd hR; exact absurd hd (Nat.not_lt_zero _)
    | succ n ih =>
      intro i hd hR
      refine j_iload_n hC 0 5 rfl d_C_oldestLoadPast_4 rfl rfl ?_
      refine j_aload_n hC 1 6 rfl d_C_oldestLoadPast_5 rfl rfl ?_
      refine g_C_nextOp hC 9 rfl d_C_oldestLoadPast_6 ?_
      refine j_icmp_ge hC 40 12 rfl d_C_oldestLoadPast_9 (by decide) (fun c_9 => ?_) (fun c_9 => ?_)
      · refine j_iconst (v := (-1)) hC 41 rfl d_C_oldestLoadPast_40 (by decide) ?_
        exact j_iret hC hr hlk d_C_oldestLoadPast_41 (by rw [hR, frL_out c_9]) rfl
      · refine j_aload_n hC 1 13 rfl d_C_oldestLoadPast_12 rfl rfl ?_
        refine g_C_ops hC 16 rfl d_C_oldestLoadPast_13 ?_
        refine j_iload_n hC 0 17 rfl d_C_oldestLoadPast_16 rfl rfl ?_
        refine j_callVi hC jE_loc jT_good (As := [_]) c_O_isDone yk_O_isDone lk_C_129 ⟨rfl, rfl⟩ ⟨Nat.le_of_ble_eq_true rfl, Nat.le_of_ble_eq_true rfl⟩ 1 rfl rfl rfl rfl (Nat.le_of_ble_eq_true rfl) ⟨Nat.zero_le _, Nat.zero_le _⟩ d_C_oldestLoadPast_17 20 rfl rfl ?_
        refine j_if_eq hC 34 23 rfl d_C_oldestLoadPast_20 (by decide) (fun c_20 => ?_) (fun c_20 => ?_)
        · refine j_iinc (lv' := [(2, _), (0, _), (1, _)]) hC 0 37 rfl d_C_oldestLoadPast_34 rfl (inc1 _) (by decide) rfl ?_
          refine j_goto hC 4 d_C_oldestLoadPast_37 (by decide) ?_
          exact ih _ (dist_lt c_9 hd) (by rw [hR, frL_in c_9]; simp [lpP, c_9, bI0 c_20])
        · refine j_aload_n hC 1 24 rfl d_C_oldestLoadPast_23 rfl rfl ?_
          refine j_iload_n hC 0 25 rfl d_C_oldestLoadPast_24 rfl rfl ?_
          refine j_iload_n hC 2 26 rfl d_C_oldestLoadPast_25 rfl rfl ?_
          refine j_callVi hC jE_loc jT_good (As := [_, _]) c_C_missedByteOf yk_C_missedByteOf lk_C_252 ⟨rfl, rfl⟩ ⟨Nat.le_of_ble_eq_true rfl, Nat.le_of_ble_eq_true rfl⟩ 0 rfl rfl rfl rfl (Nat.le_of_ble_eq_true rfl) ⟨Nat.zero_le _, Nat.zero_le _⟩ d_C_oldestLoadPast_26 29 rfl rfl ?_
          refine j_if_eq hC 34 32 rfl d_C_oldestLoadPast_29 (by decide) (fun c_29 => ?_) (fun c_29 => ?_)
          · refine j_iinc (lv' := [(2, _), (0, _), (1, _)]) hC 0 37 rfl d_C_oldestLoadPast_34 rfl (inc1 _) (by decide) rfl ?_
            refine j_goto hC 4 d_C_oldestLoadPast_37 (by decide) ?_
            exact ih _ (dist_lt c_9 hd) (by rw [hR, frL_in c_9]; simp [lpP, c_9, bI1 c_20, bI0 c_29])
          · refine j_iload_n hC 0 33 rfl d_C_oldestLoadPast_32 rfl rfl ?_
            exact j_iret hC hr hlk d_C_oldestLoadPast_33 (by rw [hR, frL_in c_9]; simp [lpP, c_9, bI1 c_20, bI1 c_29]) rfl
  refine j_iload_n hC 1 1 rfl d_C_oldestLoadPast_0 rfl rfl ?_
  refine j_iconst (v := 1) hC 2 rfl d_C_oldestLoadPast_1 (by decide) ?_
  refine j_iadd hC 3 rfl d_C_oldestLoadPast_2 ?_
  refine j_istore_n (lv' := [(2, _), (0, _), (1, _)]) hC 4 rfl d_C_oldestLoadPast_3 rfl (by decide) rfl ?_
  exact loop _ _ (Nat.lt_succ_self _) rfl
set_option maxHeartbeats 4000000 in
set_option maxRecDepth 100000 in
theorem c_C_oldestLoadFromMemory {at0 : Int32}  : kM l dC dI cI cZ cB cJ y_C_oldestLoadFromMemory b_C_oldestLoadFromMemory 3 (some .int) 2 44 [.ref (ad 0), .int at0] (wC ad cI cZ cB σ β mk ρ) (some (.int (frL (lmP σ β at0) (σ 1 0) (σ 0 0)))) (wC ad cI cZ cB σ β mk ρ) := by
  refine jM.of (lv := [(0, .ref (ad 0)), (1, .int at0)]) (own := R_C) jE_loc (by decide) rfl rfl (Nat.le_of_ble_eq_true rfl) rfl ?_
  intro p e s m args below meth c A hC hr hlk
  have loop : ∀ (n : Nat) (i : Int32), dist i (σ 0 0) < n → frL (lmP σ β at0) (σ 1 0) (σ 0 0) = frL (lmP σ β at0) i (σ 0 0) → kJ l dC dI p e s m args below meth c A 2 44 3 (some (.int (frL (lmP σ β at0) (σ 1 0) (σ 0 0)))) (wC ad cI cZ cB σ β mk ρ) (wC ad cI cZ cB σ β mk ρ) 5 [(2, .int i), (0, .ref (ad 0)), (1, .int at0)] [] := by
    intro n
    induction n with
    | zero => intro i hd hR; exact absurd hd (Nat.not_lt_zero _)
    | succ n ih =>
      intro i hd hR
      refine j_iload_n hC 0 6 rfl d_C_oldestLoadFromMemory_5 rfl rfl ?_
      refine j_aload_n hC 1 7 rfl d_C_oldestLoadFromMemory_6 rfl rfl ?_
      refine g_C_nextOp hC 10 rfl d_C_oldestLoadFromMemory_7 ?_
      refine j_icmp_ge hC 66 13 rfl d_C_oldestLoadFromMemory_10 (by decide) (fun c_10 => ?_) (fun c_10 => ?_)
      · refine j_iconst (v := (-1)) hC 67 rfl d_C_oldestLoadFromMemory_66 (by decide) ?_
        exact j_iret hC hr hlk d_C_oldestLoadFromMemory_67 (by rw [hR, frL_out c_10]) rfl
      · refine j_aload_n hC 1 14 rfl d_C_oldestLoadFromMemory_13 rfl rfl ?_
        refine g_C_ops hC 17 rfl d_C_oldestLoadFromMemory_14 ?_
        refine j_iload_n hC 0 18 rfl d_C_oldestLoadFromMemory_17 rfl rfl ?_
        refine j_callVi hC jE_loc jT_good (As := [_]) c_O_isDone yk_O_isDone lk_C_129 ⟨rfl, rfl⟩ ⟨Nat.le_of_ble_eq_true rfl, Nat.le_of_ble_eq_true rfl⟩ 1 rfl rfl rfl rfl (Nat.le_of_ble_eq_true rfl) ⟨Nat.zero_le _, Nat.zero_le _⟩ d_C_oldestLoadFromMemory_18 21 rfl rfl ?_
        refine j_if_eq hC 60 24 rfl d_C_oldestLoadFromMemory_21 (by decide) (fun c_21 => ?_) (fun c_21 => ?_)
        · refine j_iinc (lv' := [(2, _), (0, _), (1, _)]) hC 0 63 rfl d_C_oldestLoadFromMemory_60 rfl (inc1 _) (by decide) rfl ?_
          refine j_goto hC 5 d_C_oldestLoadFromMemory_63 (by decide) ?_
          exact ih _ (dist_lt c_10 hd) (by rw [hR, frL_in c_10]; simp [lmP, c_10, bI0 c_21])
        · refine j_aload_n hC 1 25 rfl d_C_oldestLoadFromMemory_24 rfl rfl ?_
          refine g_C_ops hC 28 rfl d_C_oldestLoadFromMemory_25 ?_
          refine j_iload_n hC 0 29 rfl d_C_oldestLoadFromMemory_28 rfl rfl ?_
          refine j_iload_n hC 2 30 rfl d_C_oldestLoadFromMemory_29 rfl rfl ?_
          refine j_callVi hC jE_loc jT_good (As := [_, _]) c_O_covers yk_O_covers lk_C_231 ⟨rfl, rfl⟩ ⟨Nat.le_of_ble_eq_true rfl, Nat.le_of_ble_eq_true rfl⟩ 1 rfl rfl rfl rfl (Nat.le_of_ble_eq_true rfl) ⟨Nat.zero_le _, Nat.zero_le _⟩ d_C_oldestLoadFromMemory_30 33 rfl rfl ?_
          refine j_if_eq hC 60 36 rfl d_C_oldestLoadFromMemory_33 (by decide) (fun c_33 => ?_) (fun c_33 => ?_)
          · refine j_iinc (lv' := [(2, _), (0, _), (1, _)]) hC 0 63 rfl d_C_oldestLoadFromMemory_60 rfl (inc1 _) (by decide) rfl ?_
            refine j_goto hC 5 d_C_oldestLoadFromMemory_63 (by decide) ?_
            exact ih _ (dist_lt c_10 hd) (by rw [hR, frL_in c_10]; simp [lmP, c_10, bI1 c_21, bI0 c_33])
          · refine j_aload_n hC 1 37 rfl d_C_oldestLoadFromMemory_36 rfl rfl ?_
            refine g_C_ops hC 40 rfl d_C_oldestLoadFromMemory_37 ?_
            refine j_iload_n hC 0 41 rfl d_C_oldestLoadFromMemory_40 rfl rfl ?_
            refine j_iload_n hC 2 42 rfl d_C_oldestLoadFromMemory_41 rfl rfl ?_
            refine j_aload_n hC 1 43 rfl d_C_oldestLoadFromMemory_42 rfl rfl ?_
            refine g_C_ops hC 46 rfl d_C_oldestLoadFromMemory_43 ?_
            refine j_iload_n hC 0 47 rfl d_C_oldestLoadFromMemory_46 rfl rfl ?_
            refine j_callVi hC jE_loc jT_good (As := [_]) c_O_addressOf yk_O_addressOf lk_C_225 ⟨rfl, rfl⟩ ⟨Nat.le_of_ble_eq_true rfl, Nat.le_of_ble_eq_true rfl⟩ 1 rfl rfl rfl rfl (Nat.le_of_ble_eq_true rfl) ⟨Nat.zero_le _, Nat.zero_le _⟩ d_C_oldestLoadFromMemory_47 50 rfl rfl ?_
            refine j_isub hC 51 rfl d_C_oldestLoadFromMemory_50 ?_
            refine j_callVi hC jE_loc jT_good (As := [_, _]) c_O_sourceOf yk_O_sourceOf lk_C_166 ⟨rfl, rfl⟩ ⟨Nat.le_of_ble_eq_true rfl, Nat.le_of_ble_eq_true rfl⟩ 1 rfl rfl rfl rfl (Nat.le_of_ble_eq_true rfl) ⟨Nat.zero_le _, Nat.zero_le _⟩ d_C_oldestLoadFromMemory_51 54 rfl rfl ?_
            refine j_iconst (v := (-1)) hC 55 rfl d_C_oldestLoadFromMemory_54 (by decide) ?_
            refine j_icmp_ne hC 60 58 rfl d_C_oldestLoadFromMemory_55 (by decide) (fun c_55 => ?_) (fun c_55 => ?_)
            · refine j_iinc (lv' := [(2, _), (0, _), (1, _)]) hC 0 63 rfl d_C_oldestLoadFromMemory_60 rfl (inc1 _) (by decide) rfl ?_
              refine j_goto hC 5 d_C_oldestLoadFromMemory_63 (by decide) ?_
              exact ih _ (dist_lt c_10 hd) (by rw [hR, frL_in c_10]; simp [lmP, c_10, bI1 c_21, bI1 c_33, c_55])
            · refine j_iload_n hC 0 59 rfl d_C_oldestLoadFromMemory_58 rfl rfl ?_
              exact j_iret hC hr hlk d_C_oldestLoadFromMemory_59 (by rw [hR, frL_in c_10]; simp [lmP, c_10, bI1 c_21, bI1 c_33, c_55]) rfl
  refine j_aload_n hC 0 1 rfl d_C_oldestLoadFromMemory_0 rfl rfl ?_
  refine g_C_oldestWaiting hC 4 rfl d_C_oldestLoadFromMemory_1 ?_
  refine j_istore_n (lv' := [(2, _), (0, _), (1, _)]) hC 5 rfl d_C_oldestLoadFromMemory_4 rfl (by decide) rfl ?_
  exact loop _ _ (Nat.lt_succ_self _) rfl
set_option maxHeartbeats 4000000 in
set_option maxRecDepth 100000 in
theorem c_C_undoWrong {wl : Int32}  : kM l dC dI cI cZ cB cJ y_C_undoWrong b_C_undoWrong 4 (some .int) 1 22 [.ref (ad 0), .int wl] (wC ad cI cZ cB σ β mk ρ) (some (.int ((unL wl (σ 0 0) β 0).2))) (wC ad cI cZ cB (sS (sS σ 2 (σ 2 0 + (unL wl (σ 0 0) β 0).2)) 3 (σ 3 0 + 1)) (unL wl (σ 0 0) β 0).1 mk ρ) := by
  refine jM.of (lv := [(0, .ref (ad 0)), (1, .int wl)]) (own := R_C) jE_loc (by decide) rfl rfl (Nat.le_of_ble_eq_true rfl) rfl ?_
  intro p e s m args below meth c A hC hr hlk
  have loop : ∀ (n : Nat) (i x : Int32) (δ : B2), dist i (σ 0 0) < n → unL wl (σ 0 0) β 0 = unL i (σ 0 0) δ x → kJ l dC dI p e s m args below meth c A 1 22 4 (some (.int ((unL wl (σ 0 0) β 0).2))) (wC ad cI cZ cB (sS (sS σ 2 (σ 2 0 + (unL wl (σ 0 0) β 0).2)) 3 (σ 3 0 + 1)) (unL wl (σ 0 0) β 0).1 mk ρ) (wC ad cI cZ cB σ δ mk ρ) 4 [(3, .int i), (2, .int x), (0, .ref (ad 0)), (1, .int wl)] [] := by
    intro n
    induction n with
    | zero => intro i x δ hd hR; exact absurd hd (Nat.not_lt_zero _)
    | succ n ih =>
      intro i x δ hd hR
      refine j_iload_n hC 0 5 rfl d_C_undoWrong_4 rfl rfl ?_
      refine j_aload_n hC 2 6 rfl d_C_undoWrong_5 rfl rfl ?_
      refine g_C_nextOp hC 9 rfl d_C_undoWrong_6 ?_
      refine j_icmp_ge hC 41 12 rfl d_C_undoWrong_9 (by decide) (fun c_9 => ?_) (fun c_9 => ?_)
      · refine j_aload_n hC 2 42 rfl d_C_undoWrong_41 rfl rfl ?_
        refine j_dup hC 43 rfl d_C_undoWrong_42 rfl ?_
        refine g_C_undoneSoFar hC 46 rfl d_C_undoWrong_43 ?_
        refine j_iload_n hC 1 47 rfl d_C_undoWrong_46 rfl rfl ?_
        refine j_iadd hC 48 rfl d_C_undoWrong_47 ?_
        refine p_C_undoneSoFar hC 51 rfl d_C_undoWrong_48 ?_
        refine j_aload_n hC 2 52 rfl d_C_undoWrong_51 rfl rfl ?_
        refine j_dup hC 53 rfl d_C_undoWrong_52 rfl ?_
        refine g_C_wrongSoFar hC 56 rfl d_C_undoWrong_53 ?_
        refine j_iconst (v := 1) hC 57 rfl d_C_undoWrong_56 (by decide) ?_
        refine j_iadd hC 58 rfl d_C_undoWrong_57 ?_
        refine p_C_wrongSoFar hC 61 rfl d_C_undoWrong_58 ?_
        refine j_iload_n hC 1 62 rfl d_C_undoWrong_61 rfl rfl ?_
        exact j_iret hC hr hlk d_C_undoWrong_62 (by rw [hR, unL_out c_9]) (by rw [hR, unL_out c_9] <;> rfl)
      · refine j_aload_n hC 2 13 rfl d_C_undoWrong_12 rfl rfl ?_
        refine g_C_ops hC 16 rfl d_C_undoWrong_13 ?_
        refine j_iload_n hC 0 17 rfl d_C_undoWrong_16 rfl rfl ?_
        refine j_callVi hC jE_loc jT_good (As := [_]) c_O_isDone yk_O_isDone lk_C_129 ⟨rfl, rfl⟩ ⟨Nat.le_of_ble_eq_true rfl, Nat.le_of_ble_eq_true rfl⟩ 1 rfl rfl rfl rfl (Nat.le_of_ble_eq_true rfl) ⟨Nat.zero_le _, Nat.zero_le _⟩ d_C_undoWrong_17 20 rfl rfl ?_
        refine j_if_eq hC 35 23 rfl d_C_undoWrong_20 (by decide) (fun c_20 => ?_) (fun c_20 => ?_)
        · refine j_iinc (lv' := [(3, _), (2, _), (0, _), (1, _)]) hC 0 38 rfl d_C_undoWrong_35 rfl (inc1 _) (by decide) rfl ?_
          refine j_goto hC 4 d_C_undoWrong_38 (by decide) ?_
          exact ih _ _ _ (dist_lt c_9 hd) (by rw [hR, unL_in c_9]; simp [c_9, bI0 c_20])
        · refine j_aload_n hC 2 24 rfl d_C_undoWrong_23 rfl rfl ?_
          refine g_C_ops hC 27 rfl d_C_undoWrong_24 ?_
          refine j_iload_n hC 0 28 rfl d_C_undoWrong_27 rfl rfl ?_
          refine j_iconst (v := 0) hC 29 rfl d_C_undoWrong_28 (by decide) ?_
          refine j_callVv hC jE_loc jT_good (As := [_, _]) (c_O_setDone (b := false)) yk_O_setDone lk_C_241 ⟨rfl, rfl⟩ ⟨Nat.le_of_ble_eq_true rfl, Nat.le_of_ble_eq_true rfl⟩ 1 rfl rfl rfl rfl (Nat.le_of_ble_eq_true rfl) ⟨Nat.zero_le _, Nat.zero_le _⟩ d_C_undoWrong_29 32 rfl rfl ?_
          refine j_iinc (lv' := [(2, _), (3, _), (0, _), (1, _)]) hC 1 35 rfl d_C_undoWrong_32 rfl (inc1 _) (by decide) rfl ?_
          refine j_iinc (lv' := [(3, _), (2, _), (0, _), (1, _)]) hC 1 38 rfl d_C_undoWrong_35 rfl (inc1 _) (by decide) rfl ?_
          refine j_goto hC 4 d_C_undoWrong_38 (by decide) ?_
          exact ih _ _ _ (dist_lt c_9 hd) (by rw [hR, unL_in c_9]; simp [c_9, bI1 c_20])
  refine j_iconst (v := 0) hC 1 rfl d_C_undoWrong_0 (by decide) ?_
  refine j_istore_n (lv' := [(2, _), (0, _), (1, _)]) hC 2 rfl d_C_undoWrong_1 rfl (by decide) rfl ?_
  refine j_iload_n hC 2 3 rfl d_C_undoWrong_2 rfl rfl ?_
  refine j_istore_n (lv' := [(3, _), (2, _), (0, _), (1, _)]) hC 4 rfl d_C_undoWrong_3 rfl (by decide) rfl ?_
  exact loop _ _ _ _ (Nat.lt_succ_self _) rfl
set_option maxHeartbeats 4000000 in
set_option maxRecDepth 100000 in
theorem c_C_loadsDoneThatWait   : kM l dC dI cI cZ cB cJ y_C_loadsDoneThatWait b_C_loadsDoneThatWait 3 (some .int) 1 21 [.ref (ad 0)] (wC ad cI cZ cB σ β mk ρ) (some (.int (cnL (fun j => β 2 (ix j)) (σ 1 0) (σ 0 0) 0))) (wC ad cI cZ cB σ β mk ρ) := by
  refine jM.of (lv := [(0, .ref (ad 0))]) (own := R_C) jE_loc (by decide) rfl rfl (Nat.le_of_ble_eq_true rfl) rfl ?_
  intro p e s m args below meth c A hC hr hlk
  have loop : ∀ (n : Nat) (i x : Int32), dist i (σ 0 0) < n → cnL (fun j => β 2 (ix j)) (σ 1 0) (σ 0 0) 0 = cnL (fun j => β 2 (ix j)) i (σ 0 0) x → kJ l dC dI p e s m args below meth c A 1 21 3 (some (.int (cnL (fun j => β 2 (ix j)) (σ 1 0) (σ 0 0) 0))) (wC ad cI cZ cB σ β mk ρ) (wC ad cI cZ cB σ β mk ρ) 7 [(2, .int i), (1, .int x), (0, .ref (ad 0))] [] := by
    intro n
    induction n with
    | zero => intro i x hd hR; exact absurd hd (Nat.not_lt_zero _)
    | succ n ih =>
      intro i x hd hR
      refine j_iload_n hC 0 8 rfl d_C_loadsDoneThatWait_7 rfl rfl ?_
      refine j_aload_n hC 2 9 rfl d_C_loadsDoneThatWait_8 rfl rfl ?_
      refine g_C_nextOp hC 12 rfl d_C_loadsDoneThatWait_9 ?_
      refine j_icmp_ge hC 35 15 rfl d_C_loadsDoneThatWait_12 (by decide) (fun c_12 => ?_) (fun c_12 => ?_)
      · refine j_iload_n hC 1 36 rfl d_C_loadsDoneThatWait_35 rfl rfl ?_
        exact j_iret hC hr hlk d_C_loadsDoneThatWait_36 (by rw [hR, cnL_out c_12]) rfl
      · refine j_aload_n hC 2 16 rfl d_C_loadsDoneThatWait_15 rfl rfl ?_
        refine g_C_ops hC 19 rfl d_C_loadsDoneThatWait_16 ?_
        refine j_iload_n hC 0 20 rfl d_C_loadsDoneThatWait_19 rfl rfl ?_
        refine j_callVi hC jE_loc jT_good (As := [_]) c_O_isDone yk_O_isDone lk_C_129 ⟨rfl, rfl⟩ ⟨Nat.le_of_ble_eq_true rfl, Nat.le_of_ble_eq_true rfl⟩ 1 rfl rfl rfl rfl (Nat.le_of_ble_eq_true rfl) ⟨Nat.zero_le _, Nat.zero_le _⟩ d_C_loadsDoneThatWait_20 23 rfl rfl ?_
        refine j_if_eq hC 29 26 rfl d_C_loadsDoneThatWait_23 (by decide) (fun c_23 => ?_) (fun c_23 => ?_)
        · refine j_iinc (lv' := [(2, _), (1, _), (0, _)]) hC 0 32 rfl d_C_loadsDoneThatWait_29 rfl (inc1 _) (by decide) rfl ?_
          refine j_goto hC 7 d_C_loadsDoneThatWait_32 (by decide) ?_
          exact ih _ _ (dist_lt c_12 hd) (by rw [hR, cnL_in c_12]; simp [c_12, bI0 c_23])
        · refine j_iinc (lv' := [(1, _), (2, _), (0, _)]) hC 1 29 rfl d_C_loadsDoneThatWait_26 rfl (inc1 _) (by decide) rfl ?_
          refine j_iinc (lv' := [(2, _), (1, _), (0, _)]) hC 1 32 rfl d_C_loadsDoneThatWait_29 rfl (inc1 _) (by decide) rfl ?_
          refine j_goto hC 7 d_C_loadsDoneThatWait_32 (by decide) ?_
          exact ih _ _ (dist_lt c_12 hd) (by rw [hR, cnL_in c_12]; simp [c_12, bI1 c_23])
  refine j_iconst (v := 0) hC 1 rfl d_C_loadsDoneThatWait_0 (by decide) ?_
  refine j_istore_n (lv' := [(1, _), (0, _)]) hC 2 rfl d_C_loadsDoneThatWait_1 rfl (by decide) rfl ?_
  refine j_aload_n hC 1 3 rfl d_C_loadsDoneThatWait_2 rfl rfl ?_
  refine g_C_oldestWaiting hC 6 rfl d_C_loadsDoneThatWait_3 ?_
  refine j_istore_n (lv' := [(2, _), (1, _), (0, _)]) hC 7 rfl d_C_loadsDoneThatWait_6 rfl (by decide) rfl ?_
  exact loop _ _ _ (Nat.lt_succ_self _) rfl
set_option maxHeartbeats 4000000 in
set_option maxRecDepth 100000 in
theorem r_C_requireOp {op : Int32} (h1 : ¬ op < 0) (h2 : op < σ 0 0) : kR l dC dI cI cZ cB cJ y_C_requireOp b_C_requireOp 2 none 0 0 [.ref (ad 0), .int op] (wC ad cI cZ cB σ β mk ρ) none := by
  refine jR.of (lv := [(0, .ref (ad 0)), (1, .int op)]) (own := R_C) jE_loc (by decide) rfl rfl (Nat.le_of_ble_eq_true rfl) rfl ?_
  intro p e s m args below meth c A hC hr hlk
  refine j_iload_n hC 1 1 rfl d_C_requireOp_0 rfl rfl ?_
  refine j_if_lt hC 12 4 rfl d_C_requireOp_1 (by decide) (fun c_1 => absurd c_1 h1) (fun c_1 => ?_)
  refine j_iload_n hC 1 5 rfl d_C_requireOp_4 rfl rfl ?_
  refine j_aload_n hC 0 6 rfl d_C_requireOp_5 rfl rfl ?_
  refine g_C_nextOp hC 9 rfl d_C_requireOp_6 ?_
  refine j_icmp_lt hC 22 12 rfl d_C_requireOp_9 (by decide) (fun c_9 => ?_) (fun c_9 => absurd c_9 (fun q => q h2))
  exact j_vretR hC hr hlk d_C_requireOp_22
theorem c_C_requireOp {op : Int32} (h1 : ¬ op < 0) (h2 : op < σ 0 0) : kM l dC dI cI cZ cB cJ y_C_requireOp b_C_requireOp 2 none 0 0 [.ref (ad 0), .int op] (wC ad cI cZ cB σ β mk ρ) none (wC ad cI cZ cB σ β mk ρ) := (r_C_requireOp h1 h2).toM
end KC
