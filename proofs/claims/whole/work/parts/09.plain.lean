section KC
variable {l : Launch} {dC : Nat → ClassId} {dI : Nat → Nat → Nat} {cI cZ cB cJ : ClassId} {ad : Nat → Nat} {σ : S2} {β : B2} {mk : Int64} {ρ : va_W} {am : Nat → Nat} {μ : S2} {ν : B2}
set_option maxHeartbeats 4000000 in
set_option maxRecDepth 100000 in
theorem r_C_isKindWithBytes {kind bytes : Int32}  : kR l dC dI cI cZ cB cJ y_C_isKindWithBytes b_C_isKindWithBytes 2 (some .boolean) 0 0 [.int kind, .int bytes] (wC ad cI cZ cB σ β mk ρ) (some (.int (bI (kwb kind bytes)))) := by
  refine jR.of (lv := [(0, .int kind), (1, .int bytes)]) (own := R_C) jE_loc (by decide) rfl rfl (Nat.le_of_ble_eq_true rfl) rfl ?_
  intro p e s m args below meth c A hC hr hlk
  refine j_iload_n hC 0 1 rfl d_C_isKindWithBytes_0 rfl rfl ?_
  refine j_iconst (v := 2) hC 2 rfl d_C_isKindWithBytes_1 (by decide) ?_
  refine j_icmp_ne hC 15 5 rfl d_C_isKindWithBytes_2 (by decide) (fun c_2 => ?_) (fun c_2 => ?_)
  · refine j_iload_n hC 0 16 rfl d_C_isKindWithBytes_15 rfl rfl ?_
    refine j_if_lt hC 43 19 rfl d_C_isKindWithBytes_16 (by decide) (fun c_16 => ?_) (fun c_16 => ?_)
    · refine j_iconst (v := 0) hC 44 rfl d_C_isKindWithBytes_43 (by decide) ?_
      exact j_zretR hC hr hlk d_C_isKindWithBytes_44 (by simp [bI, kwb, c_2, c_16])
    · refine j_iload_n hC 0 20 rfl d_C_isKindWithBytes_19 rfl rfl ?_
      refine j_iconst (v := 3) hC 21 rfl d_C_isKindWithBytes_20 (by decide) ?_
      refine j_icmp_gt hC 43 24 rfl d_C_isKindWithBytes_21 (by decide) (fun c_21 => ?_) (fun c_21 => ?_)
      · refine j_iconst (v := 0) hC 44 rfl d_C_isKindWithBytes_43 (by decide) ?_
        exact j_zretR hC hr hlk d_C_isKindWithBytes_44 (by simp [bI, kwb, c_2, c_16, c_21])
      · refine j_iload_n hC 1 25 rfl d_C_isKindWithBytes_24 rfl rfl ?_
        refine j_iconst (v := 1) hC 26 rfl d_C_isKindWithBytes_25 (by decide) ?_
        refine j_icmp_eq hC 39 29 rfl d_C_isKindWithBytes_26 (by decide) (fun c_26 => ?_) (fun c_26 => ?_)
        · refine j_iconst (v := 1) hC 40 rfl d_C_isKindWithBytes_39 (by decide) ?_
          refine j_goto hC 44 d_C_isKindWithBytes_40 (by decide) ?_
          exact j_zretR hC hr hlk d_C_isKindWithBytes_44 (by simp [bI, kwb, c_2, c_16, c_21, c_26])
        · refine j_iload_n hC 1 30 rfl d_C_isKindWithBytes_29 rfl rfl ?_
          refine j_iconst (v := 2) hC 31 rfl d_C_isKindWithBytes_30 (by decide) ?_
          refine j_icmp_eq hC 39 34 rfl d_C_isKindWithBytes_31 (by decide) (fun c_31 => ?_) (fun c_31 => ?_)
          · refine j_iconst (v := 1) hC 40 rfl d_C_isKindWithBytes_39 (by decide) ?_
            refine j_goto hC 44 d_C_isKindWithBytes_40 (by decide) ?_
            exact j_zretR hC hr hlk d_C_isKindWithBytes_44 (by simp [bI, kwb, c_2, c_16, c_21, c_26, c_31])
          · refine j_iload_n hC 1 35 rfl d_C_isKindWithBytes_34 rfl rfl ?_
            refine j_iconst (v := 4) hC 36 rfl d_C_isKindWithBytes_35 (by decide) ?_
            refine j_icmp_ne hC 43 39 rfl d_C_isKindWithBytes_36 (by decide) (fun c_36 => ?_) (fun c_36 => ?_)
            · refine j_iconst (v := 0) hC 44 rfl d_C_isKindWithBytes_43 (by decide) ?_
              exact j_zretR hC hr hlk d_C_isKindWithBytes_44 (by simp [bI, kwb, c_2, c_16, c_21, c_26, c_31, c_36])
            · refine j_iconst (v := 1) hC 40 rfl d_C_isKindWithBytes_39 (by decide) ?_
              refine j_goto hC 44 d_C_isKindWithBytes_40 (by decide) ?_
              exact j_zretR hC hr hlk d_C_isKindWithBytes_44 (by simp [bI, kwb, c_2, c_16, c_21, c_26, c_31, c_36])
  · refine j_iload_n hC 1 6 rfl d_C_isKindWithBytes_5 rfl rfl ?_
    refine j_if_ne hC 13 9 rfl d_C_isKindWithBytes_6 (by decide) (fun c_6 => ?_) (fun c_6 => ?_)
    · refine j_iconst (v := 0) hC 14 rfl d_C_isKindWithBytes_13 (by decide) ?_
      exact j_zretR hC hr hlk d_C_isKindWithBytes_14 (by simp [bI, kwb, c_2, c_6])
    · refine j_iconst (v := 1) hC 10 rfl d_C_isKindWithBytes_9 (by decide) ?_
      refine j_goto hC 14 d_C_isKindWithBytes_10 (by decide) ?_
      exact j_zretR hC hr hlk d_C_isKindWithBytes_14 (by simp [bI, kwb, c_2, c_6])
theorem c_C_isKindWithBytes {kind bytes : Int32}  : kM l dC dI cI cZ cB cJ y_C_isKindWithBytes b_C_isKindWithBytes 2 (some .boolean) 0 0 [.int kind, .int bytes] (wC ad cI cZ cB σ β mk ρ) (some (.int (bI (kwb kind bytes)))) (wC ad cI cZ cB σ β mk ρ) := (r_C_isKindWithBytes ).toM
set_option maxHeartbeats 4000000 in
set_option maxRecDepth 100000 in
theorem r_C_takesNumber {kind : Int32}  : kR l dC dI cI cZ cB cJ y_C_takesNumber b_C_takesNumber 1 (some .boolean) 0 0 [.int kind] (wC ad cI cZ cB σ β mk ρ) (some (.int (bI (decide (kind = 1) || decide (kind = 3))))) := by
  refine jR.of (lv := [(0, .int kind)]) (own := R_C) jE_loc (by decide) rfl rfl (Nat.le_of_ble_eq_true rfl) rfl ?_
  intro p e s m args below meth c A hC hr hlk
  refine j_iload_n hC 0 1 rfl d_C_takesNumber_0 rfl rfl ?_
  refine j_iconst (v := 1) hC 2 rfl d_C_takesNumber_1 (by decide) ?_
  refine j_icmp_eq hC 10 5 rfl d_C_takesNumber_2 (by decide) (fun c_2 => ?_) (fun c_2 => ?_)
  · refine j_iconst (v := 1) hC 11 rfl d_C_takesNumber_10 (by decide) ?_
    refine j_goto hC 15 d_C_takesNumber_11 (by decide) ?_
    exact j_zretR hC hr hlk d_C_takesNumber_15 (by simp [bI, c_2])
  · refine j_iload_n hC 0 6 rfl d_C_takesNumber_5 rfl rfl ?_
    refine j_iconst (v := 3) hC 7 rfl d_C_takesNumber_6 (by decide) ?_
    refine j_icmp_ne hC 14 10 rfl d_C_takesNumber_7 (by decide) (fun c_7 => ?_) (fun c_7 => ?_)
    · refine j_iconst (v := 0) hC 15 rfl d_C_takesNumber_14 (by decide) ?_
      exact j_zretR hC hr hlk d_C_takesNumber_15 (by simp [bI, c_2, c_7])
    · refine j_iconst (v := 1) hC 11 rfl d_C_takesNumber_10 (by decide) ?_
      refine j_goto hC 15 d_C_takesNumber_11 (by decide) ?_
      exact j_zretR hC hr hlk d_C_takesNumber_15 (by simp [bI, c_2, c_7])
theorem c_C_takesNumber {kind : Int32}  : kM l dC dI cI cZ cB cJ y_C_takesNumber b_C_takesNumber 1 (some .boolean) 0 0 [.int kind] (wC ad cI cZ cB σ β mk ρ) (some (.int (bI (decide (kind = 1) || decide (kind = 3))))) (wC ad cI cZ cB σ β mk ρ) := (r_C_takesNumber ).toM
set_option maxHeartbeats 4000000 in
set_option maxRecDepth 100000 in
theorem r_C_isMemoryByte {at0 : Int32}  : kR l dC dI cI cZ cB cJ y_C_isMemoryByte b_C_isMemoryByte 1 (some .boolean) 0 0 [.int at0] (wC ad cI cZ cB σ β mk ρ) (some (.int (bI (!decide (at0 < 0) && !decide (4096 ≤ at0))))) := by
  refine jR.of (lv := [(0, .int at0)]) (own := R_C) jE_loc (by decide) rfl rfl (Nat.le_of_ble_eq_true rfl) rfl ?_
  intro p e s m args below meth c A hC hr hlk
  refine j_iload_n hC 0 1 rfl d_C_isMemoryByte_0 rfl rfl ?_
  refine j_if_lt hC 15 4 rfl d_C_isMemoryByte_1 (by decide) (fun c_1 => ?_) (fun c_1 => ?_)
  · refine j_iconst (v := 0) hC 16 rfl d_C_isMemoryByte_15 (by decide) ?_
    exact j_zretR hC hr hlk d_C_isMemoryByte_16 (by simp [bI, c_1])
  · refine j_iload_n hC 0 5 rfl d_C_isMemoryByte_4 rfl rfl ?_
    refine j_sipush (v := 4096) hC 8 rfl d_C_isMemoryByte_5 (by decide) ?_
    refine j_icmp_ge hC 15 11 rfl d_C_isMemoryByte_8 (by decide) (fun c_8 => ?_) (fun c_8 => ?_)
    · refine j_iconst (v := 0) hC 16 rfl d_C_isMemoryByte_15 (by decide) ?_
      exact j_zretR hC hr hlk d_C_isMemoryByte_16 (by simp [bI, c_1, c_8])
    · refine j_iconst (v := 1) hC 12 rfl d_C_isMemoryByte_11 (by decide) ?_
      refine j_goto hC 16 d_C_isMemoryByte_12 (by decide) ?_
      exact j_zretR hC hr hlk d_C_isMemoryByte_16 (by simp [bI, c_1, c_8])
theorem c_C_isMemoryByte {at0 : Int32}  : kM l dC dI cI cZ cB cJ y_C_isMemoryByte b_C_isMemoryByte 1 (some .boolean) 0 0 [.int at0] (wC ad cI cZ cB σ β mk ρ) (some (.int (bI (!decide (at0 < 0) && !decide (4096 ≤ at0))))) (wC ad cI cZ cB σ β mk ρ) := (r_C_isMemoryByte ).toM
set_option maxHeartbeats 4000000 in
set_option maxRecDepth 100000 in
theorem r_C_isDevice {at0 : Int32}  : kR l dC dI cI cZ cB cJ y_C_isDevice b_C_isDevice 1 (some .boolean) 0 0 [.int at0] (wC ad cI cZ cB σ β mk ρ) (some (.int (bI (!decide (at0 < 3072))))) := by
  refine jR.of (lv := [(0, .int at0)]) (own := R_C) jE_loc (by decide) rfl rfl (Nat.le_of_ble_eq_true rfl) rfl ?_
  intro p e s m args below meth c A hC hr hlk
  refine j_iload_n hC 0 1 rfl d_C_isDevice_0 rfl rfl ?_
  refine j_sipush (v := 3072) hC 4 rfl d_C_isDevice_1 (by decide) ?_
  refine j_icmp_lt hC 11 7 rfl d_C_isDevice_4 (by decide) (fun c_4 => ?_) (fun c_4 => ?_)
  · refine j_iconst (v := 0) hC 12 rfl d_C_isDevice_11 (by decide) ?_
    exact j_zretR hC hr hlk d_C_isDevice_12 (by simp [bI, c_4])
  · refine j_iconst (v := 1) hC 8 rfl d_C_isDevice_7 (by decide) ?_
    refine j_goto hC 12 d_C_isDevice_8 (by decide) ?_
    exact j_zretR hC hr hlk d_C_isDevice_12 (by simp [bI, c_4])
theorem c_C_isDevice {at0 : Int32}  : kM l dC dI cI cZ cB cJ y_C_isDevice b_C_isDevice 1 (some .boolean) 0 0 [.int at0] (wC ad cI cZ cB σ β mk ρ) (some (.int (bI (!decide (at0 < 3072))))) (wC ad cI cZ cB σ β mk ρ) := (r_C_isDevice ).toM
set_option maxHeartbeats 4000000 in
set_option maxRecDepth 100000 in
theorem r_C_canBeAddress {at0 bytes : Int32}  : kR l dC dI cI cZ cB cJ y_C_canBeAddress b_C_canBeAddress 2 (some .boolean) 1 20 [.int at0, .int bytes] (wC ad cI cZ cB σ β mk ρ) (some (.int (bI (cba at0 bytes)))) := by
  refine jR.of (lv := [(0, .int at0), (1, .int bytes)]) (own := R_C) jE_loc (by decide) rfl rfl (Nat.le_of_ble_eq_true rfl) rfl ?_
  intro p e s m args below meth c A hC hr hlk
  refine j_iload_n hC 0 1 rfl d_C_canBeAddress_0 rfl rfl ?_
  refine j_if_lt hC 13 4 rfl d_C_canBeAddress_1 (by decide) (fun c_1 => ?_) (fun c_1 => ?_)
  · refine j_iconst (v := 0) hC 14 rfl d_C_canBeAddress_13 (by decide) ?_
    exact j_zretR hC hr hlk d_C_canBeAddress_14 (by simp [bI, cba, c_1])
  · refine j_iload_n hC 0 5 rfl d_C_canBeAddress_4 rfl rfl ?_
    refine j_sipush (v := 4096) hC 8 rfl d_C_canBeAddress_5 (by decide) ?_
    refine j_iload_n hC 1 9 rfl d_C_canBeAddress_8 rfl rfl ?_
    refine j_isub hC 10 rfl d_C_canBeAddress_9 ?_
    refine j_icmp_le hC 15 13 rfl d_C_canBeAddress_10 (by decide) (fun c_10 => ?_) (fun c_10 => ?_)
    · refine j_iload_n hC 0 16 rfl d_C_canBeAddress_15 rfl rfl ?_
      refine j_callSRi hC jE_loc jT_good (As := [_]) r_C_isDevice yk_C_isDevice lk_C_217 ⟨rfl, rfl⟩ ⟨Nat.le_of_ble_eq_true rfl, Nat.le_of_ble_eq_true rfl⟩ rfl (Nat.le_of_ble_eq_true rfl) ⟨Nat.zero_le _, Nat.zero_le _⟩ d_C_canBeAddress_16 19 rfl rfl ?_
      refine j_if_ne hC 31 22 rfl d_C_canBeAddress_19 (by decide) (fun c_19 => ?_) (fun c_19 => ?_)
      · refine j_iconst (v := 1) hC 32 rfl d_C_canBeAddress_31 (by decide) ?_
        refine j_goto hC 36 d_C_canBeAddress_32 (by decide) ?_
        exact j_zretR hC hr hlk d_C_canBeAddress_36 (by simp [bI, cba, c_1, c_10, bI1 c_19])
      · refine j_iload_n hC 0 23 rfl d_C_canBeAddress_22 rfl rfl ?_
        refine j_iload_n hC 1 24 rfl d_C_canBeAddress_23 rfl rfl ?_
        refine j_iadd hC 25 rfl d_C_canBeAddress_24 ?_
        refine j_sipush (v := 3072) hC 28 rfl d_C_canBeAddress_25 (by decide) ?_
        refine j_icmp_gt hC 35 31 rfl d_C_canBeAddress_28 (by decide) (fun c_28 => ?_) (fun c_28 => ?_)
        · refine j_iconst (v := 0) hC 36 rfl d_C_canBeAddress_35 (by decide) ?_
          exact j_zretR hC hr hlk d_C_canBeAddress_36 (by simp [bI, cba, c_1, c_10, bI0 c_19, c_28])
        · refine j_iconst (v := 1) hC 32 rfl d_C_canBeAddress_31 (by decide) ?_
          refine j_goto hC 36 d_C_canBeAddress_32 (by decide) ?_
          exact j_zretR hC hr hlk d_C_canBeAddress_36 (by simp [bI, cba, c_1, c_10, bI0 c_19, c_28])
    · refine j_iconst (v := 0) hC 14 rfl d_C_canBeAddress_13 (by decide) ?_
      exact j_zretR hC hr hlk d_C_canBeAddress_14 (by simp [bI, cba, c_1, c_10])
theorem c_C_canBeAddress {at0 bytes : Int32}  : kM l dC dI cI cZ cB cJ y_C_canBeAddress b_C_canBeAddress 2 (some .boolean) 1 20 [.int at0, .int bytes] (wC ad cI cZ cB σ β mk ρ) (some (.int (bI (cba at0 bytes)))) (wC ad cI cZ cB σ β mk ρ) := (r_C_canBeAddress ).toM
set_option maxHeartbeats 4000000 in
set_option maxRecDepth 100000 in
theorem c_C_byteOfNumber {n b k : Int32}  : kM l dC dI cI cZ cB cJ y_C_byteOfNumber b_C_byteOfNumber 3 (some .int) 0 0 [.int n, .int b, .int k] (wC ad cI cZ cB σ β mk ρ) (some (.int (bon n b k))) (wC ad cI cZ cB σ β mk ρ) := by
  refine jM.of (lv := [(0, .int n), (1, .int b), (2, .int k)]) (own := R_C) jE_loc (by decide) rfl rfl (Nat.le_of_ble_eq_true rfl) rfl ?_
  intro p e s m args below meth c A hC hr hlk
  refine j_iload_n hC 0 1 rfl d_C_byteOfNumber_0 rfl rfl ?_
  refine j_bipush (v := 8) hC 3 rfl d_C_byteOfNumber_1 (by decide) ?_
  refine j_iload_n hC 1 4 rfl d_C_byteOfNumber_3 rfl rfl ?_
  refine j_iconst (v := 1) hC 5 rfl d_C_byteOfNumber_4 (by decide) ?_
  refine j_isub hC 6 rfl d_C_byteOfNumber_5 ?_
  refine j_iload_n hC 2 7 rfl d_C_byteOfNumber_6 rfl rfl ?_
  refine j_isub hC 8 rfl d_C_byteOfNumber_7 ?_
  refine j_imul hC 9 rfl d_C_byteOfNumber_8 ?_
  refine j_iushr hC 10 rfl d_C_byteOfNumber_9 rfl ?_
  refine j_sipush (v := 255) hC 13 rfl d_C_byteOfNumber_10 (by decide) ?_
  refine j_iand hC 14 rfl d_C_byteOfNumber_13 ?_
  exact j_iret hC hr hlk d_C_byteOfNumber_14 rfl rfl
end KC
