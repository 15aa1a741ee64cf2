section KC
variable {l : Launch} {dC : Nat → ClassId} {dI : Nat → Nat → Nat} {cI cZ cB cJ : ClassId} {ad : Nat → Nat} {σ : S2} {β : B2} {mk : Int64} {ρ : va_W} {am : Nat → Nat} {μ : S2} {ν : B2}
set_option maxHeartbeats 4000000 in
set_option maxRecDepth 100000 in
theorem r_O_kindOf {op : Int32}  : kR l dC dI cI cZ cB cJ y_O_kindOf b_O_kindOf 2 (some .int) 0 0 [.ref (ad 1), .int op] (wC ad cI cZ cB σ β mk ρ) (some (.int (σ 10 (ix op)))) := by
  refine jR.of (lv := [(0, .ref (ad 1)), (1, .int op)]) (own := R_O) jE_loc (by decide) rfl rfl (Nat.le_of_ble_eq_true rfl) rfl ?_
  intro p e s m args below meth c A hC hr hlk
  refine j_aload_n hC 0 1 rfl d_O_kindOf_0 rfl rfl ?_
  refine g_O_kinds hC 4 rfl d_O_kindOf_1 ?_
  refine j_iload_n hC 1 5 rfl d_O_kindOf_4 rfl rfl ?_
  refine j_bipush (v := 127) hC 7 rfl d_O_kindOf_5 (by decide) ?_
  refine j_iand hC 8 rfl d_O_kindOf_7 ?_
  refine ld_O_kinds hC (ix_in _) 9 rfl d_O_kindOf_8 ?_
  exact j_iretR hC hr hlk d_O_kindOf_9 rfl
theorem c_O_kindOf {op : Int32}  : kM l dC dI cI cZ cB cJ y_O_kindOf b_O_kindOf 2 (some .int) 0 0 [.ref (ad 1), .int op] (wC ad cI cZ cB σ β mk ρ) (some (.int (σ 10 (ix op)))) (wC ad cI cZ cB σ β mk ρ) := (r_O_kindOf ).toM
set_option maxHeartbeats 4000000 in
set_option maxRecDepth 100000 in
theorem r_O_bytesOf {op : Int32}  : kR l dC dI cI cZ cB cJ y_O_bytesOf b_O_bytesOf 2 (some .int) 0 0 [.ref (ad 1), .int op] (wC ad cI cZ cB σ β mk ρ) (some (.int (σ 11 (ix op)))) := by
  refine jR.of (lv := [(0, .ref (ad 1)), (1, .int op)]) (own := R_O) jE_loc (by decide) rfl rfl (Nat.le_of_ble_eq_true rfl) rfl ?_
  intro p e s m args below meth c A hC hr hlk
  refine j_aload_n hC 0 1 rfl d_O_bytesOf_0 rfl rfl ?_
  refine g_O_sizes hC 4 rfl d_O_bytesOf_1 ?_
  refine j_iload_n hC 1 5 rfl d_O_bytesOf_4 rfl rfl ?_
  refine j_bipush (v := 127) hC 7 rfl d_O_bytesOf_5 (by decide) ?_
  refine j_iand hC 8 rfl d_O_bytesOf_7 ?_
  refine ld_O_sizes hC (ix_in _) 9 rfl d_O_bytesOf_8 ?_
  exact j_iretR hC hr hlk d_O_bytesOf_9 rfl
theorem c_O_bytesOf {op : Int32}  : kM l dC dI cI cZ cB cJ y_O_bytesOf b_O_bytesOf 2 (some .int) 0 0 [.ref (ad 1), .int op] (wC ad cI cZ cB σ β mk ρ) (some (.int (σ 11 (ix op)))) (wC ad cI cZ cB σ β mk ρ) := (r_O_bytesOf ).toM
set_option maxHeartbeats 4000000 in
set_option maxRecDepth 100000 in
theorem r_O_programOf {op : Int32}  : kR l dC dI cI cZ cB cJ y_O_programOf b_O_programOf 2 (some .int) 0 0 [.ref (ad 1), .int op] (wC ad cI cZ cB σ β mk ρ) (some (.int (σ 12 (ix op)))) := by
  refine jR.of (lv := [(0, .ref (ad 1)), (1, .int op)]) (own := R_O) jE_loc (by decide) rfl rfl (Nat.le_of_ble_eq_true rfl) rfl ?_
  intro p e s m args below meth c A hC hr hlk
  refine j_aload_n hC 0 1 rfl d_O_programOf_0 rfl rfl ?_
  refine g_O_programs hC 4 rfl d_O_programOf_1 ?_
  refine j_iload_n hC 1 5 rfl d_O_programOf_4 rfl rfl ?_
  refine j_bipush (v := 127) hC 7 rfl d_O_programOf_5 (by decide) ?_
  refine j_iand hC 8 rfl d_O_programOf_7 ?_
  refine ld_O_programs hC (ix_in _) 9 rfl d_O_programOf_8 ?_
  exact j_iretR hC hr hlk d_O_programOf_9 rfl
theorem c_O_programOf {op : Int32}  : kM l dC dI cI cZ cB cJ y_O_programOf b_O_programOf 2 (some .int) 0 0 [.ref (ad 1), .int op] (wC ad cI cZ cB σ β mk ρ) (some (.int (σ 12 (ix op)))) (wC ad cI cZ cB σ β mk ρ) := (r_O_programOf ).toM
set_option maxHeartbeats 4000000 in
set_option maxRecDepth 100000 in
theorem r_O_addressOf {op : Int32}  : kR l dC dI cI cZ cB cJ y_O_addressOf b_O_addressOf 2 (some .int) 0 0 [.ref (ad 1), .int op] (wC ad cI cZ cB σ β mk ρ) (some (.int (σ 13 (ix op)))) := by
  refine jR.of (lv := [(0, .ref (ad 1)), (1, .int op)]) (own := R_O) jE_loc (by decide) rfl rfl (Nat.le_of_ble_eq_true rfl) rfl ?_
  intro p e s m args below meth c A hC hr hlk
  refine j_aload_n hC 0 1 rfl d_O_addressOf_0 rfl rfl ?_
  refine g_O_addresses hC 4 rfl d_O_addressOf_1 ?_
  refine j_iload_n hC 1 5 rfl d_O_addressOf_4 rfl rfl ?_
  refine j_bipush (v := 127) hC 7 rfl d_O_addressOf_5 (by decide) ?_
  refine j_iand hC 8 rfl d_O_addressOf_7 ?_
  refine ld_O_addresses hC (ix_in _) 9 rfl d_O_addressOf_8 ?_
  exact j_iretR hC hr hlk d_O_addressOf_9 rfl
theorem c_O_addressOf {op : Int32}  : kM l dC dI cI cZ cB cJ y_O_addressOf b_O_addressOf 2 (some .int) 0 0 [.ref (ad 1), .int op] (wC ad cI cZ cB σ β mk ρ) (some (.int (σ 13 (ix op)))) (wC ad cI cZ cB σ β mk ρ) := (r_O_addressOf ).toM
set_option maxHeartbeats 4000000 in
set_option maxRecDepth 100000 in
theorem r_O_numberOf {op : Int32}  : kR l dC dI cI cZ cB cJ y_O_numberOf b_O_numberOf 2 (some .int) 0 0 [.ref (ad 1), .int op] (wC ad cI cZ cB σ β mk ρ) (some (.int (σ 15 (ix op)))) := by
  refine jR.of (lv := [(0, .ref (ad 1)), (1, .int op)]) (own := R_O) jE_loc (by decide) rfl rfl (Nat.le_of_ble_eq_true rfl) rfl ?_
  intro p e s m args below meth c A hC hr hlk
  refine j_aload_n hC 0 1 rfl d_O_numberOf_0 rfl rfl ?_
  refine g_O_numbers hC 4 rfl d_O_numberOf_1 ?_
  refine j_iload_n hC 1 5 rfl d_O_numberOf_4 rfl rfl ?_
  refine j_bipush (v := 127) hC 7 rfl d_O_numberOf_5 (by decide) ?_
  refine j_iand hC 8 rfl d_O_numberOf_7 ?_
  refine ld_O_numbers hC (ix_in _) 9 rfl d_O_numberOf_8 ?_
  exact j_iretR hC hr hlk d_O_numberOf_9 rfl
theorem c_O_numberOf {op : Int32}  : kM l dC dI cI cZ cB cJ y_O_numberOf b_O_numberOf 2 (some .int) 0 0 [.ref (ad 1), .int op] (wC ad cI cZ cB σ β mk ρ) (some (.int (σ 15 (ix op)))) (wC ad cI cZ cB σ β mk ρ) := (r_O_numberOf ).toM
set_option maxHeartbeats 4000000 in
set_option maxRecDepth 100000 in
theorem r_O_loadedBy {op : Int32}  : kR l dC dI cI cZ cB cJ y_O_loadedBy b_O_loadedBy 2 (some .int) 0 0 [.ref (ad 1), .int op] (wC ad cI cZ cB σ β mk ρ) (some (.int (σ 18 (ix op)))) := by
  refine jR.of (lv := [(0, .ref (ad 1)), (1, .int op)]) (own := R_O) jE_loc (by decide) rfl rfl (Nat.le_of_ble_eq_true rfl) rfl ?_
  intro p e s m args below meth c A hC hr hlk
  refine j_aload_n hC 0 1 rfl d_O_loadedBy_0 rfl rfl ?_
  refine g_O_loadedNumbers hC 4 rfl d_O_loadedBy_1 ?_
  refine j_iload_n hC 1 5 rfl d_O_loadedBy_4 rfl rfl ?_
  refine j_bipush (v := 127) hC 7 rfl d_O_loadedBy_5 (by decide) ?_
  refine j_iand hC 8 rfl d_O_loadedBy_7 ?_
  refine ld_O_loadedNumbers hC (ix_in _) 9 rfl d_O_loadedBy_8 ?_
  exact j_iretR hC hr hlk d_O_loadedBy_9 rfl
theorem c_O_loadedBy {op : Int32}  : kM l dC dI cI cZ cB cJ y_O_loadedBy b_O_loadedBy 2 (some .int) 0 0 [.ref (ad 1), .int op] (wC ad cI cZ cB σ β mk ρ) (some (.int (σ 18 (ix op)))) (wC ad cI cZ cB σ β mk ρ) := (r_O_loadedBy ).toM
set_option maxHeartbeats 4000000 in
set_option maxRecDepth 100000 in
theorem r_O_hasAddress {op : Int32}  : kR l dC dI cI cZ cB cJ y_O_hasAddress b_O_hasAddress 2 (some .boolean) 0 0 [.ref (ad 1), .int op] (wC ad cI cZ cB σ β mk ρ) (some (.int (bI (β 0 (ix op))))) := by
  refine jR.of (lv := [(0, .ref (ad 1)), (1, .int op)]) (own := R_O) jE_loc (by decide) rfl rfl (Nat.le_of_ble_eq_true rfl) rfl ?_
  intro p e s m args below meth c A hC hr hlk
  refine j_aload_n hC 0 1 rfl d_O_hasAddress_0 rfl rfl ?_
  refine g_O_addressTold hC 4 rfl d_O_hasAddress_1 ?_
  refine j_iload_n hC 1 5 rfl d_O_hasAddress_4 rfl rfl ?_
  refine j_bipush (v := 127) hC 7 rfl d_O_hasAddress_5 (by decide) ?_
  refine j_iand hC 8 rfl d_O_hasAddress_7 ?_
  refine ld_O_addressTold hC (ix_in _) 9 rfl d_O_hasAddress_8 ?_
  exact j_zretR hC hr hlk d_O_hasAddress_9 rfl
theorem c_O_hasAddress {op : Int32}  : kM l dC dI cI cZ cB cJ y_O_hasAddress b_O_hasAddress 2 (some .boolean) 0 0 [.ref (ad 1), .int op] (wC ad cI cZ cB σ β mk ρ) (some (.int (bI (β 0 (ix op))))) (wC ad cI cZ cB σ β mk ρ) := (r_O_hasAddress ).toM
set_option maxHeartbeats 4000000 in
set_option maxRecDepth 100000 in
theorem r_O_hasNumber {op : Int32}  : kR l dC dI cI cZ cB cJ y_O_hasNumber b_O_hasNumber 2 (some .boolean) 0 0 [.ref (ad 1), .int op] (wC ad cI cZ cB σ β mk ρ) (some (.int (bI (β 1 (ix op))))) := by
  refine jR.of (lv := [(0, .ref (ad 1)), (1, .int op)]) (own := R_O) jE_loc (by decide) rfl rfl (Nat.le_of_ble_eq_true rfl) rfl ?_
  intro p e s m args below meth c A hC hr hlk
  refine j_aload_n hC 0 1 rfl d_O_hasNumber_0 rfl rfl ?_
  refine g_O_numberTold hC 4 rfl d_O_hasNumber_1 ?_
  refine j_iload_n hC 1 5 rfl d_O_hasNumber_4 rfl rfl ?_
  refine j_bipush (v := 127) hC 7 rfl d_O_hasNumber_5 (by decide) ?_
  refine j_iand hC 8 rfl d_O_hasNumber_7 ?_
  refine ld_O_numberTold hC (ix_in _) 9 rfl d_O_hasNumber_8 ?_
  exact j_zretR hC hr hlk d_O_hasNumber_9 rfl
theorem c_O_hasNumber {op : Int32}  : kM l dC dI cI cZ cB cJ y_O_hasNumber b_O_hasNumber 2 (some .boolean) 0 0 [.ref (ad 1), .int op] (wC ad cI cZ cB σ β mk ρ) (some (.int (bI (β 1 (ix op))))) (wC ad cI cZ cB σ β mk ρ) := (r_O_hasNumber ).toM
set_option maxHeartbeats 4000000 in
set_option maxRecDepth 100000 in
theorem r_O_isDone {op : Int32}  : kR l dC dI cI cZ cB cJ y_O_isDone b_O_isDone 2 (some .boolean) 0 0 [.ref (ad 1), .int op] (wC ad cI cZ cB σ β mk ρ) (some (.int (bI (β 2 (ix op))))) := by
  refine jR.of (lv := [(0, .ref (ad 1)), (1, .int op)]) (own := R_O) jE_loc (by decide) rfl rfl (Nat.le_of_ble_eq_true rfl) rfl ?_
  intro p e s m args below meth c A hC hr hlk
  refine j_aload_n hC 0 1 rfl d_O_isDone_0 rfl rfl ?_
  refine g_O_done hC 4 rfl d_O_isDone_1 ?_
  refine j_iload_n hC 1 5 rfl d_O_isDone_4 rfl rfl ?_
  refine j_bipush (v := 127) hC 7 rfl d_O_isDone_5 (by decide) ?_
  refine j_iand hC 8 rfl d_O_isDone_7 ?_
  refine ld_O_done hC (ix_in _) 9 rfl d_O_isDone_8 ?_
  exact j_zretR hC hr hlk d_O_isDone_9 rfl
theorem c_O_isDone {op : Int32}  : kM l dC dI cI cZ cB cJ y_O_isDone b_O_isDone 2 (some .boolean) 0 0 [.ref (ad 1), .int op] (wC ad cI cZ cB σ β mk ρ) (some (.int (bI (β 2 (ix op))))) (wC ad cI cZ cB σ β mk ρ) := (r_O_isDone ).toM
set_option maxHeartbeats 4000000 in
set_option maxRecDepth 100000 in
theorem c_O_begin {op kind size prog : Int32}  : kM l dC dI cI cZ cB cJ y_O_begin b_O_begin 6 none 0 0 [.ref (ad 1), .int op, .int kind, .int size, .int prog] (wC ad cI cZ cB σ β mk ρ) none (wC ad cI cZ cB (sA (sA (sA σ 10 (ix op) kind) 11 (ix op) size) 12 (ix op) prog) (bA (bA (bA β 0 (ix op) false) 1 (ix op) false) 2 (ix op) false) mk ρ) := by
  refine jM.of (lv := [(0, .ref (ad 1)), (1, .int op), (2, .int kind), (3, .int size), (4, .int prog)]) (own := R_O) jE_loc (by decide) rfl rfl (Nat.le_of_ble_eq_true rfl) rfl ?_
  intro p e s m args below meth c A hC hr hlk
  refine j_iload_n hC 1 1 rfl d_O_begin_0 rfl rfl ?_
  refine j_bipush (v := 127) hC 3 rfl d_O_begin_1 (by decide) ?_
  refine j_iand hC 4 rfl d_O_begin_3 ?_
  refine j_istore (lv' := [(5, _), (0, _), (1, _), (2, _), (3, _), (4, _)]) hC 6 rfl d_O_begin_4 (by decide) rfl ?_
  refine j_aload_n hC 1 7 rfl d_O_begin_6 rfl rfl ?_
  refine g_O_kinds hC 10 rfl d_O_begin_7 ?_
  refine j_iload hC 0 12 rfl d_O_begin_10 rfl ?_
  refine j_iload_n hC 3 13 rfl d_O_begin_12 rfl rfl ?_
  refine st_O_kinds hC (ix_in _) 14 rfl d_O_begin_13 ?_
  refine j_aload_n hC 1 15 rfl d_O_begin_14 rfl rfl ?_
  refine g_O_sizes hC 18 rfl d_O_begin_15 ?_
  refine j_iload hC 0 20 rfl d_O_begin_18 rfl ?_
  refine j_iload_n hC 4 21 rfl d_O_begin_20 rfl rfl ?_
  refine st_O_sizes hC (ix_in _) 22 rfl d_O_begin_21 ?_
  refine j_aload_n hC 1 23 rfl d_O_begin_22 rfl rfl ?_
  refine g_O_programs hC 26 rfl d_O_begin_23 ?_
  refine j_iload hC 0 28 rfl d_O_begin_26 rfl ?_
  refine j_iload hC 5 30 rfl d_O_begin_28 rfl ?_
  refine st_O_programs hC (ix_in _) 31 rfl d_O_begin_30 ?_
  refine j_aload_n hC 1 32 rfl d_O_begin_31 rfl rfl ?_
  refine g_O_addressTold hC 35 rfl d_O_begin_32 ?_
  refine j_iload hC 0 37 rfl d_O_begin_35 rfl ?_
  refine j_iconst (v := 0) hC 38 rfl d_O_begin_37 (by decide) ?_
  refine st_O_addressTold hC (ix_in _) (b := false) rfl 39 rfl d_O_begin_38 ?_
  refine j_aload_n hC 1 40 rfl d_O_begin_39 rfl rfl ?_
  refine g_O_numberTold hC 43 rfl d_O_begin_40 ?_
  refine j_iload hC 0 45 rfl d_O_begin_43 rfl ?_
  refine j_iconst (v := 0) hC 46 rfl d_O_begin_45 (by decide) ?_
  refine st_O_numberTold hC (ix_in _) (b := false) rfl 47 rfl d_O_begin_46 ?_
  refine j_aload_n hC 1 48 rfl d_O_begin_47 rfl rfl ?_
  refine g_O_done hC 51 rfl d_O_begin_48 ?_
  refine j_iload hC 0 53 rfl d_O_begin_51 rfl ?_
  refine j_iconst (v := 0) hC 54 rfl d_O_begin_53 (by decide) ?_
  refine st_O_done hC (ix_in _) (b := false) rfl 55 rfl d_O_begin_54 ?_
  exact j_vret hC hr hlk d_O_begin_55 rfl
set_option maxHeartbeats 4000000 in
set_option maxRecDepth 100000 in
theorem c_O_setAddress {op at0 : Int32}  : kM l dC dI cI cZ cB cJ y_O_setAddress b_O_setAddress 3 none 0 0 [.ref (ad 1), .int op, .int at0] (wC ad cI cZ cB σ β mk ρ) none (wC ad cI cZ cB (sA σ 13 (ix op) at0) (bA β 0 (ix op) true) mk ρ) := by
  refine jM.of (lv := [(0, .ref (ad 1)), (1, .int op), (2, .int at0)]) (own := R_O) jE_loc (by decide) rfl rfl (Nat.le_of_ble_eq_true rfl) rfl ?_
  intro p e s m args below meth c A hC hr hlk
  refine j_aload_n hC 0 1 rfl d_O_setAddress_0 rfl rfl ?_
  refine g_O_addresses hC 4 rfl d_O_setAddress_1 ?_
  refine j_iload_n hC 1 5 rfl d_O_setAddress_4 rfl rfl ?_
  refine j_bipush (v := 127) hC 7 rfl d_O_setAddress_5 (by decide) ?_
  refine j_iand hC 8 rfl d_O_setAddress_7 ?_
  refine j_iload_n hC 2 9 rfl d_O_setAddress_8 rfl rfl ?_
  refine st_O_addresses hC (ix_in _) 10 rfl d_O_setAddress_9 ?_
  refine j_aload_n hC 0 11 rfl d_O_setAddress_10 rfl rfl ?_
  refine g_O_addressTold hC 14 rfl d_O_setAddress_11 ?_
  refine j_iload_n hC 1 15 rfl d_O_setAddress_14 rfl rfl ?_
  refine j_bipush (v := 127) hC 17 rfl d_O_setAddress_15 (by decide) ?_
  refine j_iand hC 18 rfl d_O_setAddress_17 ?_
  refine j_iconst (v := 1) hC 19 rfl d_O_setAddress_18 (by decide) ?_
  refine st_O_addressTold hC (ix_in _) (b := true) rfl 20 rfl d_O_setAddress_19 ?_
  exact j_vret hC hr hlk d_O_setAddress_20 rfl
set_option maxHeartbeats 4000000 in
set_option maxRecDepth 100000 in
theorem c_O_setNumber {op v : Int32}  : kM l dC dI cI cZ cB cJ y_O_setNumber b_O_setNumber 3 none 0 0 [.ref (ad 1), .int op, .int v] (wC ad cI cZ cB σ β mk ρ) none (wC ad cI cZ cB (sA σ 15 (ix op) v) (bA β 1 (ix op) true) mk ρ) := by
  refine jM.of (lv := [(0, .ref (ad 1)), (1, .int op), (2, .int v)]) (own := R_O) jE_loc (by decide) rfl rfl (Nat.le_of_ble_eq_true rfl) rfl ?_
  intro p e s m args below meth c A hC hr hlk
  refine j_aload_n hC 0 1 rfl d_O_setNumber_0 rfl rfl ?_
  refine g_O_numbers hC 4 rfl d_O_setNumber_1 ?_
  refine j_iload_n hC 1 5 rfl d_O_setNumber_4 rfl rfl ?_
  refine j_bipush (v := 127) hC 7 rfl d_O_setNumber_5 (by decide) ?_
  refine j_iand hC 8 rfl d_O_setNumber_7 ?_
  refine j_iload_n hC 2 9 rfl d_O_setNumber_8 rfl rfl ?_
  refine st_O_numbers hC (ix_in _) 10 rfl d_O_setNumber_9 ?_
  refine j_aload_n hC 0 11 rfl d_O_setNumber_10 rfl rfl ?_
  refine g_O_numberTold hC 14 rfl d_O_setNumber_11 ?_
  refine j_iload_n hC 1 15 rfl d_O_setNumber_14 rfl rfl ?_
  refine j_bipush (v := 127) hC 17 rfl d_O_setNumber_15 (by decide) ?_
  refine j_iand hC 18 rfl d_O_setNumber_17 ?_
  refine j_iconst (v := 1) hC 19 rfl d_O_setNumber_18 (by decide) ?_
  refine st_O_numberTold hC (ix_in _) (b := true) rfl 20 rfl d_O_setNumber_19 ?_
  exact j_vret hC hr hlk d_O_setNumber_20 rfl
set_option maxHeartbeats 4000000 in
set_option maxRecDepth 100000 in
theorem c_O_setDone {op : Int32} {b : Bool}  : kM l dC dI cI cZ cB cJ y_O_setDone b_O_setDone 3 none 0 0 [.ref (ad 1), .int op, .int (bI b)] (wC ad cI cZ cB σ β mk ρ) none (wC ad cI cZ cB σ (bA β 2 (ix op) b) mk ρ) := by
  refine jM.of (lv := [(0, .ref (ad 1)), (1, .int op), (2, .int (bI b))]) (own := R_O) jE_loc (by decide) rfl rfl (Nat.le_of_ble_eq_true rfl) rfl ?_
  intro p e s m args below meth c A hC hr hlk
  refine j_aload_n hC 0 1 rfl d_O_setDone_0 rfl rfl ?_
  refine g_O_done hC 4 rfl d_O_setDone_1 ?_
  refine j_iload_n hC 1 5 rfl d_O_setDone_4 rfl rfl ?_
  refine j_bipush (v := 127) hC 7 rfl d_O_setDone_5 (by decide) ?_
  refine j_iand hC 8 rfl d_O_setDone_7 ?_
  refine j_iload_n hC 2 9 rfl d_O_setDone_8 rfl rfl ?_
  refine st_O_done hC (ix_in _) (b := b) rfl 10 rfl d_O_setDone_9 ?_
  exact j_vret hC hr hlk d_O_setDone_10 rfl
set_option maxHeartbeats 4000000 in
set_option maxRecDepth 100000 in
theorem c_O_setLoaded {op v : Int32}  : kM l dC dI cI cZ cB cJ y_O_setLoaded b_O_setLoaded 3 none 0 0 [.ref (ad 1), .int op, .int v] (wC ad cI cZ cB σ β mk ρ) none (wC ad cI cZ cB (sA σ 18 (ix op) v) β mk ρ) := by
  refine jM.of (lv := [(0, .ref (ad 1)), (1, .int op), (2, .int v)]) (own := R_O) jE_loc (by decide) rfl rfl (Nat.le_of_ble_eq_true rfl) rfl ?_
  intro p e s m args below meth c A hC hr hlk
  refine j_aload_n hC 0 1 rfl d_O_setLoaded_0 rfl rfl ?_
  refine g_O_loadedNumbers hC 4 rfl d_O_setLoaded_1 ?_
  refine j_iload_n hC 1 5 rfl d_O_setLoaded_4 rfl rfl ?_
  refine j_bipush (v := 127) hC 7 rfl d_O_setLoaded_5 (by decide) ?_
  refine j_iand hC 8 rfl d_O_setLoaded_7 ?_
  refine j_iload_n hC 2 9 rfl d_O_setLoaded_8 rfl rfl ?_
  refine st_O_loadedNumbers hC (ix_in _) 10 rfl d_O_setLoaded_9 ?_
  exact j_vret hC hr hlk d_O_setLoaded_10 rfl
set_option maxHeartbeats 4000000 in
set_option maxRecDepth 100000 in
theorem r_O_isTold {op : Int32}  : kR l dC dI cI cZ cB cJ y_O_isTold b_O_isTold 2 (some .boolean) 1 21 [.ref (ad 1), .int op] (wC ad cI cZ cB σ β mk ρ) (some (.int (bI (β 0 (ix op) && β 1 (ix op))))) := by
  refine jR.of (lv := [(0, .ref (ad 1)), (1, .int op)]) (own := R_O) jE_loc (by decide) rfl rfl (Nat.le_of_ble_eq_true rfl) rfl ?_
  intro p e s m args below meth c A hC hr hlk
  refine j_aload_n hC 0 1 rfl d_O_isTold_0 rfl rfl ?_
  refine j_iload_n hC 1 2 rfl d_O_isTold_1 rfl rfl ?_
  refine j_callVRi hC jE_loc jT_good (As := [_]) r_O_hasAddress yk_O_hasAddress lk_O_43 ⟨rfl, rfl⟩ ⟨Nat.le_of_ble_eq_true rfl, Nat.le_of_ble_eq_true rfl⟩ 1 rfl rfl rfl rfl (Nat.le_of_ble_eq_true rfl) ⟨Nat.zero_le _, Nat.zero_le _⟩ d_O_isTold_2 5 rfl rfl ?_
  refine j_if_eq hC 20 8 rfl d_O_isTold_5 (by decide) (fun c_5 => ?_) (fun c_5 => ?_)
  · refine j_iconst (v := 0) hC 21 rfl d_O_isTold_20 (by decide) ?_
    exact j_zretR hC hr hlk d_O_isTold_21 (by simp [bI, bI0 c_5])
  · refine j_aload_n hC 0 9 rfl d_O_isTold_8 rfl rfl ?_
    refine j_iload_n hC 1 10 rfl d_O_isTold_9 rfl rfl ?_
    refine j_callVRi hC jE_loc jT_good (As := [_]) r_O_hasNumber yk_O_hasNumber lk_O_47 ⟨rfl, rfl⟩ ⟨Nat.le_of_ble_eq_true rfl, Nat.le_of_ble_eq_true rfl⟩ 1 rfl rfl rfl rfl (Nat.le_of_ble_eq_true rfl) ⟨Nat.zero_le _, Nat.zero_le _⟩ d_O_isTold_10 13 rfl rfl ?_
    refine j_if_eq hC 20 16 rfl d_O_isTold_13 (by decide) (fun c_13 => ?_) (fun c_13 => ?_)
    · refine j_iconst (v := 0) hC 21 rfl d_O_isTold_20 (by decide) ?_
      exact j_zretR hC hr hlk d_O_isTold_21 (by simp [bI, bI1 c_5, bI0 c_13])
    · refine j_iconst (v := 1) hC 17 rfl d_O_isTold_16 (by decide) ?_
      refine j_goto hC 21 d_O_isTold_17 (by decide) ?_
      exact j_zretR hC hr hlk d_O_isTold_21 (by simp [bI, bI1 c_5, bI1 c_13])
theorem c_O_isTold {op : Int32}  : kM l dC dI cI cZ cB cJ y_O_isTold b_O_isTold 2 (some .boolean) 1 21 [.ref (ad 1), .int op] (wC ad cI cZ cB σ β mk ρ) (some (.int (bI (β 0 (ix op) && β 1 (ix op))))) (wC ad cI cZ cB σ β mk ρ) := (r_O_isTold ).toM
set_option maxHeartbeats 4000000 in
set_option maxRecDepth 100000 in
theorem c_O_sourceSlot {op k : Int32}  : kM l dC dI cI cZ cB cJ y_O_sourceSlot b_O_sourceSlot 2 (some .int) 0 0 [.int op, .int k] (wC ad cI cZ cB σ β mk ρ) (some (.int ((op &&& 127) * 4 + (k &&& 3)))) (wC ad cI cZ cB σ β mk ρ) := by
  refine jM.of (lv := [(0, .int op), (1, .int k)]) (own := R_O) jE_loc (by decide) rfl rfl (Nat.le_of_ble_eq_true rfl) rfl ?_
  intro p e s m args below meth c A hC hr hlk
  refine j_iload_n hC 0 1 rfl d_O_sourceSlot_0 rfl rfl ?_
  refine j_bipush (v := 127) hC 3 rfl d_O_sourceSlot_1 (by decide) ?_
  refine j_iand hC 4 rfl d_O_sourceSlot_3 ?_
  refine j_iconst (v := 4) hC 5 rfl d_O_sourceSlot_4 (by decide) ?_
  refine j_imul hC 6 rfl d_O_sourceSlot_5 ?_
  refine j_iload_n hC 1 7 rfl d_O_sourceSlot_6 rfl rfl ?_
  refine j_iconst (v := 3) hC 8 rfl d_O_sourceSlot_7 (by decide) ?_
  refine j_iand hC 9 rfl d_O_sourceSlot_8 ?_
  refine j_iadd hC 10 rfl d_O_sourceSlot_9 ?_
  exact j_iret hC hr hlk d_O_sourceSlot_10 rfl rfl
set_option maxHeartbeats 4000000 in
set_option maxRecDepth 100000 in
theorem c_O_sourceOf {op k : Int32}  : kM l dC dI cI cZ cB cJ y_O_sourceOf b_O_sourceOf 3 (some .int) 1 21 [.ref (ad 1), .int op, .int k] (wC ad cI cZ cB σ β mk ρ) (some (.int (σ 19 (isx op k)))) (wC ad cI cZ cB σ β mk ρ) := by
  refine jM.of (lv := [(0, .ref (ad 1)), (1, .int op), (2, .int k)]) (own := R_O) jE_loc (by decide) rfl rfl (Nat.le_of_ble_eq_true rfl) rfl ?_
  intro p e s m args below meth c A hC hr hlk
  refine j_aload_n hC 0 1 rfl d_O_sourceOf_0 rfl rfl ?_
  refine g_O_sources hC 4 rfl d_O_sourceOf_1 ?_
  refine j_iload_n hC 1 5 rfl d_O_sourceOf_4 rfl rfl ?_
  refine j_iload_n hC 2 6 rfl d_O_sourceOf_5 rfl rfl ?_
  refine j_callSi hC jE_loc jT_good (As := [_, _]) c_O_sourceSlot yk_O_sourceSlot lk_O_50 ⟨rfl, rfl⟩ ⟨Nat.le_of_ble_eq_true rfl, Nat.le_of_ble_eq_true rfl⟩ rfl (Nat.le_of_ble_eq_true rfl) ⟨Nat.zero_le _, Nat.zero_le _⟩ d_O_sourceOf_6 9 rfl rfl ?_
  refine ld_O_sources hC (isx_in _ _) 10 rfl d_O_sourceOf_9 ?_
  exact j_iret hC hr hlk d_O_sourceOf_10 rfl rfl
set_option maxHeartbeats 4000000 in
set_option maxRecDepth 100000 in
theorem c_O_setSource {op k fr : Int32}  : kM l dC dI cI cZ cB cJ y_O_setSource b_O_setSource 4 none 1 21 [.ref (ad 1), .int op, .int k, .int fr] (wC ad cI cZ cB σ β mk ρ) none (wC ad cI cZ cB (sA σ 19 (isx op k) fr) β mk ρ) := by
  refine jM.of (lv := [(0, .ref (ad 1)), (1, .int op), (2, .int k), (3, .int fr)]) (own := R_O) jE_loc (by decide) rfl rfl (Nat.le_of_ble_eq_true rfl) rfl ?_
  intro p e s m args below meth c A hC hr hlk
  refine j_aload_n hC 0 1 rfl d_O_setSource_0 rfl rfl ?_
  refine g_O_sources hC 4 rfl d_O_setSource_1 ?_
  refine j_iload_n hC 1 5 rfl d_O_setSource_4 rfl rfl ?_
  refine j_iload_n hC 2 6 rfl d_O_setSource_5 rfl rfl ?_
  refine j_callSi hC jE_loc jT_good (As := [_, _]) c_O_sourceSlot yk_O_sourceSlot lk_O_50 ⟨rfl, rfl⟩ ⟨Nat.le_of_ble_eq_true rfl, Nat.le_of_ble_eq_true rfl⟩ rfl (Nat.le_of_ble_eq_true rfl) ⟨Nat.zero_le _, Nat.zero_le _⟩ d_O_setSource_6 9 rfl rfl ?_
  refine j_iload_n hC 3 10 rfl d_O_setSource_9 rfl rfl ?_
  refine st_O_sources hC (isx_in _ _) 11 rfl d_O_setSource_10 ?_
  exact j_vret hC hr hlk d_O_setSource_11 rfl
set_option maxHeartbeats 4000000 in
set_option maxRecDepth 100000 in
theorem c_O_covers {op at0 : Int32}  : kM l dC dI cI cZ cB cJ y_O_covers b_O_covers 4 (some .boolean) 1 21 [.ref (ad 1), .int op, .int at0] (wC ad cI cZ cB σ β mk ρ) (some (.int (bI (covC σ β op at0)))) (wC ad cI cZ cB σ β mk ρ) := by
  refine jM.of (lv := [(0, .ref (ad 1)), (1, .int op), (2, .int at0)]) (own := R_O) jE_loc (by decide) rfl rfl (Nat.le_of_ble_eq_true rfl) rfl ?_
  intro p e s m args below meth c A hC hr hlk
  refine j_aload_n hC 0 1 rfl d_O_covers_0 rfl rfl ?_
  refine j_iload_n hC 1 2 rfl d_O_covers_1 rfl rfl ?_
  refine j_callVi hC jE_loc jT_good (As := [_]) c_O_addressOf yk_O_addressOf lk_O_54 ⟨rfl, rfl⟩ ⟨Nat.le_of_ble_eq_true rfl, Nat.le_of_ble_eq_true rfl⟩ 1 rfl rfl rfl rfl (Nat.le_of_ble_eq_true rfl) ⟨Nat.zero_le _, Nat.zero_le _⟩ d_O_covers_2 5 rfl rfl ?_
  refine j_istore_n (lv' := [(3, _), (0, _), (1, _), (2, _)]) hC 6 rfl d_O_covers_5 rfl (by decide) rfl ?_
  refine j_aload_n hC 1 7 rfl d_O_covers_6 rfl rfl ?_
  refine j_iload_n hC 2 8 rfl d_O_covers_7 rfl rfl ?_
  refine j_callVi hC jE_loc jT_good (As := [_]) c_O_hasAddress yk_O_hasAddress lk_O_43 ⟨rfl, rfl⟩ ⟨Nat.le_of_ble_eq_true rfl, Nat.le_of_ble_eq_true rfl⟩ 1 rfl rfl rfl rfl (Nat.le_of_ble_eq_true rfl) ⟨Nat.zero_le _, Nat.zero_le _⟩ d_O_covers_8 11 rfl rfl ?_
  refine j_if_eq hC 34 14 rfl d_O_covers_11 (by decide) (fun c_11 => ?_) (fun c_11 => ?_)
  · refine j_iconst (v := 0) hC 35 rfl d_O_covers_34 (by decide) ?_
    exact j_zret hC hr hlk d_O_covers_35 (by simp [bI, covC, bI0 c_11]) rfl
  · refine j_iload_n hC 3 15 rfl d_O_covers_14 rfl rfl ?_
    refine j_iload_n hC 0 16 rfl d_O_covers_15 rfl rfl ?_
    refine j_icmp_lt hC 34 19 rfl d_O_covers_16 (by decide) (fun c_16 => ?_) (fun c_16 => ?_)
    · refine j_iconst (v := 0) hC 35 rfl d_O_covers_34 (by decide) ?_
      exact j_zret hC hr hlk d_O_covers_35 (by simp [bI, covC, bI1 c_11, c_16]) rfl
    · refine j_iload_n hC 3 20 rfl d_O_covers_19 rfl rfl ?_
      refine j_iload_n hC 0 21 rfl d_O_covers_20 rfl rfl ?_
      refine j_aload_n hC 1 22 rfl d_O_covers_21 rfl rfl ?_
      refine j_iload_n hC 2 23 rfl d_O_covers_22 rfl rfl ?_
      refine j_callVi hC jE_loc jT_good (As := [_]) c_O_bytesOf yk_O_bytesOf lk_O_58 ⟨rfl, rfl⟩ ⟨Nat.le_of_ble_eq_true rfl, Nat.le_of_ble_eq_true rfl⟩ 1 rfl rfl rfl rfl (Nat.le_of_ble_eq_true rfl) ⟨Nat.zero_le _, Nat.zero_le _⟩ d_O_covers_23 26 rfl rfl ?_
      refine j_iadd hC 27 rfl d_O_covers_26 ?_
      refine j_icmp_ge hC 34 30 rfl d_O_covers_27 (by decide) (fun c_27 => ?_) (fun c_27 => ?_)
      · refine j_iconst (v := 0) hC 35 rfl d_O_covers_34 (by decide) ?_
        exact j_zret hC hr hlk d_O_covers_35 (by simp [bI, covC, bI1 c_11, c_16, c_27]) rfl
      · refine j_iconst (v := 1) hC 31 rfl d_O_covers_30 (by decide) ?_
        refine j_goto hC 35 d_O_covers_31 (by decide) ?_
        exact j_zret hC hr hlk d_O_covers_35 (by simp [bI, covC, bI1 c_11, c_16, c_27]) rfl
end KC
