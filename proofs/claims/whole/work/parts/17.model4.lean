section KC
variable {l : Launch} {dC : Nat → ClassId} {dI : Nat → Nat → Nat} {cI cZ cB cJ : ClassId} {ad : Nat → Nat} {σ : S2} {β : B2} {mk : Int64} {ρ : va_W} {am : Nat → Nat} {μ : S2} {ν : B2}
set_option maxHeartbeats 4000000 in
set_option maxRecDepth 100000 in
theorem c_M_isHeld {op : Int32}  : kM l dC dI cI cZ cB cJ y_M_isHeld b_M_isHeld 3 (some .boolean) 0 0 [.ref (am 0), .int op] (wM am cI cZ μ ν ρ) (some (.int (bI (hdM μ op)))) (wM am cI cZ μ ν ρ) := by
  refine jM.of (lv := [(0, .ref (am 0)), (1, .int op)]) (own := R_M) jE_loc (by decide) rfl rfl (Nat.le_of_ble_eq_true rfl) rfl ?_
  intro p e s m args below meth c A hC hr hlk
  have loop : ∀ (n : Nat) (i : Int32), dist i op < n → exL (hbPM μ) (μ 2 0) op = exL (hbPM μ) i op → kJ l dC dI p e s m args below meth c A 0 0 3 (some (.int (bI (hdM μ op)))) (wM am cI cZ μ ν ρ) (wM am cI cZ μ ν ρ) 5 [(2, .int i), (0, .ref (am 0)), (1, .int op)] [] := by
    intro n
    induction n with
    | zero => intro i hd hR; exact absurd hd (Nat.not_lt_zero _)
    | succ n ih =>
      intro i hd hR
      refine j_iload_n hC 0 6 rfl d_M_isHeld_5 rfl rfl ?_
      refine j_iload_n hC 2 7 rfl d_M_isHeld_6 rfl rfl ?_
      refine j_icmp_ge hC 44 10 rfl d_M_isHeld_7 (by decide) (fun c_7 => ?_) (fun c_7 => ?_)
      · refine j_aload_n hC 1 45 rfl d_M_isHeld_44 rfl rfl ?_
        refine g_M_places hC 48 rfl d_M_isHeld_45 ?_
        refine j_iload_n hC 2 49 rfl d_M_isHeld_48 rfl rfl ?_
        refine j_bipush (v := 127) hC 51 rfl d_M_isHeld_49 (by decide) ?_
        refine j_iand hC 52 rfl d_M_isHeld_51 ?_
        refine ld_M_places hC (ix_in _) 53 rfl d_M_isHeld_52 ?_
        refine j_sipush (v := 3072) hC 56 rfl d_M_isHeld_53 (by decide) ?_
        refine j_icmp_lt hC 78 59 rfl d_M_isHeld_56 (by decide) (fun c_56 => ?_) (fun c_56 => ?_)
        · refine j_iconst (v := 0) hC 79 rfl d_M_isHeld_78 (by decide) ?_
          exact j_zret hC hr hlk d_M_isHeld_79 (by rw [hdM, hR, exL_out c_7]; first | (simp [bI, ix, c_7, c_56]; done) | (rw [decide_eq_false (p := μ 15 (ix op) < 3072) c_56]; simp [bI, c_7, c_56])) rfl
        · refine j_iload_n hC 2 60 rfl d_M_isHeld_59 rfl rfl ?_
          refine j_aload_n hC 1 61 rfl d_M_isHeld_60 rfl rfl ?_
          refine g_M_oldest hC 64 rfl d_M_isHeld_61 ?_
          refine j_icmp_ne hC 74 67 rfl d_M_isHeld_64 (by decide) (fun c_64 => ?_) (fun c_64 => ?_)
          · refine j_iconst (v := 1) hC 75 rfl d_M_isHeld_74 (by decide) ?_
            refine j_goto hC 79 d_M_isHeld_75 (by decide) ?_
            exact j_zret hC hr hlk d_M_isHeld_79 (by rw [hdM, hR, exL_out c_7]; first | (simp [bI, ix, c_7, c_56, c_64]; done) | (rw [decide_eq_false (p := μ 15 (ix op) < 3072) c_56]; simp [bI, c_7, c_56, c_64])) rfl
          · refine j_aload_n hC 1 68 rfl d_M_isHeld_67 rfl rfl ?_
            refine g_M_buffered hC 71 rfl d_M_isHeld_68 ?_
            refine j_if_le hC 78 74 rfl d_M_isHeld_71 (by decide) (fun c_71 => ?_) (fun c_71 => ?_)
            · refine j_iconst (v := 0) hC 79 rfl d_M_isHeld_78 (by decide) ?_
              exact j_zret hC hr hlk d_M_isHeld_79 (by rw [hdM, hR, exL_out c_7]; first | (simp [bI, ix, c_7, c_56, c_64, c_71]; done) | (rw [decide_eq_false (p := μ 15 (ix op) < 3072) c_56]; simp [bI, c_7, c_56, c_64, c_71])) rfl
            · refine j_iconst (v := 1) hC 75 rfl d_M_isHeld_74 (by decide) ?_
              refine j_goto hC 79 d_M_isHeld_75 (by decide) ?_
              exact j_zret hC hr hlk d_M_isHeld_79 (by rw [hdM, hR, exL_out c_7]; first | (simp [bI, ix, c_7, c_56, c_64, c_71]; done) | (rw [decide_eq_false (p := μ 15 (ix op) < 3072) c_56]; simp [bI, c_7, c_56, c_64, c_71])) rfl
      · refine j_aload_n hC 1 11 rfl d_M_isHeld_10 rfl rfl ?_
        refine g_M_kinds hC 14 rfl d_M_isHeld_11 ?_
        refine j_iload_n hC 0 15 rfl d_M_isHeld_14 rfl rfl ?_
        refine j_bipush (v := 127) hC 17 rfl d_M_isHeld_15 (by decide) ?_
        refine j_iand hC 18 rfl d_M_isHeld_17 ?_
        refine ld_M_kinds hC (ix_in _) 19 rfl d_M_isHeld_18 ?_
        refine j_iconst (v := 2) hC 20 rfl d_M_isHeld_19 (by decide) ?_
        refine j_icmp_eq hC 36 23 rfl d_M_isHeld_20 (by decide) (fun c_20 => ?_) (fun c_20 => ?_)
        · refine j_iconst (v := 1) hC 37 rfl d_M_isHeld_36 (by decide) ?_
          exact j_zret hC hr hlk d_M_isHeld_37 (by rw [hdM, hR, exL_in c_7]; simp [bI, hbPM, ix, c_7, c_20]) rfl
        · refine j_aload_n hC 1 24 rfl d_M_isHeld_23 rfl rfl ?_
          refine g_M_kinds hC 27 rfl d_M_isHeld_24 ?_
          refine j_iload_n hC 0 28 rfl d_M_isHeld_27 rfl rfl ?_
          refine j_bipush (v := 127) hC 30 rfl d_M_isHeld_28 (by decide) ?_
          refine j_iand hC 31 rfl d_M_isHeld_30 ?_
          refine ld_M_kinds hC (ix_in _) 32 rfl d_M_isHeld_31 ?_
          refine j_iconst (v := 3) hC 33 rfl d_M_isHeld_32 (by decide) ?_
          refine j_icmp_ne hC 38 36 rfl d_M_isHeld_33 (by decide) (fun c_33 => ?_) (fun c_33 => ?_)
          · refine j_iinc (lv' := [(2, _), (0, _), (1, _)]) hC 0 41 rfl d_M_isHeld_38 rfl (inc1 _) (by decide) rfl ?_
            refine j_goto hC 5 d_M_isHeld_41 (by decide) ?_
            exact ih _ (dist_lt c_7 hd) (by rw [hR, exL_in c_7]; simp [hbPM, ix, c_7, c_20, c_33])
          · refine j_iconst (v := 1) hC 37 rfl d_M_isHeld_36 (by decide) ?_
            exact j_zret hC hr hlk d_M_isHeld_37 (by rw [hdM, hR, exL_in c_7]; simp [bI, hbPM, ix, c_7, c_20, c_33]) rfl
  refine j_aload_n hC 0 1 rfl d_M_isHeld_0 rfl rfl ?_
  refine g_M_oldest hC 4 rfl d_M_isHeld_1 ?_
  refine j_istore_n (lv' := [(2, _), (0, _), (1, _)]) hC 5 rfl d_M_isHeld_4 rfl (by decide) rfl ?_
  exact loop _ _ (Nat.lt_succ_self _) rfl
set_option maxHeartbeats 4000000 in
set_option maxRecDepth 100000 in
theorem c_M_hasUnknown {op : Int32}  : kM l dC dI cI cZ cB cJ y_M_hasUnknown b_M_hasUnknown 4 (some .boolean) 0 0 [.ref (am 0), .int op] (wM am cI cZ μ ν ρ) (some (.int (bI (exL (unPM μ) (μ 2 0) op)))) (wM am cI cZ μ ν ρ) := by
  refine jM.of (lv := [(0, .ref (am 0)), (1, .int op)]) (own := R_M) jE_loc (by decide) rfl rfl (Nat.le_of_ble_eq_true rfl) rfl ?_
  intro p e s m args below meth c A hC hr hlk
  have loop : ∀ (n : Nat) (i : Int32) (x : Bool), dist i op < n → exL (unPM μ) (μ 2 0) op = (x || exL (unPM μ) i op) → kJ l dC dI p e s m args below meth c A 0 0 4 (some (.int (bI (exL (unPM μ) (μ 2 0) op)))) (wM am cI cZ μ ν ρ) (wM am cI cZ μ ν ρ) 7 [(3, .int i), (2, .int (bI x)), (0, .ref (am 0)), (1, .int op)] [] := by
    intro n
    induction n with
    | zero => intro i x hd hR; exact absurd hd (Nat.not_lt_zero _)
    | succ n ih =>
      intro i x hd hR
      refine j_iload_n hC 0 8 rfl d_M_hasUnknown_7 rfl rfl ?_
      refine j_iload_n hC 3 9 rfl d_M_hasUnknown_8 rfl rfl ?_
      refine j_icmp_ge hC 54 12 rfl d_M_hasUnknown_9 (by decide) (fun c_9 => ?_) (fun c_9 => ?_)
      · refine j_iload_n hC 1 55 rfl d_M_hasUnknown_54 rfl rfl ?_
        exact j_zret hC hr hlk d_M_hasUnknown_55 (by rw [hR, exL_out c_9]; simp) rfl
      · refine j_iload_n hC 1 13 rfl d_M_hasUnknown_12 rfl rfl ?_
        refine j_if_ne hC 42 16 rfl d_M_hasUnknown_13 (by decide) (fun c_13 => ?_) (fun c_13 => ?_)
        · refine j_iconst (v := (bI true)) hC 43 rfl d_M_hasUnknown_42 rfl ?_
          refine j_goto hC 47 d_M_hasUnknown_43 (by decide) ?_
          refine j_istore_n (lv' := [(2, _), (3, _), (0, _), (1, _)]) hC 48 rfl d_M_hasUnknown_47 rfl (by decide) rfl ?_
          refine j_iinc (lv' := [(3, _), (2, _), (0, _), (1, _)]) hC 1 51 rfl d_M_hasUnknown_48 rfl (inc1 _) (by decide) rfl ?_
          refine j_goto hC 7 d_M_hasUnknown_51 (by decide) ?_
          exact ih _ _ (dist_lt c_9 hd) (by rw [hR, exL_in c_9]; simp [unPM, ix, c_9, bI1 c_13])
        · refine j_aload_n hC 2 17 rfl d_M_hasUnknown_16 rfl rfl ?_
          refine g_M_kinds hC 20 rfl d_M_hasUnknown_17 ?_
          refine j_iload_n hC 0 21 rfl d_M_hasUnknown_20 rfl rfl ?_
          refine j_bipush (v := 127) hC 23 rfl d_M_hasUnknown_21 (by decide) ?_
          refine j_iand hC 24 rfl d_M_hasUnknown_23 ?_
          refine ld_M_kinds hC (ix_in _) 25 rfl d_M_hasUnknown_24 ?_
          refine j_iconst (v := 1) hC 26 rfl d_M_hasUnknown_25 (by decide) ?_
          refine j_icmp_ne hC 46 29 rfl d_M_hasUnknown_26 (by decide) (fun c_26 => ?_) (fun c_26 => ?_)
          · refine j_iconst (v := (bI false)) hC 47 rfl d_M_hasUnknown_46 rfl ?_
            refine j_istore_n (lv' := [(2, _), (3, _), (0, _), (1, _)]) hC 48 rfl d_M_hasUnknown_47 rfl (by decide) rfl ?_
            refine j_iinc (lv' := [(3, _), (2, _), (0, _), (1, _)]) hC 1 51 rfl d_M_hasUnknown_48 rfl (inc1 _) (by decide) rfl ?_
            refine j_goto hC 7 d_M_hasUnknown_51 (by decide) ?_
            exact ih _ _ (dist_lt c_9 hd) (by rw [hR, exL_in c_9]; simp [unPM, ix, c_9, bI0 c_13, c_26])
          · refine j_aload_n hC 2 30 rfl d_M_hasUnknown_29 rfl rfl ?_
            refine g_M_places hC 33 rfl d_M_hasUnknown_30 ?_
            refine j_iload_n hC 0 34 rfl d_M_hasUnknown_33 rfl rfl ?_
            refine j_bipush (v := 127) hC 36 rfl d_M_hasUnknown_34 (by decide) ?_
            refine j_iand hC 37 rfl d_M_hasUnknown_36 ?_
            refine ld_M_places hC (ix_in _) 38 rfl d_M_hasUnknown_37 ?_
            refine j_iconst (v := (-1)) hC 39 rfl d_M_hasUnknown_38 (by decide) ?_
            refine j_icmp_ne hC 46 42 rfl d_M_hasUnknown_39 (by decide) (fun c_39 => ?_) (fun c_39 => ?_)
            · refine j_iconst (v := (bI false)) hC 47 rfl d_M_hasUnknown_46 rfl ?_
              refine j_istore_n (lv' := [(2, _), (3, _), (0, _), (1, _)]) hC 48 rfl d_M_hasUnknown_47 rfl (by decide) rfl ?_
              refine j_iinc (lv' := [(3, _), (2, _), (0, _), (1, _)]) hC 1 51 rfl d_M_hasUnknown_48 rfl (inc1 _) (by decide) rfl ?_
              refine j_goto hC 7 d_M_hasUnknown_51 (by decide) ?_
              exact ih _ _ (dist_lt c_9 hd) (by rw [hR, exL_in c_9]; simp [unPM, ix, c_9, bI0 c_13, c_26, c_39])
            · refine j_iconst (v := (bI true)) hC 43 rfl d_M_hasUnknown_42 rfl ?_
              refine j_goto hC 47 d_M_hasUnknown_43 (by decide) ?_
              refine j_istore_n (lv' := [(2, _), (3, _), (0, _), (1, _)]) hC 48 rfl d_M_hasUnknown_47 rfl (by decide) rfl ?_
              refine j_iinc (lv' := [(3, _), (2, _), (0, _), (1, _)]) hC 1 51 rfl d_M_hasUnknown_48 rfl (inc1 _) (by decide) rfl ?_
              refine j_goto hC 7 d_M_hasUnknown_51 (by decide) ?_
              exact ih _ _ (dist_lt c_9 hd) (by rw [hR, exL_in c_9]; simp [unPM, ix, c_9, bI0 c_13, c_26, c_39])
  refine j_iconst (v := (bI false)) hC 1 rfl d_M_hasUnknown_0 rfl ?_
  refine j_istore_n (lv' := [(2, _), (0, _), (1, _)]) hC 2 rfl d_M_hasUnknown_1 rfl (by decide) rfl ?_
  refine j_aload_n hC 1 3 rfl d_M_hasUnknown_2 rfl rfl ?_
  refine g_M_oldest hC 6 rfl d_M_hasUnknown_3 ?_
  refine j_istore_n (lv' := [(3, _), (2, _), (0, _), (1, _)]) hC 7 rfl d_M_hasUnknown_6 rfl (by decide) rfl ?_
  exact loop _ _ false (Nat.lt_succ_self _) (by simp)
set_option maxHeartbeats 4000000 in
set_option maxRecDepth 100000 in
theorem c_M_taken {op k : Int32} (h0 : 0 ≤ μ 2 0) (hb : μ 7 0 ≤ 4) (hz : ∀ i, μ 13 i ≤ 4) (hk : 0 ≤ k) (hk2 : ¬ μ 13 (ix op) ≤ k) (ha : vp_in (μ 15 (ix op) + k) 4096) : kM l dC dI cI cZ cB cJ y_M_taken b_M_taken 8 (some .int) 3 67 [.ref (am 0), .int op, .int k] (wM am cI cZ μ ν ρ) (some (.int (tkV μ op k))) (wM am cI cZ (tkT μ op k) ν ρ) := by
  refine jM.of (lv := [(0, .ref (am 0)), (1, .int op), (2, .int k)]) (own := R_M) jE_loc (by decide) rfl rfl (Nat.le_of_ble_eq_true rfl) rfl ?_
  intro p e s m args below meth c A hC hr hlk
  refine j_iload_n hC 1 1 rfl d_M_taken_0 rfl rfl ?_
  refine j_bipush (v := 127) hC 3 rfl d_M_taken_1 (by decide) ?_
  refine j_iand hC 4 rfl d_M_taken_3 ?_
  refine j_istore_n (lv' := [(3, _), (0, _), (1, _), (2, _)]) hC 5 rfl d_M_taken_4 rfl (by decide) rfl ?_
  refine j_aload_n hC 1 6 rfl d_M_taken_5 rfl rfl ?_
  refine g_M_places hC 9 rfl d_M_taken_6 ?_
  refine j_iload_n hC 0 10 rfl d_M_taken_9 rfl rfl ?_
  refine ld_M_places hC (ix_in _) 11 rfl d_M_taken_10 ?_
  refine j_iload_n hC 3 12 rfl d_M_taken_11 rfl rfl ?_
  refine j_iadd hC 13 rfl d_M_taken_12 ?_
  refine j_istore (lv' := [(4, _), (3, _), (0, _), (1, _), (2, _)]) hC 15 rfl d_M_taken_13 (by decide) rfl ?_
  refine j_aload_n hC 2 16 rfl d_M_taken_15 rfl rfl ?_
  refine j_iload_n hC 3 17 rfl d_M_taken_16 rfl rfl ?_
  refine j_iload hC 0 19 rfl d_M_taken_17 rfl ?_
  refine j_callVi hC jE_loc jT_good (As := [_, _]) (c_M_storeOf h0) yk_M_storeOf lk_M_116 ⟨rfl, rfl⟩ ⟨Nat.le_of_ble_eq_true rfl, Nat.le_of_ble_eq_true rfl⟩ 0 rfl rfl rfl rfl (Nat.le_of_ble_eq_true rfl) ⟨Nat.zero_le _, Nat.zero_le _⟩ d_M_taken_19 22 rfl rfl ?_
  refine j_istore (lv' := [(5, _), (4, _), (3, _), (0, _), (1, _), (2, _)]) hC 24 rfl d_M_taken_22 (by decide) rfl ?_
  refine j_aload_n hC 3 25 rfl d_M_taken_24 rfl rfl ?_
  refine j_iload hC 1 27 rfl d_M_taken_25 rfl ?_
  refine j_callVi hC jE_loc jT_good (As := [_]) (c_M_bufferOf hb) yk_M_bufferOf lk_M_123 ⟨rfl, rfl⟩ ⟨Nat.le_of_ble_eq_true rfl, Nat.le_of_ble_eq_true rfl⟩ 0 rfl rfl rfl rfl (Nat.le_of_ble_eq_true rfl) ⟨Nat.zero_le _, Nat.zero_le _⟩ d_M_taken_27 30 rfl rfl ?_
  refine j_istore (lv' := [(6, _), (5, _), (4, _), (3, _), (0, _), (1, _), (2, _)]) hC 32 rfl d_M_taken_30 (by decide) rfl ?_
  refine j_aload_n hC 4 33 rfl d_M_taken_32 rfl rfl ?_
  refine g_M_from hC 36 rfl d_M_taken_33 ?_
  refine j_iconst (v := 4) hC 37 rfl d_M_taken_36 (by decide) ?_
  refine j_iload_n hC 3 38 rfl d_M_taken_37 rfl rfl ?_
  refine j_imul hC 39 rfl d_M_taken_38 ?_
  refine j_iload_n hC 6 40 rfl d_M_taken_39 rfl rfl ?_
  refine j_iadd hC 41 rfl d_M_taken_40 ?_
  refine j_iload hC 1 43 rfl d_M_taken_41 rfl ?_
  refine j_if_lt hC 51 46 rfl d_M_taken_43 (by decide) (fun c_43 => ?_) (fun c_43 => ?_)
  · refine j_iload hC 0 53 rfl d_M_taken_51 rfl ?_
    refine j_if_lt hC 61 56 rfl d_M_taken_53 (by decide) (fun c_53 => ?_) (fun c_53 => ?_)
    · refine j_iconst (v := (-1)) hC 62 rfl d_M_taken_61 (by decide) ?_
      refine st_M_from hC (fr_in hk hk2 (hz _)) 63 rfl d_M_taken_62 ?_
      refine j_aload_n hC 4 64 rfl d_M_taken_63 rfl rfl ?_
      refine j_dup hC 65 rfl d_M_taken_64 rfl ?_
      refine g_M_ofStores hC 68 rfl d_M_taken_65 ?_
      refine j_iload hC 1 70 rfl d_M_taken_68 rfl ?_
      refine j_if_lt hC 77 73 rfl d_M_taken_70 (by decide) (fun c_70 => ?_) (fun c_70 => absurd c_70 (fun q => q c_43))
      refine j_iconst (v := 0) hC 78 rfl d_M_taken_77 (by decide) ?_
      refine j_iadd hC 79 rfl d_M_taken_78 ?_
      refine p_M_ofStores hC 82 rfl d_M_taken_79 ?_
      refine j_aload_n hC 4 83 rfl d_M_taken_82 rfl rfl ?_
      refine j_dup hC 84 rfl d_M_taken_83 rfl ?_
      refine g_M_ofOthers hC 87 rfl d_M_taken_84 ?_
      refine j_iload hC 1 89 rfl d_M_taken_87 rfl ?_
      refine j_if_lt hC 96 92 rfl d_M_taken_89 (by decide) (fun c_89 => ?_) (fun c_89 => absurd c_89 (fun q => q c_43))
      refine j_iconst (v := 1) hC 97 rfl d_M_taken_96 (by decide) ?_
      refine j_iadd hC 98 rfl d_M_taken_97 ?_
      refine p_M_ofOthers hC 101 rfl d_M_taken_98 ?_
      refine j_iload hC 1 103 rfl d_M_taken_101 rfl ?_
      refine j_bipush (v := 127) hC 105 rfl d_M_taken_103 (by decide) ?_
      refine j_iand hC 106 rfl d_M_taken_105 ?_
      refine j_istore (lv' := [(7, _), (6, _), (5, _), (4, _), (3, _), (0, _), (1, _), (2, _)]) hC 108 rfl d_M_taken_106 (by decide) rfl ?_
      refine j_iload hC 2 110 rfl d_M_taken_108 rfl ?_
      refine j_if_lt hC 141 113 rfl d_M_taken_110 (by decide) (fun c_110 => ?_) (fun c_110 => absurd c_110 (fun q => q c_43))
      refine j_iload hC 1 143 rfl d_M_taken_141 rfl ?_
      refine j_if_lt hC 176 146 rfl d_M_taken_143 (by decide) (fun c_143 => ?_) (fun c_143 => ?_)
      · refine j_aload_n hC 5 177 rfl d_M_taken_176 rfl rfl ?_
        refine g_M_bytes hC 180 rfl d_M_taken_177 ?_
        refine j_iload hC 3 182 rfl d_M_taken_180 rfl ?_
        refine ld_M_bytes hC ha 183 rfl d_M_taken_182 ?_
        exact j_iret hC hr hlk d_M_taken_183 (by rw [tkV, if_pos (c := soM μ op (μ 15 (ix op) + k) < 0) c_43]; first | (rw [if_pos (c := buL μ (μ 15 (ix op) + k) 0 (-1) < 0) c_143] <;> rfl) | (rw [if_neg (c := buL μ (μ 15 (ix op) + k) 0 (-1) < 0) c_143] <;> rfl)) (by rw [tkT, if_pos (c := soM μ op (μ 15 (ix op) + k) < 0) c_43]; first | (rw [if_pos (c := buL μ (μ 15 (ix op) + k) 0 (-1) < 0) c_53] <;> rfl) | (rw [if_neg (c := buL μ (μ 15 (ix op) + k) 0 (-1) < 0) c_53] <;> rfl))
      · refine j_aload_n hC 5 147 rfl d_M_taken_146 rfl rfl ?_
        refine g_M_waitValue hC 150 rfl d_M_taken_147 ?_
        refine j_iload hC 1 152 rfl d_M_taken_150 rfl ?_
        refine ld_M_waitValue hC (buL_rng hb c_143) 153 rfl d_M_taken_152 ?_
        refine j_aload_n hC 5 154 rfl d_M_taken_153 rfl rfl ?_
        refine g_M_waitSize hC 157 rfl d_M_taken_154 ?_
        refine j_iload hC 1 159 rfl d_M_taken_157 rfl ?_
        refine ld_M_waitSize hC (buL_rng hb c_143) 160 rfl d_M_taken_159 ?_
        refine j_iload hC 3 162 rfl d_M_taken_160 rfl ?_
        refine j_aload_n hC 5 163 rfl d_M_taken_162 rfl rfl ?_
        refine g_M_waitPlace hC 166 rfl d_M_taken_163 ?_
        refine j_iload hC 1 168 rfl d_M_taken_166 rfl ?_
        refine ld_M_waitPlace hC (buL_rng hb c_143) 169 rfl d_M_taken_168 ?_
        refine j_isub hC 170 rfl d_M_taken_169 ?_
        refine j_callSi hC jE_loc jT_good (As := [_, _, _]) c_M_byteOf yk_M_byteOf lk_M_70 ⟨rfl, rfl⟩ ⟨Nat.le_of_ble_eq_true rfl, Nat.le_of_ble_eq_true rfl⟩ rfl (Nat.le_of_ble_eq_true rfl) ⟨Nat.zero_le _, Nat.zero_le _⟩ d_M_taken_170 173 rfl rfl ?_
        refine j_goto hC 183 d_M_taken_173 (by decide) ?_
        exact j_iret hC hr hlk d_M_taken_183 (by rw [tkV, if_pos (c := soM μ op (μ 15 (ix op) + k) < 0) c_43]; first | (rw [if_pos (c := buL μ (μ 15 (ix op) + k) 0 (-1) < 0) c_143] <;> rfl) | (rw [if_neg (c := buL μ (μ 15 (ix op) + k) 0 (-1) < 0) c_143] <;> rfl)) (by rw [tkT, if_pos (c := soM μ op (μ 15 (ix op) + k) < 0) c_43]; first | (rw [if_pos (c := buL μ (μ 15 (ix op) + k) 0 (-1) < 0) c_53] <;> rfl) | (rw [if_neg (c := buL μ (μ 15 (ix op) + k) 0 (-1) < 0) c_53] <;> rfl))
    · refine j_bipush (v := (-2)) hC 58 rfl d_M_taken_56 (by decide) ?_
      refine j_goto hC 62 d_M_taken_58 (by decide) ?_
      refine st_M_from hC (fr_in hk hk2 (hz _)) 63 rfl d_M_taken_62 ?_
      refine j_aload_n hC 4 64 rfl d_M_taken_63 rfl rfl ?_
      refine j_dup hC 65 rfl d_M_taken_64 rfl ?_
      refine g_M_ofStores hC 68 rfl d_M_taken_65 ?_
      refine j_iload hC 1 70 rfl d_M_taken_68 rfl ?_
      refine j_if_lt hC 77 73 rfl d_M_taken_70 (by decide) (fun c_70 => ?_) (fun c_70 => absurd c_70 (fun q => q c_43))
      refine j_iconst (v := 0) hC 78 rfl d_M_taken_77 (by decide) ?_
      refine j_iadd hC 79 rfl d_M_taken_78 ?_
      refine p_M_ofStores hC 82 rfl d_M_taken_79 ?_
      refine j_aload_n hC 4 83 rfl d_M_taken_82 rfl rfl ?_
      refine j_dup hC 84 rfl d_M_taken_83 rfl ?_
      refine g_M_ofOthers hC 87 rfl d_M_taken_84 ?_
      refine j_iload hC 1 89 rfl d_M_taken_87 rfl ?_
      refine j_if_lt hC 96 92 rfl d_M_taken_89 (by decide) (fun c_89 => ?_) (fun c_89 => absurd c_89 (fun q => q c_43))
      refine j_iconst (v := 1) hC 97 rfl d_M_taken_96 (by decide) ?_
      refine j_iadd hC 98 rfl d_M_taken_97 ?_
      refine p_M_ofOthers hC 101 rfl d_M_taken_98 ?_
      refine j_iload hC 1 103 rfl d_M_taken_101 rfl ?_
      refine j_bipush (v := 127) hC 105 rfl d_M_taken_103 (by decide) ?_
      refine j_iand hC 106 rfl d_M_taken_105 ?_
      refine j_istore (lv' := [(7, _), (6, _), (5, _), (4, _), (3, _), (0, _), (1, _), (2, _)]) hC 108 rfl d_M_taken_106 (by decide) rfl ?_
      refine j_iload hC 2 110 rfl d_M_taken_108 rfl ?_
      refine j_if_lt hC 141 113 rfl d_M_taken_110 (by decide) (fun c_110 => ?_) (fun c_110 => absurd c_110 (fun q => q c_43))
      refine j_iload hC 1 143 rfl d_M_taken_141 rfl ?_
      refine j_if_lt hC 176 146 rfl d_M_taken_143 (by decide) (fun c_143 => ?_) (fun c_143 => ?_)
      · refine j_aload_n hC 5 177 rfl d_M_taken_176 rfl rfl ?_
        refine g_M_bytes hC 180 rfl d_M_taken_177 ?_
        refine j_iload hC 3 182 rfl d_M_taken_180 rfl ?_
        refine ld_M_bytes hC ha 183 rfl d_M_taken_182 ?_
        exact j_iret hC hr hlk d_M_taken_183 (by rw [tkV, if_pos (c := soM μ op (μ 15 (ix op) + k) < 0) c_43]; first | (rw [if_pos (c := buL μ (μ 15 (ix op) + k) 0 (-1) < 0) c_143] <;> rfl) | (rw [if_neg (c := buL μ (μ 15 (ix op) + k) 0 (-1) < 0) c_143] <;> rfl)) (by rw [tkT, if_pos (c := soM μ op (μ 15 (ix op) + k) < 0) c_43]; first | (rw [if_pos (c := buL μ (μ 15 (ix op) + k) 0 (-1) < 0) c_53] <;> rfl) | (rw [if_neg (c := buL μ (μ 15 (ix op) + k) 0 (-1) < 0) c_53] <;> rfl))
      · refine j_aload_n hC 5 147 rfl d_M_taken_146 rfl rfl ?_
        refine g_M_waitValue hC 150 rfl d_M_taken_147 ?_
        refine j_iload hC 1 152 rfl d_M_taken_150 rfl ?_
        refine ld_M_waitValue hC (buL_rng hb c_143) 153 rfl d_M_taken_152 ?_
        refine j_aload_n hC 5 154 rfl d_M_taken_153 rfl rfl ?_
        refine g_M_waitSize hC 157 rfl d_M_taken_154 ?_
        refine j_iload hC 1 159 rfl d_M_taken_157 rfl ?_
        refine ld_M_waitSize hC (buL_rng hb c_143) 160 rfl d_M_taken_159 ?_
        refine j_iload hC 3 162 rfl d_M_taken_160 rfl ?_
        refine j_aload_n hC 5 163 rfl d_M_taken_162 rfl rfl ?_
        refine g_M_waitPlace hC 166 rfl d_M_taken_163 ?_
        refine j_iload hC 1 168 rfl d_M_taken_166 rfl ?_
        refine ld_M_waitPlace hC (buL_rng hb c_143) 169 rfl d_M_taken_168 ?_
        refine j_isub hC 170 rfl d_M_taken_169 ?_
        refine j_callSi hC jE_loc jT_good (As := [_, _, _]) c_M_byteOf yk_M_byteOf lk_M_70 ⟨rfl, rfl⟩ ⟨Nat.le_of_ble_eq_true rfl, Nat.le_of_ble_eq_true rfl⟩ rfl (Nat.le_of_ble_eq_true rfl) ⟨Nat.zero_le _, Nat.zero_le _⟩ d_M_taken_170 173 rfl rfl ?_
        refine j_goto hC 183 d_M_taken_173 (by decide) ?_
        exact j_iret hC hr hlk d_M_taken_183 (by rw [tkV, if_pos (c := soM μ op (μ 15 (ix op) + k) < 0) c_43]; first | (rw [if_pos (c := buL μ (μ 15 (ix op) + k) 0 (-1) < 0) c_143] <;> rfl) | (rw [if_neg (c := buL μ (μ 15 (ix op) + k) 0 (-1) < 0) c_143] <;> rfl)) (by rw [tkT, if_pos (c := soM μ op (μ 15 (ix op) + k) < 0) c_43]; first | (rw [if_pos (c := buL μ (μ 15 (ix op) + k) 0 (-1) < 0) c_53] <;> rfl) | (rw [if_neg (c := buL μ (μ 15 (ix op) + k) 0 (-1) < 0) c_53] <;> rfl))
  · refine j_iload hC 1 48 rfl d_M_taken_46 rfl ?_
    refine j_goto hC 62 d_M_taken_48 (by decide) ?_
    refine st_M_from hC (fr_in hk hk2 (hz _)) 63 rfl d_M_taken_62 ?_
    refine j_aload_n hC 4 64 rfl d_M_taken_63 rfl rfl ?_
    refine j_dup hC 65 rfl d_M_taken_64 rfl ?_
    refine g_M_ofStores hC 68 rfl d_M_taken_65 ?_
    refine j_iload hC 1 70 rfl d_M_taken_68 rfl ?_
    refine j_if_lt hC 77 73 rfl d_M_taken_70 (by decide) (fun c_70 => absurd c_70 c_43) (fun c_70 => ?_)
    refine j_iconst (v := 1) hC 74 rfl d_M_taken_73 (by decide) ?_
    refine j_goto hC 78 d_M_taken_74 (by decide) ?_
    refine j_iadd hC 79 rfl d_M_taken_78 ?_
    refine p_M_ofStores hC 82 rfl d_M_taken_79 ?_
    refine j_aload_n hC 4 83 rfl d_M_taken_82 rfl rfl ?_
    refine j_dup hC 84 rfl d_M_taken_83 rfl ?_
    refine g_M_ofOthers hC 87 rfl d_M_taken_84 ?_
    refine j_iload hC 1 89 rfl d_M_taken_87 rfl ?_
    refine j_if_lt hC 96 92 rfl d_M_taken_89 (by decide) (fun c_89 => absurd c_89 c_43) (fun c_89 => ?_)
    refine j_iconst (v := 0) hC 93 rfl d_M_taken_92 (by decide) ?_
    refine j_goto hC 97 d_M_taken_93 (by decide) ?_
    refine j_iadd hC 98 rfl d_M_taken_97 ?_
    refine p_M_ofOthers hC 101 rfl d_M_taken_98 ?_
    refine j_iload hC 1 103 rfl d_M_taken_101 rfl ?_
    refine j_bipush (v := 127) hC 105 rfl d_M_taken_103 (by decide) ?_
    refine j_iand hC 106 rfl d_M_taken_105 ?_
    refine j_istore (lv' := [(7, _), (6, _), (5, _), (4, _), (3, _), (0, _), (1, _), (2, _)]) hC 108 rfl d_M_taken_106 (by decide) rfl ?_
    refine j_iload hC 2 110 rfl d_M_taken_108 rfl ?_
    refine j_if_lt hC 141 113 rfl d_M_taken_110 (by decide) (fun c_110 => absurd c_110 c_43) (fun c_110 => ?_)
    refine j_aload_n hC 5 114 rfl d_M_taken_113 rfl rfl ?_
    refine g_M_values hC 117 rfl d_M_taken_114 ?_
    refine j_iload hC 0 119 rfl d_M_taken_117 rfl ?_
    refine ld_M_values hC (ix_in _) 120 rfl d_M_taken_119 ?_
    refine j_aload_n hC 5 121 rfl d_M_taken_120 rfl rfl ?_
    refine g_M_sizes hC 124 rfl d_M_taken_121 ?_
    refine j_iload hC 0 126 rfl d_M_taken_124 rfl ?_
    refine ld_M_sizes hC (ix_in _) 127 rfl d_M_taken_126 ?_
    refine j_iload hC 3 129 rfl d_M_taken_127 rfl ?_
    refine j_aload_n hC 5 130 rfl d_M_taken_129 rfl rfl ?_
    refine g_M_places hC 133 rfl d_M_taken_130 ?_
    refine j_iload hC 0 135 rfl d_M_taken_133 rfl ?_
    refine ld_M_places hC (ix_in _) 136 rfl d_M_taken_135 ?_
    refine j_isub hC 137 rfl d_M_taken_136 ?_
    refine j_callSi hC jE_loc jT_good (As := [_, _, _]) c_M_byteOf yk_M_byteOf lk_M_70 ⟨rfl, rfl⟩ ⟨Nat.le_of_ble_eq_true rfl, Nat.le_of_ble_eq_true rfl⟩ rfl (Nat.le_of_ble_eq_true rfl) ⟨Nat.zero_le _, Nat.zero_le _⟩ d_M_taken_137 140 rfl rfl ?_
    exact j_iret hC hr hlk d_M_taken_140 (by rw [tkV, if_neg (c := soM μ op (μ 15 (ix op) + k) < 0) c_43] <;> rfl) (by rw [tkT, if_neg (c := soM μ op (μ 15 (ix op) + k) < 0) c_43] <;> rfl)
set_option maxHeartbeats 4000000 in
set_option maxRecDepth 100000 in
theorem c_M_tried_thr {t : Int32} {op : Int32} (ht : trTh μ ν op = t) (h : ¬ t ≤ 0) : kM l dC dI cI cZ cB cJ y_M_tried b_M_tried 6 (some .int) 4 94 [.ref (am 0), .int op] (wM am cI cZ μ ν ρ) (some (.int (0))) (wM am cI cZ (sS μ 0 t) ν ρ) := by
  refine jM.of (lv := [(0, .ref (am 0)), (1, .int op)]) (own := R_M) jE_loc (by decide) rfl rfl (Nat.le_of_ble_eq_true rfl) rfl ?_
  intro p e s m args below meth c A hC hr hlk
  have jn : ∀ x : Int32, x = trTh μ ν op → kJ l dC dI p e s m args below meth c A 4 94 6 (some (.int (0))) (wM am cI cZ (sS μ 0 t) ν ρ) (wM am cI cZ μ ν ρ) 68 [(3, .int (bI (ctM μ ν op))), (2, .int (op &&& 127)), (0, .ref (am 0)), (1, .int op)] [.int x, .ref (am 0)] := by
    intro x hx
    obtain rfl : x = t := hx.trans ht
    refine p_M_thrown hC 71 rfl d_M_tried_68 ?_
    refine j_aload_n hC 2 72 rfl d_M_tried_71 rfl rfl ?_
    refine g_M_thrown hC 75 rfl d_M_tried_72 ?_
    refine j_if_le hC 80 78 rfl d_M_tried_75 (by decide) (fun c_75 => absurd c_75 h) (fun c_75 => ?_)
    refine j_iconst (v := 0) hC 79 rfl d_M_tried_78 (by decide) ?_
    exact j_iret hC hr hlk d_M_tried_79 rfl rfl
  have jb : ∀ b : Bool, b = ctM μ ν op → kJ l dC dI p e s m args below meth c A 4 94 6 (some (.int (0))) (wM am cI cZ (sS μ 0 t) ν ρ) (wM am cI cZ μ ν ρ) 45 [(2, .int (op &&& 127)), (0, .ref (am 0)), (1, .int op)] [.int (bI b)] := by
    intro b hb9
    subst hb9
    refine j_istore_n (lv' := [(3, _), (2, _), (0, _), (1, _)]) hC 46 rfl d_M_tried_45 rfl (by decide) rfl ?_
    refine j_aload_n hC 2 47 rfl d_M_tried_46 rfl rfl ?_
    refine j_aload_n hC 2 48 rfl d_M_tried_47 rfl rfl ?_
    refine j_iload_n hC 3 49 rfl d_M_tried_48 rfl rfl ?_
    refine j_callVi hC jE_loc jT_good (As := [_]) c_M_isOp yk_M_isOp lk_M_88 ⟨rfl, rfl⟩ ⟨Nat.le_of_ble_eq_true rfl, Nat.le_of_ble_eq_true rfl⟩ 0 rfl rfl rfl rfl (Nat.le_of_ble_eq_true rfl) ⟨Nat.zero_le _, Nat.zero_le _⟩ d_M_tried_49 52 rfl rfl ?_
    refine j_if_ne hC 59 55 rfl d_M_tried_52 (by decide) (fun c_52 => ?_) (fun c_52 => ?_)
    · refine j_iload_n hC 0 60 rfl d_M_tried_59 rfl rfl ?_
      refine j_if_ne hC 67 63 rfl d_M_tried_60 (by decide) (fun c_60 => ?_) (fun c_60 => ?_)
      · refine j_iconst (v := 0) hC 68 rfl d_M_tried_67 (by decide) ?_
        exact jn _ (by simp [trTh, bI1 c_52, bI1 c_60])
      · refine j_iconst (v := 2) hC 64 rfl d_M_tried_63 (by decide) ?_
        refine j_goto hC 68 d_M_tried_64 (by decide) ?_
        exact jn _ (by simp [trTh, bI1 c_52, bI0 c_60])
    · refine j_iconst (v := 1) hC 56 rfl d_M_tried_55 (by decide) ?_
      refine j_goto hC 68 d_M_tried_56 (by decide) ?_
      exact jn _ (by simp [trTh, bI0 c_52])
  refine j_iload_n hC 1 1 rfl d_M_tried_0 rfl rfl ?_
  refine j_bipush (v := 127) hC 3 rfl d_M_tried_1 (by decide) ?_
  refine j_iand hC 4 rfl d_M_tried_3 ?_
  refine j_istore_n (lv' := [(2, _), (0, _), (1, _)]) hC 5 rfl d_M_tried_4 rfl (by decide) rfl ?_
  refine j_aload_n hC 1 6 rfl d_M_tried_5 rfl rfl ?_
  refine j_iload_n hC 2 7 rfl d_M_tried_6 rfl rfl ?_
  refine j_callVi hC jE_loc jT_good (As := [_]) c_M_waits yk_M_waits lk_M_84 ⟨rfl, rfl⟩ ⟨Nat.le_of_ble_eq_true rfl, Nat.le_of_ble_eq_true rfl⟩ 0 rfl rfl rfl rfl (Nat.le_of_ble_eq_true rfl) ⟨Nat.zero_le _, Nat.zero_le _⟩ d_M_tried_7 10 rfl rfl ?_
  refine j_if_eq hC 44 13 rfl d_M_tried_10 (by decide) (fun c_10 => ?_) (fun c_10 => ?_)
  · refine j_iconst (v := (bI false)) hC 45 rfl d_M_tried_44 rfl ?_
    exact jb _ (by simp [ctM, ix, bI0 c_10])
  · refine j_aload_n hC 1 14 rfl d_M_tried_13 rfl rfl ?_
    refine g_M_kinds hC 17 rfl d_M_tried_14 ?_
    refine j_iload_n hC 0 18 rfl d_M_tried_17 rfl rfl ?_
    refine ld_M_kinds hC (ix_in _) 19 rfl d_M_tried_18 ?_
    refine j_if_ne hC 44 22 rfl d_M_tried_19 (by decide) (fun c_19 => ?_) (fun c_19 => ?_)
    · refine j_iconst (v := (bI false)) hC 45 rfl d_M_tried_44 rfl ?_
      exact jb _ (by simp [ctM, ix, bI1 c_10, c_19])
    · refine j_aload_n hC 1 23 rfl d_M_tried_22 rfl rfl ?_
      refine g_M_places hC 26 rfl d_M_tried_23 ?_
      refine j_iload_n hC 0 27 rfl d_M_tried_26 rfl rfl ?_
      refine ld_M_places hC (ix_in _) 28 rfl d_M_tried_27 ?_
      refine j_if_lt hC 44 31 rfl d_M_tried_28 (by decide) (fun c_28 => ?_) (fun c_28 => ?_)
      · refine j_iconst (v := (bI false)) hC 45 rfl d_M_tried_44 rfl ?_
        exact jb _ (by simp [ctM, ix, bI1 c_10, c_19, c_28])
      · refine j_aload_n hC 1 32 rfl d_M_tried_31 rfl rfl ?_
        refine g_M_done hC 35 rfl d_M_tried_32 ?_
        refine j_iload_n hC 0 36 rfl d_M_tried_35 rfl rfl ?_
        refine ld_M_done hC (ix_in _) 37 rfl d_M_tried_36 ?_
        refine j_if_ne hC 44 40 rfl d_M_tried_37 (by decide) (fun c_37 => ?_) (fun c_37 => ?_)
        · refine j_iconst (v := (bI false)) hC 45 rfl d_M_tried_44 rfl ?_
          exact jb _ (by simp [ctM, ix, bI1 c_10, c_19, c_28, bI1 c_37])
        · refine j_iconst (v := (bI true)) hC 41 rfl d_M_tried_40 rfl ?_
          refine j_goto hC 45 d_M_tried_41 (by decide) ?_
          exact jb _ (by simp [ctM, ix, bI1 c_10, c_19, c_28, bI0 c_37])
set_option maxHeartbeats 4000000 in
set_option maxRecDepth 100000 in
theorem c_M_tried_ok {op : Int32} (ht : trTh μ ν op = 0) (h0 : 0 ≤ μ 2 0) (hb : μ 7 0 ≤ 4) (hz : ∀ i, μ 13 i ≤ 4) (hp : ∀ i, vp_in (μ 14 i) 64) (ha : ∀ k : Int32, 0 ≤ k → ¬ μ 13 (ix op) ≤ k → vp_in (μ 15 (ix op) + k) 4096) : kM l dC dI cI cZ cB cJ y_M_tried b_M_tried 6 (some .int) 4 94 [.ref (am 0), .int op] (wM am cI cZ μ ν ρ) (some (.int ((tmR (sS μ 0 0) ν op).1))) (wM am cI cZ (tmR (sS μ 0 0) ν op).2.1 (tmR (sS μ 0 0) ν op).2.2 ρ) := by
  refine jM.of (lv := [(0, .ref (am 0)), (1, .int op)]) (own := R_M) jE_loc (by decide) rfl rfl (Nat.le_of_ble_eq_true rfl) rfl ?_
  intro p e s m args below meth c A hC hr hlk
  have loop2 : tmR (sS μ 0 0) ν op = tmL (sS μ 0 0) ν op → ¬ exL (snM (sS μ 0 0) ν op) 0 ((sS μ 0 0) 13 (ix op)) = true → ∀ (n : Nat) (k : Int32) (τ : S2), 0 ≤ k → (τ 2 = μ 2 ∧ τ 7 = μ 7 ∧ τ 13 = μ 13 ∧ τ 15 = μ 15) → dist k ((sS μ 0 0) 13 (ix op)) < n → dmL op ((sS μ 0 0) 13 (ix op)) k τ = dmL op ((sS μ 0 0) 13 (ix op)) 0 (sA (sS μ 0 0) 17 (ix op) 0) → kJ l dC dI p e s m args below meth c A 4 94 6 (some (.int ((tmR (sS μ 0 0) ν op).1))) (wM am cI cZ (tmR (sS μ 0 0) ν op).2.1 (tmR (sS μ 0 0) ν op).2.2 ρ) (wM am cI cZ τ ν ρ) 180 [(4, .int k), (3, .int (bI (ctM μ ν op))), (2, .int (op &&& 127)), (0, .ref (am 0)), (1, .int op)] [] := by
    intro hq hx9 n
    induction n with
    | zero => intro k τ hk hs hd hR; exact absurd hd (Nat.not_lt_zero _)
    | succ n ih =>
      intro k τ hk hs hd hR
      refine j_iload hC 0 182 rfl d_M_tried_180 rfl ?_
      refine j_aload_n hC 3 183 rfl d_M_tried_182 rfl rfl ?_
      refine g_M_sizes hC 186 rfl d_M_tried_183 ?_
      refine j_iload_n hC 2 187 rfl d_M_tried_186 rfl rfl ?_
      refine ld_M_sizes hC (ix_in _) 188 rfl d_M_tried_187 ?_
      refine j_eqi (show τ 13 (ix op) = (sS μ 0 0) 13 (ix op) by rw [hs.2.2.1] <;> rfl) ?_
      refine j_icmp_ge hC 220 191 rfl d_M_tried_188 (by decide) (fun c_188 => ?_) (fun c_188 => ?_)
      · refine j_aload_n hC 3 221 rfl d_M_tried_220 rfl rfl ?_
        refine g_M_done hC 224 rfl d_M_tried_221 ?_
        refine j_iload_n hC 2 225 rfl d_M_tried_224 rfl rfl ?_
        refine j_iconst (v := 1) hC 226 rfl d_M_tried_225 (by decide) ?_
        refine st_M_done hC (ix_in _) (b := true) rfl 227 rfl d_M_tried_226 ?_
        refine j_iconst (v := 1) hC 228 rfl d_M_tried_227 (by decide) ?_
        exact j_iret hC hr hlk d_M_tried_228 (by rw [hq, tmL, if_neg hx9] <;> rfl) (by rw [hq, tmL, if_neg hx9, ← hR, dmL_out c_188] <;> rfl)
      · refine j_aload_n hC 3 192 rfl d_M_tried_191 rfl rfl ?_
        refine g_M_results hC 195 rfl d_M_tried_192 ?_
        refine j_iload_n hC 2 196 rfl d_M_tried_195 rfl rfl ?_
        refine j_aload_n hC 3 197 rfl d_M_tried_196 rfl rfl ?_
        refine g_M_results hC 200 rfl d_M_tried_197 ?_
        refine j_iload_n hC 2 201 rfl d_M_tried_200 rfl rfl ?_
        refine ld_M_results hC (ix_in _) 202 rfl d_M_tried_201 ?_
        refine j_bipush (v := 8) hC 204 rfl d_M_tried_202 (by decide) ?_
        refine j_ishl hC 205 rfl d_M_tried_204 ?_
        refine j_aload_n hC 3 206 rfl d_M_tried_205 rfl rfl ?_
        refine j_iload_n hC 4 207 rfl d_M_tried_206 rfl rfl ?_
        refine j_iload hC 0 209 rfl d_M_tried_207 rfl ?_
        refine j_callVi hC jE_loc jT_good (As := [_, _]) (c_M_taken (by rw [hs.1]; exact h0) (by rw [hs.2.1]; exact hb) (by rw [hs.2.2.1]; exact hz) hk (by rw [hs.2.2.1]; exact c_188) (by rw [hs.2.2.2]; exact ha _ hk c_188)) yk_M_taken lk_M_120 ⟨rfl, rfl⟩ ⟨Nat.le_of_ble_eq_true rfl, Nat.le_of_ble_eq_true rfl⟩ 0 rfl rfl rfl rfl (Nat.le_of_ble_eq_true rfl) ⟨Nat.zero_le _, Nat.zero_le _⟩ d_M_tried_209 212 rfl rfl ?_
        refine j_ior hC 213 rfl d_M_tried_212 ?_
        refine st_M_results hC (ix_in _) 214 rfl d_M_tried_213 ?_
        refine j_iinc (lv' := [(4, _), (3, _), (2, _), (0, _), (1, _)]) hC 0 217 rfl d_M_tried_214 rfl (inc1 _) (by decide) rfl ?_
        refine j_goto hC 180 d_M_tried_217 (by decide) ?_
        exact ih _ _ (nn1 hk c_188) ⟨(dmS_jj (by decide)).trans hs.1, (dmS_jj (by decide)).trans hs.2.1, (dmS_jj (by decide)).trans hs.2.2.1, (dmS_jj (by decide)).trans hs.2.2.2⟩ (dist_lt c_188 hd) (by rw [← hR, dmL_in c_188] <;> rfl)
  have loop : tmR (sS μ 0 0) ν op = tmL (sS μ 0 0) ν op → ∀ (n : Nat) (i : Int32), 0 ≤ i → dist i ((sS μ 0 0) 13 (ix op)) < n → exL (snM (sS μ 0 0) ν op) 0 ((sS μ 0 0) 13 (ix op)) = exL (snM (sS μ 0 0) ν op) i ((sS μ 0 0) 13 (ix op)) → kJ l dC dI p e s m args below meth c A 4 94 6 (some (.int ((tmR (sS μ 0 0) ν op).1))) (wM am cI cZ (tmR (sS μ 0 0) ν op).2.1 (tmR (sS μ 0 0) ν op).2.2 ρ) (wM am cI cZ (sS μ 0 0) ν ρ) 117 [(4, .int i), (3, .int (bI (ctM μ ν op))), (2, .int (op &&& 127)), (0, .ref (am 0)), (1, .int op)] [] := by
    intro hq n
    induction n with
    | zero => intro i hi hd hR; exact absurd hd (Nat.not_lt_zero _)
    | succ n ih =>
      intro i hi hd hR
      refine j_iload hC 0 119 rfl d_M_tried_117 rfl ?_
      refine j_aload_n hC 3 120 rfl d_M_tried_119 rfl rfl ?_
      refine g_M_sizes hC 123 rfl d_M_tried_120 ?_
      refine j_iload_n hC 2 124 rfl d_M_tried_123 rfl rfl ?_
      refine ld_M_sizes hC (ix_in _) 125 rfl d_M_tried_124 ?_
      refine j_icmp_ge hC 170 128 rfl d_M_tried_125 (by decide) (fun c_125 => ?_) (fun c_125 => ?_)
      · refine j_aload_n hC 3 171 rfl d_M_tried_170 rfl rfl ?_
        refine g_M_results hC 174 rfl d_M_tried_171 ?_
        refine j_iload_n hC 2 175 rfl d_M_tried_174 rfl rfl ?_
        refine j_iconst (v := 0) hC 176 rfl d_M_tried_175 (by decide) ?_
        refine st_M_results hC (ix_in _) 177 rfl d_M_tried_176 ?_
        refine j_iconst (v := 0) hC 178 rfl d_M_tried_177 (by decide) ?_
        refine j_istore (lv' := [(4, _), (3, _), (2, _), (0, _), (1, _)]) hC 180 rfl d_M_tried_178 (by decide) rfl ?_
        exact loop2 hq (by rw [hR, exL_out (b := (sS μ 0 0) 13 (ix op)) c_125]; decide) _ 0 _ (by decide) ⟨rfl, rfl, rfl, rfl⟩ (Nat.lt_succ_self _) rfl
      · refine j_aload_n hC 3 129 rfl d_M_tried_128 rfl rfl ?_
        refine j_iload_n hC 4 130 rfl d_M_tried_129 rfl rfl ?_
        refine j_aload_n hC 3 131 rfl d_M_tried_130 rfl rfl ?_
        refine g_M_places hC 134 rfl d_M_tried_131 ?_
        refine j_iload_n hC 2 135 rfl d_M_tried_134 rfl rfl ?_
        refine ld_M_places hC (ix_in _) 136 rfl d_M_tried_135 ?_
        refine j_iload hC 0 138 rfl d_M_tried_136 rfl ?_
        refine j_iadd hC 139 rfl d_M_tried_138 ?_
        refine j_callVi hC jE_loc jT_good (As := [_, _]) (c_M_storeOf (μ := (sS μ 0 0)) h0) yk_M_storeOf lk_M_116 ⟨rfl, rfl⟩ ⟨Nat.le_of_ble_eq_true rfl, Nat.le_of_ble_eq_true rfl⟩ 0 rfl rfl rfl rfl (Nat.le_of_ble_eq_true rfl) ⟨Nat.zero_le _, Nat.zero_le _⟩ d_M_tried_139 142 rfl rfl ?_
        refine j_istore (lv' := [(5, _), (4, _), (3, _), (2, _), (0, _), (1, _)]) hC 144 rfl d_M_tried_142 (by decide) rfl ?_
        refine j_iload hC 0 146 rfl d_M_tried_144 rfl ?_
        refine j_if_lt hC 164 149 rfl d_M_tried_146 (by decide) (fun c_146 => ?_) (fun c_146 => ?_)
        · refine j_iinc (lv' := [(4, _), (5, _), (3, _), (2, _), (0, _), (1, _)]) hC 1 167 rfl d_M_tried_164 rfl (inc1 _) (by decide) rfl ?_
          refine j_goto hC 117 d_M_tried_167 (by decide) ?_
          refine j_sub (lv' := [(4, _), (3, _), (2, _), (0, _), (1, _)]) [0, 2, 3, 4, 5] rfl ?_
          exact ih _ (nn1 hi c_125) (dist_lt c_125 hd) (by rw [hR, exL_in (b := (sS μ 0 0) 13 (ix op)) c_125]; simp [snM, ix, c_125, c_146])
        · refine j_aload_n hC 4 150 rfl d_M_tried_149 rfl rfl ?_
          refine g_M_told hC 153 rfl d_M_tried_150 ?_
          refine j_iload hC 0 155 rfl d_M_tried_153 rfl ?_
          refine j_bipush (v := 127) hC 157 rfl d_M_tried_155 (by decide) ?_
          refine j_iand hC 158 rfl d_M_tried_157 ?_
          refine ld_M_told hC (ix_in _) 159 rfl d_M_tried_158 ?_
          refine j_if_ne hC 164 162 rfl d_M_tried_159 (by decide) (fun c_159 => ?_) (fun c_159 => ?_)
          · refine j_iinc (lv' := [(4, _), (5, _), (3, _), (2, _), (0, _), (1, _)]) hC 1 167 rfl d_M_tried_164 rfl (inc1 _) (by decide) rfl ?_
            refine j_goto hC 117 d_M_tried_167 (by decide) ?_
            refine j_sub (lv' := [(4, _), (3, _), (2, _), (0, _), (1, _)]) [0, 2, 3, 4, 5] rfl ?_
            exact ih _ (nn1 hi c_125) (dist_lt c_125 hd) (by rw [hR, exL_in (b := (sS μ 0 0) 13 (ix op)) c_125]; simp [snM, ix, c_125, c_146, bI1 c_159])
          · refine j_iconst (v := 4) hC 163 rfl d_M_tried_162 (by decide) ?_
            exact j_iret hC hr hlk d_M_tried_163 (by rw [hq, tmL, if_pos (by rw [hR, exL_in (b := (sS μ 0 0) 13 (ix op)) c_125]; simp [snM, ix, c_125, c_146, bI0 c_159])] <;> rfl) (by rw [hq, tmL, if_pos (by rw [hR, exL_in (b := (sS μ 0 0) 13 (ix op)) c_125]; simp [snM, ix, c_125, c_146, bI0 c_159])] <;> rfl)
  have jn : ∀ x : Int32, x = trTh μ ν op → kJ l dC dI p e s m args below meth c A 4 94 6 (some (.int ((tmR (sS μ 0 0) ν op).1))) (wM am cI cZ (tmR (sS μ 0 0) ν op).2.1 (tmR (sS μ 0 0) ν op).2.2 ρ) (wM am cI cZ μ ν ρ) 68 [(3, .int (bI (ctM μ ν op))), (2, .int (op &&& 127)), (0, .ref (am 0)), (1, .int op)] [.int x, .ref (am 0)] := by
    intro x hx
    obtain rfl : x = 0 := hx.trans ht
    refine p_M_thrown hC 71 rfl d_M_tried_68 ?_
    refine j_aload_n hC 2 72 rfl d_M_tried_71 rfl rfl ?_
    refine g_M_thrown hC 75 rfl d_M_tried_72 ?_
    refine j_if_le hC 80 78 rfl d_M_tried_75 (by decide) (fun c_75 => ?_) (fun c_75 => absurd c_75 (fun q => q (Int32.le_refl 0)))
    refine j_aload_n hC 2 81 rfl d_M_tried_80 rfl rfl ?_
    refine j_iload_n hC 3 82 rfl d_M_tried_81 rfl rfl ?_
    refine j_callVi hC jE_loc jT_good (As := [_]) c_M_isHeld yk_M_isHeld lk_M_110 ⟨rfl, rfl⟩ ⟨Nat.le_of_ble_eq_true rfl, Nat.le_of_ble_eq_true rfl⟩ 0 rfl rfl rfl rfl (Nat.le_of_ble_eq_true rfl) ⟨Nat.zero_le _, Nat.zero_le _⟩ d_M_tried_82 85 rfl rfl ?_
    refine j_if_eq hC 90 88 rfl d_M_tried_85 (by decide) (fun c_85 => ?_) (fun c_85 => ?_)
    · refine j_aload_n hC 2 91 rfl d_M_tried_90 rfl rfl ?_
      refine g_M_marks hC 94 rfl d_M_tried_91 ?_
      refine j_aload_n hC 2 95 rfl d_M_tried_94 rfl rfl ?_
      refine g_M_programs hC 98 rfl d_M_tried_95 ?_
      refine j_iload_n hC 1 99 rfl d_M_tried_98 rfl rfl ?_
      refine ld_M_programs hC (ix_in _) 100 rfl d_M_tried_99 ?_
      refine ld_M_marks hC (hp _) 101 rfl d_M_tried_100 ?_
      refine j_if_eq hC 114 104 rfl d_M_tried_101 (by decide) (fun c_101 => ?_) (fun c_101 => ?_)
      · refine j_iconst (v := 0) hC 115 rfl d_M_tried_114 (by decide) ?_
        refine j_istore (lv' := [(4, _), (3, _), (2, _), (0, _), (1, _)]) hC 117 rfl d_M_tried_115 (by decide) rfl ?_
        exact loop (by simp only [tmR, ix, c_75, bI0 c_85, bI0 c_101, reduceIte, Bool.false_eq_true]) _ 0 (by decide) (Nat.lt_succ_self _) rfl
      · refine j_aload_n hC 2 105 rfl d_M_tried_104 rfl rfl ?_
        refine j_iload_n hC 3 106 rfl d_M_tried_105 rfl rfl ?_
        refine j_callVi hC jE_loc jT_good (As := [_]) c_M_hasUnknown yk_M_hasUnknown lk_M_113 ⟨rfl, rfl⟩ ⟨Nat.le_of_ble_eq_true rfl, Nat.le_of_ble_eq_true rfl⟩ 0 rfl rfl rfl rfl (Nat.le_of_ble_eq_true rfl) ⟨Nat.zero_le _, Nat.zero_le _⟩ d_M_tried_106 109 rfl rfl ?_
        refine j_if_eq hC 114 112 rfl d_M_tried_109 (by decide) (fun c_109 => ?_) (fun c_109 => ?_)
        · refine j_iconst (v := 0) hC 115 rfl d_M_tried_114 (by decide) ?_
          refine j_istore (lv' := [(4, _), (3, _), (2, _), (0, _), (1, _)]) hC 117 rfl d_M_tried_115 (by decide) rfl ?_
          exact loop (by simp only [tmR, ix, c_75, bI0 c_85, bI1 c_101, bI0 c_109, reduceIte, Bool.false_eq_true]) _ 0 (by decide) (Nat.lt_succ_self _) rfl
        · refine j_iconst (v := 3) hC 113 rfl d_M_tried_112 (by decide) ?_
          exact j_iret hC hr hlk d_M_tried_113 (by simp only [tmR, ix, c_75, bI0 c_85, bI1 c_101, bI1 c_109, reduceIte, Bool.false_eq_true] <;> rfl) (by simp only [tmR, ix, c_75, bI0 c_85, bI1 c_101, bI1 c_109, reduceIte, Bool.false_eq_true] <;> rfl)
    · refine j_iconst (v := 2) hC 89 rfl d_M_tried_88 (by decide) ?_
      exact j_iret hC hr hlk d_M_tried_89 (by simp only [tmR, ix, c_75, bI1 c_85, reduceIte, Bool.false_eq_true] <;> rfl) (by simp only [tmR, ix, c_75, bI1 c_85, reduceIte, Bool.false_eq_true] <;> rfl)
  have jb : ∀ b : Bool, b = ctM μ ν op → kJ l dC dI p e s m args below meth c A 4 94 6 (some (.int ((tmR (sS μ 0 0) ν op).1))) (wM am cI cZ (tmR (sS μ 0 0) ν op).2.1 (tmR (sS μ 0 0) ν op).2.2 ρ) (wM am cI cZ μ ν ρ) 45 [(2, .int (op &&& 127)), (0, .ref (am 0)), (1, .int op)] [.int (bI b)] := by
    intro b hb9
    subst hb9
    refine j_istore_n (lv' := [(3, _), (2, _), (0, _), (1, _)]) hC 46 rfl d_M_tried_45 rfl (by decide) rfl ?_
    refine j_aload_n hC 2 47 rfl d_M_tried_46 rfl rfl ?_
    refine j_aload_n hC 2 48 rfl d_M_tried_47 rfl rfl ?_
    refine j_iload_n hC 3 49 rfl d_M_tried_48 rfl rfl ?_
    refine j_callVi hC jE_loc jT_good (As := [_]) c_M_isOp yk_M_isOp lk_M_88 ⟨rfl, rfl⟩ ⟨Nat.le_of_ble_eq_true rfl, Nat.le_of_ble_eq_true rfl⟩ 0 rfl rfl rfl rfl (Nat.le_of_ble_eq_true rfl) ⟨Nat.zero_le _, Nat.zero_le _⟩ d_M_tried_49 52 rfl rfl ?_
    refine j_if_ne hC 59 55 rfl d_M_tried_52 (by decide) (fun c_52 => ?_) (fun c_52 => ?_)
    · refine j_iload_n hC 0 60 rfl d_M_tried_59 rfl rfl ?_
      refine j_if_ne hC 67 63 rfl d_M_tried_60 (by decide) (fun c_60 => ?_) (fun c_60 => ?_)
      · refine j_iconst (v := 0) hC 68 rfl d_M_tried_67 (by decide) ?_
        exact jn _ (by simp [trTh, bI1 c_52, bI1 c_60])
      · refine j_iconst (v := 2) hC 64 rfl d_M_tried_63 (by decide) ?_
        refine j_goto hC 68 d_M_tried_64 (by decide) ?_
        exact jn _ (by simp [trTh, bI1 c_52, bI0 c_60])
    · refine j_iconst (v := 1) hC 56 rfl d_M_tried_55 (by decide) ?_
      refine j_goto hC 68 d_M_tried_56 (by decide) ?_
      exact jn _ (by simp [trTh, bI0 c_52])
  refine j_iload_n hC 1 1 rfl d_M_tried_0 rfl rfl ?_
  refine j_bipush (v := 127) hC 3 rfl d_M_tried_1 (by decide) ?_
  refine j_iand hC 4 rfl d_M_tried_3 ?_
  refine j_istore_n (lv' := [(2, _), (0, _), (1, _)]) hC 5 rfl d_M_tried_4 rfl (by decide) rfl ?_
  refine j_aload_n hC 1 6 rfl d_M_tried_5 rfl rfl ?_
  refine j_iload_n hC 2 7 rfl d_M_tried_6 rfl rfl ?_
  refine j_callVi hC jE_loc jT_good (As := [_]) c_M_waits yk_M_waits lk_M_84 ⟨rfl, rfl⟩ ⟨Nat.le_of_ble_eq_true rfl, Nat.le_of_ble_eq_true rfl⟩ 0 rfl rfl rfl rfl (Nat.le_of_ble_eq_true rfl) ⟨Nat.zero_le _, Nat.zero_le _⟩ d_M_tried_7 10 rfl rfl ?_
  refine j_if_eq hC 44 13 rfl d_M_tried_10 (by decide) (fun c_10 => ?_) (fun c_10 => ?_)
  · refine j_iconst (v := (bI false)) hC 45 rfl d_M_tried_44 rfl ?_
    exact jb _ (by simp [ctM, ix, bI0 c_10])
  · refine j_aload_n hC 1 14 rfl d_M_tried_13 rfl rfl ?_
    refine g_M_kinds hC 17 rfl d_M_tried_14 ?_
    refine j_iload_n hC 0 18 rfl d_M_tried_17 rfl rfl ?_
    refine ld_M_kinds hC (ix_in _) 19 rfl d_M_tried_18 ?_
    refine j_if_ne hC 44 22 rfl d_M_tried_19 (by decide) (fun c_19 => ?_) (fun c_19 => ?_)
    · refine j_iconst (v := (bI false)) hC 45 rfl d_M_tried_44 rfl ?_
      exact jb _ (by simp [ctM, ix, bI1 c_10, c_19])
    · refine j_aload_n hC 1 23 rfl d_M_tried_22 rfl rfl ?_
      refine g_M_places hC 26 rfl d_M_tried_23 ?_
      refine j_iload_n hC 0 27 rfl d_M_tried_26 rfl rfl ?_
      refine ld_M_places hC (ix_in _) 28 rfl d_M_tried_27 ?_
      refine j_if_lt hC 44 31 rfl d_M_tried_28 (by decide) (fun c_28 => ?_) (fun c_28 => ?_)
      · refine j_iconst (v := (bI false)) hC 45 rfl d_M_tried_44 rfl ?_
        exact jb _ (by simp [ctM, ix, bI1 c_10, c_19, c_28])
      · refine j_aload_n hC 1 32 rfl d_M_tried_31 rfl rfl ?_
        refine g_M_done hC 35 rfl d_M_tried_32 ?_
        refine j_iload_n hC 0 36 rfl d_M_tried_35 rfl rfl ?_
        refine ld_M_done hC (ix_in _) 37 rfl d_M_tried_36 ?_
        refine j_if_ne hC 44 40 rfl d_M_tried_37 (by decide) (fun c_37 => ?_) (fun c_37 => ?_)
        · refine j_iconst (v := (bI false)) hC 45 rfl d_M_tried_44 rfl ?_
          exact jb _ (by simp [ctM, ix, bI1 c_10, c_19, c_28, bI1 c_37])
        · refine j_iconst (v := (bI true)) hC 41 rfl d_M_tried_40 rfl ?_
          refine j_goto hC 45 d_M_tried_41 (by decide) ?_
          exact jb _ (by simp [ctM, ix, bI1 c_10, c_19, c_28, bI0 c_37])
end KC
