section KC
variable {l : Launch} {dC : Nat → ClassId} {dI : Nat → Nat → Nat} {cI cZ cB cJ : ClassId} {ad : Nat → Nat} {σ : S2} {β : B2} {mk : Int64} {ρ : va_W} {am : Nat → Nat} {μ : S2} {ν : B2}
set_option maxHeartbeats 4000000 in
set_option maxRecDepth 100000 in
theorem c_M_leave_no  (h : μ 2 0 = μ 1 0 ∨ mlM (sS μ 0 0) ν = false) : kM l dC dI cI cZ cB cJ y_M_leave b_M_leave 3 (some .int) 2 46 [.ref (am 0)] (wM am cI cZ μ ν ρ) (some (.int (-1))) (wM am cI cZ (sS μ 0 0) ν ρ) := by
  refine jM.of (lv := [(0, .ref (am 0))]) (own := R_M) jE_loc (by decide) rfl rfl (Nat.le_of_ble_eq_true rfl) rfl ?_
  intro p e s m args below meth c A hC hr hlk
  refine j_aload_n hC 0 1 rfl d_M_leave_0 rfl rfl ?_
  refine j_iconst (v := 0) hC 2 rfl d_M_leave_1 (by decide) ?_
  refine p_M_thrown hC 5 rfl d_M_leave_2 ?_
  refine j_aload_n hC 0 6 rfl d_M_leave_5 rfl rfl ?_
  refine g_M_oldest hC 9 rfl d_M_leave_6 ?_
  refine j_aload_n hC 0 10 rfl d_M_leave_9 rfl rfl ?_
  refine g_M_total hC 13 rfl d_M_leave_10 ?_
  refine j_icmp_eq hC 23 16 rfl d_M_leave_13 (by decide) (fun c_13 => ?_) (fun c_13 => ?_)
  · refine j_iconst (v := (-1)) hC 24 rfl d_M_leave_23 (by decide) ?_
    exact j_iret hC hr hlk d_M_leave_24 rfl rfl
  · refine j_aload_n hC 0 17 rfl d_M_leave_16 rfl rfl ?_
    refine j_callVi hC jE_loc jT_good (As := []) c_M_mayLeave yk_M_mayLeave lk_M_132 ⟨rfl, rfl⟩ ⟨Nat.le_of_ble_eq_true rfl, Nat.le_of_ble_eq_true rfl⟩ 0 rfl rfl rfl rfl (Nat.le_of_ble_eq_true rfl) ⟨Nat.zero_le _, Nat.zero_le _⟩ d_M_leave_17 20 rfl rfl ?_
    refine j_if_ne hC 25 23 rfl d_M_leave_20 (by decide) (fun c_20 => ?_) (fun c_20 => ?_)
    · exact absurd h (by rintro (q | q); exact c_13 q; rw [bI1 c_20] at q; cases q)
    · refine j_iconst (v := (-1)) hC 24 rfl d_M_leave_23 (by decide) ?_
      exact j_iret hC hr hlk d_M_leave_24 rfl rfl
set_option maxHeartbeats 4000000 in
set_option maxRecDepth 100000 in
theorem c_M_leave_none  (h : ¬ μ 2 0 = μ 1 0) (hm : mlM (sS μ 0 0) ν = true) (k1 : ¬ μ 12 (ix (μ 2 0)) = 1) (k3 : ¬ μ 12 (ix (μ 2 0)) = 3) : kM l dC dI cI cZ cB cJ y_M_leave b_M_leave 3 (some .int) 2 46 [.ref (am 0)] (wM am cI cZ μ ν ρ) (some (.int (μ 2 0 + 1 - 1))) (wM am cI cZ (sS (sS μ 0 0) 2 (μ 2 0 + 1)) ν ρ) := by
  refine jM.of (lv := [(0, .ref (am 0))]) (own := R_M) jE_loc (by decide) rfl rfl (Nat.le_of_ble_eq_true rfl) rfl ?_
  intro p e s m args below meth c A hC hr hlk
  refine j_aload_n hC 0 1 rfl d_M_leave_0 rfl rfl ?_
  refine j_iconst (v := 0) hC 2 rfl d_M_leave_1 (by decide) ?_
  refine p_M_thrown hC 5 rfl d_M_leave_2 ?_
  refine j_aload_n hC 0 6 rfl d_M_leave_5 rfl rfl ?_
  refine g_M_oldest hC 9 rfl d_M_leave_6 ?_
  refine j_aload_n hC 0 10 rfl d_M_leave_9 rfl rfl ?_
  refine g_M_total hC 13 rfl d_M_leave_10 ?_
  refine j_icmp_eq hC 23 16 rfl d_M_leave_13 (by decide) (fun c_13 => absurd c_13 h) (fun c_13 => ?_)
  refine j_aload_n hC 0 17 rfl d_M_leave_16 rfl rfl ?_
  refine j_callVi hC jE_loc jT_good (As := []) c_M_mayLeave yk_M_mayLeave lk_M_132 ⟨rfl, rfl⟩ ⟨Nat.le_of_ble_eq_true rfl, Nat.le_of_ble_eq_true rfl⟩ 0 rfl rfl rfl rfl (Nat.le_of_ble_eq_true rfl) ⟨Nat.zero_le _, Nat.zero_le _⟩ d_M_leave_17 20 rfl rfl ?_
  refine j_if_ne hC 25 23 rfl d_M_leave_20 (by decide) (fun c_20 => ?_) (fun c_20 => absurd c_20 (by rw [hm]; decide))
  refine j_aload_n hC 0 26 rfl d_M_leave_25 rfl rfl ?_
  refine g_M_oldest hC 29 rfl d_M_leave_26 ?_
  refine j_bipush (v := 127) hC 31 rfl d_M_leave_29 (by decide) ?_
  refine j_iand hC 32 rfl d_M_leave_31 ?_
  refine j_istore_n (lv' := [(1, _), (0, _)]) hC 33 rfl d_M_leave_32 rfl (by decide) rfl ?_
  refine j_aload_n hC 1 34 rfl d_M_leave_33 rfl rfl ?_
  refine g_M_kinds hC 37 rfl d_M_leave_34 ?_
  refine j_iload_n hC 0 38 rfl d_M_leave_37 rfl rfl ?_
  refine ld_M_kinds hC (ix_in _) 39 rfl d_M_leave_38 ?_
  refine j_iconst (v := 3) hC 40 rfl d_M_leave_39 (by decide) ?_
  refine j_icmp_ne hC 97 43 rfl d_M_leave_40 (by decide) (fun c_40 => ?_) (fun c_40 => absurd c_40 k3)
  refine j_aload_n hC 1 98 rfl d_M_leave_97 rfl rfl ?_
  refine g_M_kinds hC 101 rfl d_M_leave_98 ?_
  refine j_iload_n hC 0 102 rfl d_M_leave_101 rfl rfl ?_
  refine ld_M_kinds hC (ix_in _) 103 rfl d_M_leave_102 ?_
  refine j_iconst (v := 1) hC 104 rfl d_M_leave_103 (by decide) ?_
  refine j_icmp_ne hC 130 107 rfl d_M_leave_104 (by decide) (fun c_104 => ?_) (fun c_104 => absurd c_104 k1)
  refine j_aload_n hC 1 131 rfl d_M_leave_130 rfl rfl ?_
  refine g_M_kinds hC 134 rfl d_M_leave_131 ?_
  refine j_iload_n hC 0 135 rfl d_M_leave_134 rfl rfl ?_
  refine ld_M_kinds hC (ix_in _) 136 rfl d_M_leave_135 ?_
  refine j_iconst (v := 1) hC 137 rfl d_M_leave_136 (by decide) ?_
  refine j_icmp_eq hC 150 140 rfl d_M_leave_137 (by decide) (fun c_137 => absurd c_137 k1) (fun c_137 => ?_)
  refine j_aload_n hC 1 141 rfl d_M_leave_140 rfl rfl ?_
  refine g_M_kinds hC 144 rfl d_M_leave_141 ?_
  refine j_iload_n hC 0 145 rfl d_M_leave_144 rfl rfl ?_
  refine ld_M_kinds hC (ix_in _) 146 rfl d_M_leave_145 ?_
  refine j_iconst (v := 3) hC 147 rfl d_M_leave_146 (by decide) ?_
  refine j_icmp_ne hC 172 150 rfl d_M_leave_147 (by decide) (fun c_147 => ?_) (fun c_147 => absurd c_147 k3)
  refine j_aload_n hC 1 173 rfl d_M_leave_172 rfl rfl ?_
  refine j_dup hC 174 rfl d_M_leave_173 rfl ?_
  refine g_M_oldest hC 177 rfl d_M_leave_174 ?_
  refine j_iconst (v := 1) hC 178 rfl d_M_leave_177 (by decide) ?_
  refine j_iadd hC 179 rfl d_M_leave_178 ?_
  refine p_M_oldest hC 182 rfl d_M_leave_179 ?_
  refine j_aload_n hC 1 183 rfl d_M_leave_182 rfl rfl ?_
  refine g_M_oldest hC 186 rfl d_M_leave_183 ?_
  refine j_iconst (v := 1) hC 187 rfl d_M_leave_186 (by decide) ?_
  refine j_isub hC 188 rfl d_M_leave_187 ?_
  exact j_iret hC hr hlk d_M_leave_188 rfl rfl
set_option maxHeartbeats 4000000 in
set_option maxRecDepth 100000 in
theorem c_M_leave_buf  (h : ¬ μ 2 0 = μ 1 0) (hm : mlM (sS μ 0 0) ν = true) (k1 : μ 12 (ix (μ 2 0)) = 1) (hd : ¬ 3072 ≤ μ 15 (ix (μ 2 0))) (hb : vp_in (μ 7 0) 4) : kM l dC dI cI cZ cB cJ y_M_leave b_M_leave 3 (some .int) 2 46 [.ref (am 0)] (wM am cI cZ μ ν ρ) (some (.int (μ 2 0 + 1 - 1))) (wM am cI cZ (sS (ibS (sS μ 0 0) (μ 2 0)) 2 (μ 2 0 + 1)) ν ρ) := by
  refine jM.of (lv := [(0, .ref (am 0))]) (own := R_M) jE_loc (by decide) rfl rfl (Nat.le_of_ble_eq_true rfl) rfl ?_
  intro p e s m args below meth c A hC hr hlk
  refine j_aload_n hC 0 1 rfl d_M_leave_0 rfl rfl ?_
  refine j_iconst (v := 0) hC 2 rfl d_M_leave_1 (by decide) ?_
  refine p_M_thrown hC 5 rfl d_M_leave_2 ?_
  refine j_aload_n hC 0 6 rfl d_M_leave_5 rfl rfl ?_
  refine g_M_oldest hC 9 rfl d_M_leave_6 ?_
  refine j_aload_n hC 0 10 rfl d_M_leave_9 rfl rfl ?_
  refine g_M_total hC 13 rfl d_M_leave_10 ?_
  refine j_icmp_eq hC 23 16 rfl d_M_leave_13 (by decide) (fun c_13 => absurd c_13 h) (fun c_13 => ?_)
  refine j_aload_n hC 0 17 rfl d_M_leave_16 rfl rfl ?_
  refine j_callVi hC jE_loc jT_good (As := []) c_M_mayLeave yk_M_mayLeave lk_M_132 ⟨rfl, rfl⟩ ⟨Nat.le_of_ble_eq_true rfl, Nat.le_of_ble_eq_true rfl⟩ 0 rfl rfl rfl rfl (Nat.le_of_ble_eq_true rfl) ⟨Nat.zero_le _, Nat.zero_le _⟩ d_M_leave_17 20 rfl rfl ?_
  refine j_if_ne hC 25 23 rfl d_M_leave_20 (by decide) (fun c_20 => ?_) (fun c_20 => absurd c_20 (by rw [hm]; decide))
  refine j_aload_n hC 0 26 rfl d_M_leave_25 rfl rfl ?_
  refine g_M_oldest hC 29 rfl d_M_leave_26 ?_
  refine j_bipush (v := 127) hC 31 rfl d_M_leave_29 (by decide) ?_
  refine j_iand hC 32 rfl d_M_leave_31 ?_
  refine j_istore_n (lv' := [(1, _), (0, _)]) hC 33 rfl d_M_leave_32 rfl (by decide) rfl ?_
  refine j_aload_n hC 1 34 rfl d_M_leave_33 rfl rfl ?_
  refine g_M_kinds hC 37 rfl d_M_leave_34 ?_
  refine j_iload_n hC 0 38 rfl d_M_leave_37 rfl rfl ?_
  refine ld_M_kinds hC (ix_in _) 39 rfl d_M_leave_38 ?_
  refine j_iconst (v := 3) hC 40 rfl d_M_leave_39 (by decide) ?_
  refine j_icmp_ne hC 97 43 rfl d_M_leave_40 (by decide) (fun c_40 => ?_) (fun c_40 => absurd c_40 (fun q => absurd (k1.symm.trans q) (by decide)))
  refine j_aload_n hC 1 98 rfl d_M_leave_97 rfl rfl ?_
  refine g_M_kinds hC 101 rfl d_M_leave_98 ?_
  refine j_iload_n hC 0 102 rfl d_M_leave_101 rfl rfl ?_
  refine ld_M_kinds hC (ix_in _) 103 rfl d_M_leave_102 ?_
  refine j_iconst (v := 1) hC 104 rfl d_M_leave_103 (by decide) ?_
  refine j_icmp_ne hC 130 107 rfl d_M_leave_104 (by decide) (fun c_104 => absurd c_104 (fun q => q k1)) (fun c_104 => ?_)
  refine j_aload_n hC 1 108 rfl d_M_leave_107 rfl rfl ?_
  refine g_M_places hC 111 rfl d_M_leave_108 ?_
  refine j_iload_n hC 0 112 rfl d_M_leave_111 rfl rfl ?_
  refine ld_M_places hC (ix_in _) 113 rfl d_M_leave_112 ?_
  refine j_sipush (v := 3072) hC 116 rfl d_M_leave_113 (by decide) ?_
  refine j_icmp_ge hC 130 119 rfl d_M_leave_116 (by decide) (fun c_116 => absurd c_116 hd) (fun c_116 => ?_)
  refine j_aload_n hC 1 120 rfl d_M_leave_119 rfl rfl ?_
  refine j_aload_n hC 1 121 rfl d_M_leave_120 rfl rfl ?_
  refine g_M_oldest hC 124 rfl d_M_leave_121 ?_
  refine j_callVv hC jE_loc jT_good (As := [_]) (c_M_intoBuffer (μ := (sS μ 0 0)) hb) yk_M_intoBuffer lk_M_136 ⟨rfl, rfl⟩ ⟨Nat.le_of_ble_eq_true rfl, Nat.le_of_ble_eq_true rfl⟩ 0 rfl rfl rfl rfl (Nat.le_of_ble_eq_true rfl) ⟨Nat.zero_le _, Nat.zero_le _⟩ d_M_leave_124 127 rfl rfl ?_
  refine j_goto hC 172 d_M_leave_127 (by decide) ?_
  refine j_aload_n hC 1 173 rfl d_M_leave_172 rfl rfl ?_
  refine j_dup hC 174 rfl d_M_leave_173 rfl ?_
  refine g_M_oldest hC 177 rfl d_M_leave_174 ?_
  refine j_iconst (v := 1) hC 178 rfl d_M_leave_177 (by decide) ?_
  refine j_iadd hC 179 rfl d_M_leave_178 ?_
  refine p_M_oldest hC 182 rfl d_M_leave_179 ?_
  refine j_aload_n hC 1 183 rfl d_M_leave_182 rfl rfl ?_
  refine g_M_oldest hC 186 rfl d_M_leave_183 ?_
  refine j_iconst (v := 1) hC 187 rfl d_M_leave_186 (by decide) ?_
  refine j_isub hC 188 rfl d_M_leave_187 ?_
  exact j_iret hC hr hlk d_M_leave_188 rfl rfl
set_option maxHeartbeats 4000000 in
set_option maxRecDepth 100000 in
theorem c_M_leave_dev  (h : ¬ μ 2 0 = μ 1 0) (hm : mlM (sS μ 0 0) ν = true) (k1 : μ 12 (ix (μ 2 0)) = 1) (hd : 3072 ≤ μ 15 (ix (μ 2 0))) (ha : ∀ k : Int32, 0 ≤ k → ¬ μ 13 (ix (μ 2 0)) ≤ k → vp_in (μ 15 (ix (μ 2 0)) + k) 4096) : kM l dC dI cI cZ cB cJ y_M_leave b_M_leave 3 (some .int) 2 46 [.ref (am 0)] (wM am cI cZ μ ν ρ) (some (.int (μ 2 0 + 1 - 1))) (wM am cI cZ (sS (wrL (μ 15 (ix (μ 2 0))) (μ 13 (ix (μ 2 0))) (μ 16 (ix (μ 2 0))) 0 (sS μ 0 0)) 2 ((wrL (μ 15 (ix (μ 2 0))) (μ 13 (ix (μ 2 0))) (μ 16 (ix (μ 2 0))) 0 (sS μ 0 0)) 2 0 + 1)) ν ρ) := by
  refine jM.of (lv := [(0, .ref (am 0))]) (own := R_M) jE_loc (by decide) rfl rfl (Nat.le_of_ble_eq_true rfl) rfl ?_
  intro p e s m args below meth c A hC hr hlk
  refine j_aload_n hC 0 1 rfl d_M_leave_0 rfl rfl ?_
  refine j_iconst (v := 0) hC 2 rfl d_M_leave_1 (by decide) ?_
  refine p_M_thrown hC 5 rfl d_M_leave_2 ?_
  refine j_aload_n hC 0 6 rfl d_M_leave_5 rfl rfl ?_
  refine g_M_oldest hC 9 rfl d_M_leave_6 ?_
  refine j_aload_n hC 0 10 rfl d_M_leave_9 rfl rfl ?_
  refine g_M_total hC 13 rfl d_M_leave_10 ?_
  refine j_icmp_eq hC 23 16 rfl d_M_leave_13 (by decide) (fun c_13 => absurd c_13 h) (fun c_13 => ?_)
  refine j_aload_n hC 0 17 rfl d_M_leave_16 rfl rfl ?_
  refine j_callVi hC jE_loc jT_good (As := []) c_M_mayLeave yk_M_mayLeave lk_M_132 ⟨rfl, rfl⟩ ⟨Nat.le_of_ble_eq_true rfl, Nat.le_of_ble_eq_true rfl⟩ 0 rfl rfl rfl rfl (Nat.le_of_ble_eq_true rfl) ⟨Nat.zero_le _, Nat.zero_le _⟩ d_M_leave_17 20 rfl rfl ?_
  refine j_if_ne hC 25 23 rfl d_M_leave_20 (by decide) (fun c_20 => ?_) (fun c_20 => absurd c_20 (by rw [hm]; decide))
  refine j_aload_n hC 0 26 rfl d_M_leave_25 rfl rfl ?_
  refine g_M_oldest hC 29 rfl d_M_leave_26 ?_
  refine j_bipush (v := 127) hC 31 rfl d_M_leave_29 (by decide) ?_
  refine j_iand hC 32 rfl d_M_leave_31 ?_
  refine j_istore_n (lv' := [(1, _), (0, _)]) hC 33 rfl d_M_leave_32 rfl (by decide) rfl ?_
  refine j_aload_n hC 1 34 rfl d_M_leave_33 rfl rfl ?_
  refine g_M_kinds hC 37 rfl d_M_leave_34 ?_
  refine j_iload_n hC 0 38 rfl d_M_leave_37 rfl rfl ?_
  refine ld_M_kinds hC (ix_in _) 39 rfl d_M_leave_38 ?_
  refine j_iconst (v := 3) hC 40 rfl d_M_leave_39 (by decide) ?_
  refine j_icmp_ne hC 97 43 rfl d_M_leave_40 (by decide) (fun c_40 => ?_) (fun c_40 => absurd c_40 (fun q => absurd (k1.symm.trans q) (by decide)))
  refine j_aload_n hC 1 98 rfl d_M_leave_97 rfl rfl ?_
  refine g_M_kinds hC 101 rfl d_M_leave_98 ?_
  refine j_iload_n hC 0 102 rfl d_M_leave_101 rfl rfl ?_
  refine ld_M_kinds hC (ix_in _) 103 rfl d_M_leave_102 ?_
  refine j_iconst (v := 1) hC 104 rfl d_M_leave_103 (by decide) ?_
  refine j_icmp_ne hC 130 107 rfl d_M_leave_104 (by decide) (fun c_104 => absurd c_104 (fun q => q k1)) (fun c_104 => ?_)
  refine j_aload_n hC 1 108 rfl d_M_leave_107 rfl rfl ?_
  refine g_M_places hC 111 rfl d_M_leave_108 ?_
  refine j_iload_n hC 0 112 rfl d_M_leave_111 rfl rfl ?_
  refine ld_M_places hC (ix_in _) 113 rfl d_M_leave_112 ?_
  refine j_sipush (v := 3072) hC 116 rfl d_M_leave_113 (by decide) ?_
  refine j_icmp_ge hC 130 119 rfl d_M_leave_116 (by decide) (fun c_116 => ?_) (fun c_116 => absurd c_116 (fun q => q hd))
  refine j_aload_n hC 1 131 rfl d_M_leave_130 rfl rfl ?_
  refine g_M_kinds hC 134 rfl d_M_leave_131 ?_
  refine j_iload_n hC 0 135 rfl d_M_leave_134 rfl rfl ?_
  refine ld_M_kinds hC (ix_in _) 136 rfl d_M_leave_135 ?_
  refine j_iconst (v := 1) hC 137 rfl d_M_leave_136 (by decide) ?_
  refine j_icmp_eq hC 150 140 rfl d_M_leave_137 (by decide) (fun c_137 => ?_) (fun c_137 => absurd c_137 (fun q => q k1))
  refine j_aload_n hC 1 151 rfl d_M_leave_150 rfl rfl ?_
  refine j_aload_n hC 1 152 rfl d_M_leave_151 rfl rfl ?_
  refine g_M_places hC 155 rfl d_M_leave_152 ?_
  refine j_iload_n hC 0 156 rfl d_M_leave_155 rfl rfl ?_
  refine ld_M_places hC (ix_in _) 157 rfl d_M_leave_156 ?_
  refine j_aload_n hC 1 158 rfl d_M_leave_157 rfl rfl ?_
  refine g_M_sizes hC 161 rfl d_M_leave_158 ?_
  refine j_iload_n hC 0 162 rfl d_M_leave_161 rfl rfl ?_
  refine ld_M_sizes hC (ix_in _) 163 rfl d_M_leave_162 ?_
  refine j_aload_n hC 1 164 rfl d_M_leave_163 rfl rfl ?_
  refine g_M_values hC 167 rfl d_M_leave_164 ?_
  refine j_iload_n hC 0 168 rfl d_M_leave_167 rfl rfl ?_
  refine ld_M_values hC (ix_in _) 169 rfl d_M_leave_168 ?_
  refine j_callVv hC jE_loc jT_good (As := [_, _, _]) (c_M_write ha) yk_M_write lk_M_140 ⟨rfl, rfl⟩ ⟨Nat.le_of_ble_eq_true rfl, Nat.le_of_ble_eq_true rfl⟩ 0 rfl rfl rfl rfl (Nat.le_of_ble_eq_true rfl) ⟨Nat.zero_le _, Nat.zero_le _⟩ d_M_leave_169 172 rfl rfl ?_
  refine j_aload_n hC 1 173 rfl d_M_leave_172 rfl rfl ?_
  refine j_dup hC 174 rfl d_M_leave_173 rfl ?_
  refine g_M_oldest hC 177 rfl d_M_leave_174 ?_
  refine j_iconst (v := 1) hC 178 rfl d_M_leave_177 (by decide) ?_
  refine j_iadd hC 179 rfl d_M_leave_178 ?_
  refine p_M_oldest hC 182 rfl d_M_leave_179 ?_
  refine j_aload_n hC 1 183 rfl d_M_leave_182 rfl rfl ?_
  refine g_M_oldest hC 186 rfl d_M_leave_183 ?_
  refine j_iconst (v := 1) hC 187 rfl d_M_leave_186 (by decide) ?_
  refine j_isub hC 188 rfl d_M_leave_187 ?_
  exact j_iret hC hr hlk d_M_leave_188 (by show (wrL _ _ _ _ _) 2 0 + 1 - 1 = _; rw [wrL_j] <;> rfl) rfl
set_option maxHeartbeats 4000000 in
set_option maxRecDepth 100000 in
theorem c_M_leave_exc  (h : ¬ μ 2 0 = μ 1 0) (hm : mlM (sS μ 0 0) ν = true) (k3 : μ 12 (ix (μ 2 0)) = 3) (ha : ∀ k : Int32, 0 ≤ k → ¬ μ 13 (ix (μ 2 0)) ≤ k → vp_in (μ 15 (ix (μ 2 0)) + k) 4096) : kM l dC dI cI cZ cB cJ y_M_leave b_M_leave 3 (some .int) 2 46 [.ref (am 0)] (wM am cI cZ μ ν ρ) (some (.int (μ 2 0 + 1 - 1))) (wM am cI cZ (sS (wrL (μ 15 (ix (μ 2 0))) (μ 13 (ix (μ 2 0))) (μ 16 (ix (μ 2 0))) 0 (xmL (μ 15 (ix (μ 2 0))) (μ 13 (ix (μ 2 0))) (ix (μ 2 0)) 0 (sA (sS μ 0 0) 17 (ix (μ 2 0)) 0))) 2 ((wrL (μ 15 (ix (μ 2 0))) (μ 13 (ix (μ 2 0))) (μ 16 (ix (μ 2 0))) 0 (xmL (μ 15 (ix (μ 2 0))) (μ 13 (ix (μ 2 0))) (ix (μ 2 0)) 0 (sA (sS μ 0 0) 17 (ix (μ 2 0)) 0))) 2 0 + 1)) ν ρ) := by
  refine jM.of (lv := [(0, .ref (am 0))]) (own := R_M) jE_loc (by decide) rfl rfl (Nat.le_of_ble_eq_true rfl) rfl ?_
  intro p e s m args below meth c A hC hr hlk
  have loop : ∀ (n : Nat) (k : Int32) (τ : S2), 0 ≤ k → (∀ j, j ≠ 0 ∧ j ≠ 17 → τ j = μ j) → dist k (μ 13 (ix (μ 2 0))) < n → xmL (μ 15 (ix (μ 2 0))) (μ 13 (ix (μ 2 0))) (ix (μ 2 0)) k τ = (xmL (μ 15 (ix (μ 2 0))) (μ 13 (ix (μ 2 0))) (ix (μ 2 0)) 0 (sA (sS μ 0 0) 17 (ix (μ 2 0)) 0)) → kJ l dC dI p e s m args below meth c A 2 46 3 (some (.int (μ 2 0 + 1 - 1))) (wM am cI cZ (sS (wrL (μ 15 (ix (μ 2 0))) (μ 13 (ix (μ 2 0))) (μ 16 (ix (μ 2 0))) 0 (xmL (μ 15 (ix (μ 2 0))) (μ 13 (ix (μ 2 0))) (ix (μ 2 0)) 0 (sA (sS μ 0 0) 17 (ix (μ 2 0)) 0))) 2 ((wrL (μ 15 (ix (μ 2 0))) (μ 13 (ix (μ 2 0))) (μ 16 (ix (μ 2 0))) 0 (xmL (μ 15 (ix (μ 2 0))) (μ 13 (ix (μ 2 0))) (ix (μ 2 0)) 0 (sA (sS μ 0 0) 17 (ix (μ 2 0)) 0))) 2 0 + 1)) ν ρ) (wM am cI cZ τ ν ρ) 52 [(2, .int k), (1, .int (μ 2 0 &&& 127)), (0, .ref (am 0))] [] := by
    intro n
    induction n with
    | zero => intro k τ hk hs hd hR; exact absurd hd (Nat.not_lt_zero _)
    | succ n ih =>
      intro k τ hk hs hd hR
      refine j_iload_n hC 0 53 rfl d_M_leave_52 rfl rfl ?_
      refine j_aload_n hC 2 54 rfl d_M_leave_53 rfl rfl ?_
      refine g_M_sizes hC 57 rfl d_M_leave_54 ?_
      refine j_iload_n hC 1 58 rfl d_M_leave_57 rfl rfl ?_
      refine ld_M_sizes hC (ix_in _) 59 rfl d_M_leave_58 ?_
      refine j_eqi (show τ 13 (ix (μ 2 0)) = μ 13 (ix (μ 2 0)) by rw [hs _ (by decide)]) ?_
      refine j_icmp_ge hC 97 62 rfl d_M_leave_59 (by decide) (fun c_59 => ?_) (fun c_59 => ?_)
      · refine j_aload_n hC 2 98 rfl d_M_leave_97 rfl rfl ?_
        refine g_M_kinds hC 101 rfl d_M_leave_98 ?_
        refine j_iload_n hC 1 102 rfl d_M_leave_101 rfl rfl ?_
        refine ld_M_kinds hC (ix_in _) 103 rfl d_M_leave_102 ?_
        refine j_eqi (show τ 12 (ix (μ 2 0)) = μ 12 (ix (μ 2 0)) by rw [hs _ (by decide)]) ?_
        refine j_iconst (v := 1) hC 104 rfl d_M_leave_103 (by decide) ?_
        refine j_icmp_ne hC 130 107 rfl d_M_leave_104 (by decide) (fun c_104 => ?_) (fun c_104 => absurd c_104 (fun q => absurd (q.symm.trans k3) (by decide)))
        refine j_aload_n hC 2 131 rfl d_M_leave_130 rfl rfl ?_
        refine g_M_kinds hC 134 rfl d_M_leave_131 ?_
        refine j_iload_n hC 1 135 rfl d_M_leave_134 rfl rfl ?_
        refine ld_M_kinds hC (ix_in _) 136 rfl d_M_leave_135 ?_
        refine j_eqi (show τ 12 (ix (μ 2 0)) = μ 12 (ix (μ 2 0)) by rw [hs _ (by decide)]) ?_
        refine j_iconst (v := 1) hC 137 rfl d_M_leave_136 (by decide) ?_
        refine j_icmp_eq hC 150 140 rfl d_M_leave_137 (by decide) (fun c_137 => absurd c_137 (fun q => absurd (q.symm.trans k3) (by decide))) (fun c_137 => ?_)
        refine j_aload_n hC 2 141 rfl d_M_leave_140 rfl rfl ?_
        refine g_M_kinds hC 144 rfl d_M_leave_141 ?_
        refine j_iload_n hC 1 145 rfl d_M_leave_144 rfl rfl ?_
        refine ld_M_kinds hC (ix_in _) 146 rfl d_M_leave_145 ?_
        refine j_eqi (show τ 12 (ix (μ 2 0)) = μ 12 (ix (μ 2 0)) by rw [hs _ (by decide)]) ?_
        refine j_iconst (v := 3) hC 147 rfl d_M_leave_146 (by decide) ?_
        refine j_icmp_ne hC 172 150 rfl d_M_leave_147 (by decide) (fun c_147 => absurd c_147 (fun q => q k3)) (fun c_147 => ?_)
        refine j_aload_n hC 2 151 rfl d_M_leave_150 rfl rfl ?_
        refine j_aload_n hC 2 152 rfl d_M_leave_151 rfl rfl ?_
        refine g_M_places hC 155 rfl d_M_leave_152 ?_
        refine j_iload_n hC 1 156 rfl d_M_leave_155 rfl rfl ?_
        refine ld_M_places hC (ix_in _) 157 rfl d_M_leave_156 ?_
        refine j_eqi (show τ 15 (ix (μ 2 0)) = μ 15 (ix (μ 2 0)) by rw [hs _ (by decide)]) ?_
        refine j_aload_n hC 2 158 rfl d_M_leave_157 rfl rfl ?_
        refine g_M_sizes hC 161 rfl d_M_leave_158 ?_
        refine j_iload_n hC 1 162 rfl d_M_leave_161 rfl rfl ?_
        refine ld_M_sizes hC (ix_in _) 163 rfl d_M_leave_162 ?_
        refine j_eqi (show τ 13 (ix (μ 2 0)) = μ 13 (ix (μ 2 0)) by rw [hs _ (by decide)]) ?_
        refine j_aload_n hC 2 164 rfl d_M_leave_163 rfl rfl ?_
        refine g_M_values hC 167 rfl d_M_leave_164 ?_
        refine j_iload_n hC 1 168 rfl d_M_leave_167 rfl rfl ?_
        refine ld_M_values hC (ix_in _) 169 rfl d_M_leave_168 ?_
        refine j_eqi (show τ 16 (ix (μ 2 0)) = μ 16 (ix (μ 2 0)) by rw [hs _ (by decide)]) ?_
        refine j_callVv hC jE_loc jT_good (As := [_, _, _]) (c_M_write ha) yk_M_write lk_M_140 ⟨rfl, rfl⟩ ⟨Nat.le_of_ble_eq_true rfl, Nat.le_of_ble_eq_true rfl⟩ 0 rfl rfl rfl rfl (Nat.le_of_ble_eq_true rfl) ⟨Nat.zero_le _, Nat.zero_le _⟩ d_M_leave_169 172 rfl rfl ?_
        refine j_aload_n hC 2 173 rfl d_M_leave_172 rfl rfl ?_
        refine j_dup hC 174 rfl d_M_leave_173 rfl ?_
        refine g_M_oldest hC 177 rfl d_M_leave_174 ?_
        refine j_iconst (v := 1) hC 178 rfl d_M_leave_177 (by decide) ?_
        refine j_iadd hC 179 rfl d_M_leave_178 ?_
        refine p_M_oldest hC 182 rfl d_M_leave_179 ?_
        refine j_aload_n hC 2 183 rfl d_M_leave_182 rfl rfl ?_
        refine g_M_oldest hC 186 rfl d_M_leave_183 ?_
        refine j_iconst (v := 1) hC 187 rfl d_M_leave_186 (by decide) ?_
        refine j_isub hC 188 rfl d_M_leave_187 ?_
        exact j_iret hC hr hlk d_M_leave_188 (by show (wrL _ _ _ _ τ) 2 0 + 1 - 1 = _; rw [wrL_j (by decide), hs _ (by decide)]) (by rw [← hR, xmL_out c_59] <;> rfl)
      · refine j_aload_n hC 2 63 rfl d_M_leave_62 rfl rfl ?_
        refine g_M_results hC 66 rfl d_M_leave_63 ?_
        refine j_iload_n hC 1 67 rfl d_M_leave_66 rfl rfl ?_
        refine j_aload_n hC 2 68 rfl d_M_leave_67 rfl rfl ?_
        refine g_M_results hC 71 rfl d_M_leave_68 ?_
        refine j_iload_n hC 1 72 rfl d_M_leave_71 rfl rfl ?_
        refine ld_M_results hC (ix_in _) 73 rfl d_M_leave_72 ?_
        refine j_bipush (v := 8) hC 75 rfl d_M_leave_73 (by decide) ?_
        refine j_ishl hC 76 rfl d_M_leave_75 ?_
        refine j_aload_n hC 2 77 rfl d_M_leave_76 rfl rfl ?_
        refine g_M_bytes hC 80 rfl d_M_leave_77 ?_
        refine j_aload_n hC 2 81 rfl d_M_leave_80 rfl rfl ?_
        refine g_M_places hC 84 rfl d_M_leave_81 ?_
        refine j_iload_n hC 1 85 rfl d_M_leave_84 rfl rfl ?_
        refine ld_M_places hC (ix_in _) 86 rfl d_M_leave_85 ?_
        refine j_eqi (show τ 15 (ix (μ 2 0)) = μ 15 (ix (μ 2 0)) by rw [hs _ (by decide)]) ?_
        refine j_iload_n hC 0 87 rfl d_M_leave_86 rfl rfl ?_
        refine j_iadd hC 88 rfl d_M_leave_87 ?_
        refine ld_M_bytes hC (ha _ hk c_59) 89 rfl d_M_leave_88 ?_
        refine j_ior hC 90 rfl d_M_leave_89 ?_
        refine st_M_results hC (ix_in _) 91 rfl d_M_leave_90 ?_
        refine j_iinc (lv' := [(2, _), (1, _), (0, _)]) hC 0 94 rfl d_M_leave_91 rfl (inc1 _) (by decide) rfl ?_
        refine j_goto hC 52 d_M_leave_94 (by decide) ?_
        exact ih _ _ (nn1 hk c_59) (fun j h => by rw [sA, va_up_ne _ _ h.2]; exact hs j h) (dist_lt c_59 hd) (by rw [← hR, xmL_in c_59] <;> rfl)
  refine j_aload_n hC 0 1 rfl d_M_leave_0 rfl rfl ?_
  refine j_iconst (v := 0) hC 2 rfl d_M_leave_1 (by decide) ?_
  refine p_M_thrown hC 5 rfl d_M_leave_2 ?_
  refine j_aload_n hC 0 6 rfl d_M_leave_5 rfl rfl ?_
  refine g_M_oldest hC 9 rfl d_M_leave_6 ?_
  refine j_aload_n hC 0 10 rfl d_M_leave_9 rfl rfl ?_
  refine g_M_total hC 13 rfl d_M_leave_10 ?_
  refine j_icmp_eq hC 23 16 rfl d_M_leave_13 (by decide) (fun c_13 => absurd c_13 h) (fun c_13 => ?_)
  refine j_aload_n hC 0 17 rfl d_M_leave_16 rfl rfl ?_
  refine j_callVi hC jE_loc jT_good (As := []) c_M_mayLeave yk_M_mayLeave lk_M_132 ⟨rfl, rfl⟩ ⟨Nat.le_of_ble_eq_true rfl, Nat.le_of_ble_eq_true rfl⟩ 0 rfl rfl rfl rfl (Nat.le_of_ble_eq_true rfl) ⟨Nat.zero_le _, Nat.zero_le _⟩ d_M_leave_17 20 rfl rfl ?_
  refine j_if_ne hC 25 23 rfl d_M_leave_20 (by decide) (fun c_20 => ?_) (fun c_20 => absurd c_20 (by rw [hm]; decide))
  refine j_aload_n hC 0 26 rfl d_M_leave_25 rfl rfl ?_
  refine g_M_oldest hC 29 rfl d_M_leave_26 ?_
  refine j_bipush (v := 127) hC 31 rfl d_M_leave_29 (by decide) ?_
  refine j_iand hC 32 rfl d_M_leave_31 ?_
  refine j_istore_n (lv' := [(1, _), (0, _)]) hC 33 rfl d_M_leave_32 rfl (by decide) rfl ?_
  refine j_aload_n hC 1 34 rfl d_M_leave_33 rfl rfl ?_
  refine g_M_kinds hC 37 rfl d_M_leave_34 ?_
  refine j_iload_n hC 0 38 rfl d_M_leave_37 rfl rfl ?_
  refine ld_M_kinds hC (ix_in _) 39 rfl d_M_leave_38 ?_
  refine j_iconst (v := 3) hC 40 rfl d_M_leave_39 (by decide) ?_
  refine j_icmp_ne hC 97 43 rfl d_M_leave_40 (by decide) (fun c_40 => absurd c_40 (fun q => q k3)) (fun c_40 => ?_)
  refine j_aload_n hC 1 44 rfl d_M_leave_43 rfl rfl ?_
  refine g_M_results hC 47 rfl d_M_leave_44 ?_
  refine j_iload_n hC 0 48 rfl d_M_leave_47 rfl rfl ?_
  refine j_iconst (v := 0) hC 49 rfl d_M_leave_48 (by decide) ?_
  refine st_M_results hC (ix_in _) 50 rfl d_M_leave_49 ?_
  refine j_iconst (v := 0) hC 51 rfl d_M_leave_50 (by decide) ?_
  refine j_istore_n (lv' := [(2, _), (1, _), (0, _)]) hC 52 rfl d_M_leave_51 rfl (by decide) rfl ?_
  exact loop _ 0 _ (by decide) (fun j h => by simp [sA, sS, va_up, h]) (Nat.lt_succ_self _) rfl
end KC
