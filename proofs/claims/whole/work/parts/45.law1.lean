section LW1
variable {p : Program} {l : Launch} {e : Env} {s : State} {m : MethodId} {below : List Frame} {meth : Method} {c : Code} {cells slots : Nat}
variable {dC : Nat → ClassId} {dI : Nat → Nat → Nat} {cI cZ cB cJ : ClassId} {A : Nat → Prop} {ad am : Nat → Nat} {ao : Nat} {f : Nat → Int64} {σ μ : S2} {β ν : B2} {mk : Int64} {t b L : Nat} {xs : Nat → Int32} {i : Int32}
set_option maxHeartbeats 4000000 in
set_option maxRecDepth 100000 in
theorem lw_op (hC : lC p s m c dC dI cI cZ cB cJ A b) (hX : va_X b L xs s s.heap) (hbl : b < s.heap.size) (hbA : ¬ A b) (hst : l.stackTraces = false) (h : Inv t σ β mk μ ν) (ht : t < 1000) (hv1 : vp_in (i + 1) L) (hv2 : vp_in (i + 2) L) (hv3 : vp_in (i + 3) L) (hcc : cells + 1 ≤ 1074 ∧ slots + 6 ≤ 19814)
    (kk : ∀ (σ' : S2) (β' : B2) (mk' : Int64) (μ' : S2) (ν' : B2) (f' : Nat → Int64), Inv (t + 1) σ' β' mk' μ' ν' → lJ p l e s m below meth c dC dI A b (cells + 1) (slots + 6) (w1 ad am ao cI cZ cB cJ σ' β' mk' f' μ' ν') 756 [(0, .ref b), (1, .ref (ad 0)), (2, .ref (am 0)), (3, .ref ao), (4, .int i)] []) : lJ p l e s m below meth c dC dI A b cells slots (w1 ad am ao cI cZ cB cJ σ β mk f μ ν) 104 [(0, .ref b), (1, .ref (ad 0)), (2, .ref (am 0)), (3, .ref ao), (4, .int i)] [] := by
  have hD := hC.weak jE2_1
  obtain ⟨k0, b0, σ', β', mk', μ', ν', f', e1, e2, e3, e4, e5⟩ := st_op (dC := dC) (dI := dI) (cI := cI) (cZ := cZ) (cB := cB) (cJ := cJ) (ad := ad) (am := am) (ao := ao) (f := f) (ρ := wM am cI cZ μ ν []) hst h ht (xs (i + 1).toNatClampNeg) (xs (i + 2).toNatClampNeg) (xs (i + 3).toNatClampNeg)
  refine j_aload_n hC 1 105 rfl d_law_104 rfl rfl ?_
  refine j_aload_n hC 0 106 rfl d_law_105 rfl rfl ?_
  refine j_iload hC 4 108 rfl d_law_106 rfl ?_
  refine j_iconst (v := 1) hC 109 rfl d_law_108 (by decide) ?_
  refine j_iadd hC 110 rfl d_law_109 ?_
  refine j_sld hC hX hbl hbA hv1 111 rfl d_law_110 ?_
  refine j_aload_n hC 0 112 rfl d_law_111 rfl rfl ?_
  refine j_iload hC 4 114 rfl d_law_112 rfl ?_
  refine j_iconst (v := 2) hC 115 rfl d_law_114 (by decide) ?_
  refine j_iadd hC 116 rfl d_law_115 ?_
  refine j_sld hC hX hbl hbA hv2 117 rfl d_law_116 ?_
  refine j_aload_n hC 0 118 rfl d_law_117 rfl rfl ?_
  refine j_iload hC 4 120 rfl d_law_118 rfl ?_
  refine j_iconst (v := 3) hC 121 rfl d_law_120 (by decide) ?_
  refine j_iadd hC 122 rfl d_law_121 ?_
  refine j_sld hC hX hbl hbA hv3 123 rfl d_law_122 ?_
  refine j_aload_n hC 3 124 rfl d_law_123 rfl rfl ?_
  refine j_callH hC jE2_loc jT_good (As := [_, _, _, _, _]) e1 yw_op lk_L_51 ⟨rfl, rfl⟩ ⟨Nat.le_of_ble_eq_true rfl, Nat.le_of_ble_eq_true rfl⟩ rfl (Nat.le_of_ble_eq_true rfl) (by exact hcc) d_law_124 127 rfl rfl ?_
  refine l_12 (σ := σ') (β := β') (mk := mk') (f := f') (μ := μ) (ν := ν) ?_
  refine j_istore (lv' := [(5, _), (0, _), (1, _), (2, _), (3, _), (4, _)]) hC 129 rfl d_law_127 (by decide) rfl ?_
  refine j_aload_n hC 3 130 rfl d_law_129 rfl rfl ?_
  refine j_aload_n hC 1 131 rfl d_law_130 rfl rfl ?_
  refine j_iload hC 5 133 rfl d_law_131 rfl ?_
  refine j_iconst (v := 1) hC 134 rfl d_law_133 (by decide) ?_
  refine j_iadd hC 135 rfl d_law_134 ?_
  refine j_sld hC hX hbl hbA hv1 136 rfl d_law_135 ?_
  refine j_aload_n hC 1 137 rfl d_law_136 rfl rfl ?_
  refine j_iload hC 5 139 rfl d_law_137 rfl ?_
  refine j_iconst (v := 2) hC 140 rfl d_law_139 (by decide) ?_
  refine j_iadd hC 141 rfl d_law_140 ?_
  refine j_sld hC hX hbl hbA hv2 142 rfl d_law_141 ?_
  refine j_aload_n hC 1 143 rfl d_law_142 rfl rfl ?_
  refine j_iload hC 5 145 rfl d_law_143 rfl ?_
  refine j_iconst (v := 3) hC 146 rfl d_law_145 (by decide) ?_
  refine j_iadd hC 147 rfl d_law_146 ?_
  refine j_sld hC hX hbl hbA hv3 148 rfl d_law_147 ?_
  refine j_callVi hD jE_loc jT_good (As := [_, _, _]) (e2 (wC ad cI cZ cB σ' β' mk' (wo ao cJ f' []))) yk_M_op lk_L_56 ⟨rfl, rfl⟩ ⟨Nat.le_of_ble_eq_true rfl, Nat.le_of_ble_eq_true rfl⟩ 0 rfl rfl rfl rfl (Nat.le_of_ble_eq_true rfl) (by exact hcc) d_law_148 151 rfl rfl ?_
  refine j_istore (lv' := [(6, _), (5, _), (0, _), (1, _), (2, _), (3, _), (4, _)]) hC 153 rfl d_law_151 (by decide) rfl ?_
  refine j_aload_n hC 4 154 rfl d_law_153 rfl rfl ?_
  refine j_callVi hD jE_loc jT_good (As := []) (c_M_thrown (ρ := wC ad cI cZ cB σ' β' mk' (wo ao cJ f' []))) yk_M_thrown lk_L_57 ⟨rfl, rfl⟩ ⟨Nat.le_of_ble_eq_true rfl, Nat.le_of_ble_eq_true rfl⟩ 0 rfl rfl rfl rfl (Nat.le_of_ble_eq_true rfl) (by exact hcc) d_law_154 157 rfl rfl ?_
  refine j_iload hC 1 159 rfl d_law_157 rfl ?_
  refine j_icmp_eq hC 164 162 rfl d_law_159 (by decide) (fun _ => ?_) (fun q => absurd e3 q)
  refine j_iload hC 1 166 rfl d_law_164 rfl ?_
  refine j_if_ne hC 181 169 rfl d_law_166 (by decide) (fun _ => j_goto hC 756 d_law_181 (by decide) (j_sub (lv' := [(0, .ref b), (1, .ref (ad 0)), (2, .ref (am 0)), (3, .ref ao), (4, .int i)]) [2, 3, 4, 5, 6] rfl (l_21 (kk σ' β' mk' μ' ν' f' e5)))) (fun q => ?_)
  have q0 : k0 = 0 := by first | exact q | exact Decidable.not_not.mp q
  refine j_aload_n hC 5 170 rfl d_law_169 rfl rfl ?_
  refine j_iconst (v := 0) hC 171 rfl d_law_170 (by decide) ?_
  refine j_lald hC 35 3 rfl rfl in0_1 172 rfl d_law_171 ?_
  refine j_iload hC 0 174 rfl d_law_172 rfl ?_
  refine j_i2l hC 175 rfl d_law_174 rfl ?_
  refine j_lcmp hC 176 rfl d_law_175 ?_
  exact j_if_eq hC 181 179 rfl d_law_176 (by decide) (fun _ => j_goto hC 756 d_law_181 (by decide) (j_sub (lv' := [(0, .ref b), (1, .ref (ad 0)), (2, .ref (am 0)), (3, .ref ao), (4, .int i)]) [2, 3, 4, 5, 6] rfl (l_21 (kk σ' β' mk' μ' ν' f' e5)))) (fun q => absurd (by rw [show f' (0 : Int32).toNatClampNeg = b0.toInt64 from e4 q0]; exact lg_same _) q)
set_option maxHeartbeats 4000000 in
set_option maxRecDepth 100000 in
theorem lw_address (hC : lC p s m c dC dI cI cZ cB cJ A b) (hX : va_X b L xs s s.heap) (hbl : b < s.heap.size) (hbA : ¬ A b) (hst : l.stackTraces = false) (h : Inv t σ β mk μ ν) (ht : t < 1000) (hv1 : vp_in (i + 1) L) (hv2 : vp_in (i + 2) L) (hcc : cells + 1 ≤ 1074 ∧ slots + 6 ≤ 19814)
    (kk : ∀ (σ' : S2) (β' : B2) (mk' : Int64) (μ' : S2) (ν' : B2) (f' : Nat → Int64), Inv (t + 1) σ' β' mk' μ' ν' → lJ p l e s m below meth c dC dI A b (cells + 1) (slots + 6) (w1 ad am ao cI cZ cB cJ σ' β' mk' f' μ' ν') 756 [(0, .ref b), (1, .ref (ad 0)), (2, .ref (am 0)), (3, .ref ao), (4, .int i)] []) : lJ p l e s m below meth c dC dI A b cells slots (w1 ad am ao cI cZ cB cJ σ β mk f μ ν) 184 [(0, .ref b), (1, .ref (ad 0)), (2, .ref (am 0)), (3, .ref ao), (4, .int i)] [] := by
  have hD := hC.weak jE2_1
  obtain ⟨k0, b0, σ', β', mk', μ', ν', f', e1, e2, e3, e4, e5⟩ := st_address (dC := dC) (dI := dI) (cI := cI) (cZ := cZ) (cB := cB) (cJ := cJ) (ad := ad) (am := am) (ao := ao) (f := f) (ρ := wM am cI cZ μ ν []) hst h ht (xs (i + 1).toNatClampNeg) (xs (i + 2).toNatClampNeg)
  refine j_aload_n hC 1 185 rfl d_law_184 rfl rfl ?_
  refine j_aload_n hC 0 186 rfl d_law_185 rfl rfl ?_
  refine j_iload hC 4 188 rfl d_law_186 rfl ?_
  refine j_iconst (v := 1) hC 189 rfl d_law_188 (by decide) ?_
  refine j_iadd hC 190 rfl d_law_189 ?_
  refine j_sld hC hX hbl hbA hv1 191 rfl d_law_190 ?_
  refine j_aload_n hC 0 192 rfl d_law_191 rfl rfl ?_
  refine j_iload hC 4 194 rfl d_law_192 rfl ?_
  refine j_iconst (v := 2) hC 195 rfl d_law_194 (by decide) ?_
  refine j_iadd hC 196 rfl d_law_195 ?_
  refine j_sld hC hX hbl hbA hv2 197 rfl d_law_196 ?_
  refine j_aload_n hC 3 198 rfl d_law_197 rfl rfl ?_
  refine j_callH hC jE2_loc jT_good (As := [_, _, _, _]) e1 yw_address lk_L_61 ⟨rfl, rfl⟩ ⟨Nat.le_of_ble_eq_true rfl, Nat.le_of_ble_eq_true rfl⟩ rfl (Nat.le_of_ble_eq_true rfl) (by exact hcc) d_law_198 201 rfl rfl ?_
  refine l_12 (σ := σ') (β := β') (mk := mk') (f := f') (μ := μ) (ν := ν) ?_
  refine j_istore (lv' := [(5, _), (0, _), (1, _), (2, _), (3, _), (4, _)]) hC 203 rfl d_law_201 (by decide) rfl ?_
  refine j_aload_n hC 3 204 rfl d_law_203 rfl rfl ?_
  refine j_aload_n hC 1 205 rfl d_law_204 rfl rfl ?_
  refine j_iload hC 5 207 rfl d_law_205 rfl ?_
  refine j_iconst (v := 1) hC 208 rfl d_law_207 (by decide) ?_
  refine j_iadd hC 209 rfl d_law_208 ?_
  refine j_sld hC hX hbl hbA hv1 210 rfl d_law_209 ?_
  refine j_aload_n hC 1 211 rfl d_law_210 rfl rfl ?_
  refine j_iload hC 5 213 rfl d_law_211 rfl ?_
  refine j_iconst (v := 2) hC 214 rfl d_law_213 (by decide) ?_
  refine j_iadd hC 215 rfl d_law_214 ?_
  refine j_sld hC hX hbl hbA hv2 216 rfl d_law_215 ?_
  refine j_callVi hD jE_loc jT_good (As := [_, _]) (e2 (wC ad cI cZ cB σ' β' mk' (wo ao cJ f' []))) yk_M_address lk_L_64 ⟨rfl, rfl⟩ ⟨Nat.le_of_ble_eq_true rfl, Nat.le_of_ble_eq_true rfl⟩ 0 rfl rfl rfl rfl (Nat.le_of_ble_eq_true rfl) (by exact hcc) d_law_216 219 rfl rfl ?_
  refine j_istore (lv' := [(6, _), (5, _), (0, _), (1, _), (2, _), (3, _), (4, _)]) hC 221 rfl d_law_219 (by decide) rfl ?_
  refine j_aload_n hC 4 222 rfl d_law_221 rfl rfl ?_
  refine j_callVi hD jE_loc jT_good (As := []) (c_M_thrown (ρ := wC ad cI cZ cB σ' β' mk' (wo ao cJ f' []))) yk_M_thrown lk_L_57 ⟨rfl, rfl⟩ ⟨Nat.le_of_ble_eq_true rfl, Nat.le_of_ble_eq_true rfl⟩ 0 rfl rfl rfl rfl (Nat.le_of_ble_eq_true rfl) (by exact hcc) d_law_222 225 rfl rfl ?_
  refine j_iload hC 1 227 rfl d_law_225 rfl ?_
  refine j_icmp_eq hC 232 230 rfl d_law_227 (by decide) (fun _ => ?_) (fun q => absurd e3 q)
  refine j_iload hC 1 234 rfl d_law_232 rfl ?_
  refine j_if_ne hC 249 237 rfl d_law_234 (by decide) (fun _ => j_goto hC 756 d_law_249 (by decide) (j_sub (lv' := [(0, .ref b), (1, .ref (ad 0)), (2, .ref (am 0)), (3, .ref ao), (4, .int i)]) [2, 3, 4, 5, 6] rfl (l_21 (kk σ' β' mk' μ' ν' f' e5)))) (fun q => ?_)
  have q0 : k0 = 0 := by first | exact q | exact Decidable.not_not.mp q
  refine j_aload_n hC 5 238 rfl d_law_237 rfl rfl ?_
  refine j_iconst (v := 0) hC 239 rfl d_law_238 (by decide) ?_
  refine j_lald hC 35 3 rfl rfl in0_1 240 rfl d_law_239 ?_
  refine j_iload hC 0 242 rfl d_law_240 rfl ?_
  refine j_i2l hC 243 rfl d_law_242 rfl ?_
  refine j_lcmp hC 244 rfl d_law_243 ?_
  exact j_if_eq hC 249 247 rfl d_law_244 (by decide) (fun _ => j_goto hC 756 d_law_249 (by decide) (j_sub (lv' := [(0, .ref b), (1, .ref (ad 0)), (2, .ref (am 0)), (3, .ref ao), (4, .int i)]) [2, 3, 4, 5, 6] rfl (l_21 (kk σ' β' mk' μ' ν' f' e5)))) (fun q => absurd (by rw [show f' (0 : Int32).toNatClampNeg = b0.toInt64 from e4 q0]; exact lg_same _) q)
set_option maxHeartbeats 4000000 in
set_option maxRecDepth 100000 in
theorem lw_number (hC : lC p s m c dC dI cI cZ cB cJ A b) (hX : va_X b L xs s s.heap) (hbl : b < s.heap.size) (hbA : ¬ A b) (hst : l.stackTraces = false) (h : Inv t σ β mk μ ν) (ht : t < 1000) (hv1 : vp_in (i + 1) L) (hv2 : vp_in (i + 2) L) (hcc : cells + 1 ≤ 1074 ∧ slots + 6 ≤ 19814)
    (kk : ∀ (σ' : S2) (β' : B2) (mk' : Int64) (μ' : S2) (ν' : B2) (f' : Nat → Int64), Inv (t + 1) σ' β' mk' μ' ν' → lJ p l e s m below meth c dC dI A b (cells + 1) (slots + 6) (w1 ad am ao cI cZ cB cJ σ' β' mk' f' μ' ν') 756 [(0, .ref b), (1, .ref (ad 0)), (2, .ref (am 0)), (3, .ref ao), (4, .int i)] []) : lJ p l e s m below meth c dC dI A b cells slots (w1 ad am ao cI cZ cB cJ σ β mk f μ ν) 252 [(0, .ref b), (1, .ref (ad 0)), (2, .ref (am 0)), (3, .ref ao), (4, .int i)] [] := by
  have hD := hC.weak jE2_1
  obtain ⟨k0, b0, σ', β', mk', μ', ν', f', e1, e2, e3, e4, e5⟩ := st_number (dC := dC) (dI := dI) (cI := cI) (cZ := cZ) (cB := cB) (cJ := cJ) (ad := ad) (am := am) (ao := ao) (f := f) (ρ := wM am cI cZ μ ν []) hst h ht (xs (i + 1).toNatClampNeg) (xs (i + 2).toNatClampNeg)
  refine j_aload_n hC 1 253 rfl d_law_252 rfl rfl ?_
  refine j_aload_n hC 0 254 rfl d_law_253 rfl rfl ?_
  refine j_iload hC 4 256 rfl d_law_254 rfl ?_
  refine j_iconst (v := 1) hC 257 rfl d_law_256 (by decide) ?_
  refine j_iadd hC 258 rfl d_law_257 ?_
  refine j_sld hC hX hbl hbA hv1 259 rfl d_law_258 ?_
  refine j_aload_n hC 0 260 rfl d_law_259 rfl rfl ?_
  refine j_iload hC 4 262 rfl d_law_260 rfl ?_
  refine j_iconst (v := 2) hC 263 rfl d_law_262 (by decide) ?_
  refine j_iadd hC 264 rfl d_law_263 ?_
  refine j_sld hC hX hbl hbA hv2 265 rfl d_law_264 ?_
  refine j_aload_n hC 3 266 rfl d_law_265 rfl rfl ?_
  refine j_callH hC jE2_loc jT_good (As := [_, _, _, _]) e1 yw_number lk_L_65 ⟨rfl, rfl⟩ ⟨Nat.le_of_ble_eq_true rfl, Nat.le_of_ble_eq_true rfl⟩ rfl (Nat.le_of_ble_eq_true rfl) (by exact hcc) d_law_266 269 rfl rfl ?_
  refine l_12 (σ := σ') (β := β') (mk := mk') (f := f') (μ := μ) (ν := ν) ?_
  refine j_istore (lv' := [(5, _), (0, _), (1, _), (2, _), (3, _), (4, _)]) hC 271 rfl d_law_269 (by decide) rfl ?_
  refine j_aload_n hC 3 272 rfl d_law_271 rfl rfl ?_
  refine j_aload_n hC 1 273 rfl d_law_272 rfl rfl ?_
  refine j_iload hC 5 275 rfl d_law_273 rfl ?_
  refine j_iconst (v := 1) hC 276 rfl d_law_275 (by decide) ?_
  refine j_iadd hC 277 rfl d_law_276 ?_
  refine j_sld hC hX hbl hbA hv1 278 rfl d_law_277 ?_
  refine j_aload_n hC 1 279 rfl d_law_278 rfl rfl ?_
  refine j_iload hC 5 281 rfl d_law_279 rfl ?_
  refine j_iconst (v := 2) hC 282 rfl d_law_281 (by decide) ?_
  refine j_iadd hC 283 rfl d_law_282 ?_
  refine j_sld hC hX hbl hbA hv2 284 rfl d_law_283 ?_
  refine j_callVi hD jE_loc jT_good (As := [_, _]) (e2 (wC ad cI cZ cB σ' β' mk' (wo ao cJ f' []))) yk_M_number lk_L_67 ⟨rfl, rfl⟩ ⟨Nat.le_of_ble_eq_true rfl, Nat.le_of_ble_eq_true rfl⟩ 0 rfl rfl rfl rfl (Nat.le_of_ble_eq_true rfl) (by exact hcc) d_law_284 287 rfl rfl ?_
  refine j_istore (lv' := [(6, _), (5, _), (0, _), (1, _), (2, _), (3, _), (4, _)]) hC 289 rfl d_law_287 (by decide) rfl ?_
  refine j_aload_n hC 4 290 rfl d_law_289 rfl rfl ?_
  refine j_callVi hD jE_loc jT_good (As := []) (c_M_thrown (ρ := wC ad cI cZ cB σ' β' mk' (wo ao cJ f' []))) yk_M_thrown lk_L_57 ⟨rfl, rfl⟩ ⟨Nat.le_of_ble_eq_true rfl, Nat.le_of_ble_eq_true rfl⟩ 0 rfl rfl rfl rfl (Nat.le_of_ble_eq_true rfl) (by exact hcc) d_law_290 293 rfl rfl ?_
  refine j_iload hC 1 295 rfl d_law_293 rfl ?_
  refine j_icmp_eq hC 300 298 rfl d_law_295 (by decide) (fun _ => ?_) (fun q => absurd e3 q)
  refine j_iload hC 1 302 rfl d_law_300 rfl ?_
  refine j_if_ne hC 317 305 rfl d_law_302 (by decide) (fun _ => j_goto hC 756 d_law_317 (by decide) (j_sub (lv' := [(0, .ref b), (1, .ref (ad 0)), (2, .ref (am 0)), (3, .ref ao), (4, .int i)]) [2, 3, 4, 5, 6] rfl (l_21 (kk σ' β' mk' μ' ν' f' e5)))) (fun q => ?_)
  have q0 : k0 = 0 := by first | exact q | exact Decidable.not_not.mp q
  refine j_aload_n hC 5 306 rfl d_law_305 rfl rfl ?_
  refine j_iconst (v := 0) hC 307 rfl d_law_306 (by decide) ?_
  refine j_lald hC 35 3 rfl rfl in0_1 308 rfl d_law_307 ?_
  refine j_iload hC 0 310 rfl d_law_308 rfl ?_
  refine j_i2l hC 311 rfl d_law_310 rfl ?_
  refine j_lcmp hC 312 rfl d_law_311 ?_
  exact j_if_eq hC 317 315 rfl d_law_312 (by decide) (fun _ => j_goto hC 756 d_law_317 (by decide) (j_sub (lv' := [(0, .ref b), (1, .ref (ad 0)), (2, .ref (am 0)), (3, .ref ao), (4, .int i)]) [2, 3, 4, 5, 6] rfl (l_21 (kk σ' β' mk' μ' ν' f' e5)))) (fun q => absurd (by rw [show f' (0 : Int32).toNatClampNeg = b0.toInt64 from e4 q0]; exact lg_same _) q)
set_option maxHeartbeats 4000000 in
set_option maxRecDepth 100000 in
theorem lw_tried (hC : lC p s m c dC dI cI cZ cB cJ A b) (hX : va_X b L xs s s.heap) (hbl : b < s.heap.size) (hbA : ¬ A b) (hst : l.stackTraces = false) (h : Inv t σ β mk μ ν) (ht : t < 1000) (hv1 : vp_in (i + 1) L) (hcc : cells + 1 ≤ 1074 ∧ slots + 6 ≤ 19814)
    (kk : ∀ (σ' : S2) (β' : B2) (mk' : Int64) (μ' : S2) (ν' : B2) (f' : Nat → Int64), Inv (t + 1) σ' β' mk' μ' ν' → lJ p l e s m below meth c dC dI A b (cells + 1) (slots + 6) (w1 ad am ao cI cZ cB cJ σ' β' mk' f' μ' ν') 756 [(0, .ref b), (1, .ref (ad 0)), (2, .ref (am 0)), (3, .ref ao), (4, .int i)] []) : lJ p l e s m below meth c dC dI A b cells slots (w1 ad am ao cI cZ cB cJ σ β mk f μ ν) 320 [(0, .ref b), (1, .ref (ad 0)), (2, .ref (am 0)), (3, .ref ao), (4, .int i)] [] := by
  have hD := hC.weak jE2_1
  obtain ⟨k0, b0, σ', β', mk', μ', ν', f', e1, e2, e3, e4, e5⟩ := st_tried (dC := dC) (dI := dI) (cI := cI) (cZ := cZ) (cB := cB) (cJ := cJ) (ad := ad) (am := am) (ao := ao) (f := f) (ρ := wM am cI cZ μ ν []) hst h ht (xs (i + 1).toNatClampNeg)
  refine j_aload_n hC 1 321 rfl d_law_320 rfl rfl ?_
  refine j_aload_n hC 0 322 rfl d_law_321 rfl rfl ?_
  refine j_iload hC 4 324 rfl d_law_322 rfl ?_
  refine j_iconst (v := 1) hC 325 rfl d_law_324 (by decide) ?_
  refine j_iadd hC 326 rfl d_law_325 ?_
  refine j_sld hC hX hbl hbA hv1 327 rfl d_law_326 ?_
  refine j_aload_n hC 3 328 rfl d_law_327 rfl rfl ?_
  refine j_callH hC jE2_loc jT_good (As := [_, _, _]) e1 yw_tried lk_L_68 ⟨rfl, rfl⟩ ⟨Nat.le_of_ble_eq_true rfl, Nat.le_of_ble_eq_true rfl⟩ rfl (Nat.le_of_ble_eq_true rfl) (by exact hcc) d_law_328 331 rfl rfl ?_
  refine l_12 (σ := σ') (β := β') (mk := mk') (f := f') (μ := μ) (ν := ν) ?_
  refine j_istore (lv' := [(5, _), (0, _), (1, _), (2, _), (3, _), (4, _)]) hC 333 rfl d_law_331 (by decide) rfl ?_
  refine j_aload_n hC 3 334 rfl d_law_333 rfl rfl ?_
  refine j_aload_n hC 1 335 rfl d_law_334 rfl rfl ?_
  refine j_iload hC 5 337 rfl d_law_335 rfl ?_
  refine j_iconst (v := 1) hC 338 rfl d_law_337 (by decide) ?_
  refine j_iadd hC 339 rfl d_law_338 ?_
  refine j_sld hC hX hbl hbA hv1 340 rfl d_law_339 ?_
  refine j_callVi hD jE_loc jT_good (As := [_]) (e2 (wC ad cI cZ cB σ' β' mk' (wo ao cJ f' []))) yk_M_tried lk_L_71 ⟨rfl, rfl⟩ ⟨Nat.le_of_ble_eq_true rfl, Nat.le_of_ble_eq_true rfl⟩ 0 rfl rfl rfl rfl (Nat.le_of_ble_eq_true rfl) (by exact hcc) d_law_340 343 rfl rfl ?_
  refine j_istore (lv' := [(6, _), (5, _), (0, _), (1, _), (2, _), (3, _), (4, _)]) hC 345 rfl d_law_343 (by decide) rfl ?_
  refine j_aload_n hC 4 346 rfl d_law_345 rfl rfl ?_
  refine j_callVi hD jE_loc jT_good (As := []) (c_M_thrown (ρ := wC ad cI cZ cB σ' β' mk' (wo ao cJ f' []))) yk_M_thrown lk_L_57 ⟨rfl, rfl⟩ ⟨Nat.le_of_ble_eq_true rfl, Nat.le_of_ble_eq_true rfl⟩ 0 rfl rfl rfl rfl (Nat.le_of_ble_eq_true rfl) (by exact hcc) d_law_346 349 rfl rfl ?_
  refine j_iload hC 1 351 rfl d_law_349 rfl ?_
  refine j_icmp_eq hC 356 354 rfl d_law_351 (by decide) (fun _ => ?_) (fun q => absurd e3 q)
  refine j_iload hC 1 358 rfl d_law_356 rfl ?_
  refine j_if_ne hC 373 361 rfl d_law_358 (by decide) (fun _ => j_goto hC 756 d_law_373 (by decide) (j_sub (lv' := [(0, .ref b), (1, .ref (ad 0)), (2, .ref (am 0)), (3, .ref ao), (4, .int i)]) [2, 3, 4, 5, 6] rfl (l_21 (kk σ' β' mk' μ' ν' f' e5)))) (fun q => ?_)
  have q0 : k0 = 0 := by first | exact q | exact Decidable.not_not.mp q
  refine j_aload_n hC 5 362 rfl d_law_361 rfl rfl ?_
  refine j_iconst (v := 0) hC 363 rfl d_law_362 (by decide) ?_
  refine j_lald hC 35 3 rfl rfl in0_1 364 rfl d_law_363 ?_
  refine j_iload hC 0 366 rfl d_law_364 rfl ?_
  refine j_i2l hC 367 rfl d_law_366 rfl ?_
  refine j_lcmp hC 368 rfl d_law_367 ?_
  exact j_if_eq hC 373 371 rfl d_law_368 (by decide) (fun _ => j_goto hC 756 d_law_373 (by decide) (j_sub (lv' := [(0, .ref b), (1, .ref (ad 0)), (2, .ref (am 0)), (3, .ref ao), (4, .int i)]) [2, 3, 4, 5, 6] rfl (l_21 (kk σ' β' mk' μ' ν' f' e5)))) (fun q => absurd (by rw [show f' (0 : Int32).toNatClampNeg = b0.toInt64 from e4 q0]; exact lg_same _) q)
set_option maxHeartbeats 4000000 in
set_option maxRecDepth 100000 in
theorem lw_loaded (hC : lC p s m c dC dI cI cZ cB cJ A b) (hX : va_X b L xs s s.heap) (hbl : b < s.heap.size) (hbA : ¬ A b) (hst : l.stackTraces = false) (h : Inv t σ β mk μ ν) (ht : t < 1000) (hv1 : vp_in (i + 1) L) (hcc : cells + 1 ≤ 1074 ∧ slots + 6 ≤ 19814)
    (kk : ∀ (σ' : S2) (β' : B2) (mk' : Int64) (μ' : S2) (ν' : B2) (f' : Nat → Int64), Inv (t + 1) σ' β' mk' μ' ν' → lJ p l e s m below meth c dC dI A b (cells + 1) (slots + 6) (w1 ad am ao cI cZ cB cJ σ' β' mk' f' μ' ν') 756 [(0, .ref b), (1, .ref (ad 0)), (2, .ref (am 0)), (3, .ref ao), (4, .int i)] []) : lJ p l e s m below meth c dC dI A b cells slots (w1 ad am ao cI cZ cB cJ σ β mk f μ ν) 376 [(0, .ref b), (1, .ref (ad 0)), (2, .ref (am 0)), (3, .ref ao), (4, .int i)] [] := by
  have hD := hC.weak jE2_1
  obtain ⟨k0, b0, σ', β', mk', μ', ν', f', e1, e2, e3, e4, e5⟩ := st_loaded (dC := dC) (dI := dI) (cI := cI) (cZ := cZ) (cB := cB) (cJ := cJ) (ad := ad) (am := am) (ao := ao) (f := f) (ρ := wM am cI cZ μ ν []) hst h ht (xs (i + 1).toNatClampNeg)
  refine j_aload_n hC 1 377 rfl d_law_376 rfl rfl ?_
  refine j_aload_n hC 0 378 rfl d_law_377 rfl rfl ?_
  refine j_iload hC 4 380 rfl d_law_378 rfl ?_
  refine j_iconst (v := 1) hC 381 rfl d_law_380 (by decide) ?_
  refine j_iadd hC 382 rfl d_law_381 ?_
  refine j_sld hC hX hbl hbA hv1 383 rfl d_law_382 ?_
  refine j_aload_n hC 3 384 rfl d_law_383 rfl rfl ?_
  refine j_callH hC jE2_loc jT_good (As := [_, _, _]) e1 yw_loaded lk_L_72 ⟨rfl, rfl⟩ ⟨Nat.le_of_ble_eq_true rfl, Nat.le_of_ble_eq_true rfl⟩ rfl (Nat.le_of_ble_eq_true rfl) (by exact hcc) d_law_384 387 rfl rfl ?_
  refine l_12 (σ := σ') (β := β') (mk := mk') (f := f') (μ := μ) (ν := ν) ?_
  refine j_istore (lv' := [(5, _), (0, _), (1, _), (2, _), (3, _), (4, _)]) hC 389 rfl d_law_387 (by decide) rfl ?_
  refine j_aload_n hC 3 390 rfl d_law_389 rfl rfl ?_
  refine j_aload_n hC 1 391 rfl d_law_390 rfl rfl ?_
  refine j_iload hC 5 393 rfl d_law_391 rfl ?_
  refine j_iconst (v := 1) hC 394 rfl d_law_393 (by decide) ?_
  refine j_iadd hC 395 rfl d_law_394 ?_
  refine j_sld hC hX hbl hbA hv1 396 rfl d_law_395 ?_
  refine j_callVi hD jE_loc jT_good (As := [_]) (e2 (wC ad cI cZ cB σ' β' mk' (wo ao cJ f' []))) yk_M_loaded lk_L_74 ⟨rfl, rfl⟩ ⟨Nat.le_of_ble_eq_true rfl, Nat.le_of_ble_eq_true rfl⟩ 0 rfl rfl rfl rfl (Nat.le_of_ble_eq_true rfl) (by exact hcc) d_law_396 399 rfl rfl ?_
  refine j_istore (lv' := [(6, _), (5, _), (0, _), (1, _), (2, _), (3, _), (4, _)]) hC 401 rfl d_law_399 (by decide) rfl ?_
  refine j_aload_n hC 4 402 rfl d_law_401 rfl rfl ?_
  refine j_callVi hD jE_loc jT_good (As := []) (c_M_thrown (ρ := wC ad cI cZ cB σ' β' mk' (wo ao cJ f' []))) yk_M_thrown lk_L_57 ⟨rfl, rfl⟩ ⟨Nat.le_of_ble_eq_true rfl, Nat.le_of_ble_eq_true rfl⟩ 0 rfl rfl rfl rfl (Nat.le_of_ble_eq_true rfl) (by exact hcc) d_law_402 405 rfl rfl ?_
  refine j_iload hC 1 407 rfl d_law_405 rfl ?_
  refine j_icmp_eq hC 412 410 rfl d_law_407 (by decide) (fun _ => ?_) (fun q => absurd e3 q)
  refine j_iload hC 1 414 rfl d_law_412 rfl ?_
  refine j_if_ne hC 429 417 rfl d_law_414 (by decide) (fun _ => j_goto hC 756 d_law_429 (by decide) (j_sub (lv' := [(0, .ref b), (1, .ref (ad 0)), (2, .ref (am 0)), (3, .ref ao), (4, .int i)]) [2, 3, 4, 5, 6] rfl (l_21 (kk σ' β' mk' μ' ν' f' e5)))) (fun q => ?_)
  have q0 : k0 = 0 := by first | exact q | exact Decidable.not_not.mp q
  refine j_aload_n hC 5 418 rfl d_law_417 rfl rfl ?_
  refine j_iconst (v := 0) hC 419 rfl d_law_418 (by decide) ?_
  refine j_lald hC 35 3 rfl rfl in0_1 420 rfl d_law_419 ?_
  refine j_iload hC 0 422 rfl d_law_420 rfl ?_
  refine j_i2l hC 423 rfl d_law_422 rfl ?_
  refine j_lcmp hC 424 rfl d_law_423 ?_
  exact j_if_eq hC 429 427 rfl d_law_424 (by decide) (fun _ => j_goto hC 756 d_law_429 (by decide) (j_sub (lv' := [(0, .ref b), (1, .ref (ad 0)), (2, .ref (am 0)), (3, .ref ao), (4, .int i)]) [2, 3, 4, 5, 6] rfl (l_21 (kk σ' β' mk' μ' ν' f' e5)))) (fun q => absurd (by rw [show f' (0 : Int32).toNatClampNeg = b0.toInt64 from e4 q0]; exact lg_same _) q)
set_option maxHeartbeats 4000000 in
set_option maxRecDepth 100000 in
theorem lw_source (hC : lC p s m c dC dI cI cZ cB cJ A b) (hX : va_X b L xs s s.heap) (hbl : b < s.heap.size) (hbA : ¬ A b) (hst : l.stackTraces = false) (h : Inv t σ β mk μ ν) (ht : t < 1000) (hv1 : vp_in (i + 1) L) (hv2 : vp_in (i + 2) L) (hcc : cells + 1 ≤ 1074 ∧ slots + 6 ≤ 19814)
    (kk : ∀ (σ' : S2) (β' : B2) (mk' : Int64) (μ' : S2) (ν' : B2) (f' : Nat → Int64), Inv (t + 1) σ' β' mk' μ' ν' → lJ p l e s m below meth c dC dI A b (cells + 1) (slots + 6) (w1 ad am ao cI cZ cB cJ σ' β' mk' f' μ' ν') 756 [(0, .ref b), (1, .ref (ad 0)), (2, .ref (am 0)), (3, .ref ao), (4, .int i)] []) : lJ p l e s m below meth c dC dI A b cells slots (w1 ad am ao cI cZ cB cJ σ β mk f μ ν) 432 [(0, .ref b), (1, .ref (ad 0)), (2, .ref (am 0)), (3, .ref ao), (4, .int i)] [] := by
  have hD := hC.weak jE2_1
  obtain ⟨k0, b0, σ', β', mk', μ', ν', f', e1, e2, e3, e4, e5⟩ := st_source (dC := dC) (dI := dI) (cI := cI) (cZ := cZ) (cB := cB) (cJ := cJ) (ad := ad) (am := am) (ao := ao) (f := f) (ρ := wM am cI cZ μ ν []) hst h ht (xs (i + 1).toNatClampNeg) (xs (i + 2).toNatClampNeg)
  refine j_aload_n hC 1 433 rfl d_law_432 rfl rfl ?_
  refine j_aload_n hC 0 434 rfl d_law_433 rfl rfl ?_
  refine j_iload hC 4 436 rfl d_law_434 rfl ?_
  refine j_iconst (v := 1) hC 437 rfl d_law_436 (by decide) ?_
  refine j_iadd hC 438 rfl d_law_437 ?_
  refine j_sld hC hX hbl hbA hv1 439 rfl d_law_438 ?_
  refine j_aload_n hC 0 440 rfl d_law_439 rfl rfl ?_
  refine j_iload hC 4 442 rfl d_law_440 rfl ?_
  refine j_iconst (v := 2) hC 443 rfl d_law_442 (by decide) ?_
  refine j_iadd hC 444 rfl d_law_443 ?_
  refine j_sld hC hX hbl hbA hv2 445 rfl d_law_444 ?_
  refine j_aload_n hC 3 446 rfl d_law_445 rfl rfl ?_
  refine j_callH hC jE2_loc jT_good (As := [_, _, _, _]) e1 yw_source lk_L_75 ⟨rfl, rfl⟩ ⟨Nat.le_of_ble_eq_true rfl, Nat.le_of_ble_eq_true rfl⟩ rfl (Nat.le_of_ble_eq_true rfl) (by exact hcc) d_law_446 449 rfl rfl ?_
  refine l_12 (σ := σ') (β := β') (mk := mk') (f := f') (μ := μ) (ν := ν) ?_
  refine j_istore (lv' := [(5, _), (0, _), (1, _), (2, _), (3, _), (4, _)]) hC 451 rfl d_law_449 (by decide) rfl ?_
  refine j_aload_n hC 3 452 rfl d_law_451 rfl rfl ?_
  refine j_aload_n hC 1 453 rfl d_law_452 rfl rfl ?_
  refine j_iload hC 5 455 rfl d_law_453 rfl ?_
  refine j_iconst (v := 1) hC 456 rfl d_law_455 (by decide) ?_
  refine j_iadd hC 457 rfl d_law_456 ?_
  refine j_sld hC hX hbl hbA hv1 458 rfl d_law_457 ?_
  refine j_aload_n hC 1 459 rfl d_law_458 rfl rfl ?_
  refine j_iload hC 5 461 rfl d_law_459 rfl ?_
  refine j_iconst (v := 2) hC 462 rfl d_law_461 (by decide) ?_
  refine j_iadd hC 463 rfl d_law_462 ?_
  refine j_sld hC hX hbl hbA hv2 464 rfl d_law_463 ?_
  refine j_callVi hD jE_loc jT_good (As := [_, _]) (e2 (wC ad cI cZ cB σ' β' mk' (wo ao cJ f' []))) yk_M_source lk_L_77 ⟨rfl, rfl⟩ ⟨Nat.le_of_ble_eq_true rfl, Nat.le_of_ble_eq_true rfl⟩ 0 rfl rfl rfl rfl (Nat.le_of_ble_eq_true rfl) (by exact hcc) d_law_464 467 rfl rfl ?_
  refine j_istore (lv' := [(6, _), (5, _), (0, _), (1, _), (2, _), (3, _), (4, _)]) hC 469 rfl d_law_467 (by decide) rfl ?_
  refine j_aload_n hC 4 470 rfl d_law_469 rfl rfl ?_
  refine j_callVi hD jE_loc jT_good (As := []) (c_M_thrown (ρ := wC ad cI cZ cB σ' β' mk' (wo ao cJ f' []))) yk_M_thrown lk_L_57 ⟨rfl, rfl⟩ ⟨Nat.le_of_ble_eq_true rfl, Nat.le_of_ble_eq_true rfl⟩ 0 rfl rfl rfl rfl (Nat.le_of_ble_eq_true rfl) (by exact hcc) d_law_470 473 rfl rfl ?_
  refine j_iload hC 1 475 rfl d_law_473 rfl ?_
  refine j_icmp_eq hC 480 478 rfl d_law_475 (by decide) (fun _ => ?_) (fun q => absurd e3 q)
  refine j_iload hC 1 482 rfl d_law_480 rfl ?_
  refine j_if_ne hC 497 485 rfl d_law_482 (by decide) (fun _ => j_goto hC 756 d_law_497 (by decide) (j_sub (lv' := [(0, .ref b), (1, .ref (ad 0)), (2, .ref (am 0)), (3, .ref ao), (4, .int i)]) [2, 3, 4, 5, 6] rfl (l_21 (kk σ' β' mk' μ' ν' f' e5)))) (fun q => ?_)
  have q0 : k0 = 0 := by first | exact q | exact Decidable.not_not.mp q
  refine j_aload_n hC 5 486 rfl d_law_485 rfl rfl ?_
  refine j_iconst (v := 0) hC 487 rfl d_law_486 (by decide) ?_
  refine j_lald hC 35 3 rfl rfl in0_1 488 rfl d_law_487 ?_
  refine j_iload hC 0 490 rfl d_law_488 rfl ?_
  refine j_i2l hC 491 rfl d_law_490 rfl ?_
  refine j_lcmp hC 492 rfl d_law_491 ?_
  exact j_if_eq hC 497 495 rfl d_law_492 (by decide) (fun _ => j_goto hC 756 d_law_497 (by decide) (j_sub (lv' := [(0, .ref b), (1, .ref (ad 0)), (2, .ref (am 0)), (3, .ref ao), (4, .int i)]) [2, 3, 4, 5, 6] rfl (l_21 (kk σ' β' mk' μ' ν' f' e5)))) (fun q => absurd (by rw [show f' (0 : Int32).toNatClampNeg = b0.toInt64 from e4 q0]; exact lg_same _) q)
set_option maxHeartbeats 4000000 in
set_option maxRecDepth 100000 in
theorem lw_leave (hC : lC p s m c dC dI cI cZ cB cJ A b) (hX : va_X b L xs s s.heap) (hbl : b < s.heap.size) (hbA : ¬ A b) (hst : l.stackTraces = false) (h : Inv t σ β mk μ ν) (ht : t < 1000)  (hcc : cells + 1 ≤ 1074 ∧ slots + 6 ≤ 19814)
    (kk : ∀ (σ' : S2) (β' : B2) (mk' : Int64) (μ' : S2) (ν' : B2) (f' : Nat → Int64), Inv (t + 1) σ' β' mk' μ' ν' → lJ p l e s m below meth c dC dI A b (cells + 1) (slots + 6) (w1 ad am ao cI cZ cB cJ σ' β' mk' f' μ' ν') 756 [(0, .ref b), (1, .ref (ad 0)), (2, .ref (am 0)), (3, .ref ao), (4, .int i)] []) : lJ p l e s m below meth c dC dI A b cells slots (w1 ad am ao cI cZ cB cJ σ β mk f μ ν) 500 [(0, .ref b), (1, .ref (ad 0)), (2, .ref (am 0)), (3, .ref ao), (4, .int i)] [] := by
  have hD := hC.weak jE2_1
  refine j_aload_n hC 1 501 rfl d_law_500 rfl rfl ?_
  refine j_callVi hD jE_loc jT_good (As := []) (c_C_leave (ρ := wo ao cJ f (wM am cI cZ μ ν []))) yk_C_leave lk_L_78 ⟨rfl, rfl⟩ ⟨Nat.le_of_ble_eq_true rfl, Nat.le_of_ble_eq_true rfl⟩ 0 rfl rfl rfl rfl (Nat.le_of_ble_eq_true rfl) ⟨Nat.le_trans (Nat.le_succ _) hcc.1, Nat.le_trans (Nat.le_add_right _ 6) hcc.2⟩ d_law_501 504 rfl rfl ?_
  refine l_12 (σ := (lvR σ β).2) (β := β) (mk := mk) (f := f) (μ := μ) (ν := ν) ?_
  obtain ⟨μ', e2, e5⟩ := st_leave (l := l) (dC := dC) (dI := dI) (cI := cI) (cZ := cZ) (cB := cB) (cJ := cJ) (am := am) (ρ := wC ad cI cZ cB (lvR σ β).2 β mk (wo ao cJ f [])) h
  refine j_aload_n hC 2 505 rfl d_law_504 rfl rfl ?_
  refine j_callVi hD jE_loc jT_good (As := []) e2 yk_M_leave lk_L_81 ⟨rfl, rfl⟩ ⟨Nat.le_of_ble_eq_true rfl, Nat.le_of_ble_eq_true rfl⟩ 0 rfl rfl rfl rfl (Nat.le_of_ble_eq_true rfl) ⟨Nat.le_trans (Nat.le_succ _) hcc.1, Nat.le_trans (Nat.le_add_right _ 6) hcc.2⟩ d_law_505 508 rfl rfl ?_
  exact j_icmp_eq hC 756 511 rfl d_law_508 (by decide) (fun _ => j_widen (Nat.le_succ _) (Nat.le_add_right _ 6) (l_21 (kk (lvR σ β).2 β mk μ' ν f (e5.up ht)))) (fun q => absurd rfl q)
set_option maxHeartbeats 4000000 in
set_option maxRecDepth 100000 in
theorem lw_drain (hC : lC p s m c dC dI cI cZ cB cJ A b) (hX : va_X b L xs s s.heap) (hbl : b < s.heap.size) (hbA : ¬ A b) (hst : l.stackTraces = false) (h : Inv t σ β mk μ ν) (ht : t < 1000)  (hcc : cells + 1 ≤ 1074 ∧ slots + 6 ≤ 19814)
    (kk : ∀ (σ' : S2) (β' : B2) (mk' : Int64) (μ' : S2) (ν' : B2) (f' : Nat → Int64), Inv (t + 1) σ' β' mk' μ' ν' → lJ p l e s m below meth c dC dI A b (cells + 1) (slots + 6) (w1 ad am ao cI cZ cB cJ σ' β' mk' f' μ' ν') 756 [(0, .ref b), (1, .ref (ad 0)), (2, .ref (am 0)), (3, .ref ao), (4, .int i)] []) : lJ p l e s m below meth c dC dI A b cells slots (w1 ad am ao cI cZ cB cJ σ β mk f μ ν) 513 [(0, .ref b), (1, .ref (ad 0)), (2, .ref (am 0)), (3, .ref ao), (4, .int i)] [] := by
  have hD := hC.weak jE2_1
  refine j_aload_n hC 1 514 rfl d_law_513 rfl rfl ?_
  refine j_callVi hD jE_loc jT_good (As := []) (c_C_drain (ρ := wo ao cJ f (wM am cI cZ μ ν []))) yk_C_drain lk_L_82 ⟨rfl, rfl⟩ ⟨Nat.le_of_ble_eq_true rfl, Nat.le_of_ble_eq_true rfl⟩ 0 rfl rfl rfl rfl (Nat.le_of_ble_eq_true rfl) ⟨Nat.le_trans (Nat.le_succ _) hcc.1, Nat.le_trans (Nat.le_add_right _ 6) hcc.2⟩ d_law_514 517 rfl rfl ?_
  refine l_12 (σ := (drR σ).2) (β := β) (mk := mk) (f := f) (μ := μ) (ν := ν) ?_
  obtain ⟨μ', e2, e5⟩ := st_drain (l := l) (dC := dC) (dI := dI) (cI := cI) (cZ := cZ) (cB := cB) (cJ := cJ) (am := am) (ρ := wC ad cI cZ cB (drR σ).2 β mk (wo ao cJ f [])) h
  refine j_aload_n hC 2 518 rfl d_law_517 rfl rfl ?_
  refine j_callVi hD jE_loc jT_good (As := []) e2 yk_M_drain lk_L_85 ⟨rfl, rfl⟩ ⟨Nat.le_of_ble_eq_true rfl, Nat.le_of_ble_eq_true rfl⟩ 0 rfl rfl rfl rfl (Nat.le_of_ble_eq_true rfl) ⟨Nat.le_trans (Nat.le_succ _) hcc.1, Nat.le_trans (Nat.le_add_right _ 6) hcc.2⟩ d_law_518 521 rfl rfl ?_
  exact j_icmp_eq hC 756 524 rfl d_law_521 (by decide) (fun _ => j_widen (Nat.le_succ _) (Nat.le_add_right _ 6) (l_21 (kk (drR σ).2 β mk μ' ν f (e5.up ht)))) (fun q => absurd rfl q)
set_option maxHeartbeats 4000000 in
set_option maxRecDepth 100000 in
theorem lw_other (hC : lC p s m c dC dI cI cZ cB cJ A b) (hX : va_X b L xs s s.heap) (hbl : b < s.heap.size) (hbA : ¬ A b) (hst : l.stackTraces = false) (h : Inv t σ β mk μ ν) (ht : t < 1000) (hv1 : vp_in (i + 1) L) (hv2 : vp_in (i + 2) L) (hcc : cells + 1 ≤ 1074 ∧ slots + 6 ≤ 19814)
    (kk : ∀ (σ' : S2) (β' : B2) (mk' : Int64) (μ' : S2) (ν' : B2) (f' : Nat → Int64), Inv (t + 1) σ' β' mk' μ' ν' → lJ p l e s m below meth c dC dI A b (cells + 1) (slots + 6) (w1 ad am ao cI cZ cB cJ σ' β' mk' f' μ' ν') 756 [(0, .ref b), (1, .ref (ad 0)), (2, .ref (am 0)), (3, .ref ao), (4, .int i)] []) : lJ p l e s m below meth c dC dI A b cells slots (w1 ad am ao cI cZ cB cJ σ β mk f μ ν) 526 [(0, .ref b), (1, .ref (ad 0)), (2, .ref (am 0)), (3, .ref ao), (4, .int i)] [] := by
  have hD := hC.weak jE2_1
  obtain ⟨k0, b0, σ', β', mk', μ', ν', f', e1, e2, e3, e4, e5⟩ := st_other (dC := dC) (dI := dI) (cI := cI) (cZ := cZ) (cB := cB) (cJ := cJ) (ad := ad) (am := am) (ao := ao) (f := f) (ρ := wM am cI cZ μ ν []) hst h ht (xs (i + 1).toNatClampNeg) (xs (i + 2).toNatClampNeg)
  refine j_aload_n hC 1 527 rfl d_law_526 rfl rfl ?_
  refine j_aload_n hC 0 528 rfl d_law_527 rfl rfl ?_
  refine j_iload hC 4 530 rfl d_law_528 rfl ?_
  refine j_iconst (v := 1) hC 531 rfl d_law_530 (by decide) ?_
  refine j_iadd hC 532 rfl d_law_531 ?_
  refine j_sld hC hX hbl hbA hv1 533 rfl d_law_532 ?_
  refine j_aload_n hC 0 534 rfl d_law_533 rfl rfl ?_
  refine j_iload hC 4 536 rfl d_law_534 rfl ?_
  refine j_iconst (v := 2) hC 537 rfl d_law_536 (by decide) ?_
  refine j_iadd hC 538 rfl d_law_537 ?_
  refine j_sld hC hX hbl hbA hv2 539 rfl d_law_538 ?_
  refine j_aload_n hC 3 540 rfl d_law_539 rfl rfl ?_
  refine j_callH hC jE2_loc jT_good (As := [_, _, _, _]) e1 yw_other lk_L_86 ⟨rfl, rfl⟩ ⟨Nat.le_of_ble_eq_true rfl, Nat.le_of_ble_eq_true rfl⟩ rfl (Nat.le_of_ble_eq_true rfl) (by exact hcc) d_law_540 543 rfl rfl ?_
  refine l_12 (σ := σ') (β := β') (mk := mk') (f := f') (μ := μ) (ν := ν) ?_
  refine j_istore (lv' := [(5, _), (0, _), (1, _), (2, _), (3, _), (4, _)]) hC 545 rfl d_law_543 (by decide) rfl ?_
  refine j_aload_n hC 3 546 rfl d_law_545 rfl rfl ?_
  refine j_aload_n hC 1 547 rfl d_law_546 rfl rfl ?_
  refine j_iload hC 5 549 rfl d_law_547 rfl ?_
  refine j_iconst (v := 1) hC 550 rfl d_law_549 (by decide) ?_
  refine j_iadd hC 551 rfl d_law_550 ?_
  refine j_sld hC hX hbl hbA hv1 552 rfl d_law_551 ?_
  refine j_aload_n hC 1 553 rfl d_law_552 rfl rfl ?_
  refine j_iload hC 5 555 rfl d_law_553 rfl ?_
  refine j_iconst (v := 2) hC 556 rfl d_law_555 (by decide) ?_
  refine j_iadd hC 557 rfl d_law_556 ?_
  refine j_sld hC hX hbl hbA hv2 558 rfl d_law_557 ?_
  refine j_callVi hD jE_loc jT_good (As := [_, _]) (e2 (wC ad cI cZ cB σ' β' mk' (wo ao cJ f' []))) yk_M_other lk_L_88 ⟨rfl, rfl⟩ ⟨Nat.le_of_ble_eq_true rfl, Nat.le_of_ble_eq_true rfl⟩ 0 rfl rfl rfl rfl (Nat.le_of_ble_eq_true rfl) (by exact hcc) d_law_558 561 rfl rfl ?_
  refine j_istore (lv' := [(6, _), (5, _), (0, _), (1, _), (2, _), (3, _), (4, _)]) hC 563 rfl d_law_561 (by decide) rfl ?_
  refine j_aload_n hC 4 564 rfl d_law_563 rfl rfl ?_
  refine j_callVi hD jE_loc jT_good (As := []) (c_M_thrown (ρ := wC ad cI cZ cB σ' β' mk' (wo ao cJ f' []))) yk_M_thrown lk_L_57 ⟨rfl, rfl⟩ ⟨Nat.le_of_ble_eq_true rfl, Nat.le_of_ble_eq_true rfl⟩ 0 rfl rfl rfl rfl (Nat.le_of_ble_eq_true rfl) (by exact hcc) d_law_564 567 rfl rfl ?_
  refine j_iload hC 1 569 rfl d_law_567 rfl ?_
  refine j_icmp_eq hC 574 572 rfl d_law_569 (by decide) (fun _ => ?_) (fun q => absurd e3 q)
  refine j_iload hC 1 576 rfl d_law_574 rfl ?_
  refine j_if_ne hC 591 579 rfl d_law_576 (by decide) (fun _ => j_goto hC 756 d_law_591 (by decide) (j_sub (lv' := [(0, .ref b), (1, .ref (ad 0)), (2, .ref (am 0)), (3, .ref ao), (4, .int i)]) [2, 3, 4, 5, 6] rfl (l_21 (kk σ' β' mk' μ' ν' f' e5)))) (fun q => ?_)
  have q0 : k0 = 0 := by first | exact q | exact Decidable.not_not.mp q
  refine j_aload_n hC 5 580 rfl d_law_579 rfl rfl ?_
  refine j_iconst (v := 0) hC 581 rfl d_law_580 (by decide) ?_
  refine j_lald hC 35 3 rfl rfl in0_1 582 rfl d_law_581 ?_
  refine j_iload hC 0 584 rfl d_law_582 rfl ?_
  refine j_i2l hC 585 rfl d_law_584 rfl ?_
  refine j_lcmp hC 586 rfl d_law_585 ?_
  exact j_if_eq hC 591 589 rfl d_law_586 (by decide) (fun _ => j_goto hC 756 d_law_591 (by decide) (j_sub (lv' := [(0, .ref b), (1, .ref (ad 0)), (2, .ref (am 0)), (3, .ref ao), (4, .int i)]) [2, 3, 4, 5, 6] rfl (l_21 (kk σ' β' mk' μ' ν' f' e5)))) (fun q => absurd (by rw [show f' (0 : Int32).toNatClampNeg = b0.toInt64 from e4 q0]; exact lg_same _) q)
set_option maxHeartbeats 4000000 in
set_option maxRecDepth 100000 in
theorem lw_memory (hC : lC p s m c dC dI cI cZ cB cJ A b) (hX : va_X b L xs s s.heap) (hbl : b < s.heap.size) (hbA : ¬ A b) (hst : l.stackTraces = false) (h : Inv t σ β mk μ ν) (ht : t < 1000) (hv1 : vp_in (i + 1) L) (hcc : cells + 1 ≤ 1074 ∧ slots + 6 ≤ 19814)
    (kk : ∀ (σ' : S2) (β' : B2) (mk' : Int64) (μ' : S2) (ν' : B2) (f' : Nat → Int64), Inv (t + 1) σ' β' mk' μ' ν' → lJ p l e s m below meth c dC dI A b (cells + 1) (slots + 6) (w1 ad am ao cI cZ cB cJ σ' β' mk' f' μ' ν') 756 [(0, .ref b), (1, .ref (ad 0)), (2, .ref (am 0)), (3, .ref ao), (4, .int i)] []) : lJ p l e s m below meth c dC dI A b cells slots (w1 ad am ao cI cZ cB cJ σ β mk f μ ν) 594 [(0, .ref b), (1, .ref (ad 0)), (2, .ref (am 0)), (3, .ref ao), (4, .int i)] [] := by
  have hD := hC.weak jE2_1
  obtain ⟨k0, b0, σ', β', mk', μ', ν', f', e1, e2, e3, e4, e5⟩ := st_memory (dC := dC) (dI := dI) (cI := cI) (cZ := cZ) (cB := cB) (cJ := cJ) (ad := ad) (am := am) (ao := ao) (f := f) (ρ := wM am cI cZ μ ν []) hst h ht (xs (i + 1).toNatClampNeg)
  refine j_aload_n hC 1 595 rfl d_law_594 rfl rfl ?_
  refine j_aload_n hC 0 596 rfl d_law_595 rfl rfl ?_
  refine j_iload hC 4 598 rfl d_law_596 rfl ?_
  refine j_iconst (v := 1) hC 599 rfl d_law_598 (by decide) ?_
  refine j_iadd hC 600 rfl d_law_599 ?_
  refine j_sld hC hX hbl hbA hv1 601 rfl d_law_600 ?_
  refine j_aload_n hC 3 602 rfl d_law_601 rfl rfl ?_
  refine j_callH hC jE2_loc jT_good (As := [_, _, _]) e1 yw_memory lk_L_89 ⟨rfl, rfl⟩ ⟨Nat.le_of_ble_eq_true rfl, Nat.le_of_ble_eq_true rfl⟩ rfl (Nat.le_of_ble_eq_true rfl) (by exact hcc) d_law_602 605 rfl rfl ?_
  refine l_12 (σ := σ') (β := β') (mk := mk') (f := f') (μ := μ) (ν := ν) ?_
  refine j_istore (lv' := [(5, _), (0, _), (1, _), (2, _), (3, _), (4, _)]) hC 607 rfl d_law_605 (by decide) rfl ?_
  refine j_aload_n hC 3 608 rfl d_law_607 rfl rfl ?_
  refine j_aload_n hC 1 609 rfl d_law_608 rfl rfl ?_
  refine j_iload hC 5 611 rfl d_law_609 rfl ?_
  refine j_iconst (v := 1) hC 612 rfl d_law_611 (by decide) ?_
  refine j_iadd hC 613 rfl d_law_612 ?_
  refine j_sld hC hX hbl hbA hv1 614 rfl d_law_613 ?_
  refine j_callVi hD jE_loc jT_good (As := [_]) (e2 (wC ad cI cZ cB σ' β' mk' (wo ao cJ f' []))) yk_M_memory lk_L_91 ⟨rfl, rfl⟩ ⟨Nat.le_of_ble_eq_true rfl, Nat.le_of_ble_eq_true rfl⟩ 0 rfl rfl rfl rfl (Nat.le_of_ble_eq_true rfl) (by exact hcc) d_law_614 617 rfl rfl ?_
  refine j_istore (lv' := [(6, _), (5, _), (0, _), (1, _), (2, _), (3, _), (4, _)]) hC 619 rfl d_law_617 (by decide) rfl ?_
  refine j_aload_n hC 4 620 rfl d_law_619 rfl rfl ?_
  refine j_callVi hD jE_loc jT_good (As := []) (c_M_thrown (ρ := wC ad cI cZ cB σ' β' mk' (wo ao cJ f' []))) yk_M_thrown lk_L_57 ⟨rfl, rfl⟩ ⟨Nat.le_of_ble_eq_true rfl, Nat.le_of_ble_eq_true rfl⟩ 0 rfl rfl rfl rfl (Nat.le_of_ble_eq_true rfl) (by exact hcc) d_law_620 623 rfl rfl ?_
  refine j_iload hC 1 625 rfl d_law_623 rfl ?_
  refine j_icmp_eq hC 630 628 rfl d_law_625 (by decide) (fun _ => ?_) (fun q => absurd e3 q)
  refine j_iload hC 1 632 rfl d_law_630 rfl ?_
  refine j_if_ne hC 647 635 rfl d_law_632 (by decide) (fun _ => j_goto hC 756 d_law_647 (by decide) (j_sub (lv' := [(0, .ref b), (1, .ref (ad 0)), (2, .ref (am 0)), (3, .ref ao), (4, .int i)]) [2, 3, 4, 5, 6] rfl (l_21 (kk σ' β' mk' μ' ν' f' e5)))) (fun q => ?_)
  have q0 : k0 = 0 := by first | exact q | exact Decidable.not_not.mp q
  refine j_aload_n hC 5 636 rfl d_law_635 rfl rfl ?_
  refine j_iconst (v := 0) hC 637 rfl d_law_636 (by decide) ?_
  refine j_lald hC 35 3 rfl rfl in0_1 638 rfl d_law_637 ?_
  refine j_iload hC 0 640 rfl d_law_638 rfl ?_
  refine j_i2l hC 641 rfl d_law_640 rfl ?_
  refine j_lcmp hC 642 rfl d_law_641 ?_
  exact j_if_eq hC 647 645 rfl d_law_642 (by decide) (fun _ => j_goto hC 756 d_law_647 (by decide) (j_sub (lv' := [(0, .ref b), (1, .ref (ad 0)), (2, .ref (am 0)), (3, .ref ao), (4, .int i)]) [2, 3, 4, 5, 6] rfl (l_21 (kk σ' β' mk' μ' ν' f' e5)))) (fun q => absurd (by rw [show f' (0 : Int32).toNatClampNeg = b0.toInt64 from e4 q0]; exact lg_same _) q)
set_option maxHeartbeats 4000000 in
set_option maxRecDepth 100000 in
theorem lw_forget (hC : lC p s m c dC dI cI cZ cB cJ A b) (hX : va_X b L xs s s.heap) (hbl : b < s.heap.size) (hbA : ¬ A b) (hst : l.stackTraces = false) (h : Inv t σ β mk μ ν) (ht : t < 1000) (hv1 : vp_in (i + 1) L) (hcc : cells + 1 ≤ 1074 ∧ slots + 6 ≤ 19814)
    (kk : ∀ (σ' : S2) (β' : B2) (mk' : Int64) (μ' : S2) (ν' : B2) (f' : Nat → Int64), Inv (t + 1) σ' β' mk' μ' ν' → lJ p l e s m below meth c dC dI A b (cells + 1) (slots + 6) (w1 ad am ao cI cZ cB cJ σ' β' mk' f' μ' ν') 756 [(0, .ref b), (1, .ref (ad 0)), (2, .ref (am 0)), (3, .ref ao), (4, .int i)] []) : lJ p l e s m below meth c dC dI A b cells slots (w1 ad am ao cI cZ cB cJ σ β mk f μ ν) 650 [(0, .ref b), (1, .ref (ad 0)), (2, .ref (am 0)), (3, .ref ao), (4, .int i)] [] := by
  have hD := hC.weak jE2_1
  obtain ⟨k0, b0, σ', β', mk', μ', ν', f', e1, e2, e3, e4, e5⟩ := st_forget (dC := dC) (dI := dI) (cI := cI) (cZ := cZ) (cB := cB) (cJ := cJ) (ad := ad) (am := am) (ao := ao) (f := f) (ρ := wM am cI cZ μ ν []) hst h ht (xs (i + 1).toNatClampNeg)
  refine j_aload_n hC 1 651 rfl d_law_650 rfl rfl ?_
  refine j_aload_n hC 0 652 rfl d_law_651 rfl rfl ?_
  refine j_iload hC 4 654 rfl d_law_652 rfl ?_
  refine j_iconst (v := 1) hC 655 rfl d_law_654 (by decide) ?_
  refine j_iadd hC 656 rfl d_law_655 ?_
  refine j_sld hC hX hbl hbA hv1 657 rfl d_law_656 ?_
  refine j_aload_n hC 3 658 rfl d_law_657 rfl rfl ?_
  refine j_callH hC jE2_loc jT_good (As := [_, _, _]) e1 yw_forget lk_L_92 ⟨rfl, rfl⟩ ⟨Nat.le_of_ble_eq_true rfl, Nat.le_of_ble_eq_true rfl⟩ rfl (Nat.le_of_ble_eq_true rfl) (by exact hcc) d_law_658 661 rfl rfl ?_
  refine l_12 (σ := σ') (β := β') (mk := mk') (f := f') (μ := μ) (ν := ν) ?_
  refine j_istore (lv' := [(5, _), (0, _), (1, _), (2, _), (3, _), (4, _)]) hC 663 rfl d_law_661 (by decide) rfl ?_
  refine j_aload_n hC 3 664 rfl d_law_663 rfl rfl ?_
  refine j_aload_n hC 1 665 rfl d_law_664 rfl rfl ?_
  refine j_iload hC 5 667 rfl d_law_665 rfl ?_
  refine j_iconst (v := 1) hC 668 rfl d_law_667 (by decide) ?_
  refine j_iadd hC 669 rfl d_law_668 ?_
  refine j_sld hC hX hbl hbA hv1 670 rfl d_law_669 ?_
  refine j_callVi hD jE_loc jT_good (As := [_]) (e2 (wC ad cI cZ cB σ' β' mk' (wo ao cJ f' []))) yk_M_forget lk_L_94 ⟨rfl, rfl⟩ ⟨Nat.le_of_ble_eq_true rfl, Nat.le_of_ble_eq_true rfl⟩ 0 rfl rfl rfl rfl (Nat.le_of_ble_eq_true rfl) (by exact hcc) d_law_670 673 rfl rfl ?_
  refine j_istore (lv' := [(6, _), (5, _), (0, _), (1, _), (2, _), (3, _), (4, _)]) hC 675 rfl d_law_673 (by decide) rfl ?_
  refine j_aload_n hC 4 676 rfl d_law_675 rfl rfl ?_
  refine j_callVi hD jE_loc jT_good (As := []) (c_M_thrown (ρ := wC ad cI cZ cB σ' β' mk' (wo ao cJ f' []))) yk_M_thrown lk_L_57 ⟨rfl, rfl⟩ ⟨Nat.le_of_ble_eq_true rfl, Nat.le_of_ble_eq_true rfl⟩ 0 rfl rfl rfl rfl (Nat.le_of_ble_eq_true rfl) (by exact hcc) d_law_676 679 rfl rfl ?_
  refine j_iload hC 1 681 rfl d_law_679 rfl ?_
  refine j_icmp_eq hC 686 684 rfl d_law_681 (by decide) (fun _ => ?_) (fun q => absurd e3 q)
  refine j_iload hC 1 688 rfl d_law_686 rfl ?_
  refine j_if_ne hC 703 691 rfl d_law_688 (by decide) (fun _ => j_goto hC 756 d_law_703 (by decide) (j_sub (lv' := [(0, .ref b), (1, .ref (ad 0)), (2, .ref (am 0)), (3, .ref ao), (4, .int i)]) [2, 3, 4, 5, 6] rfl (l_21 (kk σ' β' mk' μ' ν' f' e5)))) (fun q => ?_)
  have q0 : k0 = 0 := by first | exact q | exact Decidable.not_not.mp q
  refine j_aload_n hC 5 692 rfl d_law_691 rfl rfl ?_
  refine j_iconst (v := 0) hC 693 rfl d_law_692 (by decide) ?_
  refine j_lald hC 35 3 rfl rfl in0_1 694 rfl d_law_693 ?_
  refine j_iload hC 0 696 rfl d_law_694 rfl ?_
  refine j_i2l hC 697 rfl d_law_696 rfl ?_
  refine j_lcmp hC 698 rfl d_law_697 ?_
  exact j_if_eq hC 703 701 rfl d_law_698 (by decide) (fun _ => j_goto hC 756 d_law_703 (by decide) (j_sub (lv' := [(0, .ref b), (1, .ref (ad 0)), (2, .ref (am 0)), (3, .ref ao), (4, .int i)]) [2, 3, 4, 5, 6] rfl (l_21 (kk σ' β' mk' μ' ν' f' e5)))) (fun q => absurd (by rw [show f' (0 : Int32).toNatClampNeg = b0.toInt64 from e4 q0]; exact lg_same _) q)
set_option maxHeartbeats 4000000 in
set_option maxRecDepth 100000 in
theorem lw_marked (hC : lC p s m c dC dI cI cZ cB cJ A b) (hX : va_X b L xs s s.heap) (hbl : b < s.heap.size) (hbA : ¬ A b) (hst : l.stackTraces = false) (h : Inv t σ β mk μ ν) (ht : t < 1000) (hv1 : vp_in (i + 1) L) (hcc : cells + 1 ≤ 1074 ∧ slots + 6 ≤ 19814)
    (kk : ∀ (σ' : S2) (β' : B2) (mk' : Int64) (μ' : S2) (ν' : B2) (f' : Nat → Int64), Inv (t + 1) σ' β' mk' μ' ν' → lJ p l e s m below meth c dC dI A b (cells + 1) (slots + 6) (w1 ad am ao cI cZ cB cJ σ' β' mk' f' μ' ν') 756 [(0, .ref b), (1, .ref (ad 0)), (2, .ref (am 0)), (3, .ref ao), (4, .int i)] []) : lJ p l e s m below meth c dC dI A b cells slots (w1 ad am ao cI cZ cB cJ σ β mk f μ ν) 706 [(0, .ref b), (1, .ref (ad 0)), (2, .ref (am 0)), (3, .ref ao), (4, .int i)] [] := by
  have hD := hC.weak jE2_1
  refine j_aload_n hC 1 707 rfl d_law_706 rfl rfl ?_
  refine j_aload_n hC 0 708 rfl d_law_707 rfl rfl ?_
  refine j_iload hC 4 710 rfl d_law_708 rfl ?_
  refine j_iconst (v := 1) hC 711 rfl d_law_710 (by decide) ?_
  refine j_iadd hC 712 rfl d_law_711 ?_
  refine j_sld hC hX hbl hbA hv1 713 rfl d_law_712 ?_
  refine j_callVi hD jE_loc jT_good (As := [_]) (c_C_marked (ρ := wo ao cJ f (wM am cI cZ μ ν []))) yk_C_marked lk_L_95 ⟨rfl, rfl⟩ ⟨Nat.le_of_ble_eq_true rfl, Nat.le_of_ble_eq_true rfl⟩ 0 rfl rfl rfl rfl (Nat.le_of_ble_eq_true rfl) ⟨Nat.le_trans (Nat.le_succ _) hcc.1, Nat.le_trans (Nat.le_add_right _ 6) hcc.2⟩ d_law_713 716 rfl rfl ?_
  refine l_12 (σ := σ) (β := β) (mk := mk) (f := f) (μ := μ) (ν := ν) ?_
  refine j_aload_n hC 2 717 rfl d_law_716 rfl rfl ?_
  refine j_aload_n hC 0 718 rfl d_law_717 rfl rfl ?_
  refine j_iload hC 4 720 rfl d_law_718 rfl ?_
  refine j_iconst (v := 1) hC 721 rfl d_law_720 (by decide) ?_
  refine j_iadd hC 722 rfl d_law_721 ?_
  refine j_sld hC hX hbl hbA hv1 723 rfl d_law_722 ?_
  refine j_callVi hD jE_loc jT_good (As := [_]) (c_M_marked (ρ := wC ad cI cZ cB σ β mk (wo ao cJ f []))) yk_M_marked lk_L_99 ⟨rfl, rfl⟩ ⟨Nat.le_of_ble_eq_true rfl, Nat.le_of_ble_eq_true rfl⟩ 0 rfl rfl rfl rfl (Nat.le_of_ble_eq_true rfl) ⟨Nat.le_trans (Nat.le_succ _) hcc.1, Nat.le_trans (Nat.le_add_right _ 6) hcc.2⟩ d_law_723 726 rfl rfl ?_
  exact j_icmp_eq hC 756 729 rfl d_law_726 (by decide) (fun _ => j_widen (Nat.le_succ _) (Nat.le_add_right _ 6) (l_21 (kk σ β mk (sS μ 0 0) ν f (h.thr.up ht)))) (fun q => absurd (congrArg bI (h.2.2.2.1 _)) q)
set_option maxHeartbeats 4000000 in
set_option maxRecDepth 100000 in
theorem lw_count (hC : lC p s m c dC dI cI cZ cB cJ A b) (hX : va_X b L xs s s.heap) (hbl : b < s.heap.size) (hbA : ¬ A b) (hst : l.stackTraces = false) (h : Inv t σ β mk μ ν) (ht : t < 1000) (hv1 : vp_in (i + 1) L) (hcc : cells + 1 ≤ 1074 ∧ slots + 6 ≤ 19814)
    (kk : ∀ (σ' : S2) (β' : B2) (mk' : Int64) (μ' : S2) (ν' : B2) (f' : Nat → Int64), Inv (t + 1) σ' β' mk' μ' ν' → lJ p l e s m below meth c dC dI A b (cells + 1) (slots + 6) (w1 ad am ao cI cZ cB cJ σ' β' mk' f' μ' ν') 756 [(0, .ref b), (1, .ref (ad 0)), (2, .ref (am 0)), (3, .ref ao), (4, .int i)] []) : lJ p l e s m below meth c dC dI A b cells slots (w1 ad am ao cI cZ cB cJ σ β mk f μ ν) 731 [(0, .ref b), (1, .ref (ad 0)), (2, .ref (am 0)), (3, .ref ao), (4, .int i)] [] := by
  have hD := hC.weak jE2_1
  refine j_aload_n hC 1 732 rfl d_law_731 rfl rfl ?_
  refine j_aload_n hC 0 733 rfl d_law_732 rfl rfl ?_
  refine j_iload hC 4 735 rfl d_law_733 rfl ?_
  refine j_iconst (v := 1) hC 736 rfl d_law_735 (by decide) ?_
  refine j_iadd hC 737 rfl d_law_736 ?_
  refine j_sld hC hX hbl hbA hv1 738 rfl d_law_737 ?_
  refine j_callVi hD jE_loc jT_good (As := [_]) (c_C_count (ρ := wo ao cJ f (wM am cI cZ μ ν []))) yk_C_count lk_L_100 ⟨rfl, rfl⟩ ⟨Nat.le_of_ble_eq_true rfl, Nat.le_of_ble_eq_true rfl⟩ 0 rfl rfl rfl rfl (Nat.le_of_ble_eq_true rfl) ⟨Nat.le_trans (Nat.le_succ _) hcc.1, Nat.le_trans (Nat.le_add_right _ 6) hcc.2⟩ d_law_738 741 rfl rfl ?_
  refine l_12 (σ := σ) (β := β) (mk := mk) (f := f) (μ := μ) (ν := ν) ?_
  refine j_aload_n hC 2 742 rfl d_law_741 rfl rfl ?_
  refine j_aload_n hC 0 743 rfl d_law_742 rfl rfl ?_
  refine j_iload hC 4 745 rfl d_law_743 rfl ?_
  refine j_iconst (v := 1) hC 746 rfl d_law_745 (by decide) ?_
  refine j_iadd hC 747 rfl d_law_746 ?_
  refine j_sld hC hX hbl hbA hv1 748 rfl d_law_747 ?_
  refine j_callVi hD jE_loc jT_good (As := [_]) (c_M_count (ρ := wC ad cI cZ cB σ β mk (wo ao cJ f []))) yk_M_count lk_L_103 ⟨rfl, rfl⟩ ⟨Nat.le_of_ble_eq_true rfl, Nat.le_of_ble_eq_true rfl⟩ 0 rfl rfl rfl rfl (Nat.le_of_ble_eq_true rfl) ⟨Nat.le_trans (Nat.le_succ _) hcc.1, Nat.le_trans (Nat.le_add_right _ 6) hcc.2⟩ d_law_748 751 rfl rfl ?_
  exact j_icmp_eq hC 756 754 rfl d_law_751 (by decide) (fun _ => j_widen (Nat.le_succ _) (Nat.le_add_right _ 6) (l_21 (kk σ β mk (sS μ 0 0) ν f (h.thr.up ht)))) (fun q => absurd (pu_count h _) q)
end LW1
