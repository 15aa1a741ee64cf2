section KS
variable {t : Nat} {σ : S2} {β : B2} {mk : Int64} {μ : S2} {ν : B2}
variable {l : Launch} {dC : Nat → ClassId} {dI : Nat → Nat → Nat} {cI cZ cB cJ : ClassId} {ad am : Nat → Nat} {ρ : va_W} {ao : Nat} {f : Nat → Int64}
theorem st_op (hst : l.stackTraces = false) (h : Inv t σ β mk μ ν) (ht : t < 1000) (kind bytes prog : Int32) : ∃ (k0 b0 : Int32) (σ' : S2) (β' : B2) (mk' : Int64) (μ' : S2) (ν' : B2) (f' : Nat → Int64),
    kH l dC dI cI cZ cB cJ y_L_op b_L_op 6 [(0, 12, 15, 13), (0, 12, 19, 15)] [.ref (ad 0), .int kind, .int bytes, .int prog, .ref ao] (wC ad cI cZ cB σ β mk (wo ao cJ f ρ)) k0 (wC ad cI cZ cB σ' β' mk' (wo ao cJ f' ρ)) ∧
    (∀ ρ2 : va_W, kM l dC dI cI cZ cB cJ y_M_op b_M_op 5 (some .int) 1 21 [.ref (am 0), .int kind, .int bytes, .int prog] (wM am cI cZ μ ν ρ2) (some (.int b0)) (wM am cI cZ μ' ν' ρ2)) ∧ μ' 0 0 = k0 ∧ (k0 = 0 → f' 0 = b0.toInt64) ∧ Inv (t + 1) σ' β' mk' μ' ν' := by
  rcases pu_op h ht kind bytes prog with ⟨a1, a2⟩ | ⟨a1, a2, a3⟩ | ⟨a1, a2, a3, a4, a5⟩
  · exact ⟨1, 0, σ, β, mk, sS μ 0 1, ν, f, h_op_1 (v0 := 0) (t_C_op_1 hst a1), fun _ => c_M_op_thr a2 (by decide), rfl, fun q => absurd q (by decide), h.thr.up ht⟩
  · exact ⟨2, 0, σ, β, mk, sS μ 0 2, ν, f, h_op_2 (v0 := 0) (t_C_op_2 hst a1 a2), fun _ => c_M_op_thr a3 (by decide), rfl, fun q => absurd q (by decide), h.thr.up ht⟩
  · exact ⟨0, _, _, _, _, _, _, _, h_op_0 (c_C_op a1 a2), fun _ => c_M_op_ok a3, rfl, fun _ => pk_uLs.trans (congrArg Int32.toInt64 a4), a5⟩
theorem st_address (hst : l.stackTraces = false) (h : Inv t σ β mk μ ν) (ht : t < 1000) (op at0 : Int32) : ∃ (k0 b0 : Int32) (σ' : S2) (β' : B2) (mk' : Int64) (μ' : S2) (ν' : B2) (f' : Nat → Int64),
    kH l dC dI cI cZ cB cJ y_L_address b_L_address 5 [(0, 10, 13, 21), (0, 10, 17, 13)] [.ref (ad 0), .int op, .int at0, .ref ao] (wC ad cI cZ cB σ β mk (wo ao cJ f ρ)) k0 (wC ad cI cZ cB σ' β' mk' (wo ao cJ f' ρ)) ∧
    (∀ ρ2 : va_W, kM l dC dI cI cZ cB cJ y_M_address b_M_address 4 (some .int) 3 69 [.ref (am 0), .int op, .int at0] (wM am cI cZ μ ν ρ2) (some (.int b0)) (wM am cI cZ μ' ν' ρ2)) ∧ μ' 0 0 = k0 ∧ (k0 = 0 → f' 0 = b0.toInt64) ∧ Inv (t + 1) σ' β' mk' μ' ν' := by
  rcases pu_address h op at0 with ⟨a1, a2⟩ | ⟨n1, n2, a1, a2⟩ | ⟨n1, n2, g1, g2, g3, g4, th, hle, hz, hp, hv, h0, hI⟩
  · exact ⟨1, 0, σ, β, mk, sS μ 0 1, ν, f, h_address_1 (v0 := 0) (t_C_address_1 hst a1), fun _ => c_M_address_thr a2 (by decide), rfl, fun q => absurd q (by decide), h.thr.up ht⟩
  · exact ⟨2, 0, σ, β, mk, sS μ 0 2, ν, f, h_address_2 (v0 := 0) (t_C_address_2 hst n1 n2 a1), fun _ => c_M_address_thr a2 (by decide), rfl, fun q => absurd q (by decide), h.thr.up ht⟩
  · exact ⟨0, _, _, _, _, _, _, _, h_address_0 (c_C_address n1 n2 g1 g2 g3 g4), fun _ => c_M_address_ok th n1 hle hz hp, h0, fun _ => pk_uLs.trans (congrArg Int32.toInt64 hv), hI.up ht⟩
theorem st_number (hst : l.stackTraces = false) (h : Inv t σ β mk μ ν) (ht : t < 1000) (op v : Int32) : ∃ (k0 b0 : Int32) (σ' : S2) (β' : B2) (mk' : Int64) (μ' : S2) (ν' : B2) (f' : Nat → Int64),
    kH l dC dI cI cZ cB cJ y_L_number b_L_number 5 [(0, 10, 13, 21), (0, 10, 17, 13)] [.ref (ad 0), .int op, .int v, .ref ao] (wC ad cI cZ cB σ β mk (wo ao cJ f ρ)) k0 (wC ad cI cZ cB σ' β' mk' (wo ao cJ f' ρ)) ∧
    (∀ ρ2 : va_W, kM l dC dI cI cZ cB cJ y_M_number b_M_number 5 (some .int) 1 21 [.ref (am 0), .int op, .int v] (wM am cI cZ μ ν ρ2) (some (.int b0)) (wM am cI cZ μ' ν' ρ2)) ∧ μ' 0 0 = k0 ∧ (k0 = 0 → f' 0 = b0.toInt64) ∧ Inv (t + 1) σ' β' mk' μ' ν' := by
  rcases pu_number h op v with ⟨a1, a2⟩ | ⟨n1, n2, a1, a2⟩ | ⟨n1, n2, g1, g2, g3, th, hv, hI⟩
  · exact ⟨1, 0, σ, β, mk, sS μ 0 1, ν, f, h_number_1 (v0 := 0) (t_C_number_1 hst a1), fun _ => c_M_number_thr a2 (by decide), rfl, fun q => absurd q (by decide), h.thr.up ht⟩
  · exact ⟨2, 0, σ, β, mk, sS μ 0 2, ν, f, h_number_2 (v0 := 0) (t_C_number_2 hst n1 n2 a1), fun _ => c_M_number_thr a2 (by decide), rfl, fun q => absurd q (by decide), h.thr.up ht⟩
  · exact ⟨0, _, _, _, _, _, _, _, h_number_0 (c_C_number n1 n2 g1 g2 g3), fun _ => c_M_number_ok th, rfl, fun _ => pk_uLs.trans (congrArg Int32.toInt64 hv), hI.up ht⟩
theorem st_tried (hst : l.stackTraces = false) (h : Inv t σ β mk μ ν) (ht : t < 1000) (op : Int32) : ∃ (k0 b0 : Int32) (σ' : S2) (β' : B2) (mk' : Int64) (μ' : S2) (ν' : B2) (f' : Nat → Int64),
    kH l dC dI cI cZ cB cJ y_L_tried b_L_tried 4 [(0, 9, 12, 21), (0, 9, 15, 13)] [.ref (ad 0), .int op, .ref ao] (wC ad cI cZ cB σ β mk (wo ao cJ f ρ)) k0 (wC ad cI cZ cB σ' β' mk' (wo ao cJ f' ρ)) ∧
    (∀ ρ2 : va_W, kM l dC dI cI cZ cB cJ y_M_tried b_M_tried 6 (some .int) 4 94 [.ref (am 0), .int op] (wM am cI cZ μ ν ρ2) (some (.int b0)) (wM am cI cZ μ' ν' ρ2)) ∧ μ' 0 0 = k0 ∧ (k0 = 0 → f' 0 = b0.toInt64) ∧ Inv (t + 1) σ' β' mk' μ' ν' := by
  rcases pu_tried h op with ⟨a1, a2⟩ | ⟨n1, n2, a1, a2⟩ | ⟨n1, n2, z0, g1, g2, g3, g4, th, m0, m7, hz, hp, ha, hv, h0, hI⟩
  · exact ⟨1, 0, σ, β, mk, sS μ 0 1, ν, f, h_tried_1 (v0 := 0) (t_C_tried_1 hst a1), fun _ => c_M_tried_thr a2 (by decide), rfl, fun q => absurd q (by decide), h.thr.up ht⟩
  · exact ⟨2, 0, σ, β, mk, sS μ 0 2, ν, f, h_tried_2 (v0 := 0) (t_C_tried_2 hst n1 n2 a1), fun _ => c_M_tried_thr a2 (by decide), rfl, fun q => absurd q (by decide), h.thr.up ht⟩
  · exact ⟨0, _, _, _, _, _, _, _, h_tried_0 (c_C_tried n1 n2 z0 g1 g2 g3 g4), fun _ => c_M_tried_ok th m0 m7 hz hp ha, h0, fun _ => pk_uLs.trans (congrArg Int32.toInt64 hv), hI.up ht⟩
theorem st_loaded (hst : l.stackTraces = false) (h : Inv t σ β mk μ ν) (ht : t < 1000) (op : Int32) : ∃ (k0 b0 : Int32) (σ' : S2) (β' : B2) (mk' : Int64) (μ' : S2) (ν' : B2) (f' : Nat → Int64),
    kH l dC dI cI cZ cB cJ y_L_loaded b_L_loaded 4 [(0, 9, 12, 21), (0, 9, 15, 13), (0, 9, 18, 33)] [.ref (ad 0), .int op, .ref ao] (wC ad cI cZ cB σ β mk (wo ao cJ f ρ)) k0 (wC ad cI cZ cB σ' β' mk' (wo ao cJ f' ρ)) ∧
    (∀ ρ2 : va_W, kM l dC dI cI cZ cB cJ y_M_loaded b_M_loaded 4 (some .int) 1 21 [.ref (am 0), .int op] (wM am cI cZ μ ν ρ2) (some (.int b0)) (wM am cI cZ μ' ν' ρ2)) ∧ μ' 0 0 = k0 ∧ (k0 = 0 → f' 0 = b0.toInt64) ∧ Inv (t + 1) σ' β' mk' μ' ν' := by
  rcases pu_loaded h op with ⟨a1, a2⟩ | ⟨n1, n2, a1, a2⟩ | ⟨n1, n2, a1, a2, a3⟩ | ⟨n1, n2, a1, a2, th, hv⟩
  · exact ⟨1, 0, σ, β, mk, sS μ 0 1, ν, f, h_loaded_1 (v0 := 0) (t_C_loaded_1 hst a1), fun _ => c_M_loaded_thr a2 (by decide), rfl, fun q => absurd q (by decide), h.thr.up ht⟩
  · exact ⟨3, 0, σ, β, mk, sS μ 0 3, ν, f, h_loaded_3 (v0 := 0) (t_C_loaded_3 hst n1 n2 a1), fun _ => c_M_loaded_thr a2 (by decide), rfl, fun q => absurd q (by decide), h.thr.up ht⟩
  · exact ⟨2, 0, σ, β, mk, sS μ 0 2, ν, f, h_loaded_2 (v0 := 0) (t_C_loaded_2 hst n1 n2 a1 a2), fun _ => c_M_loaded_thr a3 (by decide), rfl, fun q => absurd q (by decide), h.thr.up ht⟩
  · exact ⟨0, _, _, _, _, _, _, _, h_loaded_0 (c_C_loaded n1 n2 a1 a2), fun _ => c_M_loaded_ok th, rfl, fun _ => pk_uLs.trans (congrArg Int32.toInt64 hv), h.thr.up ht⟩
theorem st_source (hst : l.stackTraces = false) (h : Inv t σ β mk μ ν) (ht : t < 1000) (op k : Int32) : ∃ (k0 b0 : Int32) (σ' : S2) (β' : B2) (mk' : Int64) (μ' : S2) (ν' : B2) (f' : Nat → Int64),
    kH l dC dI cI cZ cB cJ y_L_source b_L_source 5 [(0, 10, 13, 21), (0, 10, 17, 13), (0, 10, 21, 33)] [.ref (ad 0), .int op, .int k, .ref ao] (wC ad cI cZ cB σ β mk (wo ao cJ f ρ)) k0 (wC ad cI cZ cB σ' β' mk' (wo ao cJ f' ρ)) ∧
    (∀ ρ2 : va_W, kM l dC dI cI cZ cB cJ y_M_source b_M_source 4 (some .int) 1 21 [.ref (am 0), .int op, .int k] (wM am cI cZ μ ν ρ2) (some (.int b0)) (wM am cI cZ μ' ν' ρ2)) ∧ μ' 0 0 = k0 ∧ (k0 = 0 → f' 0 = b0.toInt64) ∧ Inv (t + 1) σ' β' mk' μ' ν' := by
  rcases pu_source h op k with ⟨a1, a2⟩ | ⟨n1, n2, a1, a2⟩ | ⟨n1, n2, a1, a2, a3, a4⟩ | ⟨n1, n2, g1, g2, g3, g4, th, k1, k2, hz, hv⟩
  · exact ⟨1, 0, σ, β, mk, sS μ 0 1, ν, f, h_source_1 (v0 := 0) (t_C_source_1 hst a1), fun _ => c_M_source_thr a2 (by decide), rfl, fun q => absurd q (by decide), h.thr.up ht⟩
  · exact ⟨2, 0, σ, β, mk, sS μ 0 2, ν, f, h_source_2 (v0 := 0) (t_C_source_2 hst n1 n2 a1), fun _ => c_M_source_thr a2 (by decide), rfl, fun q => absurd q (by decide), h.thr.up ht⟩
  · exact ⟨3, 0, σ, β, mk, sS μ 0 3, ν, f, h_source_3 (v0 := 0) (t_C_source_3 hst n1 n2 a1 a2 a3), fun _ => c_M_source_thr a4 (by decide), rfl, fun q => absurd q (by decide), h.thr.up ht⟩
  · exact ⟨0, _, _, _, _, _, _, _, h_source_0 (c_C_source n1 n2 g1 g2 g3 g4), fun _ => c_M_source_ok th hz k1 k2, rfl, fun _ => pk_uLs.trans (congrArg Int32.toInt64 (by rw [hv])), h.thr.up ht⟩
theorem st_other (hst : l.stackTraces = false) (h : Inv t σ β mk μ ν) (ht : t < 1000) (at0 v : Int32) : ∃ (k0 b0 : Int32) (σ' : S2) (β' : B2) (mk' : Int64) (μ' : S2) (ν' : B2) (f' : Nat → Int64),
    kH l dC dI cI cZ cB cJ y_L_other b_L_other 5 [(0, 10, 13, 13)] [.ref (ad 0), .int at0, .int v, .ref ao] (wC ad cI cZ cB σ β mk (wo ao cJ f ρ)) k0 (wC ad cI cZ cB σ' β' mk' (wo ao cJ f' ρ)) ∧
    (∀ ρ2 : va_W, kM l dC dI cI cZ cB cJ y_M_other b_M_other 4 (some .int) 2 45 [.ref (am 0), .int at0, .int v] (wM am cI cZ μ ν ρ2) (some (.int b0)) (wM am cI cZ μ' ν' ρ2)) ∧ μ' 0 0 = k0 ∧ (k0 = 0 → f' 0 = b0.toInt64) ∧ Inv (t + 1) σ' β' mk' μ' ν' := by
  rcases pu_other h at0 v with ⟨a1, a2⟩ | ⟨g1, g2, g3, th, m0, hz, ha, hv, h0, hI⟩
  · exact ⟨1, 0, σ, β, mk, sS μ 0 1, ν, f, h_other_1 (v0 := 0) (t_C_other_1 hst a1), fun _ => c_M_other_thr a2 (by decide), rfl, fun q => absurd q (by decide), h.thr.up ht⟩
  · exact ⟨0, _, _, _, _, _, _, _, h_other_0 (c_C_other g1 g2 g3), fun _ => c_M_other_ok th m0 hz ha, h0, fun _ => pk_uLs.trans (congrArg Int32.toInt64 hv), hI.up ht⟩
theorem st_memory (hst : l.stackTraces = false) (h : Inv t σ β mk μ ν) (ht : t < 1000) (at0 : Int32) : ∃ (k0 b0 : Int32) (σ' : S2) (β' : B2) (mk' : Int64) (μ' : S2) (ν' : B2) (f' : Nat → Int64),
    kH l dC dI cI cZ cB cJ y_L_memory b_L_memory 4 [(0, 9, 12, 13)] [.ref (ad 0), .int at0, .ref ao] (wC ad cI cZ cB σ β mk (wo ao cJ f ρ)) k0 (wC ad cI cZ cB σ' β' mk' (wo ao cJ f' ρ)) ∧
    (∀ ρ2 : va_W, kM l dC dI cI cZ cB cJ y_M_memory b_M_memory 2 (some .int) 0 0 [.ref (am 0), .int at0] (wM am cI cZ μ ν ρ2) (some (.int b0)) (wM am cI cZ μ' ν' ρ2)) ∧ μ' 0 0 = k0 ∧ (k0 = 0 → f' 0 = b0.toInt64) ∧ Inv (t + 1) σ' β' mk' μ' ν' := by
  rcases pu_memory h at0 with ⟨a1, a2⟩ | ⟨g1, th, ha, hv⟩
  · exact ⟨1, 0, σ, β, mk, sS μ 0 1, ν, f, h_memory_1 (v0 := 0) (t_C_memory_1 hst a1), fun _ => c_M_memory_thr a2 (by decide), rfl, fun q => absurd q (by decide), h.thr.up ht⟩
  · exact ⟨0, _, _, _, _, _, _, _, h_memory_0 (c_C_memory g1), fun _ => c_M_memory_ok th ha, rfl, fun _ => pk_uLs.trans (congrArg Int32.toInt64 hv), h.thr.up ht⟩
theorem st_forget (hst : l.stackTraces = false) (h : Inv t σ β mk μ ν) (ht : t < 1000) (op : Int32) : ∃ (k0 b0 : Int32) (σ' : S2) (β' : B2) (mk' : Int64) (μ' : S2) (ν' : B2) (f' : Nat → Int64),
    kH l dC dI cI cZ cB cJ y_L_forget b_L_forget 4 [(0, 9, 12, 21), (0, 9, 15, 13)] [.ref (ad 0), .int op, .ref ao] (wC ad cI cZ cB σ β mk (wo ao cJ f ρ)) k0 (wC ad cI cZ cB σ' β' mk' (wo ao cJ f' ρ)) ∧
    (∀ ρ2 : va_W, kM l dC dI cI cZ cB cJ y_M_forget b_M_forget 3 (some .int) 1 21 [.ref (am 0), .int op] (wM am cI cZ μ ν ρ2) (some (.int b0)) (wM am cI cZ μ' ν' ρ2)) ∧ μ' 0 0 = k0 ∧ (k0 = 0 → f' 0 = b0.toInt64) ∧ Inv (t + 1) σ' β' mk' μ' ν' := by
  rcases pu_forget h op with ⟨a1, a2⟩ | ⟨n1, n2, a1, a2⟩ | ⟨n1, n2, g1, th, hv, hI⟩
  · exact ⟨1, 0, σ, β, mk, sS μ 0 1, ν, f, h_forget_1 (v0 := 0) (t_C_forget_1 hst a1), fun _ => c_M_forget_thr a2 (by decide), rfl, fun q => absurd q (by decide), h.thr.up ht⟩
  · exact ⟨2, 0, σ, β, mk, sS μ 0 2, ν, f, h_forget_2 (v0 := 0) (t_C_forget_2 hst n1 n2 a1), fun _ => c_M_forget_thr a2 (by decide), rfl, fun q => absurd q (by decide), h.thr.up ht⟩
  · exact ⟨0, _, _, _, _, _, _, _, h_forget_0 (c_C_forget n1 n2 g1), fun _ => c_M_forget_ok th, rfl, fun _ => pk_uLs.trans (congrArg Int32.toInt64 hv), hI.up ht⟩
end KS
