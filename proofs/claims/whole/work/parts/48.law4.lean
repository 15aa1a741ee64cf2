section LW4
variable {p : Program} {l : Launch} {e : Env} {s : State} {m : MethodId} {below : List Frame} {meth : Method} {c : Code} {cells slots : Nat}
variable {dC : Nat → ClassId} {dI : Nat → Nat → Nat} {cI cZ cB cJ : ClassId} {A : Nat → Prop} {ad am : Nat → Nat} {ao : Nat} {f : Nat → Int64} {σ μ : S2} {β ν : B2} {mk : Int64} {t b L : Nat} {xs : Nat → Int32} {i : Int32}
set_option maxHeartbeats 8000000 in
set_option maxRecDepth 100000 in
theorem lw_s2 (hC : lC p s m c dC dI cI cZ cB cJ A b) (hX : va_X b L xs s s.heap) (hbl : b < s.heap.size) (hbA : ¬ A b) (hst : l.stackTraces = false) (hr : meth.sig.returnType = ret) (hlk : meth.locks = false) (hA : ∀ q, A q → s.heap.size ≤ q) (hL : L ≤ 2048) : lJ p l e s m below meth c dC dI A b 19 5802 (wC ad cI cZ cB zS zB 0 []) 8 [(1, .ref (ad 0)), (0, .ref b)] [] := by
  have hD := hC.weak jE2_1
  refine j_new hC (ci := 4) iw_M t_M tk_M (List.mem_cons_of_mem _ nl_48) (List.mem_cons_of_mem _ in_M) (List.mem_cons_of_mem _ ii_M) rfl (fs := [.int 0, .int 0, .int 0, .int 0, .int 0, .int 0, .int 0, .null, .null, .null, .null, .null, .null, .null, .null, .null, .null, .null, .null, .null, .null, .null, .int 0]) (by decide +kernel) (Nat.le_of_ble_eq_true rfl) (Nat.le_of_ble_eq_true rfl) 11 rfl d_law_8 (fun aM => ?_)
  refine j_perm (w2 := (aM, .inr (4, [.int 0, .int 0, .int 0, .int 0, .int 0, .int 0, .int 0, .null, .null, .null, .null, .null, .null, .null, .null, .null, .null, .null, .null, .null, .null, .null, .int 0])) :: wC ad cI cZ cB zS zB 0 []) [19, 0, 1, 2, 3, 4, 5, 6, 7, 8, 9, 10, 11, 12, 13, 14, 15, 16, 17, 18] rfl rfl rfl ?_
  refine j_dup hC 12 rfl d_law_11 rfl ?_
  refine j_callI hD jE_loc jT_good (i_M_init (ρ := wC ad cI cZ cB zS zB 0 [])) yi_M lk_L_50 ⟨rfl, rfl⟩ ⟨Nat.le_of_ble_eq_true rfl, Nat.le_of_ble_eq_true rfl⟩ (Nat.le_of_ble_eq_true rfl) ⟨Nat.le_of_ble_eq_true rfl, Nat.le_of_ble_eq_true rfl⟩ d_law_12 15 rfl (fun w9 hw9 => ?_)
  obtain ⟨q0, q1, q2, q3, q4, q5, q6, q7, q8, q9, q10, q11, q12, q13, q14, rfl⟩ := hw9
  obtain ⟨am, rfl, rfl, rfl, rfl, rfl, rfl, rfl, rfl, rfl, rfl, rfl, rfl, rfl, rfl, rfl, rfl⟩ : ∃ am : Nat → Nat, am 0 = aM ∧ am 10 = q0 ∧ am 11 = q1 ∧ am 12 = q2 ∧ am 13 = q3 ∧ am 14 = q4 ∧ am 15 = q5 ∧ am 16 = q6 ∧ am 17 = q7 ∧ am 18 = q8 ∧ am 19 = q9 ∧ am 20 = q10 ∧ am 21 = q11 ∧ am 22 = q12 ∧ am 23 = q13 ∧ am 24 = q14 := ⟨fun k => [aM, 0, 0, 0, 0, 0, 0, 0, 0, 0, q0, q1, q2, q3, q4, q5, q6, q7, q8, q9, q10, q11, q12, q13, q14].getD k 0, rfl, rfl, rfl, rfl, rfl, rfl, rfl, rfl, rfl, rfl, rfl, rfl, rfl, rfl, rfl, rfl⟩
  exact lw_s3 hC hX hbl hbA hst hr hlk hA hL
end LW4
