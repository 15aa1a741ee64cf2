section LW5
variable {p : Program} {l : Launch} {e : Env} {s : State} {m : MethodId} {below : List Frame} {meth : Method} {c : Code} {cells slots : Nat}
variable {dC : Nat → ClassId} {dI : Nat → Nat → Nat} {cI cZ cB cJ : ClassId} {A : Nat → Prop} {ad am : Nat → Nat} {ao : Nat} {f : Nat → Int64} {σ μ : S2} {β ν : B2} {mk : Int64} {t b L : Nat} {xs : Nat → Int32} {i : Int32}
set_option maxHeartbeats 8000000 in
set_option maxRecDepth 100000 in
theorem lw_start (hC : lC p s m c dC dI cI cZ cB cJ A b) (hX : va_X b L xs s s.heap) (hbl : b < s.heap.size) (hbA : ¬ A b) (hst : l.stackTraces = false) (hr : meth.sig.returnType = ret) (hlk : meth.locks = false) (hA : ∀ q, A q → s.heap.size ≤ q) (hL : L ≤ 2048) : lJ p l e s m below meth c dC dI A b 0 0 [] 0 [(0, .ref b)] [] := by
  have hD := hC.weak jE2_1
  refine j_new hC (ci := 0) iw_C t_C tk_C (List.mem_cons_of_mem _ nl_8) (List.mem_cons_of_mem _ in_C) (List.mem_cons_of_mem _ ii_C) rfl (fs := [.null, .null, .null, .int 0, .int 0, .long 0, .int 0, .int 0, .int 0, .int 0]) (by decide +kernel) (Nat.le_of_ble_eq_true rfl) (Nat.le_of_ble_eq_true rfl) 3 rfl d_law_0 (fun aC => ?_)
  refine j_dup hC 4 rfl d_law_3 rfl ?_
  refine j_callI hD jE_loc jT_good i_C_init yi_C lk_L_47 ⟨rfl, rfl⟩ ⟨Nat.le_of_ble_eq_true rfl, Nat.le_of_ble_eq_true rfl⟩ (Nat.le_of_ble_eq_true rfl) ⟨Nat.le_of_ble_eq_true rfl, Nat.le_of_ble_eq_true rfl⟩ d_law_4 7 rfl (fun w9 hw9 => ?_)
  obtain ⟨ad, rfl, rfl⟩ := hw9
  refine j_astore_n (lv' := [(1, _), (0, _)]) hC 8 rfl d_law_7 rfl (by decide) rfl ?_
  exact lw_s2 hC hX hbl hbA hst hr hlk hA hL
end LW5
