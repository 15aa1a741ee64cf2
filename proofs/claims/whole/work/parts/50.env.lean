/-! what the law finds at its entry -/
section LWE
variable {s : State} {args : Array Value}
theorem env_A {ty : FieldType} (h : (Cond.arrayClass ty).before args s = true) (hp : ∀ (U : State) (c1 : ClassId), U.vm.findClass ("[" ++ ty.toString) = some c1 → va_RA U c1 ty) : ∃ cA : ClassId, ArrOfT s cA ty ∧ va_RA s cA ty := by
  obtain ⟨cA, kA, comp, h1, h2, h3⟩ := Cond.arrayClass_spec h
  exact ⟨cA, fun n z => ⟨fun k h => (by cases h), kA, h2, comp, h3⟩, hp s cA h1⟩
theorem env_K (hts : ∀ w ∈ lw_tbl, w.before args s = true) : ∃ (dC : Nat → ClassId) (dI : Nat → Nat → Nat) (cI cZ cB cJ : ClassId), va_K (dC, dI) vwCl (jty cI cZ cB cJ) s := by
  have hj : ∀ w ∈ jT, w.before args s = true := fun w hw => hts w (List.mem_filter.mp hw).1
  obtain ⟨c0, s0, k0⟩ := u_known hts i_C (hj _ in_C)
  obtain ⟨c1, s1, k1⟩ := u_known hts i_O (hj _ in_O)
  obtain ⟨c2, s2, k2⟩ := u_known hts i_B (hj _ in_B)
  obtain ⟨c3, s3, k3⟩ := u_known hts i_Y (hj _ in_Y)
  obtain ⟨c4, s4, k4⟩ := u_known hts i_M (hj _ in_M)
  obtain ⟨cI, a1, a2⟩ := env_A (hj _ ac_int) (fun U c1 h => h)
  obtain ⟨cZ, b1, b2⟩ := env_A (hj _ ac_boolean) (fun U c1 h => h)
  obtain ⟨cB, d1, d2⟩ := env_A (hj _ ac_byte) (fun U c1 h => h)
  obtain ⟨cJ, e1, e2⟩ := env_A (hj _ ac_long) (fun U c1 h => h)
  refine ⟨fun k => match k with | 0 => c0 | 1 => c1 | 2 => c2 | 3 => c3 | _ => c4, fun k => match k with | 0 => s0 | 1 => s1 | 2 => s2 | 3 => s3 | _ => s4, cI, cZ, cB, cJ, ?_, ?_⟩
  · intro n q h
    match n, h with
    | 0, h => cases h; exact k0
    | 1, h => cases h; exact k1
    | 2, h => cases h; exact k2
    | 3, h => cases h; exact k3
    | 4, h => cases h; exact k4
    | n + 5, h => cases h
  · intro n q h
    match n, h with
    | 0, h => cases h; exact ⟨a1, a2⟩
    | 1, h => cases h; exact ⟨b1, b2⟩
    | 2, h => cases h; exact ⟨d1, d2⟩
    | 3, h => cases h; exact ⟨e1, e2⟩
    | n + 4, h => cases h
theorem ev_nw : ∀ w ∈ jNw, w ∈ lw_tbl := by decide +kernel
theorem ev_st : ∀ q ∈ jSt, Cond.stringRef R_C q.1 q.2 ∈ lw_tbl := by decide +kernel
theorem ev_l1 : tLay "UNASSIGNED_STACK" Bundle.steD ∈ lw_tbl := by decide +kernel
theorem ev_l2 : tLay "SUPPRESSED_SENTINEL" Bundle.listD ∈ lw_tbl := by decide +kernel
theorem ev_r1 : tRef "UNASSIGNED_STACK" Bundle.steD ∈ flatC (Jvm.Cond.and given_1 narrow_1) := by decide +kernel
theorem ev_r2 : tRef "SUPPRESSED_SENTINEL" Bundle.listD ∈ flatC (Jvm.Cond.and given_1 narrow_1) := by decide +kernel
theorem ev_nc : ∀ q ∈ tPairs, Cond.not (.castable q.1 q.2) ∈ flatC (Jvm.Cond.and given_1 narrow_1) := by decide +kernel
theorem env_Z {n d : String} (h1 : (tLay n d).before args s = true) (h2 : (tRef n d).before args s = true) : jZ n d s := by
  obtain ⟨c, k, i, f, a, cell, g1, g2, g3, g4, g5, g6, g7, g8, g9⟩ := Cond.laysStatic_spec (show (Cond.laysStatic Bundle.tN n d).holds args s none s [] = true from h1)
  obtain ⟨u, hu⟩ := Cond.staticRefV g2 g3 g4 g5 g6 (show (Cond.isRef (.static Bundle.tN n d)).holds args s none s [] = true from h2)
  exact ⟨c, k, i, f, a, cell, u.v, g1, g2, g3, g4, g5, g6, g7, g8, g9, hu, u.2⟩
theorem env_E (hts : ∀ w ∈ lw_tbl, w.before args s = true) (hgv : (Jvm.Cond.and given_1 narrow_1).before args s = true) : jE2 s := by
  have hg := flat_of_before _ hgv
  refine ⟨⟨fun w hw => ?_, fun q hq => ?_, env_Z (hts _ ev_l1) (hg _ ev_r1), env_Z (hts _ ev_l2) (hg _ ev_r2)⟩, fun q hq => ?_⟩
  · have h := hts w (ev_nw w hw)
    have e := Cond.onTables_vm (A := args) (A' := #[]) (U := s) (U' := s) s.vm w (jNw_tab w hw)
    rw [State.setVm_self] at e
    show w.before #[] s = true
    rw [← e]
    exact h
  · have h := hts _ (ev_st q hq)
    obtain ⟨c1, k1, h1, -⟩ := Cond.instantiable_spec (show (Cond.instantiable R_C 10).holds args s none s [] = true from hts _ (List.mem_filter.mp in_C).1)
    obtain ⟨k, cf, i, a, -, -, -, -, -, hev⟩ := Cond.stringRef_spec (cur := c1) h1 (show (Cond.stringRef R_C q.1 q.2).holds args s none s [] = true from h)
    exact ⟨a, vk_R.of h hev⟩
  · exact hg _ (ev_nc q hq)
theorem vaP_nil {D : va_G} {cl : List vw_C} {H : Heap} : va_P D cl [] H := fun k q h => by cases h
theorem vaD_nil {A : Nat → Prop} : va_D A [] := ⟨fun i j p q h => (by cases h), fun k q h => (by cases h)⟩
end LWE
/-- from the entry, for every script of at most 2048 ints, the law comes to its end with true -/
theorem whole_start {p : Program} {e : Env} {s : State} {m : MethodId} {below : List Frame} {meth : Method} {c : Code} (l : Launch) (hst : l.stackTraces = false) {b L : Nat} {xs : Nat → Int32} (hL : L ≤ 2048) (C0 : lw_At p s m meth c b L xs) : W p l e room_1 s m #[Value.ref b] below meth c s.heap [] 0 0 (lw_Z below #[Value.ref b] s) (entryFrame m ([Value.ref b] : List Value).toArray 7) := by
  obtain ⟨hx, hb, hr, hml, hown, hts, hX, hbl, hlk, hgv⟩ := C0
  obtain ⟨dC, dI, cI, cZ, cB, cJ, hK⟩ := env_K hts
  have hE := env_E hts hgv
  have hC : lC p s m c dC dI cI cZ cB cJ (fun q => s.heap.size ≤ q) b := ⟨hx, hb, hml, hown, fun w hw => by
      rcases List.mem_cons.mp hw with rfl | h
      · rfl
      · exact hts _ (List.mem_filter.mp h).1, hK, fun q h => h, fun U hq hW => jE2_loc.2 s U [] hE (vaP_nil (D := (dC, dI)) (cl := vwCl)) (fun q h1 h2 => hq q h1 (fun h3 => h2 (Or.inr h3))) hW, fun _ _ h => h⟩
  have K := lw_start (l := l) (e := e) (below := below) (meth := meth) hC hX hbl (Nat.not_le.mpr hbl) hst hr hlk (fun q h => h) hL
  have hl := lv_entry [Value.ref b] (n := 7) (Nat.le_of_ble_eq_true rfl)
  rw [lg_entry_eq]
  exact K s.heap [] _ vaP_nil vaD_nil va_S.rf hl
