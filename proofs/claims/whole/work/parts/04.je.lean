/-! what every contract takes along beside its world: links within the nest, texts, two statics of Throwable -/
def jNw : List Cond := [Cond.methodLinkNest R_C 9 y_O_init "LoadStoreRows", Cond.methodLinkNest R_C 18 y_B_init "LoadStoreRows", Cond.methodLinkNest R_C 25 y_Y_init "LoadStoreRows", Cond.methodLinkNest R_Y 19 y_C_byteOfNumber "LoadStoreRows", Cond.methodLinkNest R_O 64 y_C_byteOfNumber "LoadStoreRows", Cond.methodLinkNest R_B 34 y_C_byteOfNumber "LoadStoreRows"]
def jSt : List (Nat × String) := [(59, "no such kind, or not with so many bytes"), (70, "32 ops wait"), (222, "no op with that number"), (92, "no op that waits for an address"), (100, "can not be its address"), (124, "no op that waits for a number"), (132, "no load that can be tried"), (151, "64 ops or more came behind it"), (157, "nothing was loaded by it"), (162, "no load that is done and waits"), (164, "no such byte of it"), (190, "no such byte, or no byte's number"), (198, "no such byte"), (203, "it does not wait")]
def jZ (n d : String) (U : State) : Prop := ∃ (c : ClassId) (k : Class) (i : Nat) (f : Field) (a : Nat) (cell : Cell) (v : Value), U.vm.findClass Bundle.tN = some c ∧ U.fieldFound? Bundle.tN n d = some (c, k, i, f) ∧ f.isStatic = true ∧ k.statics = some a ∧ U.heap[a]? = some cell ∧ cell.vm.isStatics = true ∧ cell.cls = c ∧ f.slot < cell.slots.size ∧ k.staticTypes[f.slot]? = some f.type ∧ cell.slots[f.slot]? = some v ∧ v.isRef = true
def jE (U : State) : Prop := (∀ w ∈ jNw, va_Nw w U) ∧ (∀ q ∈ jSt, ∃ a, vk_R R_C q.1 q.2 a U) ∧ jZ "UNASSIGNED_STACK" Bundle.steD U ∧ jZ "SUPPRESSED_SENTINEL" Bundle.listD U
theorem va_at_vm {D : va_G} {cl : List vw_C} {a : Nat} {x : va_E} {H : Heap} (h : va_at D cl (a, x) H) : ∃ cell : Cell, H[a]? = some cell ∧ cell.vm = .none := by
  cases x with
  | inl y =>
    obtain ⟨cA, n, f | f | f | f | f⟩ := y
    · exact ⟨_, h, rfl⟩
    · exact ⟨_, h, rfl⟩
    · exact ⟨_, h, rfl⟩
    · exact ⟨_, h, rfl⟩
    · exact ⟨_, h, rfl⟩
  | inr o =>
    obtain ⟨r, h1, cell, h2, h3, h4, -⟩ := h
    exact ⟨cell, h2, h4⟩
theorem jZ_kept {D : va_G} {cl : List vw_C} {n d : String} {s U : State} {w : va_W} (h : jZ n d s) (hP : va_P D cl w s.heap) (hq : ∀ q : Nat, q < s.heap.size → ¬ va_A w s.heap.size q → U.heap[q]? = s.heap[q]?) (hW : s.WarmedH U.vm) : jZ n d U := by
  obtain ⟨c, k, i, f, a, cell, v, h1, h2, h3, h4, h5, h6, h7, h8, h9, h10, h11⟩ := h
  have ha : a < s.heap.size := (Array.getElem?_eq_some_iff.mp h5).1
  have hn : ¬ va_A w s.heap.size a := by
    rintro (⟨j, x, hj⟩ | hj)
    · obtain ⟨c2, g1, g2⟩ := va_at_vm (hP j _ hj)
      cases Option.some.inj (h5.symm.trans g1)
      rw [g2] at h6
      cases h6
    · omega
  have hvm := hW.alike
  obtain ⟨k', hi', he⟩ := State.fieldFound?_setVm hvm h2
  exact ⟨c, k', i, f, a, cell, v, by rw [hvm.findClass]; exact h1, hi', h3, by rw [he]; exact h4, by rw [hq a ha hn]; exact h5, h6, h7, h8, by rw [he]; exact h9, h10, h11⟩
theorem jNw_warm {s U : State} (hW : s.WarmedH U.vm) (h : ∀ w ∈ jNw, va_Nw w s) : ∀ w ∈ jNw, va_Nw w U := by
  intro w hw
  have h1 := h w hw
  simp only [jNw, List.mem_cons, List.not_mem_nil, or_false] at hw
  rcases hw with rfl | rfl | rfl | rfl | rfl | rfl <;> exact va_Nw.warmM hW h1
theorem jNw_tab : ∀ w ∈ jNw, w.onTables = true := by decide +kernel
theorem jE_loc {D : va_G} {cl : List vw_C} : jLoc D cl jE := by
  refine ⟨fun a U g mk h => ⟨fun w hw => va_Nw.same (jNw_tab w hw) (u := U) rfl (h.1 w hw), fun q hq => ?_, ?_, ?_⟩, fun s U w h hP hq hW => ⟨jNw_warm hW h.1, fun q hq => ?_, jZ_kept h.2.2.1 hP hq hW, jZ_kept h.2.2.2 hP hq hW⟩⟩
  · obtain ⟨b, hb⟩ := h.2.1 q hq
    exact ⟨b, vk_R.same (u := U) rfl hb⟩
  · exact h.2.2.1
  · exact h.2.2.2
  · obtain ⟨b, hb⟩ := h.2.1 q hq
    exact ⟨b, vk_R.warm hW hb⟩
theorem nest_Y_19 {p : Program} {s : State} {m : MethodId} {args : Array Value} {c : Code} {cc : ByteArray} {nL : Nat} {own : String} {Ts : List Cond} {D : va_G} {cl : List vw_C} {tys : List (ClassId × FieldType)} {A : Nat → Prop} {Sx : Heap → List Loc → Prop} (C : jC p s m args c cc nL own Ts D cl tys A Sx jE) : (Cond.methodLinkNest R_Y 19 y_C_byteOfNumber "LoadStoreRows").before args s = true :=
  va_Nw.use rfl ((C.ev s (fun _ _ _ => rfl) (State.WarmedH.refl s)).1 _ (by simp [jNw]))
theorem nest_O_64 {p : Program} {s : State} {m : MethodId} {args : Array Value} {c : Code} {cc : ByteArray} {nL : Nat} {own : String} {Ts : List Cond} {D : va_G} {cl : List vw_C} {tys : List (ClassId × FieldType)} {A : Nat → Prop} {Sx : Heap → List Loc → Prop} (C : jC p s m args c cc nL own Ts D cl tys A Sx jE) : (Cond.methodLinkNest R_O 64 y_C_byteOfNumber "LoadStoreRows").before args s = true :=
  va_Nw.use rfl ((C.ev s (fun _ _ _ => rfl) (State.WarmedH.refl s)).1 _ (by simp [jNw]))
theorem nest_B_34 {p : Program} {s : State} {m : MethodId} {args : Array Value} {c : Code} {cc : ByteArray} {nL : Nat} {own : String} {Ts : List Cond} {D : va_G} {cl : List vw_C} {tys : List (ClassId × FieldType)} {A : Nat → Prop} {Sx : Heap → List Loc → Prop} (C : jC p s m args c cc nL own Ts D cl tys A Sx jE) : (Cond.methodLinkNest R_B 34 y_C_byteOfNumber "LoadStoreRows").before args s = true :=
  va_Nw.use rfl ((C.ev s (fun _ _ _ => rfl) (State.WarmedH.refl s)).1 _ (by simp [jNw]))
