theorem ol_C : Cond.methodLink R_C 1 Lib.objectInit ∈ jT := (List.mem_filter.mpr ⟨by decide +kernel, by decide +kernel⟩)
theorem ol_O : Cond.methodLink R_O 5 Lib.objectInit ∈ jT := (List.mem_filter.mpr ⟨by decide +kernel, by decide +kernel⟩)
theorem ol_B : Cond.methodLink R_B 3 Lib.objectInit ∈ jT := (List.mem_filter.mpr ⟨by decide +kernel, by decide +kernel⟩)
theorem ol_Y : Cond.methodLink R_Y 3 Lib.objectInit ∈ jT := (List.mem_filter.mpr ⟨by decide +kernel, by decide +kernel⟩)
theorem ol_M : Cond.methodLink R_M 1 Lib.objectInit ∈ jT := (List.mem_filter.mpr ⟨by decide +kernel, by decide +kernel⟩)
theorem oi_1 : Cond.instanceMethod Lib.objectInit ∈ jT := (List.mem_filter.mpr ⟨by decide +kernel, by decide +kernel⟩)
theorem oi_2 : Cond.code Lib.objectInit ⟨#[0xb1]⟩ 1 none ∈ jT := (List.mem_filter.mpr ⟨by decide +kernel, by decide +kernel⟩)
theorem ac_int : Cond.arrayClass .int ∈ jT := (List.mem_filter.mpr ⟨by decide +kernel, by decide +kernel⟩)
theorem ra_int (U : State) (c1 c2 : ClassId) (h1 : va_RA U c1 .int) (h2 : va_RA U c2 .int) : c1 = c2 := Option.some.inj (h1.symm.trans h2)
theorem ac_boolean : Cond.arrayClass .boolean ∈ jT := (List.mem_filter.mpr ⟨by decide +kernel, by decide +kernel⟩)
theorem ra_boolean (U : State) (c1 c2 : ClassId) (h1 : va_RA U c1 .boolean) (h2 : va_RA U c2 .boolean) : c1 = c2 := Option.some.inj (h1.symm.trans h2)
theorem ac_byte : Cond.arrayClass .byte ∈ jT := (List.mem_filter.mpr ⟨by decide +kernel, by decide +kernel⟩)
theorem ra_byte (U : State) (c1 c2 : ClassId) (h1 : va_RA U c1 .byte) (h2 : va_RA U c2 .byte) : c1 = c2 := Option.some.inj (h1.symm.trans h2)
theorem ac_long : Cond.arrayClass .long ∈ jT := (List.mem_filter.mpr ⟨by decide +kernel, by decide +kernel⟩)
theorem ra_long (U : State) (c1 c2 : ClassId) (h1 : va_RA U c1 .long) (h2 : va_RA U c2 .long) : c1 = c2 := Option.some.inj (h1.symm.trans h2)
theorem in_C : Cond.instantiable R_C 10 ∈ jT := (List.mem_filter.mpr ⟨by decide +kernel, by decide +kernel⟩)
theorem ii_C : Cond.initialized R_C ∈ jT := (List.mem_filter.mpr ⟨by decide +kernel, by decide +kernel⟩)
theorem yi_C : jYi jT y_C_init b_C_init 1 := ⟨(List.mem_filter.mpr ⟨by decide +kernel, by decide +kernel⟩), (List.mem_filter.mpr ⟨by decide +kernel, by decide +kernel⟩), ii_C, rfl, ⟨by decide +kernel, by decide +kernel⟩, by decide +kernel⟩
theorem in_O : Cond.instantiable R_O 10 ∈ jT := (List.mem_filter.mpr ⟨by decide +kernel, by decide +kernel⟩)
theorem ii_O : Cond.initialized R_O ∈ jT := (List.mem_filter.mpr ⟨by decide +kernel, by decide +kernel⟩)
theorem yi_O : jYi jT y_O_init b_O_init 1 := ⟨(List.mem_filter.mpr ⟨by decide +kernel, by decide +kernel⟩), (List.mem_filter.mpr ⟨by decide +kernel, by decide +kernel⟩), ii_O, rfl, ⟨by decide +kernel, by decide +kernel⟩, by decide +kernel⟩
theorem in_B : Cond.instantiable R_B 5 ∈ jT := (List.mem_filter.mpr ⟨by decide +kernel, by decide +kernel⟩)
theorem ii_B : Cond.initialized R_B ∈ jT := (List.mem_filter.mpr ⟨by decide +kernel, by decide +kernel⟩)
theorem yi_B : jYi jT y_B_init b_B_init 1 := ⟨(List.mem_filter.mpr ⟨by decide +kernel, by decide +kernel⟩), (List.mem_filter.mpr ⟨by decide +kernel, by decide +kernel⟩), ii_B, rfl, ⟨by decide +kernel, by decide +kernel⟩, by decide +kernel⟩
theorem in_Y : Cond.instantiable R_Y 1 ∈ jT := (List.mem_filter.mpr ⟨by decide +kernel, by decide +kernel⟩)
theorem ii_Y : Cond.initialized R_Y ∈ jT := (List.mem_filter.mpr ⟨by decide +kernel, by decide +kernel⟩)
theorem yi_Y : jYi jT y_Y_init b_Y_init 1 := ⟨(List.mem_filter.mpr ⟨by decide +kernel, by decide +kernel⟩), (List.mem_filter.mpr ⟨by decide +kernel, by decide +kernel⟩), ii_Y, rfl, ⟨by decide +kernel, by decide +kernel⟩, by decide +kernel⟩
theorem in_M : Cond.instantiable R_M 23 ∈ jT := (List.mem_filter.mpr ⟨by decide +kernel, by decide +kernel⟩)
theorem ii_M : Cond.initialized R_M ∈ jT := (List.mem_filter.mpr ⟨by decide +kernel, by decide +kernel⟩)
theorem yi_M : jYi jT y_M_init b_M_init 1 := ⟨(List.mem_filter.mpr ⟨by decide +kernel, by decide +kernel⟩), (List.mem_filter.mpr ⟨by decide +kernel, by decide +kernel⟩), ii_M, rfl, ⟨by decide +kernel, by decide +kernel⟩, by decide +kernel⟩
theorem nc_7 : Cond.classLink R_C 7 R_O ∈ jT := (List.mem_filter.mpr ⟨by decide +kernel, by decide +kernel⟩)
theorem nc_16 : Cond.classLink R_C 16 R_B ∈ jT := (List.mem_filter.mpr ⟨by decide +kernel, by decide +kernel⟩)
theorem nc_23 : Cond.classLink R_C 23 R_Y ∈ jT := (List.mem_filter.mpr ⟨by decide +kernel, by decide +kernel⟩)
theorem nl_8 : Cond.classLink R_L 8 R_C ∈ jT := (List.mem_filter.mpr ⟨by decide +kernel, by decide +kernel⟩)
theorem nl_48 : Cond.classLink R_L 48 R_M ∈ jT := (List.mem_filter.mpr ⟨by decide +kernel, by decide +kernel⟩)
abbrev kI (l : Launch) (dC : Nat → ClassId) (dI : Nat → Nat → Nat) (cI cZ cB cJ : ClassId) (y : MethodName) (bytes : ByteArray) (mc ms f n : Nat) (a : Nat) (w : va_W) (P : va_W → Prop) : Prop :=
  iM l (dC, dI) vwCl (jty cI cZ cB cJ) jE y (Cond.code y bytes 1 none :: jT) { frames := f, cells := mc, slots := ms, locals := n } [.ref a] w P mc ms
def zS : S2 := fun _ _ => 0
def zB : B2 := fun _ _ => false
theorem nest_C_9 {p : Program} {s : State} {m : MethodId} {args : Array Value} {c : Code} {cc : ByteArray} {nL : Nat} {own : String} {Ts : List Cond} {D : va_G} {cl : List vw_C} {tys : List (ClassId × FieldType)} {A : Nat → Prop} {Sx : Heap → List Loc → Prop} (C : jC p s m args c cc nL own Ts D cl tys A Sx jE) : (Cond.methodLinkNest R_C 9 y_O_init "LoadStoreRows").before args s = true :=
  va_Nw.use rfl ((C.ev s (fun _ _ _ => rfl) (State.WarmedH.refl s)).1 _ (by simp [jNw]))
theorem nest_C_18 {p : Program} {s : State} {m : MethodId} {args : Array Value} {c : Code} {cc : ByteArray} {nL : Nat} {own : String} {Ts : List Cond} {D : va_G} {cl : List vw_C} {tys : List (ClassId × FieldType)} {A : Nat → Prop} {Sx : Heap → List Loc → Prop} (C : jC p s m args c cc nL own Ts D cl tys A Sx jE) : (Cond.methodLinkNest R_C 18 y_B_init "LoadStoreRows").before args s = true :=
  va_Nw.use rfl ((C.ev s (fun _ _ _ => rfl) (State.WarmedH.refl s)).1 _ (by simp [jNw]))
theorem nest_C_25 {p : Program} {s : State} {m : MethodId} {args : Array Value} {c : Code} {cc : ByteArray} {nL : Nat} {own : String} {Ts : List Cond} {D : va_G} {cl : List vw_C} {tys : List (ClassId × FieldType)} {A : Nat → Prop} {Sx : Heap → List Loc → Prop} (C : jC p s m args c cc nL own Ts D cl tys A Sx jE) : (Cond.methodLinkNest R_C 25 y_Y_init "LoadStoreRows").before args s = true :=
  va_Nw.use rfl ((C.ev s (fun _ _ _ => rfl) (State.WarmedH.refl s)).1 _ (by simp [jNw]))
