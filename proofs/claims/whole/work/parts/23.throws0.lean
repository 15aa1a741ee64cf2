abbrev kT (l : Launch) (dC : Nat → ClassId) (dI : Nat → Nat → Nat) (cI cZ cB cJ : ClassId) (y : MethodName) (bytes : ByteArray) (maxL : Nat) (ret : Option FieldType) (f n : Nat) (av : List Value) (w : va_W) (X : String) : Prop :=
  tM l (dC, dI) vwCl (jty cI cZ cB cJ) jE y (Cond.code y bytes maxL ret :: jT) { frames := f, cells := 1, slots := 6, locals := n } av w X
theorem tw_61 : tWs 61 "java/lang/IllegalArgumentException" := by
  unfold tWs
  decide +kernel
theorem t6_61 : Cond.instantiable "java/lang/IllegalArgumentException" 6 ∈ jT := List.mem_filter.mpr ⟨by decide +kernel, by decide +kernel⟩
theorem tf_61 : Bundle.fit "java/lang/IllegalArgumentException" = true := by decide +kernel
theorem ti_61 : Cond.initialized "java/lang/IllegalArgumentException" ∈ jT := List.mem_filter.mpr ⟨by decide +kernel, by decide +kernel⟩
theorem tw_72 : tWs 72 "java/lang/UnsupportedOperationException" := by
  unfold tWs
  decide +kernel
theorem t6_72 : Cond.instantiable "java/lang/UnsupportedOperationException" 6 ∈ jT := List.mem_filter.mpr ⟨by decide +kernel, by decide +kernel⟩
theorem tf_72 : Bundle.fit "java/lang/UnsupportedOperationException" = true := by decide +kernel
theorem ti_72 : Cond.initialized "java/lang/UnsupportedOperationException" ∈ jT := List.mem_filter.mpr ⟨by decide +kernel, by decide +kernel⟩
theorem tw_224 : tWs 224 "java/lang/IndexOutOfBoundsException" := by
  unfold tWs
  decide +kernel
theorem t6_224 : Cond.instantiable "java/lang/IndexOutOfBoundsException" 6 ∈ jT := List.mem_filter.mpr ⟨by decide +kernel, by decide +kernel⟩
theorem tf_224 : Bundle.fit "java/lang/IndexOutOfBoundsException" = true := by decide +kernel
theorem ti_224 : Cond.initialized "java/lang/IndexOutOfBoundsException" ∈ jT := List.mem_filter.mpr ⟨by decide +kernel, by decide +kernel⟩
theorem tw_153 : tWs 153 "java/lang/IllegalStateException" := by
  unfold tWs
  decide +kernel
theorem t6_153 : Cond.instantiable "java/lang/IllegalStateException" 6 ∈ jT := List.mem_filter.mpr ⟨by decide +kernel, by decide +kernel⟩
theorem tf_153 : Bundle.fit "java/lang/IllegalStateException" = true := by decide +kernel
theorem ti_153 : Cond.initialized "java/lang/IllegalStateException" ∈ jT := List.mem_filter.mpr ⟨by decide +kernel, by decide +kernel⟩
theorem tc_57 : Cond.classLink R_C 57 "java/lang/IllegalArgumentException" ∈ jT := List.mem_filter.mpr ⟨by decide +kernel, by decide +kernel⟩
theorem tc_68 : Cond.classLink R_C 68 "java/lang/UnsupportedOperationException" ∈ jT := List.mem_filter.mpr ⟨by decide +kernel, by decide +kernel⟩
theorem tc_220 : Cond.classLink R_C 220 "java/lang/IndexOutOfBoundsException" ∈ jT := List.mem_filter.mpr ⟨by decide +kernel, by decide +kernel⟩
theorem tc_149 : Cond.classLink R_C 149 "java/lang/IllegalStateException" ∈ jT := List.mem_filter.mpr ⟨by decide +kernel, by decide +kernel⟩
