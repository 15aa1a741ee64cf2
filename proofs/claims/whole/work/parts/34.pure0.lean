/-! small facts of numbers -/
theorem sA_eq {σ : S2} {k i : Nat} {v : Int32} : sA σ k i v k = upd (σ k) i v := va_up_self _ _ _
theorem sA_ne {σ : S2} {k i j : Nat} {v : Int32} (h : j ≠ k) : sA σ k i v j = σ j := va_up_ne _ _ h
theorem sS_eq {σ : S2} {k : Nat} {v : Int32} : sS σ k v k = fun _ => v := va_up_self _ _ _
theorem sS_ne {σ : S2} {k j : Nat} {v : Int32} (h : j ≠ k) : sS σ k v j = σ j := va_up_ne _ _ h
theorem bA_eq {β : B2} {k i : Nat} {v : Bool} : bA β k i v k = va_up (β k) i v := va_up_self _ _ _
theorem bA_ne {β : B2} {k i j : Nat} {v : Bool} (h : j ≠ k) : bA β k i v j = β j := va_up_ne _ _ h
theorem up_eq {f : Nat → Int32} {i : Nat} {v : Int32} : upd f i v i = v := if_pos rfl
theorem up_ne {f : Nat → Int32} {i j : Nat} {v : Int32} (h : j ≠ i) : upd f i v j = f j := if_neg h
theorem i0 : (0 : Int32).toInt = 0 := by decide
theorem i1 : (1 : Int32).toInt = 1 := by decide
theorem im1 : (-1 : Int32).toInt = -1 := by decide
theorem i4 : (4 : Int32).toInt = 4 := by decide
theorem i32_ : (32 : Int32).toInt = 32 := by decide
theorem i64_ : (64 : Int32).toInt = 64 := by decide
theorem i255 : (255 : Int32).toInt = 255 := by decide
theorem i3072 : (3072 : Int32).toInt = 3072 := by decide
theorem i4096 : (4096 : Int32).toInt = 4096 := by decide
theorem tadd {a b : Int32} (h1 : -2147483648 ≤ a.toInt + b.toInt) (h2 : a.toInt + b.toInt ≤ 2147483647) : (a + b).toInt = a.toInt + b.toInt := Jvm.Kit.i32_add (by omega) (by omega)
theorem tsub {a b : Int32} (h1 : -2147483648 ≤ a.toInt - b.toInt) (h2 : a.toInt - b.toInt ≤ 2147483647) : (a - b).toInt = a.toInt - b.toInt := Jvm.Kit.i32_sub (by omega) (by omega)
theorem tlt {a b : Int32} : a < b ↔ a.toInt < b.toInt := Int32.lt_iff_toInt_lt
theorem tle {a b : Int32} : a ≤ b ↔ a.toInt ≤ b.toInt := Int32.le_iff_toInt_le
theorem teq {a b : Int32} : a = b ↔ a.toInt = b.toInt := Int32.toInt_inj.symm
theorem tcl {a : Int32} {n : Nat} (h : a.toInt = n) : a.toNatClampNeg = n := by
  have e : a.toNatClampNeg = a.toInt.toNat := rfl
  rw [e, h]
  rfl
theorem tclN {a : Int32} (h : 0 ≤ a.toInt) : (a.toNatClampNeg : Int) = a.toInt := by
  have e : a.toNatClampNeg = a.toInt.toNat := rfl
  rw [e]
  omega
theorem s8 (x : Int32) : ∃ n : Nat, (n = 0 ∨ n = 8 ∨ n = 16 ∨ n = 24) ∧ (8 * x) &&& 31 = nI n := by
  refine ⟨(8 * x).toBitVec.toNat % 2 ^ 5, ?_, pk_and _ 5 (by decide)⟩
  have : (8 * x).toBitVec.toNat = (8 * x.toBitVec.toNat) % 2 ^ 32 := by
    rw [show (8 * x).toBitVec = 8#32 * x.toBitVec from rfl, BitVec.toNat_mul]
    rfl
  rw [this]
  omega
theorem bon_bom (n b k : Int32) : bon n b k = bom n b k := by
  unfold bon bom
  obtain ⟨m, hm, e⟩ := s8 (b - 1 - k)
  have hlt : m < 25 := by omega
  have e2 : (8 * (b - 1 - k)).toUInt32 &&& Int32.toUInt32 31 = (nI m).toUInt32 &&& Int32.toUInt32 31 := by
    rw [← Int32.toUInt32_and, ← Int32.toUInt32_and, e]
    rcases hm with rfl | rfl | rfl | rfl <;> decide
  have e3 : (8 * (b - 1 - k)) &&& 31 = nI m &&& 31 := by
    rw [e]
    rcases hm with rfl | rfl | rfl | rfl <;> decide
  rw [e2, e3]
  apply b_ext
  intro i hi
  rw [b_and, b_and, b_255, b_ushr m (by omega), b_sshr m (by omega) _ hi]
  by_cases h8 : i < 8
  · rw [if_pos (by omega)]
  · simp [h8]
theorem and255 (x : Int32) : 0 ≤ (x &&& 255).toInt ∧ (x &&& 255).toInt ≤ 255 := by
  obtain ⟨j, h1, h2⟩ := pk_andE x (m := 255) 8 (by decide)
  rw [h2, nI_toInt (by omega)]
  omega
theorem and255_id {x : Int32} (h0 : 0 ≤ x.toInt) (h1 : x.toInt ≤ 255) : x &&& 255 = x := by
  obtain ⟨j, e1, e2⟩ := vp_in_of (x := x) (n := 256) (vp_in_iff.mpr ⟨h0, by omega⟩) (by omega)
  rw [e2, show (255 : Int32) = nI 255 from rfl, pk_andN (by omega) 8 (by decide), Nat.mod_eq_of_lt e1]
theorem bom_rng (n b k : Int32) : 0 ≤ (bom n b k).toInt ∧ (bom n b k).toInt ≤ 255 := and255 _
theorem b8 (n b k : Int32) : (bon n b k).toInt8.toInt32 &&& 255 = bom n b k := by
  rw [bp_b, bon_bom]
  exact and255_id (bom_rng n b k).1 (bom_rng n b k).2
theorem iy_id {x : Int32} (h0 : 0 ≤ x.toInt) (h1 : x.toInt < 4096) : iy x = x.toNatClampNeg := by
  obtain ⟨j, e1, e2⟩ := vp_in_of (x := x) (n := 4096) (vp_in_iff.mpr ⟨h0, by omega⟩) (by omega)
  unfold iy
  rw [e2, show (4095 : Int32) = nI 4095 from rfl, pk_andN (by omega) 12 (by decide), Nat.mod_eq_of_lt e1]
theorem isx_id (op : Int32) {k : Int32} (h0 : 0 ≤ k.toInt) (h1 : k.toInt < 4) : isx op k = (4 * (op &&& 127) + k).toNatClampNeg := by
  obtain ⟨j, e1, e2⟩ := vp_in_of (x := k) (n := 4) (vp_in_iff.mpr ⟨h0, by omega⟩) (by omega)
  unfold isx
  have e3 : nI j &&& 3 = nI j := by
    rw [show (3 : Int32) = nI 3 from rfl, pk_andN (by omega) 2 (by decide), Nat.mod_eq_of_lt e1]
  rw [e2, e3, Int32.mul_comm]
