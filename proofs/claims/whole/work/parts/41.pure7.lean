/-! the count of the bits of a long -/
def popN : Nat → Nat → Nat
  | _, 0 => 0
  | n, k + 1 => n % 2 + popN (n / 2) k
def mskN (b : Nat) : Nat → Nat
  | 0 => 0
  | k + 1 => b + 256 * mskN b k
theorem and_split (x : Nat) {b : Nat} (m : Nat) (hb : b < 256) : x &&& (b + 256 * m) = ((x % 256) &&& b) + 256 * ((x / 256) &&& m) := by
  have h1 : (x &&& (b + 256 * m)) % 2 ^ 8 = (x % 2 ^ 8) &&& ((b + 256 * m) % 2 ^ 8) := Nat.and_mod_two_pow
  have h2 : (x &&& (b + 256 * m)) / 2 ^ 8 = (x / 2 ^ 8) &&& ((b + 256 * m) / 2 ^ 8) := Nat.and_div_two_pow
  have e1 : (b + 256 * m) % 2 ^ 8 = b := by omega
  have e2 : (b + 256 * m) / 2 ^ 8 = m := by omega
  rw [e1] at h1
  rw [e2] at h2
  have h3 := Nat.div_add_mod (x &&& (b + 256 * m)) (2 ^ 8)
  rw [h1, h2] at h3
  have e3 : (2 : Nat) ^ 8 = 256 := by decide
  rw [e3] at h3
  omega
def pA (k n : Nat) : Nat := n - ((n / 2) &&& mskN 0x55 k)
def pA1 (a : Nat) : Nat := a - ((a / 2) &&& 0x55)
def pB (k a : Nat) : Nat := (a &&& mskN 0x33 k) + ((a / 4) &&& mskN 0x33 k)
def pB1 (a : Nat) : Nat := (a &&& 0x33) + ((a / 4) &&& 0x33)
def pC (k b : Nat) : Nat := (b + b / 16) &&& mskN 0x0f k
def pC1 (b : Nat) : Nat := (b + b / 16) % 16
theorem f55 : ∀ a : Fin 128, ∀ c : Fin 2, (a.val + 128 * c.val) &&& 0x55 = a.val &&& 0x55 := by decide +kernel
theorem f33 : ∀ a : Fin 64, ∀ c : Fin 4, (a.val + 64 * c.val) &&& 0x33 = a.val &&& 0x33 := by decide +kernel
theorem f_all : ∀ a : Fin 256, pC1 (pB1 (pA1 a.val)) = popN a.val 8 ∧ pB1 (pA1 a.val) ≤ 68 ∧ pB1 (pA1 a.val) % 16 ≤ 4 ∧ popN a.val 8 ≤ 8 := by decide +kernel
theorem f0f : ∀ a : Fin 256, a.val &&& 0x0f = a.val % 16 := by decide +kernel
theorem pA_step (k n : Nat) : pA (k + 1) n = pA1 (n % 256) + 256 * pA k (n / 256) := by
  unfold pA pA1
  rw [mskN, and_split (n / 2) _ (by decide)]
  have e1 : (n / 2) % 256 = (n % 256) / 2 + 128 * ((n / 256) % 2) := by omega
  have e2 : n / 2 / 256 = n / 256 / 2 := by omega
  have h := f55 ⟨(n % 256) / 2, by omega⟩ ⟨(n / 256) % 2, by omega⟩
  have h' : ((n % 256) / 2 + 128 * ((n / 256) % 2)) &&& 0x55 = (n % 256) / 2 &&& 0x55 := h
  rw [e1, e2, h']
  have l1 : ((n % 256) / 2 &&& 0x55) ≤ (n % 256) / 2 := Nat.and_le_left
  have l2 : ((n / 256) / 2 &&& mskN 0x55 k) ≤ (n / 256) / 2 := Nat.and_le_left
  omega
theorem pA1_lt (n : Nat) : pA1 (n % 256) < 256 := by
  unfold pA1
  omega
theorem pB_step (k x y : Nat) (hx : x < 256) : pB (k + 1) (x + 256 * y) = pB1 x + 256 * pB k y := by
  unfold pB pB1
  rw [mskN, and_split (x + 256 * y) _ (by decide), and_split ((x + 256 * y) / 4) _ (by decide)]
  have e1 : (x + 256 * y) % 256 = x := by omega
  have e2 : (x + 256 * y) / 256 = y := by omega
  have e3 : (x + 256 * y) / 4 % 256 = x / 4 + 64 * (y % 4) := by omega
  have e4 : (x + 256 * y) / 4 / 256 = y / 4 := by omega
  have h := f33 ⟨x / 4, by omega⟩ ⟨y % 4, by omega⟩
  have h' : (x / 4 + 64 * (y % 4)) &&& 0x33 = x / 4 &&& 0x33 := h
  rw [e1, e2, e3, e4, h']
  omega
theorem pC_step (k x y : Nat) (hx : x ≤ 68) (hy : y % 16 ≤ 4) : pC (k + 1) (x + 256 * y) = pC1 x + 256 * pC k y := by
  unfold pC pC1
  rw [mskN, and_split _ _ (by decide)]
  have e1 : (x + 256 * y + (x + 256 * y) / 16) % 256 = x + x / 16 + 16 * (y % 16) := by omega
  have e2 : (x + 256 * y + (x + 256 * y) / 16) / 256 = y + y / 16 := by omega
  rw [e1, e2]
  have h := f0f ⟨x + x / 16 + 16 * (y % 16), by omega⟩
  have h' : (x + x / 16 + 16 * (y % 16)) &&& 0x0f = (x + x / 16 + 16 * (y % 16)) % 16 := h
  rw [h']
  omega
def pZ : Nat → Nat → Nat
  | 0, _ => 0
  | k + 1, n => popN (n % 256) 8 + 256 * pZ k (n / 256)
theorem pBA_mod (k n : Nat) : pB k (pA k n) % 16 ≤ 4 := by
  cases k with
  | zero =>
    unfold pB pA mskN
    simp
  | succ k =>
    have h := f_all ⟨n % 256, by omega⟩
    have h1 : pB1 (pA1 (n % 256)) ≤ 68 := h.2.1
    have h2 : pB1 (pA1 (n % 256)) % 16 ≤ 4 := h.2.2.1
    rw [pA_step, pB_step _ _ _ (pA1_lt n)]
    omega
theorem p_all : ∀ (k n : Nat), pC k (pB k (pA k n)) = pZ k n := by
  intro k
  induction k with
  | zero =>
    intro n
    unfold pC pZ mskN
    simp
  | succ k ih =>
    intro n
    have h := f_all ⟨n % 256, by omega⟩
    have h0 : pC1 (pB1 (pA1 (n % 256))) = popN (n % 256) 8 := h.1
    rw [pA_step, pB_step _ _ _ (pA1_lt n), pC_step _ _ _ h.2.1 (pBA_mod k _), ih, h0]
    rfl
theorem pop8 (n : Nat) : popN n 8 = popN (n % 256) 8 := by
  simp only [popN]
  omega
theorem pop_add (n a : Nat) : ∀ b, popN n (8 + b) = popN n 8 + popN (n / 256) b := by
  intro b
  have e : 8 + b = b + 1 + 1 + 1 + 1 + 1 + 1 + 1 + 1 := by omega
  rw [e]
  simp only [popN]
  have e2 : n / 2 / 2 / 2 / 2 / 2 / 2 / 2 / 2 = n / 256 := by omega
  rw [e2]
  omega
theorem pop8_le (n : Nat) : popN n 8 ≤ 8 := by
  simp only [popN]
  omega
theorem dv1 (p C : Nat) (h : p < 256) : (p + 256 * C) / 256 = C := by omega
theorem dv2 (a b D : Nat) (ha : a < 256) (hb : b < 256) : (a + 256 * (b + 256 * D)) / 65536 = D := by omega
theorem dv4 (a b c d F : Nat) (ha : a < 256) (hb : b < 256) (hc : c < 256) (hd : d < 256) : (a + 256 * (b + 256 * (c + 256 * (d + 256 * F)))) / 4294967296 = F := by omega
theorem lin1 (p0 p1 p2 p3 p4 p5 p6 p7 : Nat) : (p0 + 256 * (p1 + 256 * (p2 + 256 * (p3 + 256 * (p4 + 256 * (p5 + 256 * (p6 + 256 * (p7)))))))) + (p1 + 256 * (p2 + 256 * (p3 + 256 * (p4 + 256 * (p5 + 256 * (p6 + 256 * (p7))))))) = (p0 + p1) + 256 * ((p1 + p2) + 256 * ((p2 + p3) + 256 * ((p3 + p4) + 256 * ((p4 + p5) + 256 * ((p5 + p6) + 256 * ((p6 + p7) + 256 * (p7))))))) := by omega
theorem lin2 (q0 q1 q2 q3 q4 q5 q6 q7 : Nat) : (q0 + 256 * (q1 + 256 * (q2 + 256 * (q3 + 256 * (q4 + 256 * (q5 + 256 * (q6 + 256 * (q7)))))))) + (q2 + 256 * (q3 + 256 * (q4 + 256 * (q5 + 256 * (q6 + 256 * (q7)))))) = (q0 + q2) + 256 * ((q1 + q3) + 256 * ((q2 + q4) + 256 * ((q3 + q5) + 256 * ((q4 + q6) + 256 * ((q5 + q7) + 256 * (q6 + 256 * (q7))))))) := by omega
theorem lin4 (r0 r1 r2 r3 r4 r5 r6 r7 : Nat) : ((r0 + 256 * (r1 + 256 * (r2 + 256 * (r3 + 256 * (r4 + 256 * (r5 + 256 * (r6 + 256 * (r7)))))))) + (r4 + 256 * (r5 + 256 * (r6 + 256 * (r7))))) % 128 = (r0 + r4) % 128 := by omega
def pG (c : Nat) : Nat := (c + c / 256) + (c + c / 256) / 65536 + ((c + c / 256) + (c + c / 256) / 65536) / 4294967296
theorem pG_eq (p0 p1 p2 p3 p4 p5 p6 p7 : Nat) (h : ∀ x ∈ [p0, p1, p2, p3, p4, p5, p6, p7], x ≤ 8) : pG (p0 + 256 * (p1 + 256 * (p2 + 256 * (p3 + 256 * (p4 + 256 * (p5 + 256 * (p6 + 256 * (p7)))))))) % 128 = p0 + p1 + p2 + p3 + p4 + p5 + p6 + p7 := by
  have h0 : p0 ≤ 8 := h _ (by simp)
  have h1 : p1 ≤ 8 := h _ (by simp)
  have h2 : p2 ≤ 8 := h _ (by simp)
  have h3 : p3 ≤ 8 := h _ (by simp)
  have h4 : p4 ≤ 8 := h _ (by simp)
  have h5 : p5 ≤ 8 := h _ (by simp)
  have h6 : p6 ≤ 8 := h _ (by simp)
  have h7 : p7 ≤ 8 := h _ (by simp)
  clear h
  unfold pG
  rw [dv1 p0 _ (by omega), lin1, dv2 (p0 + p1) (p1 + p2) _ (by omega) (by omega), lin2, dv4 _ _ _ _ _ (by omega) (by omega) (by omega) (by omega), lin4]
  omega
theorem pG_lt {c : Nat} (h : c < 2 ^ 61) : pG c < 2 ^ 64 := by
  unfold pG
  omega
theorem pZ8 (n : Nat) : pZ 8 n = popN (n % 256) 8 + 256 * (popN (n / 256 % 256) 8 + 256 * (popN (n / 256 / 256 % 256) 8 + 256 * (popN (n / 256 / 256 / 256 % 256) 8 + 256 * (popN (n / 256 / 256 / 256 / 256 % 256) 8 + 256 * (popN (n / 256 / 256 / 256 / 256 / 256 % 256) 8 + 256 * (popN (n / 256 / 256 / 256 / 256 / 256 / 256 % 256) 8 + 256 * (popN (n / 256 / 256 / 256 / 256 / 256 / 256 / 256 % 256) 8 + 256 * (0)))))))) := rfl
theorem pop64 (n : Nat) : popN n 64 = popN (n) 8 + popN (n / 256) 8 + popN (n / 256 / 256) 8 + popN (n / 256 / 256 / 256) 8 + popN (n / 256 / 256 / 256 / 256) 8 + popN (n / 256 / 256 / 256 / 256 / 256) 8 + popN (n / 256 / 256 / 256 / 256 / 256 / 256) 8 + popN (n / 256 / 256 / 256 / 256 / 256 / 256 / 256) 8 := by
  have e := pop_add n 0 56
  have e1 := pop_add (n / 256) 0 48
  have e2 := pop_add (n / 256 / 256) 0 40
  have e3 := pop_add (n / 256 / 256 / 256) 0 32
  have e4 := pop_add (n / 256 / 256 / 256 / 256) 0 24
  have e5 := pop_add (n / 256 / 256 / 256 / 256 / 256) 0 16
  have e6 := pop_add (n / 256 / 256 / 256 / 256 / 256 / 256) 0 8
  simp only [Nat.reduceAdd] at e e1 e2 e3 e4 e5 e6
  rw [e, e1, e2, e3, e4, e5, e6]
  simp only [Nat.add_assoc]
theorem p_sum (n : Nat) : pG (pZ 8 n) % 128 = popN n 64 := by
  rw [pZ8, pop64, Nat.mul_zero, Nat.add_zero, ← pop8 (n), ← pop8 (n / 256), ← pop8 (n / 256 / 256), ← pop8 (n / 256 / 256 / 256), ← pop8 (n / 256 / 256 / 256 / 256), ← pop8 (n / 256 / 256 / 256 / 256 / 256), ← pop8 (n / 256 / 256 / 256 / 256 / 256 / 256), ← pop8 (n / 256 / 256 / 256 / 256 / 256 / 256 / 256)]
  refine pG_eq _ _ _ _ _ _ _ _ (fun x hx => ?_)
  simp only [List.mem_cons, List.not_mem_nil, or_false] at hx
  rcases hx with rfl | rfl | rfl | rfl | rfl | rfl | rfl | rfl <;> exact pop8_le _
theorem pz_lt (p C N : Nat) (hp : p ≤ 8) (hC : C < N) : p + 256 * C < 256 * N := by omega
theorem pZ_lt : ∀ (k n : Nat), pZ (k + 1) n < 9 * 256 ^ k
  | 0, n => by
    have h2 := pop8_le (n % 256)
    rw [pZ, pZ]
    omega
  | k + 1, n => by
    have h1 := pZ_lt k (n / 256)
    have h2 := pop8_le (n % 256)
    rw [pZ, Nat.pow_succ]
    omega
theorem lN_i32 {g : Nat} (h : g < 2 ^ 64) : (lN g).toInt32 &&& 127 = nI (g % 128) := by
  rw [pk_and _ 7 (by decide)]
  have e : (lN g).toInt32.toBitVec.toNat = g % 2 ^ 32 := by
    show ((lN g).toBitVec.signExtend 32).toNat = g % 2 ^ 32
    rw [BitVec.signExtend_eq_setWidth_of_le _ (by decide), BitVec.toNat_setWidth, wb_tn h]
  rw [e]
  congr 1
  omega
theorem bcn_pop {n : Nat} (hn : n < 2 ^ 64) : bcn (lN n) = nI (popN n 64) := by
  have m5 : (6148914691236517205 : Int64) = lN (mskN 0x55 8) := by decide
  have m3 : (3689348814741910323 : Int64) = lN (mskN 0x33 8) := by decide
  have m0 : (1085102592571150095 : Int64) = lN (mskN 0x0f 8) := by decide
  have z5 : mskN 0x55 8 < 2 ^ 64 := by decide
  have z3 : mskN 0x33 8 < 2 ^ 62 := by decide
  have z0 : mskN 0x0f 8 < 2 ^ 64 := by decide
  have hA : pA 8 n < 2 ^ 64 := by unfold pA; omega
  have hB1 : (pA 8 n &&& mskN 0x33 8) ≤ mskN 0x33 8 := Nat.and_le_right
  have hB2 : (pA 8 n / 4 &&& mskN 0x33 8) ≤ mskN 0x33 8 := Nat.and_le_right
  have hB : pB 8 (pA 8 n) < 2 ^ 63 := by unfold pB; omega
  have hC : pC 8 (pB 8 (pA 8 n)) < 2 ^ 61 := by
    rw [p_all]
    have : pZ 8 n < 9 * 256 ^ 7 := pZ_lt 7 n
    have e : 9 * 256 ^ 7 < 2 ^ 61 := by decide
    omega
  have h1 : ((lN n).toUInt64 >>> ((1 : Int32).toInt64.toUInt64 &&& Int64.toUInt64 63)).toInt64 = lN (n / 2 ^ 1) := wb_shr (k := 1) hn (by decide)
  have s1 : lN n - (((lN n).toUInt64 >>> ((1 : Int32).toInt64.toUInt64 &&& Int64.toUInt64 63)).toInt64 &&& 6148914691236517205) = lN (pA 8 n) := by
    rw [h1, m5, wb_and (by omega) z5, lN_sub (Nat.le_trans Nat.and_le_left (Nat.div_le_self _ _))]
    rfl
  have h2 : ((lN (pA 8 n)).toUInt64 >>> ((2 : Int32).toInt64.toUInt64 &&& Int64.toUInt64 63)).toInt64 = lN (pA 8 n / 2 ^ 2) := wb_shr (k := 2) hA (by decide)
  have s2 : (lN (pA 8 n) &&& 3689348814741910323) + (((lN (pA 8 n)).toUInt64 >>> ((2 : Int32).toInt64.toUInt64 &&& Int64.toUInt64 63)).toInt64 &&& 3689348814741910323) = lN (pB 8 (pA 8 n)) := by
    rw [h2, m3, wb_and hA (by omega), wb_and (by omega) (by omega), lN_add]
    rfl
  have h3 : ((lN (pB 8 (pA 8 n))).toUInt64 >>> ((4 : Int32).toInt64.toUInt64 &&& Int64.toUInt64 63)).toInt64 = lN (pB 8 (pA 8 n) / 2 ^ 4) := wb_shr (k := 4) (by omega) (by decide)
  have s3 : (lN (pB 8 (pA 8 n)) + ((lN (pB 8 (pA 8 n))).toUInt64 >>> ((4 : Int32).toInt64.toUInt64 &&& Int64.toUInt64 63)).toInt64) &&& 1085102592571150095 = lN (pC 8 (pB 8 (pA 8 n))) := by
    rw [h3, m0, lN_add, wb_and (by omega) z0]
    rfl
  generalize hc : pC 8 (pB 8 (pA 8 n)) = c at hC s3
  have h4 : ((lN c).toUInt64 >>> ((8 : Int32).toInt64.toUInt64 &&& Int64.toUInt64 63)).toInt64 = lN (c / 2 ^ 8) := wb_shr (k := 8) (by omega) (by decide)
  have s4 : lN c + ((lN c).toUInt64 >>> ((8 : Int32).toInt64.toUInt64 &&& Int64.toUInt64 63)).toInt64 = lN (c + c / 256) := by
    rw [h4, lN_add]
  have h5 : ((lN (c + c / 256)).toUInt64 >>> ((16 : Int32).toInt64.toUInt64 &&& Int64.toUInt64 63)).toInt64 = lN ((c + c / 256) / 2 ^ 16) := wb_shr (k := 16) (by omega) (by decide)
  have s5 : lN (c + c / 256) + ((lN (c + c / 256)).toUInt64 >>> ((16 : Int32).toInt64.toUInt64 &&& Int64.toUInt64 63)).toInt64 = lN (c + c / 256 + (c + c / 256) / 65536) := by
    rw [h5, lN_add]
  have h6 : ((lN (c + c / 256 + (c + c / 256) / 65536)).toUInt64 >>> ((32 : Int32).toInt64.toUInt64 &&& Int64.toUInt64 63)).toInt64 = lN ((c + c / 256 + (c + c / 256) / 65536) / 2 ^ 32) := wb_shr (k := 32) (by omega) (by decide)
  have s6 : lN (c + c / 256 + (c + c / 256) / 65536) + ((lN (c + c / 256 + (c + c / 256) / 65536)).toUInt64 >>> ((32 : Int32).toInt64.toUInt64 &&& Int64.toUInt64 63)).toInt64 = lN (pG c) := by
    rw [h6, lN_add]
    rfl
  unfold bcn
  simp only [s1, s2, s3, s4, s5, s6]
  rw [lN_i32 (pG_lt hC), ← hc, p_all, p_sum]
theorem cn_pop {P : Int32 → Bool} {n : Nat} (hP : ∀ i : Nat, i < 64 → P (nI i) = n.testBit i) : ∀ (m i acc : Nat), i + m = 64 → cnL P (nI i) 64 (nI acc) = nI (acc + popN (n / 2 ^ i) m) := by
  intro m
  induction m with
  | zero =>
    intro i acc h
    have e : i = 64 := by omega
    subst e
    rw [cnL_out (by decide), popN, Nat.add_zero]
  | succ m ih =>
    intro i acc h
    rw [cnL_in (show ¬ (64 : Int32) ≤ nI i from nI_ge (b := 64) (by omega) (by omega)), hP i (by omega), nI_1 i, popN, Nat.div_div_eq_div_mul, show 2 ^ i * 2 = 2 ^ (i + 1) from rfl, Nat.testBit_eq_decide_div_mod_eq]
    have h2 : n / 2 ^ i % 2 = 0 ∨ n / 2 ^ i % 2 = 1 := by omega
    rcases h2 with q | q
    · rw [q, if_neg (by decide), ih (i + 1) acc (by omega)]
      congr 1
      omega
    · rw [q, if_pos (by decide), nI_1, ih (i + 1) (acc + 1) (by omega)]
      congr 1
      omega
theorem mk_count {mk : Int64} {ν : B2} (h : Mk mk ν) : bcn mk = cnL (fun j => ν 0 j.toNatClampNeg) 0 64 0 := by
  obtain ⟨n, hn, rfl⟩ := wb_of mk
  rw [bcn_pop hn]
  have hP : ∀ i : Nat, i < 64 → (fun j : Int32 => ν 0 j.toNatClampNeg) (nI i) = n.testBit i := fun i hi => by
    have e : nI i &&& 63 = nI i := by
      rw [show (63 : Int32) = nI 63 from rfl, pk_andN (by omega) 6 (by decide), Nat.mod_eq_of_lt hi]
    have q := h (nI i)
    rw [mkB_bit hn hi e, e] at q
    exact q.symm
  have q := cn_pop (P := fun j : Int32 => ν 0 j.toNatClampNeg) (n := n) hP 64 0 0 rfl
  rw [Nat.pow_zero, Nat.div_one, Nat.zero_add] at q
  exact q.symm
theorem pu_count {t : Nat} {σ : S2} {β : B2} {mk : Int64} {μ : S2} {ν : B2} (h : Inv t σ β mk μ ν) (what : Int32) : cntR σ β mk what = cmR (sS μ 0 0) ν what := by
  obtain ⟨hS, hR, hM, hK, hP, hB, hD, hO⟩ := h
  have e0 : cmR (sS μ 0 0) ν what = cmR μ ν what := rfl
  rw [e0]
  unfold cntR cmR
  have e3 : cnL (fun j => β 2 (ix j)) (σ 1 0) (σ 0 0) 0 = cnL (idM μ ν) (σ 1 0) (σ 0 0) 0 := cnL_cg (fun j _ _ => (idM_eq hR hO j).symm)
  have e9 : (if σ 0 0 - σ 1 0 ≤ 0 then (-1 : Int32) else σ 1 0) = if σ 1 0 = σ 0 0 then -1 else σ 1 0 := by
    obtain ⟨⟨a1, a2, a3, a4, a5⟩, -⟩ := hD
    have hsub : (σ 0 0 - σ 1 0).toInt = (σ 0 0).toInt - (σ 1 0).toInt := tsub (by omega) (by omega)
    by_cases c : σ 1 0 = σ 0 0
    · rw [if_pos c, if_pos]
      rw [tle, hsub, i0, c]
      omega
    · rw [if_neg c, if_neg]
      rw [tle, hsub, i0]
      rw [teq] at c
      omega
  rw [← hS.1, ← hS.2.1, ← hS.2.2.1, ← hS.2.2.2.1, ← hS.2.2.2.2.1, ← hS.2.2.2.2.2.1, ← hS.2.2.2.2.2.2, e3, e9, mk_count hK]
