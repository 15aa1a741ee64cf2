/-! what the methods compute: plain functions over the numbers of the state -/
abbrev S2 : Type := Nat → Nat → Int32
abbrev B2 : Type := Nat → Nat → Bool
def ix (x : Int32) : Nat := (x &&& 127).toNatClampNeg
def iy (x : Int32) : Nat := (x &&& 4095).toNatClampNeg
def isx (op k : Int32) : Nat := ((op &&& 127) * 4 + (k &&& 3)).toNatClampNeg
def sS (σ : S2) (k : Nat) (v : Int32) : S2 := va_up σ k (fun _ => v)
def sA (σ : S2) (k i : Nat) (v : Int32) : S2 := va_up σ k (upd (σ k) i v)
def bA (β : B2) (k i : Nat) (b : Bool) : B2 := va_up β k (va_up (β k) i b)
theorem ix_in (x : Int32) : vp_in (x &&& 127) 128 := pk_andIn x 7 (by decide) (by decide)
theorem iy_in (x : Int32) : vp_in (x &&& 4095) 4096 := pk_andIn x 12 (by decide) (by decide)
theorem isx_in (op k : Int32) : vp_in ((op &&& 127) * 4 + (k &&& 3)) 512 := by
  obtain ⟨a, ha, ea⟩ := pk_andE op (m := 127) 7 (by decide)
  obtain ⟨b, hb, eb⟩ := pk_andE k (m := 3) 2 (by decide)
  rw [ea, eb, show (4 : Int32) = nI 4 from rfl, pk_mul, nI_add]
  exact vp_in_nI (by omega) (by omega)
theorem ix_lt (x : Int32) : ix x < 128 := Nat.not_le.mp fun q => ix_in x (Or.inr q)
theorem inc1 (x : Int32) : x + Int32.ofInt 1 = x + 1 := by rw [lit1]
theorem inc4 (x : Int32) : x + Int32.ofInt 4 = x + 4 := by rw [lit4]
theorem dec1 (x : Int32) : x + Int32.ofInt (-1) = x - 1 := by rw [litm1, Int32.sub_eq_add_neg]
/-! loops upward: from i to b -/
def dist (a b : Int32) : Nat := (b.toInt - a.toInt).toNat
theorem dist_out {i b : Int32} (c : b ≤ i) : dist i b = 0 := by
  have := Int32.le_iff_toInt_le.mp c
  unfold dist
  omega
theorem dist_in {i b : Int32} (c : ¬ b ≤ i) : dist i b = dist (i + 1) b + 1 := by
  rw [Int32.le_iff_toInt_le] at c
  have h1 := b.toInt_lt
  have h2 := i.le_toInt
  have e1 : (1 : Int32).toInt = 1 := by decide
  have e : (i + 1).toInt = i.toInt + 1 := by
    rw [Jvm.Kit.i32_add (by rw [e1]; omega) (by rw [e1]; omega), e1]
  unfold dist
  rw [e]
  omega
theorem dist_lt {i b : Int32} {k : Nat} (c : ¬ b ≤ i) (h : dist i b < k + 1) : dist (i + 1) b < k := by
  have := dist_in c
  omega
def exU (P : Int32 → Bool) : Nat → Int32 → Bool
  | 0, _ => false
  | k + 1, i => P i || exU P k (i + 1)
def exL (P : Int32 → Bool) (i b : Int32) : Bool := exU P (dist i b) i
theorem exL_out {P : Int32 → Bool} {i b : Int32} (c : b ≤ i) : exL P i b = false := by
  unfold exL
  rw [dist_out c]
  rfl
theorem exL_in {P : Int32 → Bool} {i b : Int32} (c : ¬ b ≤ i) : exL P i b = (P i || exL P (i + 1) b) := by
  unfold exL
  rw [dist_in c]
  rfl
def frU (P : Int32 → Bool) : Nat → Int32 → Int32
  | 0, _ => -1
  | k + 1, i => if P i then i else frU P k (i + 1)
def frL (P : Int32 → Bool) (i b : Int32) : Int32 := frU P (dist i b) i
theorem frL_out {P : Int32 → Bool} {i b : Int32} (c : b ≤ i) : frL P i b = -1 := by
  unfold frL
  rw [dist_out c]
  rfl
theorem frL_in {P : Int32 → Bool} {i b : Int32} (c : ¬ b ≤ i) : frL P i b = if P i then i else frL P (i + 1) b := by
  unfold frL
  rw [dist_in c]
  rfl
def cnU (P : Int32 → Bool) : Nat → Int32 → Int32 → Int32
  | 0, _, a => a
  | k + 1, i, a => cnU P k (i + 1) (if P i then a + 1 else a)
def cnL (P : Int32 → Bool) (i b a : Int32) : Int32 := cnU P (dist i b) i a
theorem cnL_out {P : Int32 → Bool} {i b a : Int32} (c : b ≤ i) : cnL P i b a = a := by
  unfold cnL
  rw [dist_out c]
  rfl
theorem cnL_in {P : Int32 → Bool} {i b a : Int32} (c : ¬ b ≤ i) : cnL P i b a = cnL P (i + 1) b (if P i then a + 1 else a) := by
  unfold cnL
  rw [dist_in c]
  rfl
def unB : Nat → Int32 → B2 → Int32 → B2 × Int32
  | 0, _, β, a => (β, a)
  | k + 1, i, β, a => if β 2 (ix i) then unB k (i + 1) (bA β 2 (ix i) false) (a + 1) else unB k (i + 1) β a
def unL (i e : Int32) (β : B2) (a : Int32) : B2 × Int32 := unB (dist i e) i β a
theorem unL_out {i e a : Int32} {β : B2} (c : e ≤ i) : unL i e β a = (β, a) := by
  unfold unL
  rw [dist_out c]
  rfl
theorem unL_in {i e a : Int32} {β : B2} (c : ¬ e ≤ i) : unL i e β a = if β 2 (ix i) then unL (i + 1) e (bA β 2 (ix i) false) (a + 1) else unL (i + 1) e β a := by
  unfold unL
  rw [dist_in c]
  rfl
/-! downward: from i to a -/
def dnst (a i : Int32) : Nat := (i.toInt - a.toInt + 1).toNat
theorem dnst_out {a i : Int32} (c : i < a) : dnst a i = 0 := by
  have := Int32.lt_iff_toInt_lt.mp c
  unfold dnst
  omega
theorem dnst_in {a i : Int32} (ha : 0 ≤ a) (c : ¬ i < a) : dnst a i = dnst a (i - 1) + 1 := by
  rw [Int32.lt_iff_toInt_lt] at c
  have h0 : (0 : Int) ≤ a.toInt := by
    have := Int32.le_iff_toInt_le.mp ha
    simpa using this
  have h1 := i.toInt_lt
  have e1 : (1 : Int32).toInt = 1 := by decide
  have e : (i - 1).toInt = i.toInt - 1 := by
    rw [Jvm.Kit.i32_sub (by rw [e1]; omega) (by rw [e1]; omega), e1]
  unfold dnst
  rw [e]
  omega
theorem dnst_lt {a i : Int32} {k : Nat} (ha : 0 ≤ a) (c : ¬ i < a) (h : dnst a i < k + 1) : dnst a (i - 1) < k := by
  have := dnst_in ha c
  omega
def laD (P : Int32 → Bool) : Nat → Int32 → Int32
  | 0, _ => -1
  | k + 1, i => if P i then i else laD P k (i - 1)
def laL (P : Int32 → Bool) (a i : Int32) : Int32 := laD P (dnst a i) i
theorem laL_out {P : Int32 → Bool} {a i : Int32} (c : i < a) : laL P a i = -1 := by
  unfold laL
  rw [dnst_out c]
  rfl
theorem laL_in {P : Int32 → Bool} {a i : Int32} (ha : 0 ≤ a) (c : ¬ i < a) : laL P a i = if P i then i else laL P a (i - 1) := by
  unfold laL
  rw [dnst_in ha c]
  rfl
/-! bytes -/
def bon (n b k : Int32) : Int32 := (n.toUInt32 >>> ((8 * (b - 1 - k)).toUInt32 &&& Int32.toUInt32 31)).toInt32 &&& 255
def mW (at0 sz number : Int32) : Nat → Int32 → S2 → S2
  | 0, _, σ => σ
  | c + 1, k, σ => mW at0 sz number c (k + 1) (sA σ 24 (iy (at0 + k)) (bon number sz k).toInt8.toInt32)
def mWL (at0 sz number k : Int32) (σ : S2) : S2 := mW at0 sz number (dist k sz) k σ
theorem mWL_out {at0 sz number k : Int32} {σ : S2} (c : sz ≤ k) : mWL at0 sz number k σ = σ := by
  unfold mWL
  rw [dist_out c]
  rfl
theorem mWL_in {at0 sz number k : Int32} {σ : S2} (c : ¬ sz ≤ k) : mWL at0 sz number k σ = mWL at0 sz number (k + 1) (sA σ 24 (iy (at0 + k)) (bon number sz k).toInt8.toInt32) := by
  unfold mWL
  rw [dist_in c]
  rfl
def nA (f : Nat → Int32) (at0 : Int32) : Nat → Int32 → Int32 → Int32
  | 0, _, n => n
  | c + 1, k, n => nA f at0 c (k + 1) ((n <<< ((8 : Int32) &&& 31)) ||| (f (iy (at0 + k)) &&& 255))
def nAL (f : Nat → Int32) (at0 sz k n : Int32) : Int32 := nA f at0 (dist k sz) k n
theorem nAL_out {f : Nat → Int32} {at0 sz k n : Int32} (c : sz ≤ k) : nAL f at0 sz k n = n := by
  unfold nAL
  rw [dist_out c]
  rfl
theorem nAL_in {f : Nat → Int32} {at0 sz k n : Int32} (c : ¬ sz ≤ k) : nAL f at0 sz k n = nAL f at0 sz (k + 1) ((n <<< ((8 : Int32) &&& 31)) ||| (f (iy (at0 + k)) &&& 255)) := by
  unfold nAL
  rw [dist_in c]
  rfl
/-! what the class's methods say -/
def covC (σ : S2) (β : B2) (op at0 : Int32) : Bool := β 0 (ix op) && (!decide (at0 < σ 13 (ix op)) && !decide (σ 13 (ix op) + σ 11 (ix op) ≤ at0))
def kwb (kind bytes : Int32) : Bool := if kind = 2 then decide (bytes = 0) else !decide (kind < 0) && (!decide (3 < kind) && (decide (bytes = 1) || (decide (bytes = 2) || decide (bytes = 4))))
def cba (at0 bytes : Int32) : Bool := !decide (at0 < 0) && (decide (at0 ≤ 4096 - bytes) && (!decide (at0 < 3072) || !decide (3072 < at0 + bytes)))
def apS (σ : S2) (st at0 size v : Int32) : S2 := if σ 6 0 < 0 ∨ ¬ σ 6 0 < 4 then σ else
  sS (sA (sA (sA (sA σ 20 (σ 6 0).toNatClampNeg st) 21 (σ 6 0).toNatClampNeg at0) 22 (σ 6 0).toNatClampNeg size) 23 (σ 6 0).toNatClampNeg v) 6 (σ 6 0 + 1)
theorem apS_out {σ : S2} {st at0 size v : Int32} (h : σ 6 0 < 0 ∨ ¬ σ 6 0 < 4) : apS σ st at0 size v = σ := if_pos h
theorem apS_in {σ : S2} {st at0 size v : Int32} (h1 : ¬ σ 6 0 < 0) (h2 : σ 6 0 < 4) : apS σ st at0 size v = sS (sA (sA (sA (sA σ 20 (σ 6 0).toNatClampNeg st) 21 (σ 6 0).toNatClampNeg at0) 22 (σ 6 0).toNatClampNeg size) 23 (σ 6 0).toNatClampNeg v) 6 (σ 6 0 + 1) := if_neg (fun h => h.elim h1 (fun q => q h2))
theorem in4 {x : Int32} (h1 : ¬ x < 0) (h2 : x < 4) : vp_in x 4 := by
  rw [vp_in_iff]
  rw [Int32.lt_iff_toInt_lt] at h1 h2
  have e0 : (0 : Int32).toInt = 0 := by decide
  have e4 : (4 : Int32).toInt = 4 := by decide
  omega
theorem i8i8 (x : Int32) : x.toInt8.toInt32.toInt8.toInt32 = x.toInt8.toInt32 := pk_vb x
theorem in0_4 : vp_in (0 : Int32) 4 := vp_in_iff.mpr (by decide)
/-! the buffer's byte: of the newest one that has it -/
def bbS (σ : S2) (at0 : Int32) (i : Int32) : Bool := !decide (σ 6 0 ≤ i) && (!decide (at0 < σ 21 i.toNatClampNeg) && !decide (σ 21 i.toNatClampNeg + σ 22 i.toNatClampNeg ≤ at0))
def bbV (σ : S2) (at0 : Int32) (i : Int32) : Int32 := bon (σ 23 i.toNatClampNeg) (σ 22 i.toNatClampNeg) (at0 - σ 21 i.toNatClampNeg)
def bbU (σ : S2) (at0 : Int32) : Nat → Int32 → Int32 → Int32
  | 0, _, n => n
  | k + 1, i, n => bbU σ at0 k (i + 1) (if bbS σ at0 i then bbV σ at0 i else n)
def bbL (σ : S2) (at0 i n : Int32) : Int32 := bbU σ at0 (dist i 4) i n
theorem bbL_out {σ : S2} {at0 i n : Int32} (c : 4 ≤ i) : bbL σ at0 i n = n := by
  unfold bbL
  rw [dist_out c]
  rfl
theorem bbL_in {σ : S2} {at0 i n : Int32} (c : ¬ 4 ≤ i) : bbL σ at0 i n = bbL σ at0 (i + 1) (if bbS σ at0 i then bbV σ at0 i else n) := by
  unfold bbL
  rw [dist_in c]
  rfl
theorem in4' {x : Int32} (h1 : 0 ≤ x) (h2 : ¬ 4 ≤ x) : vp_in x 4 := in4 (Int32.not_lt.mpr h1) (Int32.not_le.mp h2)
theorem nn1 {x b : Int32} (h1 : 0 ≤ x) (h2 : ¬ b ≤ x) : 0 ≤ x + 1 := by
  rw [Int32.le_iff_toInt_le] at h1 h2 ⊢
  have e0 : (0 : Int32).toInt = 0 := by decide
  have e1 : (1 : Int32).toInt = 1 := by decide
  have h3 := b.toInt_lt
  rw [Jvm.Kit.i32_add (by omega) (by omega)]
  omega
def shS (σ : S2) (i : Int32) : S2 :=
  sA (sA (sA (sA σ 20 (i - 1).toNatClampNeg (σ 20 i.toNatClampNeg)) 21 (i - 1).toNatClampNeg (σ 21 i.toNatClampNeg)) 22 (i - 1).toNatClampNeg (σ 22 i.toNatClampNeg)) 23 (i - 1).toNatClampNeg (σ 23 i.toNatClampNeg)
def shU : Nat → Int32 → S2 → S2
  | 0, _, σ => σ
  | k + 1, i, σ => shU k (i + 1) (shS σ i)
def shL (i : Int32) (σ : S2) : S2 := shU (dist i 4) i σ
theorem shL_out {i : Int32} {σ : S2} (c : 4 ≤ i) : shL i σ = σ := by
  unfold shL
  rw [dist_out c]
  rfl
theorem shL_in {i : Int32} {σ : S2} (c : ¬ 4 ≤ i) : shL i σ = shL (i + 1) (shS σ i) := by
  unfold shL
  rw [dist_in c]
  rfl
theorem in4m {x : Int32} (h1 : 1 ≤ x) (h2 : ¬ 4 ≤ x) : vp_in (x - 1) 4 := by
  rw [vp_in_iff]
  rw [Int32.le_iff_toInt_le] at h1 h2
  have e4 : (4 : Int32).toInt = 4 := by decide
  have e1 : (1 : Int32).toInt = 1 := by decide
  rw [Jvm.Kit.i32_sub (by omega) (by omega)]
  omega
theorem le0_of1 {x : Int32} (h1 : 1 ≤ x) : 0 ≤ x := by
  rw [Int32.le_iff_toInt_le] at h1 ⊢
  have e0 : (0 : Int32).toInt = 0 := by decide
  have e1 : (1 : Int32).toInt = 1 := by decide
  omega
theorem nn2 {x b : Int32} (h1 : 1 ≤ x) (h2 : ¬ b ≤ x) : 1 ≤ x + 1 := by
  rw [Int32.le_iff_toInt_le] at h1 h2 ⊢
  have e1 : (1 : Int32).toInt = 1 := by decide
  have h3 := b.toInt_lt
  rw [Jvm.Kit.i32_add (by omega) (by omega)]
  omega
def mvS (σ : S2) : S2 := if 0 < σ 6 0 then sS (shL 1 (mWL (σ 21 0) (σ 22 0) (σ 23 0) 0 σ)) 6 ((shL 1 (mWL (σ 21 0) (σ 22 0) (σ 23 0) 0 σ)) 6 0 - 1) else σ
def hlC (σ : S2) (β : B2) (op : Int32) : Bool := if σ 10 (ix op) = 3 then !(!decide (op < σ 1 0) && !decide (σ 0 0 ≤ op)) else β 2 (ix op)
def mkS (mk : Int64) (prog : Int32) : Int64 := mk ||| ((1 : Int64) <<< ((prog &&& 63).toInt64 &&& 63))
def hbP (σ : S2) (j : Int32) : Bool := decide (σ 10 (ix j) = 2) || decide (σ 10 (ix j) = 3)
def hbC (σ : S2) (β : B2) (load : Int32) : Bool := (!decide (σ 13 (ix load) < 3072) && (!decide (load = σ 1 0) || !decide (σ 6 0 = 0))) || exL (hbP σ) (σ 1 0) load
def naP (σ : S2) (β : B2) (j : Int32) : Bool := decide (σ 10 (ix j) = 1) && !β 0 (ix j)
def nsP (σ : S2) (β : B2) (at0 j : Int32) : Bool := decide (σ 10 (ix j) = 1) && covC σ β j at0
def nsC (σ : S2) (β : B2) (load at0 : Int32) : Int32 := laL (nsP σ β at0) (σ 1 0) (load - 1)
def nnP (σ : S2) (β : B2) (load k : Int32) : Bool := !decide (nsC σ β load (σ 13 (ix load) + k) = -1) && !β 1 (ix (nsC σ β load (σ 13 (ix load) + k)))
def tkB (σ : S2) (β : B2) (load at0 : Int32) : Int32 := if nsC σ β load at0 = -1 then (if bbL σ at0 0 (-1) = -1 then σ 24 (iy at0) &&& 255 else bbL σ at0 0 (-1))
  else bon (σ 15 (ix (nsC σ β load at0))) (σ 11 (ix (nsC σ β load at0))) (at0 - σ 13 (ix (nsC σ β load at0)))
def tkS (σ : S2) (β : B2) (load k at0 : Int32) : S2 := if nsC σ β load at0 = -1 then (if bbL σ at0 0 (-1) = -1 then sA (sS σ 5 (σ 5 0 + 1)) 19 (isx load k) (-1) else sA (sS σ 5 (σ 5 0 + 1)) 19 (isx load k) (-2))
  else sS (sA σ 19 (isx load k) (nsC σ β load at0)) 4 (σ 4 0 + 1)
theorem tkS_j {σ : S2} {β : B2} {load k at0 : Int32} {j : Nat} (h : j ≠ 4 ∧ j ≠ 5 ∧ j ≠ 19) : tkS σ β load k at0 j = σ j := by
  unfold tkS
  split
  · split <;> simp [sA, sS, va_up, h]
  · simp [sA, sS, va_up, h]
theorem tkS_1 {σ : S2} {β : B2} {load k at0 : Int32} : tkS σ β load k at0 1 = σ 1 := tkS_j (by decide)
theorem tkS_11 {σ : S2} {β : B2} {load k at0 : Int32} : tkS σ β load k at0 11 = σ 11 := tkS_j (by decide)
theorem tkS_13 {σ : S2} {β : B2} {load k at0 : Int32} : tkS σ β load k at0 13 = σ 13 := tkS_j (by decide)
def dlU (β : B2) (load at0 : Int32) : Nat → Int32 → Int32 → S2 → Int32 × S2
  | 0, _, n, σ => (n, σ)
  | c + 1, k, n, σ => dlU β load at0 c (k + 1) ((n <<< ((8 : Int32) &&& 31)) ||| tkB σ β load (at0 + k)) (tkS σ β load k (at0 + k))
def dlL (β : B2) (load at0 sz k n : Int32) (σ : S2) : Int32 × S2 := dlU β load at0 (dist k sz) k n σ
theorem dlL_out {β : B2} {load at0 sz k n : Int32} {σ : S2} (c : sz ≤ k) : dlL β load at0 sz k n σ = (n, σ) := by
  unfold dlL
  rw [dist_out c]
  rfl
theorem dlL_in {β : B2} {load at0 sz k n : Int32} {σ : S2} (c : ¬ sz ≤ k) : dlL β load at0 sz k n σ = dlL β load at0 sz (k + 1) ((n <<< ((8 : Int32) &&& 31)) ||| tkB σ β load (at0 + k)) (tkS σ β load k (at0 + k)) := by
  unfold dlL
  rw [dist_in c]
  rfl
def dlS (σ : S2) (β : B2) (load : Int32) : S2 := sA (dlL β load (σ 13 (ix load)) (σ 11 (ix load)) 0 0 σ).2 18 (ix load) (dlL β load (σ 13 (ix load)) (σ 11 (ix load)) 0 0 σ).1
def mbP (σ : S2) (β : B2) (load st k : Int32) : Bool := covC σ β st (σ 13 (ix load) + k) && !decide (st ≤ σ 19 (isx load k))
def mbC (σ : S2) (β : B2) (load st : Int32) : Bool := exL (mbP σ β load st) 0 (σ 11 (ix load))
def lpP (σ : S2) (β : B2) (st j : Int32) : Bool := β 2 (ix j) && mbC σ β j st
def lmP (σ : S2) (β : B2) (at0 j : Int32) : Bool := β 2 (ix j) && (covC σ β j at0 && decide (σ 19 (isx j (at0 - σ 13 (ix j))) = -1))
theorem bbU_5 {σ : S2} {v at0 : Int32} : ∀ (k : Nat) (i n : Int32), bbU (sS σ 5 v) at0 k i n = bbU σ at0 k i n
  | 0, _, _ => rfl
  | k + 1, i, n => bbU_5 k (i + 1) _
theorem bbL_5 {σ : S2} {v at0 i n : Int32} : bbL (sS σ 5 v) at0 i n = bbL σ at0 i n := bbU_5 _ _ _
theorem tsw3 {x : Int32} (h0 : ¬ x = 0) (h1 : ¬ x = 1) (h2 : ¬ x = 2) : x.toInt < 0 ∨ 2 < x.toInt := by
  rw [← Int32.toInt_inj] at h0 h1 h2
  have e0 : (0 : Int32).toInt = 0 := by decide
  have e1 : (1 : Int32).toInt = 1 := by decide
  have e2 : (2 : Int32).toInt = 2 := by decide
  omega
theorem tsw10 {x : Int32} (h0 : ¬ x = 0) (h1 : ¬ x = 1) (h2 : ¬ x = 2) (h3 : ¬ x = 3) (h4 : ¬ x = 4) (h5 : ¬ x = 5) (h6 : ¬ x = 6) (h7 : ¬ x = 7) (h8 : ¬ x = 8) (h9 : ¬ x = 9) : x.toInt < 0 ∨ 9 < x.toInt := by
  rw [← Int32.toInt_inj] at h0 h1 h2 h3 h4 h5 h6 h7 h8 h9
  have e0 : (0 : Int32).toInt = 0 := by decide
  have e1 : (1 : Int32).toInt = 1 := by decide
  have e2 : (2 : Int32).toInt = 2 := by decide
  have e3 : (3 : Int32).toInt = 3 := by decide
  have e4 : (4 : Int32).toInt = 4 := by decide
  have e5 : (5 : Int32).toInt = 5 := by decide
  have e6 : (6 : Int32).toInt = 6 := by decide
  have e7 : (7 : Int32).toInt = 7 := by decide
  have e8 : (8 : Int32).toInt = 8 := by decide
  have e9 : (9 : Int32).toInt = 9 := by decide
  omega
def mlC (σ : S2) (β : B2) (op : Int32) : Bool := if σ 10 (ix op) = 0 then β 2 (ix op) else if σ 10 (ix op) = 1 then ((β 0 (ix op) && β 1 (ix op)) && (if (!decide (σ 13 (ix op) < 3072)) = true then decide (σ 6 0 = 0) else !decide (4 ≤ σ 6 0)))
  else if σ 10 (ix op) = 2 then decide (σ 6 0 = 0) else ((β 0 (ix op) && β 1 (ix op)) && decide (σ 6 0 = 0))
def coT (σ : S2) (op : Int32) : S2 := if σ 10 (ix op) = 3 then mWL (σ 13 (ix op)) (σ 11 (ix op)) (σ 15 (ix op)) 0 (sA σ 18 (ix op) (nAL (σ 24) (σ 13 (ix op)) (σ 11 (ix op)) 0 0)) else mWL (σ 13 (ix op)) (σ 11 (ix op)) (σ 15 (ix op)) 0 σ
def coS (σ : S2) (_ : B2) (op : Int32) : S2 := if (decide (σ 10 (ix op) = 1) || decide (σ 10 (ix op) = 3)) = true then (if σ 10 (ix op) = 1 then (if (!decide (σ 13 (ix op) < 3072)) = true then coT σ op else apS σ op (σ 13 (ix op)) (σ 11 (ix op)) (σ 15 (ix op))) else coT σ op) else σ
def lvR (σ : S2) (β : B2) : Int32 × S2 := if σ 0 0 - σ 1 0 ≤ 0 then (-1, σ) else if mlC σ β (σ 1 0) = true then (σ 1 0, sS (coS σ β (σ 1 0)) 1 (σ 1 0 + 1)) else (-1, σ)
def drR (σ : S2) : Int32 × S2 := if decide (σ 6 0 = 0) = true then (-1, σ) else (if σ 6 0 = 0 then -1 else σ 20 0, mvS σ)
def mkB (mk : Int64) (prog : Int32) : Bool := !decide (lg_cmp ((mk.toUInt64 >>> ((prog &&& 63).toInt64.toUInt64 &&& Int64.toUInt64 63)).toInt64 &&& 1) 0 = 0)
def adT (σ : S2) (β : B2) (mk : Int64) (op : Int32) : Int32 × S2 × B2 × Int64 := if σ 10 (ix op) = 1 then (if frL (lpP σ β op) (op + 1) (σ 0 0) = -1 then (0, σ, β, mk) else
    ((unL (frL (lpP σ β op) (op + 1) (σ 0 0)) (σ 0 0) β 0).2, sS (sS σ 2 (σ 2 0 + (unL (frL (lpP σ β op) (op + 1) (σ 0 0)) (σ 0 0) β 0).2)) 3 (σ 3 0 + 1), (unL (frL (lpP σ β op) (op + 1) (σ 0 0)) (σ 0 0) β 0).1, mkS mk (σ 12 (ix (frL (lpP σ β op) (op + 1) (σ 0 0)))))) else (0, σ, β, mk)
def trR (σ : S2) (β : B2) (mk : Int64) (op : Int32) : Int32 × S2 × B2 := if hbC σ β op = true then (2, σ, β) else if mkB mk (σ 12 (ix op)) = true then (if exL (naP σ β) (σ 1 0) op = true then (3, σ, β) else if exL (nnP σ β op) 0 (σ 11 (ix op)) = true then (4, σ, β) else (1, dlS σ β op, bA β 2 (ix op) true))
  else if exL (nnP σ β op) 0 (σ 11 (ix op)) = true then (4, σ, β) else (1, dlS σ β op, bA β 2 (ix op) true)
def otR (σ : S2) (β : B2) (at0 : Int32) : Int32 × S2 × B2 := if frL (lmP σ β at0) (σ 1 0) (σ 0 0) = -1 then (0, σ, β) else
  ((unL (frL (lmP σ β at0) (σ 1 0) (σ 0 0)) (σ 0 0) β 0).2, sS (sS σ 2 (σ 2 0 + (unL (frL (lmP σ β at0) (σ 1 0) (σ 0 0)) (σ 0 0) β 0).2)) 3 (σ 3 0 + 1), (unL (frL (lmP σ β at0) (σ 1 0) (σ 0 0)) (σ 0 0) β 0).1)
def bcn (x : Int64) : Int32 :=
  let a := x - ((x.toUInt64 >>> ((1 : Int32).toInt64.toUInt64 &&& Int64.toUInt64 63)).toInt64 &&& 6148914691236517205)
  let b := (a &&& 3689348814741910323) + ((a.toUInt64 >>> ((2 : Int32).toInt64.toUInt64 &&& Int64.toUInt64 63)).toInt64 &&& 3689348814741910323)
  let c := (b + (b.toUInt64 >>> ((4 : Int32).toInt64.toUInt64 &&& Int64.toUInt64 63)).toInt64) &&& 1085102592571150095
  let d := c + (c.toUInt64 >>> ((8 : Int32).toInt64.toUInt64 &&& Int64.toUInt64 63)).toInt64
  let f := d + (d.toUInt64 >>> ((16 : Int32).toInt64.toUInt64 &&& Int64.toUInt64 63)).toInt64
  let g := f + (f.toUInt64 >>> ((32 : Int32).toInt64.toUInt64 &&& Int64.toUInt64 63)).toInt64
  g.toInt32 &&& 127
def cntR (σ : S2) (β : B2) (mk : Int64) (what : Int32) : Int32 := if what = 0 then σ 0 0 else if what = 1 then σ 0 0 - σ 1 0 else if what = 2 then σ 6 0 else if what = 3 then cnL (fun j => β 2 (ix j)) (σ 1 0) (σ 0 0) 0 else
  if what = 4 then σ 2 0 else if what = 5 then σ 3 0 else if what = 6 then σ 4 0 else if what = 7 then σ 5 0 else if what = 8 then bcn mk else if what = 9 then (if σ 0 0 - σ 1 0 ≤ 0 then -1 else σ 1 0) else -1
/-! what the reference's methods say -/
def ioM (μ : S2) (op : Int32) : Bool := !decide (op < 0) && !decide (μ 1 0 ≤ op)
def waM (μ : S2) (op : Int32) : Bool := !decide (op < μ 2 0) && !decide (μ 1 0 ≤ op)
def iszM (kind size : Int32) : Bool := if kind = 2 then decide (size = 0) else decide (size = 1) || (decide (size = 2) || decide (size = 4))
def bom (v s k : Int32) : Int32 := (v >>> ((8 * (s - 1 - k)) &&& 31)) &&& 255
def cvM (pl sz at0 : Int32) : Bool := !decide (at0 < pl) && !decide (pl + sz ≤ at0)
def haM (μ : S2) (i : Nat) (at0 : Int32) : Bool := !decide (μ 15 i < 0) && cvM (μ 15 i) (μ 13 i) at0
def wrU (pl sz v : Int32) : Nat → Int32 → S2 → S2
  | 0, _, μ => μ
  | c + 1, k, μ => wrU pl sz v c (k + 1) (sA μ 10 (pl + k).toNatClampNeg (bom v sz k))
def wrL (pl sz v k : Int32) (μ : S2) : S2 := wrU pl sz v (dist k sz) k μ
theorem wrL_out {pl sz v k : Int32} {μ : S2} (c : sz ≤ k) : wrL pl sz v k μ = μ := by
  unfold wrL
  rw [dist_out c]
  rfl
theorem wrL_in {pl sz v k : Int32} {μ : S2} (c : ¬ sz ≤ k) : wrL pl sz v k μ = wrL pl sz v (k + 1) (sA μ 10 (pl + k).toNatClampNeg (bom v sz k)) := by
  unfold wrL
  rw [dist_in c]
  rfl
def soP (μ : S2) (at0 j : Int32) : Bool := decide (μ 12 (ix j) = 1) && haM μ (ix j) at0
def soM (μ : S2) (op at0 : Int32) : Int32 := laL (soP μ at0) (μ 2 0) (op - 1)
def buU (μ : S2) (at0 : Int32) : Nat → Int32 → Int32 → Int32
  | 0, _, n => n
  | k + 1, i, n => buU μ at0 k (i + 1) (if cvM (μ 22 i.toNatClampNeg) (μ 23 i.toNatClampNeg) at0 = true then i else n)
def buL (μ : S2) (at0 i n : Int32) : Int32 := buU μ at0 (dist i (μ 7 0)) i n
theorem buL_out {μ : S2} {at0 i n : Int32} (c : μ 7 0 ≤ i) : buL μ at0 i n = n := by
  unfold buL
  rw [dist_out c]
  rfl
theorem buL_in {μ : S2} {at0 i n : Int32} (c : ¬ μ 7 0 ≤ i) : buL μ at0 i n = buL μ at0 (i + 1) (if cvM (μ 22 i.toNatClampNeg) (μ 23 i.toNatClampNeg) at0 = true then i else n) := by
  unfold buL
  rw [dist_in c]
  rfl
theorem in4b {x b : Int32} (h1 : 0 ≤ x) (h2 : ¬ b ≤ x) (h3 : b ≤ 4) : vp_in x 4 := in4' h1 (fun q => h2 (Int32.le_trans h3 q))
def cbM (μ : S2) (op at0 : Int32) : Bool := waM μ op && (!decide (μ 12 (ix op) = 2) && (decide (μ 15 (ix op) = -1) && (!decide (at0 < 0) && (decide (at0 ≤ 4096 - μ 13 (ix op)) && (decide (3072 ≤ at0) || !decide (3072 < at0 + μ 13 (ix op)))))))
def idM (μ : S2) (ν : B2) (op : Int32) : Bool := decide (μ 12 (ix op) = 0) && ν 2 (ix op)
def toP (μ : S2) (load st k : Int32) : Bool := haM μ (ix st) (μ 15 (ix load) + k) && !decide (st ≤ μ 20 (4 * (load &&& 127) + k).toNatClampNeg)
def toM (μ : S2) (load st : Int32) : Bool := exL (toP μ load st) 0 (μ 13 (ix load))
theorem fr_in {op k z : Int32} (h1 : 0 ≤ k) (h2 : ¬ z ≤ k) (h3 : z ≤ 4) : vp_in (4 * (op &&& 127) + k) 512 := by
  obtain ⟨a, ha, ea⟩ := pk_andE op (m := 127) 7 (by decide)
  obtain ⟨b, hb, eb⟩ := vp_in_of (in4b h1 h2 h3) (by decide)
  rw [ea, eb, show (4 : Int32) = nI 4 from rfl, pk_mul, nI_add]
  exact vp_in_nI (by omega) (by omega)
def udU (μ : S2) : Nat → Int32 → B2 → Int32 → B2 × Int32
  | 0, _, ν, a => (ν, a)
  | k + 1, i, ν, a => if idM μ ν i = true then udU μ k (i + 1) (bA ν 2 (ix i) false) (a + 1) else udU μ k (i + 1) ν a
def udL (μ : S2) (i e : Int32) (ν : B2) (a : Int32) : B2 × Int32 := udU μ (dist i e) i ν a
theorem udL_out {μ : S2} {i e a : Int32} {ν : B2} (c : e ≤ i) : udL μ i e ν a = (ν, a) := by
  unfold udL
  rw [dist_out c]
  rfl
theorem udL_in {μ : S2} {i e a : Int32} {ν : B2} (c : ¬ e ≤ i) : udL μ i e ν a = if idM μ ν i = true then udL μ (i + 1) e (bA ν 2 (ix i) false) (a + 1) else udL μ (i + 1) e ν a := by
  unfold udL
  rw [dist_in c]
  rfl
