def opTh (μ : S2) (kind size : Int32) : Int32 := if (decide (kind < 0) || (decide (3 < kind) || !iszM kind size)) = true then 1 else if μ 1 0 - μ 2 0 = 32 then 2 else 0
def adTh (μ : S2) (op at0 : Int32) : Int32 := if ioM μ op = true then (if cbM μ op at0 = true then 0 else 2) else 1
def apM (μ : S2) (ν : B2) (op j : Int32) : Bool := idM μ ν j && toM μ j op
def adR (μ : S2) (ν : B2) (op : Int32) : Int32 × S2 × B2 := if μ 12 (ix op) = 1 then (if frL (apM μ ν op) (op + 1) (μ 1 0) = -1 then (0, μ, ν) else
  ((udL μ (frL (apM μ ν op) (op + 1) (μ 1 0)) (μ 1 0) (bA ν 0 (μ 14 (ix (frL (apM μ ν op) (op + 1) (μ 1 0)))).toNatClampNeg true) 0).2,
    sS (sS μ 4 (μ 4 0 + 1)) 3 (μ 3 0 + (udL μ (frL (apM μ ν op) (op + 1) (μ 1 0)) (μ 1 0) (bA ν 0 (μ 14 (ix (frL (apM μ ν op) (op + 1) (μ 1 0)))).toNatClampNeg true) 0).2),
    (udL μ (frL (apM μ ν op) (op + 1) (μ 1 0)) (μ 1 0) (bA ν 0 (μ 14 (ix (frL (apM μ ν op) (op + 1) (μ 1 0)))).toNatClampNeg true) 0).1)) else (0, μ, ν)
theorem nm1 {x : Int32} (h : 0 ≤ x) : ¬ x = -1 := fun q => by
  rw [q] at h
  exact absurd h (by decide)
def cnM (μ : S2) (ν : B2) (op : Int32) : Bool := waM μ op && ((decide (μ 12 (ix op) = 1) || decide (μ 12 (ix op) = 3)) && !ν 1 (ix op))
def nuTh (μ : S2) (ν : B2) (op : Int32) : Int32 := if ioM μ op = true then (if cnM μ ν op = true then 0 else 2) else 1
theorem frL_hit {P : Int32 → Bool} {i b : Int32} (c : ¬ b ≤ i) (h : P i = true) : frL P i b = i := by rw [frL_in c, if_pos h]
def hbPM (μ : S2) (j : Int32) : Bool := decide (μ 12 (ix j) = 2) || decide (μ 12 (ix j) = 3)
def hdM (μ : S2) (op : Int32) : Bool := exL (hbPM μ) (μ 2 0) op || (!decide (μ 15 (ix op) < 3072) && (!decide (op = μ 2 0) || !decide (μ 7 0 ≤ 0)))
def unPM (μ : S2) (j : Int32) : Bool := decide (μ 12 (ix j) = 1) && decide (μ 15 (ix j) = -1)
theorem buU_rng {μ : S2} {at0 : Int32} (hb : μ 7 0 ≤ 4) : ∀ (k : Nat) (i n : Int32), k = dist i (μ 7 0) → 0 ≤ i → (n = -1 ∨ vp_in n 4) → (buU μ at0 k i n = -1 ∨ vp_in (buU μ at0 k i n) 4)
  | 0, _, _, _, _, h => h
  | k + 1, i, n, hk, hi, h => by
    have c : ¬ μ 7 0 ≤ i := fun q => by
      have := dist_out q
      omega
    have e := dist_in c
    refine buU_rng hb k (i + 1) _ (by omega) (nn1 hi c) ?_
    split
    · exact Or.inr (in4b hi c hb)
    · exact h
theorem buL_rng {μ : S2} {at0 : Int32} (hb : μ 7 0 ≤ 4) (h : ¬ buL μ at0 0 (-1) < 0) : vp_in (buL μ at0 0 (-1)) 4 := by
  rcases buU_rng (at0 := at0) hb _ 0 (-1) rfl (by decide) (Or.inl rfl) with q | q
  · have q' : buL μ at0 0 (-1) = -1 := q
    rw [q'] at h
    exact absurd (by decide) h
  · exact q
def tkV (μ : S2) (op k : Int32) : Int32 := if soM μ op (μ 15 (ix op) + k) < 0 then (if buL μ (μ 15 (ix op) + k) 0 (-1) < 0 then μ 10 (μ 15 (ix op) + k).toNatClampNeg else
    bom (μ 24 (buL μ (μ 15 (ix op) + k) 0 (-1)).toNatClampNeg) (μ 23 (buL μ (μ 15 (ix op) + k) 0 (-1)).toNatClampNeg) (μ 15 (ix op) + k - μ 22 (buL μ (μ 15 (ix op) + k) 0 (-1)).toNatClampNeg))
  else bom (μ 16 (ix (soM μ op (μ 15 (ix op) + k)))) (μ 13 (ix (soM μ op (μ 15 (ix op) + k)))) (μ 15 (ix op) + k - μ 15 (ix (soM μ op (μ 15 (ix op) + k))))
def tkT (μ : S2) (op k : Int32) : S2 := if soM μ op (μ 15 (ix op) + k) < 0 then (if buL μ (μ 15 (ix op) + k) 0 (-1) < 0 then sS (sS (sA μ 20 (4 * (op &&& 127) + k).toNatClampNeg (-1)) 5 (μ 5 0 + 0)) 6 (μ 6 0 + 1)
    else sS (sS (sA μ 20 (4 * (op &&& 127) + k).toNatClampNeg (-2)) 5 (μ 5 0 + 0)) 6 (μ 6 0 + 1))
  else sS (sS (sA μ 20 (4 * (op &&& 127) + k).toNatClampNeg (soM μ op (μ 15 (ix op) + k))) 5 (μ 5 0 + 1)) 6 (μ 6 0 + 0)
theorem tkT_j {μ : S2} {op k : Int32} {j : Nat} (h : j ≠ 5 ∧ j ≠ 6 ∧ j ≠ 20) : tkT μ op k j = μ j := by
  unfold tkT
  split
  · split <;> simp [sA, sS, va_up, h]
  · simp [sA, sS, va_up, h]
def ctM (μ : S2) (ν : B2) (op : Int32) : Bool := waM μ op && (decide (μ 12 (ix op) = 0) && (!decide (μ 15 (ix op) < 0) && !ν 2 (ix op)))
def trTh (μ : S2) (ν : B2) (op : Int32) : Int32 := if ioM μ op = true then (if ctM μ ν op = true then 0 else 2) else 1
def snM (μ : S2) (ν : B2) (op k : Int32) : Bool := !decide (soM μ op (μ 15 (ix op) + k) < 0) && !ν 1 (ix (soM μ op (μ 15 (ix op) + k)))
def dmS (op k : Int32) (μ : S2) : S2 := sA (tkT μ op k) 17 (ix op) ((μ 17 (ix op) <<< ((8 : Int32) &&& 31)) ||| tkV μ op k)
theorem dmS_jj {μ : S2} {op k : Int32} {j : Nat} (h : j ≠ 5 ∧ j ≠ 6 ∧ j ≠ 20 ∧ j ≠ 17) : dmS op k μ j = μ j := by
  unfold dmS
  rw [sA, va_up_ne _ _ h.2.2.2]
  exact tkT_j ⟨h.1, h.2.1, h.2.2.1⟩
theorem dmS_j {μ : S2} {op k : Int32} {j : Nat} (h : j ≠ 5 ∧ j ≠ 6 ∧ j ≠ 20 ∧ j ≠ 17 := by decide) : dmS op k μ j = μ j := dmS_jj h
def dmU (op : Int32) : Nat → Int32 → S2 → S2
  | 0, _, μ => μ
  | c + 1, k, μ => dmU op c (k + 1) (dmS op k μ)
def dmL (op sz k : Int32) (μ : S2) : S2 := dmU op (dist k sz) k μ
theorem dmL_out {op sz k : Int32} {μ : S2} (c : sz ≤ k) : dmL op sz k μ = μ := by
  unfold dmL
  rw [dist_out c]
  rfl
theorem dmL_in {op sz k : Int32} {μ : S2} (c : ¬ sz ≤ k) : dmL op sz k μ = dmL op sz (k + 1) (dmS op k μ) := by
  unfold dmL
  rw [dist_in c]
  rfl
def tmL (μ : S2) (ν : B2) (op : Int32) : Int32 × S2 × B2 := if exL (snM μ ν op) 0 (μ 13 (ix op)) = true then (4, μ, ν) else (1, dmL op (μ 13 (ix op)) 0 (sA μ 17 (ix op) 0), bA ν 2 (ix op) true)
def tmR (μ : S2) (ν : B2) (op : Int32) : Int32 × S2 × B2 := if hdM μ op = true then (2, μ, ν) else if ν 0 (μ 14 (ix op)).toNatClampNeg = true then (if exL (unPM μ) (μ 2 0) op = true then (3, μ, ν) else tmL μ ν op) else tmL μ ν op
def isM (μ : S2) (ν : B2) (op : Int32) : Bool := (decide (μ 12 (ix op) = 0) && ν 2 (ix op)) || (decide (μ 12 (ix op) = 3) && !decide (μ 2 0 ≤ op))
def loTh (μ : S2) (ν : B2) (op : Int32) : Int32 := if ioM μ op = true then (if μ 1 0 - 1 - op < 64 then (if isM μ ν op = true then 0 else 2) else 3) else 1
def srTh (μ : S2) (ν : B2) (op k : Int32) : Int32 := if ioM μ op = true then (if (waM μ op && idM μ ν op) = true then (if k < 0 then 3 else if k < μ 13 (ix op) then 0 else 3) else 2) else 1
def mlM (μ : S2) (ν : B2) : Bool := if μ 12 (ix (μ 2 0)) = 0 then ν 2 (ix (μ 2 0)) else if μ 12 (ix (μ 2 0)) = 2 then decide (μ 7 0 = 0) else if μ 15 (ix (μ 2 0)) = -1 then false else if ν 1 (ix (μ 2 0)) = true then
  (decide (μ 7 0 = 0) || (decide (μ 12 (ix (μ 2 0)) = 1) && (!decide (3072 ≤ μ 15 (ix (μ 2 0))) && !decide (4 ≤ μ 7 0)))) else false
def ibS (μ : S2) (op : Int32) : S2 := sS (sA (sA (sA (sA μ 21 (μ 7 0).toNatClampNeg op) 22 (μ 7 0).toNatClampNeg (μ 15 (ix op))) 23 (μ 7 0).toNatClampNeg (μ 13 (ix op))) 24 (μ 7 0).toNatClampNeg (μ 16 (ix op))) 7 (μ 7 0 + 1)
def tfM (μ : S2) (ν : B2) (op at0 : Int32) : Bool := idM μ ν op && (!decide (at0 - μ 15 (ix op) < 0) && (!decide (μ 13 (ix op) ≤ at0 - μ 15 (ix op)) && decide (μ 20 (4 * (op &&& 127) + (at0 - μ 15 (ix op))).toNatClampNeg = -1)))
def tfM9 (μ : S2) (ν : B2) (at0 op : Int32) : Bool := tfM μ ν op at0
def otTh (at0 v : Int32) : Int32 := if (decide (at0 < 0) || (decide (4096 ≤ at0) || (decide (v < 0) || !decide (v ≤ 255)))) = true then 1 else 0
def omR (μ : S2) (ν : B2) (at0 : Int32) : Int32 × S2 × B2 := if frL (tfM9 μ ν at0) (μ 2 0) (μ 1 0) = -1 then (0, μ, ν) else
  ((udL μ (frL (tfM9 μ ν at0) (μ 2 0) (μ 1 0)) (μ 1 0) ν 0).2, sS (sS μ 4 (μ 4 0 + 1)) 3 (μ 3 0 + (udL μ (frL (tfM9 μ ν at0) (μ 2 0) (μ 1 0)) (μ 1 0) ν 0).2), (udL μ (frL (tfM9 μ ν at0) (μ 2 0) (μ 1 0)) (μ 1 0) ν 0).1)
def meTh (at0 : Int32) : Int32 := if at0 < 0 then 1 else if at0 < 4096 then 0 else 1
def foTh (μ : S2) (op : Int32) : Int32 := if ioM μ op = true then (if waM μ op = true then 0 else 2) else 1
theorem i6_in (x : Int32) : vp_in (x &&& 63) 64 := pk_andIn x 6 (by decide) (by decide)
theorem wrU_j {pl sz v : Int32} {j : Nat} (h : j ≠ 10) : ∀ (c : Nat) (k : Int32) (μ : S2), wrU pl sz v c k μ j = μ j
  | 0, _, _ => rfl
  | c + 1, k, μ => by rw [wrU, wrU_j h c (k + 1), sA, va_up_ne _ _ h]
theorem wrL_j {pl sz v k : Int32} {μ : S2} {j : Nat} (h : j ≠ 10 := by decide) : wrL pl sz v k μ j = μ j := wrU_j h _ _ _
def xmU (pl : Int32) (i : Nat) : Nat → Int32 → S2 → S2
  | 0, _, μ => μ
  | c + 1, k, μ => xmU pl i c (k + 1) (sA μ 17 i ((μ 17 i <<< ((8 : Int32) &&& 31)) ||| μ 10 (pl + k).toNatClampNeg))
def xmL (pl sz : Int32) (i : Nat) (k : Int32) (μ : S2) : S2 := xmU pl i (dist k sz) k μ
theorem xmL_out {pl sz k : Int32} {i : Nat} {μ : S2} (c : sz ≤ k) : xmL pl sz i k μ = μ := by
  unfold xmL
  rw [dist_out c]
  rfl
theorem xmL_in {pl sz k : Int32} {i : Nat} {μ : S2} (c : ¬ sz ≤ k) : xmL pl sz i k μ = xmL pl sz i (k + 1) (sA μ 17 i ((μ 17 i <<< ((8 : Int32) &&& 31)) ||| μ 10 (pl + k).toNatClampNeg)) := by
  unfold xmL
  rw [dist_in c]
  rfl
def dsS (τ : S2) (k : Int32) : S2 := sA (sA (sA (sA τ 21 k.toNatClampNeg (τ 21 (k + 1).toNatClampNeg)) 22 k.toNatClampNeg (τ 22 (k + 1).toNatClampNeg)) 23 k.toNatClampNeg (τ 23 (k + 1).toNatClampNeg)) 24 k.toNatClampNeg (τ 24 (k + 1).toNatClampNeg)
def dsU : Nat → Int32 → S2 → S2
  | 0, _, τ => τ
  | c + 1, k, τ => dsU c (k + 1) (dsS τ k)
def dsL (b k : Int32) (τ : S2) : S2 := dsU (dist k b) k τ
theorem dsL_out {b k : Int32} {τ : S2} (c : b ≤ k) : dsL b k τ = τ := by
  unfold dsL
  rw [dist_out c]
  rfl
theorem dsL_in {b k : Int32} {τ : S2} (c : ¬ b ≤ k) : dsL b k τ = dsL b (k + 1) (dsS τ k) := by
  unfold dsL
  rw [dist_in c]
  rfl
theorem in4d {k b : Int32} (h1 : 0 ≤ k) (h2 : ¬ b ≤ k) (h3 : b ≤ 3) : vp_in k 4 := in4b h1 h2 (Int32.le_trans h3 (by decide))
theorem in4e {k b : Int32} (h1 : 0 ≤ k) (h2 : ¬ b ≤ k) (h3 : b ≤ 3) : vp_in (k + 1) 4 := by
  rw [vp_in_iff]
  rw [Int32.le_iff_toInt_le] at h1 h2 h3
  have e0 : (0 : Int32).toInt = 0 := by decide
  have e1 : (1 : Int32).toInt = 1 := by decide
  have e3 : (3 : Int32).toInt = 3 := by decide
  rw [Jvm.Kit.i32_add (by omega) (by omega)]
  omega
theorem in64 {k : Int32} (h1 : 0 ≤ k) (h2 : ¬ 64 ≤ k) : vp_in k 64 := by
  rw [vp_in_iff]
  rw [Int32.le_iff_toInt_le] at h1 h2
  have e0 : (0 : Int32).toInt = 0 := by decide
  have e64 : (64 : Int32).toInt = 64 := by decide
  omega
def cmR (μ : S2) (ν : B2) (what : Int32) : Int32 := if what = 0 then μ 1 0 else if what = 1 then μ 1 0 - μ 2 0 else if what = 2 then μ 7 0 else if what = 3 then cnL (idM μ ν) (μ 2 0) (μ 1 0) 0 else
  if what = 4 then μ 3 0 else if what = 5 then μ 4 0 else if what = 6 then μ 5 0 else if what = 7 then μ 6 0 else if what = 8 then cnL (fun j => ν 0 j.toNatClampNeg) 0 64 0 else if what = 9 then (if μ 2 0 = μ 1 0 then -1 else μ 2 0) else -1
