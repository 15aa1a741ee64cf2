def opTh (μ : S2) (kind size : Int32) : Int32 := if (decide (kind < 0) || (decide (3 < kind) || !iszM kind size)) = true then 1 else if μ 1 0 - μ 2 0 = 32 then 2 else 0
def adTh (μ : S2) (op at0 : Int32) : Int32 := if ioM μ op = true then (if cbM μ op at0 = true then 0 else 2) else 1
def apM (μ : S2) (ν : B2) (op j : Int32) : Bool := idM μ ν j && toM μ j op
def adR (μ : S2) (ν : B2) (op : Int32) : Int32 × S2 × B2 := if μ 12 (ix op) = 1 then (if frL (apM μ ν op) (op + 1) (μ 1 0) = -1 then (0, μ, ν) else
  ((udL μ (frL (apM μ ν op) (op + 1) (μ 1 0)) (μ 1 0) (bA ν 0 (μ 14 (ix (frL (apM μ ν op) (op + 1) (μ 1 0)))).toNatClampNeg true) 0).2,
    sS (sS μ 4 (μ 4 0 + 1)) 3 (μ 3 0 + (udL μ (frL (apM μ ν op) (op + 1) (μ 1 0)) (μ 1 0) (bA ν 0 (μ 14 (ix (frL (apM μ ν op) (op + 1) (μ 1 0)))).toNatClampNeg true) 0).2),
    (udL μ (frL (apM μ ν op) (op + 1) (μ 1 0)) (μ 1 0) (bA ν 0 (μ 14 (ix (frL (apM μ ν op) (op + 1) (μ 1 0)))).toNatClampNeg true) 0).1)) else (0, μ, ν)
theorem nm1 {x : Int32} (h : 0 ≤ x) : ¬ x = -1 := fun q => by
  rw [q] at h
  exact absurd h (by decide)
def cnM (μ : S2) (ν : B2) (op : Int32) : Bool := waM μ op && ((decide (μ 12 (ix op) = 1) || decide (μ 12 (ix op) = 3)) && !ν 1 (ix op))
def nuTh (μ : S2) (ν : B2) (op : Int32) : Int32 := if ioM μ op = true then (if cnM μ ν op = true then 0 else 2) else 1
theorem frL_hit {P : Int32 → Bool} {i b : Int32} (c : ¬ b ≤ i) (h : P i = true) : frL P i b = i := by rw [frL_in c, if_pos h]
