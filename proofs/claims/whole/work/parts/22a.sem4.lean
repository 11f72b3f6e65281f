/-- a code as the class has it -/
def xcd (c : Nat) : Int32 := if c < 11 then nI (10000 + c) else if 100000 ≤ c then nI (c - 100000) else if c = 11 then -5 else if c = 12 then -6 else if c = 13 then -7 else if c = 19 then -8 else if c = 14 then -60 else if c = 15 then -61 else if c = 16 then -43 else if c = 17 then -45 else -42
theorem xcd_nm {c : Nat} (h : c < 6) : xcd c = nI (10000 + c) := by rw [xcd, if_pos (by omega)]
theorem xcd_no {c : Nat} (h : 100000 ≤ c ∧ c < 110000) : xcd c = nI (c - 100000) := by rw [xcd, if_neg (by omega), if_pos h.1]
def s34 (k j : Nat) : Bool := decide (k = 34)
/-- the class's texts: where text t lies, what it holds -/
def pT (t : Nat) : Nat := if t = 0 then 47 else 68 + 3 * t
def TX (nt : Nat) (ts cd : Nat → Nat → Nat) (sh : List (Nat × Nat)) (a : Nat → Nat → Int32) (r : Nat → Nat → Option Nat) : Prop := a 31 1 = nI nt ∧ ∀ t, t < nt → (r 32 t = some (pT t) ∧ sh[pT t]? = some (5, 2) ∧ sh[pT t + 1]? = some (20, ts t 3) ∧ sh[pT t + 2]? = some (20, 4) ∧ r (pT t) 0 = some (pT t + 1) ∧ r (pT t) 1 = some (pT t + 2)) ∧ (∀ i, i < 4 → a (pT t + 2) i = nI (ts t i)) ∧ ∀ k, k < ts t 3 → a (pT t + 1) k = xcd (cd t k)
