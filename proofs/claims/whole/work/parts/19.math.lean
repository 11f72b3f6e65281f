/-! plain facts of numbers and bits -/
def inb (v lo hi : Int32) : Bool := decide (lo ≤ v ∧ v ≤ hi)
theorem inb_f1 {v lo hi : Int32} (h : v < lo) : inb v lo hi = false := by simp [inb]; intro q; exact absurd q (Int32.not_le.mpr h)
theorem inb_f2 {v lo hi : Int32} (h : hi < v) : inb v lo hi = false := by simp [inb]; intro _; exact h
theorem inb_tt {v lo hi : Int32} (h1 : ¬ v < lo) (h2 : ¬ hi < v) : inb v lo hi = true := by simp [inb]; exact ⟨Int32.not_lt.mp h1, Int32.not_lt.mp h2⟩
/-- a place of n -/
def inr (p : Int32) (n : Nat) : Bool := !(decide (p < 0)) && decide (p.toNatClampNeg < n)
theorem inr_iff {p : Int32} {n : Nat} : inr p n = true ↔ vp_in p n := by
  simp only [inr, Bool.and_eq_true, Bool.not_eq_true', decide_eq_false_iff_not, decide_eq_true_eq, vp_in]
  constructor
  · rintro ⟨h1, h2⟩ (h | h)
    · exact h1 h
    · omega
  · intro h
    exact ⟨fun q => h (Or.inl q), by
      rcases Nat.lt_or_ge p.toNatClampNeg n with z | z
      · exact z
      · exact absurd (Or.inr z) h⟩
theorem inr_t {p : Int32} {n : Nat} (h : inr p n = true) (hn : n < 2147483648) : ∃ j, j < n ∧ p = nI j := vp_in_of (inr_iff.mp h) hn
theorem inr_nI {j n : Nat} (h : j < 2147483648) : inr (nI j) n = decide (j < n) := by
  simp [inr, nI_lt0 h, nI_clamp h]
theorem inr_lt {p : Int32} {n : Nat} (h : p < 0) : inr p n = false := by simp [inr, h]
theorem inr_ge {p : Int32} {n : Nat} (hn : n < 2147483648) (h : nI n ≤ p) : inr p n = false := by
  cases hh : inr p n with
  | false => rfl
  | true =>
    obtain ⟨j, hj, rfl⟩ := inr_t hh hn
    have := (nI_leI hn (Nat.lt_trans hj hn)).mp h
    omega
theorem inr_ok {p : Int32} {n : Nat} (hn : n < 2147483648) (h1 : ¬ p < 0) (h2 : ¬ nI n ≤ p) : inr p n = true := by
  obtain ⟨j, hj, rfl⟩ := nI_of h1
  rw [inr_nI hj]
  have : ¬ n ≤ j := fun z => h2 (nI_le z hj)
  simp; omega
theorem inb0 {p : Int32} {k : Nat} (hk : k + 1 < 2147483648) : inb p (nI 0) (nI k) = inr p (k + 1) := by
  rw [nI_0]
  cases hh : inr p (k + 1) with
  | true =>
    obtain ⟨j, hj, rfl⟩ := inr_t hh hk
    exact inb_tt (nI_lt0 (by omega)) (fun q => by have := (nI_ltI (by omega) (by omega)).mp q; omega)
  | false =>
    by_cases h1 : p < 0
    · exact inb_f1 h1
    · obtain ⟨j, hj, rfl⟩ := nI_of h1
      rw [inr_nI hj] at hh
      have hh : ¬ j < k + 1 := by simpa using hh
      exact inb_f2 (nI_lt (by omega) hj)
theorem inbN {p : Int32} {n : Nat} (hn : n < 2147483648) : inb p (nI 0) (nI n - nI 1) = inr p n := by
  cases n with
  | zero =>
    have e : nI 0 - nI 1 = -1 := by decide
    rw [e, nI_0]
    by_cases h1 : p < 0
    · rw [inb_f1 h1, inr_lt h1]
    · obtain ⟨j, hj, rfl⟩ := nI_of h1
      rw [inb_f2 (show -1 < nI j by
        have : (-1 : Int32) < 0 := by decide
        exact Int32.lt_of_lt_of_le this (nI_pos' hj))]
      rw [inr_nI hj]
      simp
  | succ n =>
    rw [pk_sub (show 1 ≤ n + 1 by omega), Nat.add_sub_cancel]
    exact inb0 (k := n) (by omega)
-- bits
theorem sm_k : ∀ d, d < 32 → ((nI d &&& 31).toBitVec.smod 32).toNat = d := by decide +kernel
theorem shr_n {n d : Nat} (hn : n < 2147483648) (hd : d < 32) : nI n >>> (nI d &&& 31) = nI (n / 2 ^ d) := pk_shrN hn _ d (sm_k d hd)
theorem and_1 {n : Nat} (hn : n < 4294967296) : nI n &&& nI 1 = nI (n % 2) := by
  have := pk_andN (n := n) hn (m := nI 1) 1 (by decide)
  simpa using this
theorem bit_sr {n d : Nat} (hn : n < 2147483648) (hd : d < 32) : (nI n >>> (nI d &&& 31)) &&& nI 1 = bI (n.testBit d) := by
  rw [shr_n hn hd, and_1 (Nat.lt_of_le_of_lt (Nat.div_le_self _ _) (by omega)), Nat.testBit_eq_decide_div_mod_eq]
  rcases Nat.mod_two_eq_zero_or_one (n / 2 ^ d) with h | h <;> rw [h] <;> rfl
theorem shl_1 : ∀ d, d < 31 → nI 1 <<< (nI d &&& 31) = nI (2 ^ d) := by decide +kernel
/-- how many of the first k bits are set -/
def pops (n : Nat) : Nat → Nat
  | 0 => 0
  | k + 1 => pops n k + (if n.testBit k then 1 else 0)
theorem pops_le (n : Nat) : ∀ k, pops n k ≤ k
  | 0 => Nat.le_refl _
  | k + 1 => by have := pops_le n k; simp only [pops]; split <;> omega
theorem bI_add {i : Nat} {b : Bool} : nI i + bI b = nI (i + (if b then 1 else 0)) := by cases b <;> simp [bI, nI_add]
