def ofk (k o : Nat) : Bool := decide (k = o ∨ o = 0 ∨ (k = 3 ∧ o = 1) ∨ (k = 4 ∧ o = 2))
theorem willso_t {φ ts cd : Nat → Nat → Nat} {p : Nat} (h : ask φ ts cd 2 p 0 ≠ 0) : willso φ ts cd p = true := by
  simp only [willso, ask, ask3, if_pos] at h ⊢
  split at h
  · exact absurd nI_0 h
  · next q => rw [if_neg q]; simp
theorem willso_f {φ ts cd : Nat → Nat → Nat} {p : Nat} (h : ask φ ts cd 2 p 0 = 0) : willso φ ts cd p = false := by
  simp only [willso, ask, ask3, if_pos] at h ⊢
  split at h
  · next q => rw [if_pos q]; simp; decide
  · exact absurd h (by decide)
/-- honour behind an introduction -/
def rewI (φ ts cd : Nat → Nat → Nat) (p : Nat) : Int32 := wth (nI (φ 3 p) + gains φ ts cd p) (nI 0) (nI 99)
def rewN (φ ts cd : Nat → Nat → Nat) (p : Nat) : Nat := (rewI φ ts cd p).toNatClampNeg
theorem wth_99 (x : Int32) : ∃ n, n ≤ 99 ∧ wth x (nI 0) (nI 99) = nI n := by
  rw [wth]
  by_cases h1 : x < nI 0
  · exact ⟨0, by omega, by rw [if_pos h1]⟩
  · rw [if_neg h1]
    by_cases h2 : nI 99 < x
    · exact ⟨99, by omega, by rw [if_pos h2]⟩
    · rw [if_neg h2]
      rw [nI_0] at h1
      obtain ⟨j, hj, rfl⟩ := nI_of h1
      refine ⟨j, ?_, rfl⟩
      rcases Nat.lt_or_ge 99 j with z | z
      · exact absurd (nI_lt z hj) h2
      · exact z
theorem rewN_le (φ ts cd : Nat → Nat → Nat) (p : Nat) : rewN φ ts cd p ≤ 99 := by
  obtain ⟨n, h1, h2⟩ := wth_99 (nI (φ 3 p) + gains φ ts cd p)
  rw [rewN, rewI, h2, nI_clamp (by omega)]; exact h1
theorem rewI_eq (φ ts cd : Nat → Nat → Nat) (p : Nat) : rewI φ ts cd p = nI (rewN φ ts cd p) := by
  obtain ⟨n, h1, h2⟩ := wth_99 (nI (φ 3 p) + gains φ ts cd p)
  rw [rewN, rewI, h2, nI_clamp (by omega)]
def scT (f k j : Nat) : Bool := scR k j || decide (k = f + 1) || decide (k = f + 4) || (decide (k = f) && decide (j = 1))
theorem scT_R {f k j : Nat} (h : scT f k j = false) : scR k j = false := by simp [scT] at h; exact h.1.1.1
theorem scT_ne {f k j : Nat} (h1 : k ≠ 33) (h2 : k ≠ 34) (h3 : k ≠ f + 1) (h4 : k ≠ f + 4) (h5 : k ≠ f) : scT f k j = false := by simp [scT, scR, h1, h2, h3, h4, h5]
theorem TX_T {f nt : Nat} {ts cd : Nat → Nat → Nat} {sh : List (Nat × Nat)} {a a' : Nat → Nat → Int32} {r : Nat → Nat → Option Nat} (h : TX nt ts cd sh a r) (hf : f ≤ 17) (hc : chg (scT f) a a') : TX nt ts cd sh a' r := TX_ch h hc (scT_ne (by decide) (by decide) (by omega) (by omega) (by omega)) (fun k j hk => scT_ne (by omega) (by omega) (by omega) (by omega) (by omega))
theorem up2_comm (a : Nat → Nat → Int32) {k k' : Nat} (j j' : Nat) (v v' : Int32) (h : k ≠ k') : up2 (up2 a k j v) k' j' v' = up2 (up2 a k' j' v') k j v := by
  funext x y
  by_cases h1 : x = k
  · subst h1; simp [up2, h]
  · simp [up2, h1]
