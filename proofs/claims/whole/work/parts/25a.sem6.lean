/-- what is kept holds the forest's changing part -/
def KA (φ : Nat → Nat → Nat) (a : Nat → Nat → Int32) : Prop := (∀ p, p < 6 → a 69 (4 * p) = nI (φ 3 p)) ∧ (∀ p, p < 6 → a 69 (4 * p + 1) = nI (φ 5 p)) ∧ (∀ p, p < 6 → a 69 (4 * p + 2) = nI (φ 4 p)) ∧ (∀ p, p < 6 → a 69 (4 * p + 3) = nI (φ 6 p)) ∧ (∀ d, d < 10 → a 69 (24 + d) = nI (φ 0 d)) ∧ a 69 34 = nI (φ 7 0)
def s69 (k j : Nat) : Bool := decide (k = 69)
theorem KA_ch {S : Nat → Nat → Bool} {φ : Nat → Nat → Nat} {a a' : Nat → Nat → Int32} (h : KA φ a) (hc : chg S a a') (hS : ∀ j, S 69 j = false) : KA φ a' := by
  obtain ⟨h1, h2, h3, h4, h5, h6⟩ := h
  exact ⟨fun p hp => (hc _ _ (hS _)).trans (h1 p hp), fun p hp => (hc _ _ (hS _)).trans (h2 p hp), fun p hp => (hc _ _ (hS _)).trans (h3 p hp), fun p hp => (hc _ _ (hS _)).trans (h4 p hp), fun p hp => (hc _ _ (hS _)).trans (h5 p hp), (hc _ _ (hS _)).trans h6⟩
/-- the forest with the kept part of another one -/
def lay (φ ψ : Nat → Nat → Nat) : Nat → Nat → Nat := fun x y => if x = 0 ∨ x = 3 ∨ x = 4 ∨ x = 5 ∨ x = 6 ∨ (x = 7 ∧ y = 0) then ψ x y else φ x y
def scL (k j : Nat) : Bool := decide (k = 53) || decide (k = 54) || (decide (k = 50) && decide (j = 5))
theorem nI_inj {i j : Nat} (hi : i < 4294967296) (hj : j < 4294967296) (h : nI i = nI j) : i = j := by
  have h1 := congrArg (fun z : Int32 => z.toBitVec.toNat) h
  simp only [pk_tn hi, pk_tn hj] at h1
  exact h1
theorem nI_m1_iff {i : Nat} (hi : i < 4294967296) : nI i = -1 ↔ i = 4294967295 := by
  rw [← nI_m1]
  exact ⟨fun h => nI_inj hi (by decide) h, fun h => by rw [h]⟩
/-- the sheets: sort (4294967295: missing), size, numbers -/
def MS (so sz : Nat → Nat) (cl : Nat → Nat → Int32) (a : Nat → Nat → Int32) : Prop := (∀ s, s < 4 → a 60 s = nI (so s)) ∧ (∀ s, s < 4 → a 61 s = nI (sz s)) ∧ ∀ s, s < 4 → ∀ i, i < 40 → a 62 (40 * s + i) = cl s i
def SX (so sz : Nat → Nat) (cl : Nat → Nat → Int32) (a : Nat → Nat → Int32) : Prop := (∀ s, s < 4 → a (39 + 2 * s) 0 = nI (so s)) ∧ (∀ s, s < 4 → a (39 + 2 * s) 1 = nI (sz s)) ∧ ∀ s, s < 4 → ∀ i, i < 40 → a (39 + 2 * s + 1) i = cl s i
def SI (so sz : Nat → Nat) : Prop := (∀ s, s < 4 → so s = 4294967295 ∨ so s ≤ 2) ∧ ∀ s, s < 4 → sz s ≤ 40
def allD (f : Nat → Int32) : Nat → Bool
  | 0 => true
  | n + 1 => allD f n && inr (f n) 10
theorem allD_at {f : Nat → Int32} : ∀ {n : Nat}, allD f n = true → ∀ i, i < n → ∃ d, d < 10 ∧ f i = nI d
  | 0, _, i, hi => by omega
  | n + 1, h, i, hi => by
    simp only [allD, Bool.and_eq_true] at h
    by_cases e : i = n
    · subst e; exact inr_t h.2 (by decide)
    · exact allD_at h.1 i (by omega)
/-- why a sheet tells no season; 0: it tells one -/
def swr (so sz : Nat → Nat) (cl : Nat → Nat → Int32) (s : Int32) : Int32 := if inr s 4 = false then -2 else if so s.toNatClampNeg = 4294967295 then -11 else if allD (cl s.toNatClampNeg) (sz s.toNatClampNeg) = true then nI 0 else -2
theorem MS_ch {S : Nat → Nat → Bool} {so sz : Nat → Nat} {cl : Nat → Nat → Int32} {a a' : Nat → Nat → Int32} (h : MS so sz cl a) (hc : chg S a a') (hS : ∀ k j, 60 ≤ k → k ≤ 62 → S k j = false) : MS so sz cl a' :=
  ⟨fun s hs => (hc _ _ (hS _ _ (by decide) (by decide))).trans (h.1 s hs), fun s hs => (hc _ _ (hS _ _ (by decide) (by decide))).trans (h.2.1 s hs), fun s hs i hi => (hc _ _ (hS _ _ (by decide) (by decide))).trans (h.2.2 s hs i hi)⟩
theorem scS_60 (k j : Nat) (h1 : 60 ≤ k) (h2 : k ≤ 62) : scS k j = false := by
  rcases (by omega : k = 60 ∨ k = 61 ∨ k = 62) with rfl | rfl | rfl <;> rfl
theorem scM_60 (k j : Nat) (h1 : 60 ≤ k) (h2 : k ≤ 62) : scM k j = false := by
  rcases (by omega : k = 60 ∨ k = 61 ∨ k = 62) with rfl | rfl | rfl <;> rfl
theorem up_ext {a : Nat → Nat → Int32} {k i : Nat} {v : Int32} {f : Nat → Int32} (c : Nat) (h : ∀ j, j < i → a k (c + j) = f j) (hv : v = f i) : ∀ j, j < i + 1 → up2 a k (c + i) v k (c + j) = f j := by
  intro j hj
  by_cases e : j = i
  · rw [e, up2_s]; exact hv
  · rw [up2_j _ _ (by omega)]; exact h j (by omega)
theorem up_ext0 {a : Nat → Nat → Int32} {k i : Nat} {v : Int32} {f : Nat → Int32} (h : ∀ j, j < i → a k j = f j) (hv : v = f i) : ∀ j, j < i + 1 → up2 a k i v k j = f j := by
  intro j hj
  by_cases e : j = i
  · rw [e, up2_s]; exact hv
  · rw [up2_j _ _ (by omega)]; exact h j (by omega)
