theorem aim_le (φ ts cd : Nat → Nat → Nat) (p d : Nat) : aim φ ts cd p d ≤ 3 := by simp only [aim]; split <;> (try split) <;> (try split) <;> omega
/-- a shot changes the shy, the alive, one's honour -/
def scS (k j : Nat) : Bool := scM k j || decide (k = 53) || decide (k = 54) || (decide (k = 50) && decide (j = 5))
theorem scS_M {k j : Nat} (h : scS k j = false) : scM k j = false := by simp [scS] at h; exact h.1.1.1
theorem TM_scS {nt : Nat} {ts cd : Nat → Nat → Nat} {a a' : Nat → Nat → Int32} (h : TM nt ts cd a) (hc : chg scS a a') : TM nt ts cd a' := by
  obtain ⟨h1, h2, h3⟩ := h
  exact ⟨(hc _ _ rfl).trans h1, fun t ht i hi => (hc _ _ rfl).trans (h2 t ht i hi), fun t ht k hk => (hc _ _ rfl).trans (h3 t ht k hk)⟩
theorem clr_lt : ∀ d, d < 10 → ∀ n, n < 1024 → clr n d < 1024 := by decide +kernel
theorem FI_shot {φ ts cd : Nat → Nat → Nat} {p d : Nat} (h : FI φ) (hp : p < 6) (hd : d < 10) : FI (shot φ ts cd p d) := by
  have h1 := FI_al h
  have h2 := FI_ho h hp
  have h3 := FI_sh h hd
  simp only [shot]
  split
  · exact h
  · split
    · exact FI_setsh h (by omega)
    · split
      · exact FI_setho (FI_setal h (clr_lt d hd _ h1)) (by omega)
      · exact FI_setho (FI_setal h (clr_lt d hd _ h1)) (by omega)
theorem shot_hu (φ ts cd : Nat → Nat → Nat) (p d : Nat) : shot φ ts cd p d 7 3 = φ 7 3 := by
  simp only [shot]; split; · rfl
  split; · simp [fu]
  split <;> simp [fu]
theorem shot_la (φ ts cd : Nat → Nat → Nat) (p d : Nat) : shot φ ts cd p d 7 2 = φ 7 2 := by
  simp only [shot]; split; · rfl
  split; · simp [fu]
  split <;> simp [fu]
theorem shot_da (φ ts cd : Nat → Nat → Nat) (p d : Nat) : shot φ ts cd p d 7 1 = φ 7 1 := by
  simp only [shot]; split; · rfl
  split; · simp [fu]
  split <;> simp [fu]
