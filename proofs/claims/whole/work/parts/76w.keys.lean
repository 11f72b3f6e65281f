-- keys and the end, as the reference's tokens
theorem tkr_w {t : Nat} (ht : t < 10106) : (tkr t = nI 3 ↔ 2 ≤ t ∧ t < 5) ∧ (tkr t = nI 0 ↔ t = 0) := by
  have key : ∀ {v w : Nat}, v < 100000 → w < 100000 → (nI v = nI w ↔ v = w) := fun h1 h2 => ⟨fun q => nI_inj (by omega) (by omega) q, fun q => by rw [q]⟩
  have neg : ∀ {w : Nat}, w < 100000 → (¬ (-1 : Int32) = nI w) := fun h q => nI_nem1 (by omega) q.symm
  simp only [tkr]
  by_cases h0 : t = 0
  · simp only [if_pos h0]; refine ⟨?_, ?_⟩ <;> first | (rw [key (by omega) (by omega)] <;> omega) | (simp only [true_iff]; omega)
  · simp only [if_neg h0]
    by_cases h1 : t = 1
    · simp only [if_pos h1]; refine ⟨?_, ?_⟩ <;> exact ⟨fun q => absurd q (neg (by omega)), fun q => absurd q (by omega)⟩
    · simp only [if_neg h1]
      by_cases h2 : t < 5
      · simp only [if_pos h2]; refine ⟨?_, ?_⟩ <;> first | (rw [key (by omega) (by omega)] <;> omega) | (simp only [true_iff]; omega)
      · simp only [if_neg h2]
        by_cases h3 : t < 8
        · simp only [if_pos h3]; refine ⟨?_, ?_⟩ <;> first | (rw [key (by omega) (by omega)] <;> omega) | (simp only [true_iff]; omega)
        · simp only [if_neg h3]
          by_cases h4 : t < 100
          · simp only [if_pos h4]; refine ⟨?_, ?_⟩ <;> first | (rw [key (by omega) (by omega)] <;> omega) | (simp only [true_iff]; omega)
          · simp only [if_neg h4]
            by_cases h5 : t < 10100
            · simp only [if_pos h5]; refine ⟨?_, ?_⟩ <;> first | (rw [key (by omega) (by omega)] <;> omega) | (simp only [true_iff]; omega)
            · simp only [if_neg h5]; refine ⟨?_, ?_⟩ <;> first | (rw [key (by omega) (by omega)] <;> omega) | (simp only [true_iff]; omega)
theorem tkv_key {t : Nat} (h : 2 ≤ t ∧ t < 5) : tkv t = t - 2 := by rw [tkv, if_neg (by omega), if_pos h.2]
