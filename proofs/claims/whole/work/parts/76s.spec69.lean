theorem tkr_v {t : Nat} (ht : t < 10106) : (tkr t = nI 1 ↔ 100 ≤ t ∧ t < 10100) ∧ (tkr t = nI 2 ↔ 10100 ≤ t) ∧ (tkr t = nI 6 ↔ t = 7) ∧ (tkr t = nI 45 ↔ t = 45) ∧ (tkr t = nI 40 ↔ t = 40) ∧ (tkr t = nI 59 ↔ t = 59) ∧ (tkr t = nI 41 ↔ t = 41) := by
  have key : ∀ {v w : Nat}, v < 100000 → w < 100000 → (nI v = nI w ↔ v = w) := fun h1 h2 => ⟨fun q => nI_inj (by omega) (by omega) q, fun q => by rw [q]⟩
  have neg : ∀ {w : Nat}, w < 100000 → (¬ (-1 : Int32) = nI w) := fun h q => nI_nem1 (by omega) q.symm
  simp only [tkr]
  by_cases h0 : t = 0
  · simp only [if_pos h0]; refine ⟨?_, ?_, ?_, ?_, ?_, ?_, ?_⟩ <;> first | (rw [key (by omega) (by omega)] <;> omega) | (simp only [true_iff]; omega)
  · simp only [if_neg h0]
    by_cases h1 : t = 1
    · simp only [if_pos h1]; refine ⟨?_, ?_, ?_, ?_, ?_, ?_, ?_⟩ <;> exact ⟨fun q => absurd q (neg (by omega)), fun q => absurd q (by omega)⟩
    · simp only [if_neg h1]
      by_cases h2 : t < 5
      · simp only [if_pos h2]; refine ⟨?_, ?_, ?_, ?_, ?_, ?_, ?_⟩ <;> first | (rw [key (by omega) (by omega)] <;> omega) | (simp only [true_iff]; omega)
      · simp only [if_neg h2]
        by_cases h3 : t < 8
        · simp only [if_pos h3]; refine ⟨?_, ?_, ?_, ?_, ?_, ?_, ?_⟩ <;> first | (rw [key (by omega) (by omega)] <;> omega) | (simp only [true_iff]; omega)
        · simp only [if_neg h3]
          by_cases h4 : t < 100
          · simp only [if_pos h4]; refine ⟨?_, ?_, ?_, ?_, ?_, ?_, ?_⟩ <;> first | (rw [key (by omega) (by omega)] <;> omega) | (simp only [true_iff]; omega)
          · simp only [if_neg h4]
            by_cases h5 : t < 10100
            · simp only [if_pos h5]; refine ⟨?_, ?_, ?_, ?_, ?_, ?_, ?_⟩ <;> first | (rw [key (by omega) (by omega)] <;> omega) | (simp only [true_iff]; omega)
            · simp only [if_neg h5]; refine ⟨?_, ?_, ?_, ?_, ?_, ?_, ?_⟩ <;> first | (rw [key (by omega) (by omega)] <;> omega) | (simp only [true_iff]; omega)
/-- the reference's reader before token k -/
def RSx (nt : Nat) (tp : Nat → Nat) (nb k : Nat) (C : g_Mc) (a : Nat → Nat → Int32) : Prop := TP 50 8 55 nb tp a ∧ WT a ∧ a 50 11 = nI nt ∧ PMx nt C a ∧ ∃ p, p ≤ nb ∧ a 50 20 = nI p ∧ sk tp nb p = bs tp nb k
def scER (nt k j : Nat) : Bool := scPm nt k j || scNx k j
theorem scER_P {nt k j : Nat} (h : scER nt k j = false) : scPm nt k j = false := (Bool.or_eq_false_iff.mp h).1
theorem scER_N {nt k j : Nat} (h : scER nt k j = false) : scNx k j = false := (Bool.or_eq_false_iff.mp h).2
theorem PM_nx {nt : Nat} {C : g_Mc} {a a' : Nat → Nat → Int32} (h : PMx nt C a) (hc : chg scNx a a') : PMx nt C a' := ⟨(hc _ _ rfl).trans h.1, HLs_congr (fun i _ => hc 65 i rfl) h.2.1, (hc _ _ rfl).trans h.2.2.1, (hc _ _ rfl).trans h.2.2.2.1, fun i hi => (hc _ _ rfl).trans (h.2.2.2.2 i hi)⟩
theorem bs_nx {tp : Nat → Nat} {nb k : Nat} : (if bs tp nb k < nb then sk tp nb (en tp nb (bs tp nb k)) else nb) = bs tp nb (k + 1) := by rw [bs]
