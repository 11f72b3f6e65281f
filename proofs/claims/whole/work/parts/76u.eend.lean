-- where the reference's reader ends well
def eEnd (tq : Nat → Nat) (k : Nat) (C : g_Mc) (R : Bool × Nat × Nat × (Nat → Nat)) : Prop := R.1 = true → tq R.2.1 = 59 ∧ k ≤ R.2.1 ∧ R.2.2.1 + k ≤ C.1.length + C.2.1 + R.2.1
theorem eEnd_f {tq : Nat → Nat} {k k' : Nat} {C : g_Mc} {z : Nat × (Nat → Nat)} : eEnd tq k C (false, k', z) := fun h => (Bool.false_ne_true h).elim
theorem eEnd_s {tq : Nat → Nat} {k : Nat} {C C' : g_Mc} {R : Bool × Nat × Nat × (Nat → Nat)} (h : C'.1.length + C'.2.1 ≤ C.1.length + C.2.1 + 1) (hR : eEnd tq (k + 1) C' R) : eEnd tq k C R := fun z => by
  obtain ⟨h1, h2, h3⟩ := hR z
  exact ⟨h1, by omega, by omega⟩
theorem eR_end {tq : Nat → Nat} : ∀ (fu m k : Nat) (C : g_Mc), eEnd tq k C (eR tq fu m k C)
  | 0, m, k, C => eEnd_f
  | fu + 1, m, k, C => by
    have IH := eR_end (tq := tq) fu
    have hu := fun l => unw_len (l := l) C.1 C.2.1 C.2.2
    rw [eR]
    by_cases hm : m = 0
    · rw [if_pos hm]
      by_cases h1 : tq k = 59
      · rw [if_pos h1]
        refine fun _ => ⟨h1, Nat.le_refl _, ?_⟩
        have := hu 1
        show (unw 1 C.1 C.2.1 C.2.2).2.1 + k ≤ C.1.length + C.2.1 + k
        omega
      · rw [if_neg h1]
        by_cases h2 : tq k = 41
        · rw [if_pos h2]
          by_cases h3 : (unwC 1 C).1 = []
          · rw [if_pos h3]; exact eEnd_f
          · rw [if_neg h3]
            refine eEnd_s ?_ (IH _ _ _)
            have h4 := unw_len (l := 7) (unwC 1 C).1.tail (unwC 1 C).2.1 (unwC 1 C).2.2
            have h5 : (unwC 1 C).1.length + (unwC 1 C).2.1 = C.1.length + C.2.1 := hu 1
            have h6 : (unwC 1 C).1.tail.length ≤ (unwC 1 C).1.length := by rw [List.length_tail]; omega
            omega
        · rw [if_neg h2]
          by_cases h3 : rkx (tq k) = 9
          · rw [if_pos h3]; exact eEnd_f
          · rw [if_neg h3]
            generalize (if rnk (sgc (tq k)) = 4 then 5 else rnk (sgc (tq k))) = l
            split
            · exact eEnd_f
            · refine eEnd_s ?_ (IH _ _ _)
              have h6 : (unwC l C).1.length + (unwC l C).2.1 = C.1.length + C.2.1 := hu l
              show (unwC l C).1.length + 1 + (unwC l C).2.1 ≤ _
              omega
    · rw [if_neg hm]
      by_cases h1 : 100 ≤ tq k
      · rw [if_pos h1]
        refine eEnd_s ?_ (IH _ _ _)
        have := unw_len (l := 7) C.1 (C.2.1 + 1) (va_up C.2.2 C.2.1 (opc (tq k)))
        omega
      · rw [if_neg h1]
        by_cases h2 : tq k = 7 ∧ m = 2
        · rw [if_pos h2]; split
          · exact eEnd_f
          · exact eEnd_s (by show C.1.length + 1 + C.2.1 ≤ _; omega) (IH _ _ _)
        · rw [if_neg h2]
          by_cases h3 : tq k = 45
          · rw [if_pos h3]; split
            · exact eEnd_f
            · exact eEnd_s (by show C.1.length + 1 + C.2.1 ≤ _; omega) (IH _ _ _)
          · rw [if_neg h3]
            by_cases h4 : tq k = 40
            · rw [if_pos h4]; split
              · exact eEnd_f
              · exact eEnd_s (by show C.1.length + 1 + C.2.1 ≤ _; omega) (IH _ _ _)
            · rw [if_neg h4]; exact eEnd_f
