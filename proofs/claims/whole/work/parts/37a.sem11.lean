theorem inb_r {v : Int32} {l h : Nat} (hh : h < 2147483648) (hl : l ≤ h) (q : inb v (nI l) (nI h) = true) : ∃ j, l ≤ j ∧ j ≤ h ∧ v = nI j := by
  have q2 : nI l ≤ v ∧ v ≤ nI h := of_decide_eq_true q
  have h0 : ¬ v < 0 := fun z => nI_lt0 (by omega) (Int32.lt_of_le_of_lt q2.1 z)
  obtain ⟨j, hj, rfl⟩ := nI_of h0
  refine ⟨j, ?_, ?_, rfl⟩
  · rcases Nat.lt_or_ge j l with z | z
    · exact absurd (nI_lt z (by omega)) (Int32.not_lt.mpr q2.1)
    · exact z
  · rcases Nat.lt_or_ge h j with z | z
    · exact absurd (nI_lt z hj) (Int32.not_lt.mpr q2.2)
    · exact z
theorem cir_H {φ ts cd : Nat → Nat → Nat} {p n : Nat} : ∀ m, cir φ ts cd p n (φ 7 3 + m) = cir φ ts cd p n (φ 7 3)
  | 0 => rfl
  | m + 1 => by
    rw [← Nat.add_assoc, cir, if_neg (fun z => by have := z.1; rw [fx, if_neg (by omega)] at this; omega), Nat.or_zero, cir_H m]
theorem cir_6 {φ ts cd : Nat → Nat → Nat} {p n : Nat} (h : φ 7 3 ≤ 6) : cir φ ts cd p n 6 = cir φ ts cd p n (φ 7 3) := by
  have := cir_H (φ := φ) (ts := ts) (cd := cd) (p := p) (n := n) (6 - φ 7 3)
  rw [show φ 7 3 + (6 - φ 7 3) = 6 by omega] at this; exact this
theorem cir_iff {φ ts cd : Nat → Nat → Nat} {p n q : Nat} (hq : q < φ 7 3) (hn : n ≤ 6) : fr φ ts cd p 6 q ≤ n ↔ (0 < fx φ ts cd p 6 q ∧ fx φ ts cd p 6 q ≤ n) := by
  rw [fx_dst hq, fr]
  by_cases e : dst φ ts cd p 6 q = 0
  · rw [if_neg (fun z => z.2 e), e]; omega
  · rw [if_pos ⟨hq, e⟩]; omega
/-- the answers of circle, way -/
def oCircle (φ ts cd : Nat → Nat → Nat) (p n : Int32) : Int32 := if inr p (φ 7 3) = false then -5 else if inb n (nI 1) (nI 6) = false then -7 else nI (cir φ ts cd p.toNatClampNeg n.toNatClampNeg 6)
