theorem tkr_v {t : Nat} (ht : t < 10106) : (tkr t = nI 1 ↔ 100 ≤ t ∧ t < 10100) ∧ (tkr t = nI 2 ↔ 10100 ≤ t) ∧ (tkr t = nI 6 ↔ t = 7) ∧ (tkr t = nI 45 ↔ t = 45) ∧ (tkr t = nI 40 ↔ t = 40) ∧ (tkr t = nI 59 ↔ t = 59) ∧ (tkr t = nI 41 ↔ t = 41) := by
  have key : ∀ {v w : Nat}, v < 100000 → w < 100000 → (nI v = nI w ↔ v = w) := fun h1 h2 => ⟨fun q => nI_inj (by omega) (by omega) q, fun q => by rw [q]⟩
  have neg : ∀ {w : Nat}, w < 100000 → (¬ (-1 : Int32) = nI w) := fun h q => nI_nem1 (by omega) q.symm
  simp only [tkr]
  by_cases h0 : t = 0
  · simp only [if_pos h0]; refine ⟨?_, ?_, ?_, ?_, ?_, ?_, ?_⟩ <;> first | (rw [key (by omega) (by omega)] <;> omega) | (simp only [true_iff]; omega)
  · simp only [if_neg h0]
    by_cases h1 : t = 1
    · simp only [if_pos h1]; refine ⟨?_, ?_, ?_, ?_, ?_, ?_, ?_⟩ <;> exact ⟨fun q => absurd q (neg (by omega)), fun q => absurd q (by omega)⟩
    · simp only [if_neg h1]
      by_cases h2 : t < 5
      · simp only [if_pos h2]; refine ⟨?_, ?_, ?_, ?_, ?_, ?_, ?_⟩ <;> first | (rw [key (by omega) (by omega)] <;> omega) | (simp only [true_iff]; omega)
      · simp only [if_neg h2]
        by_cases h3 : t < 8
        · simp only [if_pos h3]; refine ⟨?_, ?_, ?_, ?_, ?_, ?_, ?_⟩ <;> first | (rw [key (by omega) (by omega)] <;> omega) | (simp only [true_iff]; omega)
        · simp only [if_neg h3]
          by_cases h4 : t < 100
          · simp only [if_pos h4]; refine ⟨?_, ?_, ?_, ?_, ?_, ?_, ?_⟩ <;> first | (rw [key (by omega) (by omega)] <;> omega) | (simp only [true_iff]; omega)
          · simp only [if_neg h4]
            by_cases h5 : t < 10100
            · simp only [if_pos h5]; refine ⟨?_, ?_, ?_, ?_, ?_, ?_, ?_⟩ <;> first | (rw [key (by omega) (by omega)] <;> omega) | (simp only [true_iff]; omega)
            · simp only [if_neg h5]; refine ⟨?_, ?_, ?_, ?_, ?_, ?_, ?_⟩ <;> first | (rw [key (by omega) (by omega)] <;> omega) | (simp only [true_iff]; omega)
/-- the reference's reader before token k -/
def RSx (nt : Nat) (tp : Nat → Nat) (nb k : Nat) (C : g_Mc) (a : Nat → Nat → Int32) : Prop := TP 50 8 55 nb tp a ∧ WT a ∧ a 50 11 = nI nt ∧ PMx nt C a ∧ ∃ p, p ≤ nb ∧ a 50 20 = nI p ∧ sk tp nb p = bs tp nb k
def scER (nt k j : Nat) : Bool := scPm nt k j || scNx k j
theorem scER_P {nt k j : Nat} (h : scER nt k j = false) : scPm nt k j = false := (Bool.or_eq_false_iff.mp h).1
theorem scER_N {nt k j : Nat} (h : scER nt k j = false) : scNx k j = false := (Bool.or_eq_false_iff.mp h).2
theorem PM_nx {nt : Nat} {C : g_Mc} {a a' : Nat → Nat → Int32} (h : PMx nt C a) (hc : chg scNx a a') : PMx nt C a' := ⟨(hc _ _ rfl).trans h.1, HLs_congr (fun i _ => hc 65 i rfl) h.2.1, (hc _ _ rfl).trans h.2.2.1, (hc _ _ rfl).trans h.2.2.2.1, fun i hi => (hc _ _ rfl).trans (h.2.2.2.2 i hi)⟩
theorem bs_nx {tp : Nat → Nat} {nb k : Nat} : (if bs tp nb k < nb then sk tp nb (en tp nb (bs tp nb k)) else nb) = bs tp nb (k + 1) := by rw [bs]
theorem PM_put {nt n v : Nat} {H : List Nat} {c : Nat → Nat} {a : Nat → Nat → Int32} (hS : PMx nt (H, n, c) a) : PMx nt (H, n + 1, va_up c n v) (up2 (up2 a 56 (200 * nt + n) (nI v)) 50 28 (nI (n + 1))) := by
  refine ⟨hS.1, HLs_congr (fun i _ => rfl) hS.2.1, hS.2.2.1, up2_s _ _ _ _, fun i hi => ?_⟩
  have hi : i < n + 1 := hi
  show up2 a 56 (200 * nt + n) (nI v) 56 (200 * nt + i) = nI (va_up c n v i)
  by_cases e : i = n
  · subst e; rw [va_up_s]; exact up2_s _ _ _ _
  · rw [va_up_n _ _ e, up2_j _ _ (by omega)]
    exact hS.2.2.2.2 i (by show i < n; omega)
theorem PM_cls {nt x n u : Nat} {H : List Nat} {c : Nat → Nat} {a : Nat → Nat → Int32} (hS : PMx nt (x :: H, n, c) a) (hu : u = cnt H) : PMx nt (H, n, c) (up2 (up2 a 50 26 (nI (H.length + 1 - 1))) 50 27 (nI u)) := by
  subst hu
  exact ⟨by simp [up2], HLs_congr (fun i _ => rfl) hS.2.1.2.2, by simp [up2], hS.2.2.2.1, fun i hi => hS.2.2.2.2 i hi⟩
theorem opc_tkv {t : Nat} (ht : t < 10106) : (100 ≤ t → t < 10100 → 100000 + tkv t = opc t) ∧ (10100 ≤ t → tkv t = opc t ∧ tkv t < 6) := by
  refine ⟨fun h1 h2 => by rw [tkv, opc, if_neg (by omega), if_neg (by omega), if_neg (by omega), if_pos h2, if_pos h2], fun h1 => ?_⟩
  rw [tkv, opc, if_neg (by omega), if_neg (by omega), if_neg (by omega), if_neg (by omega), if_neg (by omega)]
  exact ⟨rfl, by omega⟩
theorem unw_zero {l : Nat} (hl : l = 1) : ∀ (H : List Nat) (n : Nat) (c : Nat → Nat) {x : Nat} {H1 : List Nat} {z : Nat × (Nat → Nat)}, unw l H n c = (x :: H1, z) → rnk x = 0
  | [], _, _, _, _, _, h => by rw [unw] at h; cases h
  | y :: H, n, c, x, H1, z, h => by
    rw [unw] at h
    split at h
    · exact unw_zero hl H _ _ h
    · have e : y = x := by have := congrArg Prod.fst h; simp only [List.cons.injEq] at this; exact this.1
      subst e; omega
/-- what eRead leaves, told by the machine's end -/
def ERp (nt : Nat) (tp : Nat → Nat) (nb : Nat) (R : Bool × Nat × Nat × (Nat → Nat)) (a' : Nat → Nat → Int32) : Prop := a' 50 21 = nI (bs tp nb R.2.1) ∧ (∃ p, p ≤ nb ∧ a' 50 20 = nI p ∧ sk tp nb p = bs tp nb (R.2.1 + 1)) ∧ (R.1 = true → a' 50 28 = nI R.2.2.1 ∧ ∀ i, i < R.2.2.1 → a' 56 (200 * nt + i) = nI (R.2.2.2 i))
