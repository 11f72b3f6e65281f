/-! who is far from one -/
def exb (f : Nat → Bool) : Nat → Bool
  | 0 => false
  | n + 1 => exb f n || f n
theorem exb_iff {f : Nat → Bool} : ∀ {n : Nat}, exb f n = true ↔ ∃ u, u < n ∧ f u = true
  | 0 => by simp [exb]
  | n + 1 => by
    simp only [exb, Bool.or_eq_true, exb_iff (n := n)]
    constructor
    · rintro (⟨u, h1, h2⟩ | h)
      · exact ⟨u, by omega, h2⟩
      · exact ⟨n, by omega, h⟩
    · rintro ⟨u, h1, h2⟩
      by_cases e : u = n
      · subst e; exact Or.inr h2
      · exact Or.inl ⟨u, by omega, h2⟩
/-- who wills, in bits -/
def wm (φ ts cd : Nat → Nat → Nat) : Nat → Nat
  | 0 => 0
  | n + 1 => wm φ ts cd n ||| (if will φ ts cd n = true then 2 ^ n else 0)
theorem wm_lt (φ ts cd : Nat → Nat → Nat) : ∀ n, wm φ ts cd n < 2 ^ n
  | 0 => by simp [wm]
  | n + 1 => by
    have h := wm_lt φ ts cd n
    rw [wm]
    refine Nat.or_lt_two_pow (by rw [Nat.pow_succ]; omega) ?_
    split
    · rw [Nat.pow_succ]; have := Nat.two_pow_pos n; omega
    · exact Nat.two_pow_pos _
theorem wm_bit (φ ts cd : Nat → Nat → Nat) : ∀ {n v : Nat}, v < n → (wm φ ts cd n).testBit v = will φ ts cd v
  | 0, v, h => by omega
  | n + 1, v, h => by
    rw [wm, Nat.testBit_or]
    by_cases e : v = n
    · subst e
      rw [Nat.testBit_lt_two_pow (wm_lt φ ts cd v)]
      by_cases w : will φ ts cd v = true
      · simp [w]
      · simp [w]
    · rw [wm_bit φ ts cd (n := n) (by omega)]
      by_cases w : will φ ts cd n = true
      · simp [w, Nat.testBit_two_pow, show ¬ n = v by omega]
      · simp [w]
/-- the ring of those a step further, those seen -/
def rsn (φ ts cd : Nat → Nat → Nat) (p : Nat) : Nat → (Nat → Bool) × (Nat → Bool)
  | 0 => (fun v => (φ 4 p).testBit v, fun v => decide (v = p) || (φ 4 p).testBit v)
  | s + 1 => (fun v => !((rsn φ ts cd p s).2 v) && exb (fun u => (rsn φ ts cd p s).1 u && will φ ts cd u && (φ 4 u).testBit v) (φ 7 3), fun v => (rsn φ ts cd p s).2 v || (!((rsn φ ts cd p s).2 v) && exb (fun u => (rsn φ ts cd p s).1 u && will φ ts cd u && (φ 4 u).testBit v) (φ 7 3)))
def dst (φ ts cd : Nat → Nat → Nat) (p : Nat) : Nat → Nat → Nat
  | 0, _ => 0
  | n + 1, v => if (rsn φ ts cd p n).1 v = true then n + 1 else dst φ ts cd p n v
/-- none has met oneself -/
def FJ (φ : Nat → Nat → Nat) : Prop := ∀ p, p < 6 → (φ 4 p).testBit p = false
section FAR
variable {φ ts cd : Nat → Nat → Nat} {p : Nat}
theorem dst_le : ∀ n v, dst φ ts cd p n v ≤ n
  | 0, _ => Nat.le_refl _
  | n + 1, v => by
    have := dst_le n v
    rw [dst]; split <;> omega
theorem ring_iff {s v : Nat} : (rsn φ ts cd p s).1 v = true ↔ dst φ ts cd p (s + 1) v = s + 1 := by
  have := dst_le (φ := φ) (ts := ts) (cd := cd) (p := p) s v
  rw [dst]
  split
  · next h => simp [h]
  · next h => constructor
              · intro q; exact absurd q h
              · intro q; omega
theorem seen_iff : ∀ {s v : Nat}, (rsn φ ts cd p s).2 v = true ↔ v = p ∨ dst φ ts cd p (s + 1) v ≠ 0
  | 0, v => by
    simp only [rsn, dst, Bool.or_eq_true, decide_eq_true_eq]
    by_cases e : (φ 4 p).testBit v = true <;> simp [e]
  | s + 1, v => by
    have ih := seen_iff (s := s) (v := v)
    rw [dst]
    show ((rsn φ ts cd p s).2 v || (rsn φ ts cd p (s + 1)).1 v) = true ↔ _
    rw [Bool.or_eq_true, ih]
    by_cases e : (rsn φ ts cd p (s + 1)).1 v = true
    · simp [e]
    · simp [e]
theorem ring_p (hJ : FJ φ) (hp : p < 6) : ∀ s, (rsn φ ts cd p s).1 p = false
  | 0 => hJ p hp
  | s + 1 => by
    have : (rsn φ ts cd p s).2 p = true := seen_iff.mpr (Or.inl rfl)
    simp [rsn, this]
theorem dst_p (hJ : FJ φ) (hp : p < 6) : ∀ n, dst φ ts cd p n p = 0
  | 0 => rfl
  | n + 1 => by rw [dst, ring_p hJ hp, if_neg (by decide)]; exact dst_p hJ hp n
/-- the reference's row of far ones, k + 1 rings told; amid the next ring, u told -/
def fr (φ ts cd : Nat → Nat → Nat) (p s v : Nat) : Nat := if v < φ 7 3 ∧ dst φ ts cd p s v ≠ 0 then dst φ ts cd p s v else 9
def mid (φ ts cd : Nat → Nat → Nat) (p k u v : Nat) : Nat := if v < φ 7 3 then (if dst φ ts cd p (k + 1) v ≠ 0 then dst φ ts cd p (k + 1) v else if v ≠ p ∧ exb (fun u => (rsn φ ts cd p k).1 u && will φ ts cd u && (φ 4 u).testBit v) u = true then k + 2 else 9) else 9
theorem mid_0 (k v : Nat) : mid φ ts cd p k 0 v = fr φ ts cd p (k + 1) v := by
  simp only [mid, fr, exb]
  by_cases h1 : v < φ 7 3 <;> by_cases h2 : dst φ ts cd p (k + 1) v = 0 <;> simp [h1, h2]
theorem mid_H (hJ : FJ φ) (hp : p < 6) (k v : Nat) : mid φ ts cd p k (φ 7 3) v = fr φ ts cd p (k + 2) v := by
  simp only [mid, fr]
  by_cases h1 : v < φ 7 3
  · rw [if_pos h1]
    have hs := seen_iff (φ := φ) (ts := ts) (cd := cd) (p := p) (s := k) (v := v)
    have hd : dst φ ts cd p (k + 2) v = if (rsn φ ts cd p (k + 1)).1 v = true then k + 2 else dst φ ts cd p (k + 1) v := rfl
    have hr : (rsn φ ts cd p (k + 1)).1 v = (!((rsn φ ts cd p k).2 v) && exb (fun u => (rsn φ ts cd p k).1 u && will φ ts cd u && (φ 4 u).testBit v) (φ 7 3)) := rfl
    by_cases h2 : dst φ ts cd p (k + 1) v = 0
    · rw [if_neg (by simp [h2])]
      by_cases h3 : v = p
      · subst h3
        rw [if_neg (by simp), dst_p hJ hp, if_neg (by simp)]
      · have h4 : (rsn φ ts cd p k).2 v = false := by
          rw [← Bool.not_eq_true, hs]; simp [h3, h2]
        rw [hd, hr, h4]
        by_cases h5 : exb (fun u => (rsn φ ts cd p k).1 u && will φ ts cd u && (φ 4 u).testBit v) (φ 7 3) = true
        · simp [h5, h3, h1]
        · simp [h5, h2]
    · have h4 : (rsn φ ts cd p k).2 v = true := hs.mpr (Or.inr h2)
      rw [if_pos h2, hd, hr, h4]
      simp [h2, h1]
  · rw [if_neg h1, if_neg (by simp [h1])]
theorem mid_le (k u v : Nat) (hk : k ≤ 7) : mid φ ts cd p k u v ≤ 9 := by
  have := dst_le (φ := φ) (ts := ts) (cd := cd) (p := p) (k + 1) v
  simp only [mid]; split
  · split
    · omega
    · split <;> omega
  · omega
theorem mid_same {k u v : Nat} (h : ((rsn φ ts cd p k).1 u && will φ ts cd u && (φ 4 u).testBit v) = false) : mid φ ts cd p k (u + 1) v = mid φ ts cd p k u v := by
  simp only [mid, exb, h, Bool.or_false]
theorem mid_ring {k u v : Nat} (hJ : FJ φ) (hp : p < 6) (hk : k ≤ 6) (hv : v < φ 7 3) : mid φ ts cd p k u v = k + 1 ↔ (rsn φ ts cd p k).1 v = true := by
  rw [ring_iff]
  simp only [mid, if_pos hv]
  by_cases h2 : dst φ ts cd p (k + 1) v = 0
  · rw [if_neg (by simp [h2]), h2]
    split <;> omega
  · rw [if_pos h2]
theorem mid_keep {k u v : Nat} (hk : k ≤ 6) (h : v = p ∨ mid φ ts cd p k u v ≠ 9) : mid φ ts cd p k (u + 1) v = mid φ ts cd p k u v := by
  by_cases h1 : v < φ 7 3
  · simp only [mid, if_pos h1] at h ⊢
    by_cases h2 : dst φ ts cd p (k + 1) v = 0
    · simp only [h2, ne_eq, not_true_eq_false, ↓reduceIte] at h ⊢
      by_cases h3 : v = p
      · simp [h3]
      · by_cases h5 : exb (fun u => (rsn φ ts cd p k).1 u && will φ ts cd u && (φ 4 u).testBit v) u = true
        · simp [exb, h5, h3]
        · rcases h with h | h
          · exact absurd h h3
          · exact absurd (if_neg (by simp [h5])) h
    · rw [if_pos h2, if_pos h2]
  · simp only [mid, if_neg h1]
theorem mid_set {k u v : Nat} (hk : k ≤ 6) (hv : v < φ 7 3) (h1 : v ≠ p) (h2 : mid φ ts cd p k u v = 9) (h3 : (rsn φ ts cd p k).1 u = true) (h4 : will φ ts cd u = true) (h5 : (φ 4 u).testBit v = true) : mid φ ts cd p k (u + 1) v = k + 2 := by
  have hl := dst_le (φ := φ) (ts := ts) (cd := cd) (p := p) (k + 1) v
  simp only [mid, if_pos hv] at h2 ⊢
  by_cases e : dst φ ts cd p (k + 1) v = 0
  · rw [if_neg (by simp [e]), if_pos ⟨h1, by simp [exb, h3, h4, h5]⟩]
  · rw [if_pos e] at h2; omega
end FAR
theorem mid_out {φ ts cd : Nat → Nat → Nat} {p k u v : Nat} (h : φ 7 3 ≤ v) : mid φ ts cd p k u v = 9 := by rw [mid, if_neg (by omega)]
theorem wm64 (φ ts cd : Nat → Nat → Nat) {n : Nat} (h : n ≤ 6) : wm φ ts cd n < 64 := Nat.lt_of_lt_of_le (wm_lt φ ts cd n) (Nat.pow_le_pow_right (by decide) h)
theorem mid_no {φ ts cd : Nat → Nat → Nat} {p k u v : Nat} (hJ : FJ φ) (hp : p < 6) (hk : k ≤ 6) (hu : u < φ 7 3) (h : mid φ ts cd p k u u ≠ k + 1 ∨ will φ ts cd u = false) : mid φ ts cd p k (u + 1) v = mid φ ts cd p k u v := by
  refine mid_same ?_
  rcases h with h | h
  · rw [show (rsn φ ts cd p k).1 u = false from Bool.eq_false_iff.mpr (fun q => h ((mid_ring hJ hp hk hu).mpr q))]; rfl
  · rw [h, Bool.and_false, Bool.false_and]
