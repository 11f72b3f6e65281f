/-! who is far from one -/
def exb (f : Nat → Bool) : Nat → Bool
  | 0 => false
  | n + 1 => exb f n || f n
theorem exb_iff {f : Nat → Bool} : ∀ {n : Nat}, exb f n = true ↔ ∃ u, u < n ∧ f u = true
  | 0 => by simp [exb]
  | n + 1 => by
    simp only [exb, Bool.or_eq_true, exb_iff (n := n)]
    constructor
    · rintro (⟨u, h1, h2⟩ | h)
      · exact ⟨u, by omega, h2⟩
      · exact ⟨n, by omega, h⟩
    · rintro ⟨u, h1, h2⟩
      by_cases e : u = n
      · subst e; exact Or.inr h2
      · exact Or.inl ⟨u, by omega, h2⟩
/-- who wills, in bits -/
def wm (φ ts cd : Nat → Nat → Nat) : Nat → Nat
  | 0 => 0
  | n + 1 => wm φ ts cd n ||| (if will φ ts cd n = true then 2 ^ n else 0)
theorem wm_lt (φ ts cd : Nat → Nat → Nat) : ∀ n, wm φ ts cd n < 2 ^ n
  | 0 => by simp [wm]
  | n + 1 => by
    have h := wm_lt φ ts cd n
    rw [wm]
    refine Nat.or_lt_two_pow (by rw [Nat.pow_succ]; omega) ?_
    split
    · rw [Nat.pow_succ]; have := Nat.two_pow_pos n; omega
    · exact Nat.two_pow_pos _
theorem wm_bit (φ ts cd : Nat → Nat → Nat) : ∀ {n v : Nat}, v < n → (wm φ ts cd n).testBit v = will φ ts cd v
  | 0, v, h => by omega
  | n + 1, v, h => by
    rw [wm, Nat.testBit_or]
    by_cases e : v = n
    · subst e
      rw [Nat.testBit_lt_two_pow (wm_lt φ ts cd v)]
      by_cases w : will φ ts cd v = true
      · simp [w]
      · simp [w]
    · rw [wm_bit φ ts cd (n := n) (by omega)]
      by_cases w : will φ ts cd n = true
      · simp [w, Nat.testBit_two_pow, show ¬ n = v by omega]
      · simp [w]
/-- the ring of those a step further, those seen -/
def rsn (φ ts cd : Nat → Nat → Nat) (p : Nat) : Nat → (Nat → Bool) × (Nat → Bool)
  | 0 => (fun v => (φ 4 p).testBit v, fun v => decide (v = p) || (φ 4 p).testBit v)
  | s + 1 => (fun v => !((rsn φ ts cd p s).2 v) && exb (fun u => (rsn φ ts cd p s).1 u && will φ ts cd u && (φ 4 u).testBit v) (φ 7 3), fun v => (rsn φ ts cd p s).2 v || (!((rsn φ ts cd p s).2 v) && exb (fun u => (rsn φ ts cd p s).1 u && will φ ts cd u && (φ 4 u).testBit v) (φ 7 3)))
def dst (φ ts cd : Nat → Nat → Nat) (p : Nat) : Nat → Nat → Nat
  | 0, _ => 0
  | n + 1, v => if (rsn φ ts cd p n).1 v = true then n + 1 else dst φ ts cd p n v
/-- none has met oneself -/
def FJ (φ : Nat → Nat → Nat) : Prop := ∀ p, p < 6 → (φ 4 p).testBit p = false
section FAR
variable {φ ts cd : Nat → Nat → Nat} {p : Nat}
theorem dst_le : ∀ n v, dst φ ts cd p n v ≤ n
  | 0, _ => Nat.le_refl _
  | n + 1, v => by
    have := dst_le n v
    rw [dst]; split <;> omega
theorem ring_iff {s v : Nat} : (rsn φ ts cd p s).1 v = true ↔ dst φ ts cd p (s + 1) v = s + 1 := by
  have := dst_le (φ := φ) (ts := ts) (cd := cd) (p := p) s v
  rw [dst]
  split
  · next h => simp [h]
  · next h => constructor
              · intro q; exact absurd q h
              · intro q; omega
theorem seen_iff : ∀ {s v : Nat}, (rsn φ ts cd p s).2 v = true ↔ v = p ∨ dst φ ts cd p (s + 1) v ≠ 0
  | 0, v => by
    simp only [rsn, dst, Bool.or_eq_true, decide_eq_true_eq]
    by_cases e : (φ 4 p).testBit v = true <;> simp [e]
  | s + 1, v => by
    have ih := seen_iff (s := s) (v := v)
    rw [dst]
    show ((rsn φ ts cd p s).2 v || (rsn φ ts cd p (s + 1)).1 v) = true ↔ _
    rw [Bool.or_eq_true, ih]
    by_cases e : (rsn φ ts cd p (s + 1)).1 v = true
    · simp [e]
    · simp [e]
theorem ring_p (hJ : FJ φ) (hp : p < 6) : ∀ s, (rsn φ ts cd p s).1 p = false
  | 0 => hJ p hp
  | s + 1 => by
    have : (rsn φ ts cd p s).2 p = true := seen_iff.mpr (Or.inl rfl)
    simp [rsn, this]
theorem dst_p (hJ : FJ φ) (hp : p < 6) : ∀ n, dst φ ts cd p n p = 0
  | 0 => rfl
  | n + 1 => by rw [dst, ring_p hJ hp, if_neg (by decide)]; exact dst_p hJ hp n
/-- the reference's row of far ones, k + 1 rings told; amid the next ring, u told -/
def fr (φ ts cd : Nat → Nat → Nat) (p s v : Nat) : Nat := if v < φ 7 3 ∧ dst φ ts cd p s v ≠ 0 then dst φ ts cd p s v else 9
def mid (φ ts cd : Nat → Nat → Nat) (p k u v : Nat) : Nat := if v < φ 7 3 then (if dst φ ts cd p (k + 1) v ≠ 0 then dst φ ts cd p (k + 1) v else if v ≠ p ∧ exb (fun u => (rsn φ ts cd p k).1 u && will φ ts cd u && (φ 4 u).testBit v) u = true then k + 2 else 9) else 9
theorem mid_0 (k v : Nat) : mid φ ts cd p k 0 v = fr φ ts cd p (k + 1) v := by
  simp only [mid, fr, exb]
  by_cases h1 : v < φ 7 3 <;> by_cases h2 : dst φ ts cd p (k + 1) v = 0 <;> simp [h1, h2]
theorem mid_H (hJ : FJ φ) (hp : p < 6) (k v : Nat) : mid φ ts cd p k (φ 7 3) v = fr φ ts cd p (k + 2) v := by
  simp only [mid, fr]
  by_cases h1 : v < φ 7 3
  · rw [if_pos h1]
    have hs := seen_iff (φ := φ) (ts := ts) (cd := cd) (p := p) (s := k) (v := v)
    have hd : dst φ ts cd p (k + 2) v = if (rsn φ ts cd p (k + 1)).1 v = true then k + 2 else dst φ ts cd p (k + 1) v := rfl
    have hr : (rsn φ ts cd p (k + 1)).1 v = (!((rsn φ ts cd p k).2 v) && exb (fun u => (rsn φ ts cd p k).1 u && will φ ts cd u && (φ 4 u).testBit v) (φ 7 3)) := rfl
    by_cases h2 : dst φ ts cd p (k + 1) v = 0
    · rw [if_neg (by simp [h2])]
      by_cases h3 : v = p
      · subst h3
        rw [if_neg (by simp), dst_p hJ hp, if_neg (by simp)]
      · have h4 : (rsn φ ts cd p k).2 v = false := by
          rw [← Bool.not_eq_true, hs]; simp [h3, h2]
        rw [hd, hr, h4]
        by_cases h5 : exb (fun u => (rsn φ ts cd p k).1 u && will φ ts cd u && (φ 4 u).testBit v) (φ 7 3) = true
        · simp [h5, h3, h1]
        · simp [h5, h2]
    · have h4 : (rsn φ ts cd p k).2 v = true := hs.mpr (Or.inr h2)
      rw [if_pos h2, hd, hr, h4]
      simp [h2, h1]
  · rw [if_neg h1, if_neg (by simp [h1])]
theorem mid_le (k u v : Nat) (hk : k ≤ 7) : mid φ ts cd p k u v ≤ 9 := by
  have := dst_le (φ := φ) (ts := ts) (cd := cd) (p := p) (k + 1) v
  simp only [mid]; split
  · split
    · omega
    · split <;> omega
  · omega
theorem mid_same {k u v : Nat} (h : ((rsn φ ts cd p k).1 u && will φ ts cd u && (φ 4 u).testBit v) = false) : mid φ ts cd p k (u + 1) v = mid φ ts cd p k u v := by
  simp only [mid, exb, h, Bool.or_false]
theorem mid_ring {k u v : Nat} (hJ : FJ φ) (hp : p < 6) (hk : k ≤ 6) (hv : v < φ 7 3) : mid φ ts cd p k u v = k + 1 ↔ (rsn φ ts cd p k).1 v = true := by
  rw [ring_iff]
  simp only [mid, if_pos hv]
  by_cases h2 : dst φ ts cd p (k + 1) v = 0
  · rw [if_neg (by simp [h2]), h2]
    split <;> omega
  · rw [if_pos h2]
theorem mid_keep {k u v : Nat} (hk : k ≤ 6) (h : v = p ∨ mid φ ts cd p k u v ≠ 9) : mid φ ts cd p k (u + 1) v = mid φ ts cd p k u v := by
  by_cases h1 : v < φ 7 3
  · simp only [mid, if_pos h1] at h ⊢
    by_cases h2 : dst φ ts cd p (k + 1) v = 0
    · simp only [h2, ne_eq, not_true_eq_false, ↓reduceIte] at h ⊢
      by_cases h3 : v = p
      · simp [h3]
      · by_cases h5 : exb (fun u => (rsn φ ts cd p k).1 u && will φ ts cd u && (φ 4 u).testBit v) u = true
        · simp [exb, h5, h3]
        · rcases h with h | h
          · exact absurd h h3
          · exact absurd (if_neg (by simp [h5])) h
    · rw [if_pos h2, if_pos h2]
  · simp only [mid, if_neg h1]
theorem mid_set {k u v : Nat} (hk : k ≤ 6) (hv : v < φ 7 3) (h1 : v ≠ p) (h2 : mid φ ts cd p k u v = 9) (h3 : (rsn φ ts cd p k).1 u = true) (h4 : will φ ts cd u = true) (h5 : (φ 4 u).testBit v = true) : mid φ ts cd p k (u + 1) v = k + 2 := by
  have hl := dst_le (φ := φ) (ts := ts) (cd := cd) (p := p) (k + 1) v
  simp only [mid, if_pos hv] at h2 ⊢
  by_cases e : dst φ ts cd p (k + 1) v = 0
  · rw [if_neg (by simp [e]), if_pos ⟨h1, by simp [exb, h3, h4, h5]⟩]
  · rw [if_pos e] at h2; omega
end FAR
theorem mid_out {φ ts cd : Nat → Nat → Nat} {p k u v : Nat} (h : φ 7 3 ≤ v) : mid φ ts cd p k u v = 9 := by rw [mid, if_neg (by omega)]
theorem wm64 (φ ts cd : Nat → Nat → Nat) {n : Nat} (h : n ≤ 6) : wm φ ts cd n < 64 := Nat.lt_of_lt_of_le (wm_lt φ ts cd n) (Nat.pow_le_pow_right (by decide) h)
theorem mid_no {φ ts cd : Nat → Nat → Nat} {p k u v : Nat} (hJ : FJ φ) (hp : p < 6) (hk : k ≤ 6) (hu : u < φ 7 3) (h : mid φ ts cd p k u u ≠ k + 1 ∨ will φ ts cd u = false) : mid φ ts cd p k (u + 1) v = mid φ ts cd p k u v := by
  refine mid_same ?_
  rcases h with h | h
  · rw [show (rsn φ ts cd p k).1 u = false from Bool.eq_false_iff.mpr (fun q => h ((mid_ring hJ hp hk hu).mpr q))]; rfl
  · rw [h, Bool.and_false, Bool.false_and]
theorem fr1_n {φ ts cd : Nat → Nat → Nat} {p v : Nat} (h : φ 7 3 ≤ v ∨ (φ 4 p).testBit v = false) : fr φ ts cd p 1 v = 9 := by
  rw [fr, if_neg]
  rintro ⟨h1, h2⟩
  rcases h with h | h
  · omega
  · exact h2 (by simp [dst, rsn, h])
theorem fr1_y {φ ts cd : Nat → Nat → Nat} {p v : Nat} (h1 : v < φ 7 3) (h : (φ 4 p).testBit v = true) : fr φ ts cd p 1 v = 1 := by
  rw [fr, if_pos ⟨h1, by simp [dst, rsn, h]⟩]; simp [dst, rsn, h]
/-- the sponsor to a deer among the first so many, told plus 1; 0: none -/
def spb (φ ts cd : Nat → Nat → Nat) (p d : Nat) : Nat → Nat
  | 0 => 0
  | n + 1 => if dst φ ts cd p 6 n ≠ 0 ∧ will φ ts cd n = true ∧ (φ 5 n).testBit d = true ∧ (spb φ ts cd p d n = 0 ∨ dst φ ts cd p 6 n < dst φ ts cd p 6 (spb φ ts cd p d n - 1)) then n + 1 else spb φ ts cd p d n
def spi (b : Nat) : Int32 := if b = 0 then -1 else nI (b - 1)
def bf (φ ts cd : Nat → Nat → Nat) (p b : Nat) : Nat := if b = 0 then 9 else fr φ ts cd p 6 (b - 1)
def spo (φ ts cd : Nat → Nat → Nat) (p d : Nat) : Int32 := if (φ 7 0).testBit d = true ∧ (φ 5 p).testBit d = false then spi (spb φ ts cd p d (φ 7 3)) else -1
/-- the deer to which there is a sponsor, in bits -/
def spm (φ ts cd : Nat → Nat → Nat) (p : Nat) : Nat → Nat
  | 0 => 0
  | d + 1 => spm φ ts cd p d ||| (if spo φ ts cd p d = -1 then 0 else 2 ^ d)
def scW (k j : Nat) : Bool := scM k j || decide (k = 68)
theorem scW_M {k j : Nat} (h : scW k j = false) : scM k j = false := by simp [scW] at h; exact h.1
theorem scW_68 {k j : Nat} (h : scW k j = false) : sR 68 k j = false := by simp [scW] at h; simp [sR]; exact h.2
section SPB
variable {φ ts cd : Nat → Nat → Nat} {p d : Nat}
theorem fr_le (v : Nat) : fr φ ts cd p 6 v ≤ 9 := by
  have := dst_le (φ := φ) (ts := ts) (cd := cd) (p := p) 6 v
  rw [fr]; split <;> omega
theorem bf_le (b : Nat) : bf φ ts cd p b ≤ 9 := by
  have := fr_le (φ := φ) (ts := ts) (cd := cd) (p := p) (b - 1)
  rw [bf]; split <;> omega
theorem fr_dst {v : Nat} (h : v < φ 7 3) (h2 : dst φ ts cd p 6 v ≠ 0) : fr φ ts cd p 6 v = dst φ ts cd p 6 v := by rw [fr, if_pos ⟨h, h2⟩]
theorem fr_9 {v : Nat} (h2 : dst φ ts cd p 6 v = 0) : fr φ ts cd p 6 v = 9 := by rw [fr, if_neg (fun q => q.2 h2)]
theorem spb_ok : ∀ {n : Nat}, spb φ ts cd p d n ≠ 0 → spb φ ts cd p d n - 1 < n ∧ dst φ ts cd p 6 (spb φ ts cd p d n - 1) ≠ 0 ∧ will φ ts cd (spb φ ts cd p d n - 1) = true ∧ (φ 5 (spb φ ts cd p d n - 1)).testBit d = true
  | 0, h => absurd rfl h
  | n + 1, h => by
    simp only [spb] at h ⊢
    split
    · next q => exact ⟨by omega, by rw [Nat.add_sub_cancel]; exact ⟨q.1, q.2.1, q.2.2.1⟩⟩
    · next q =>
      rw [if_neg q] at h
      have := spb_ok h
      exact ⟨by omega, this.2⟩
theorem bf_dst {n : Nat} (hn : n ≤ φ 7 3) (h : spb φ ts cd p d n ≠ 0) : bf φ ts cd p (spb φ ts cd p d n) = dst φ ts cd p 6 (spb φ ts cd p d n - 1) := by
  have := spb_ok h
  rw [bf, if_neg h, fr_dst (by omega) this.2.1]
theorem spb_y {n : Nat} (hn : n < φ 7 3) (hw : will φ ts cd n = true) (hc : (φ 5 n).testBit d = true) (h : fr φ ts cd p 6 n < bf φ ts cd p (spb φ ts cd p d n)) : spb φ ts cd p d (n + 1) = n + 1 := by
  have hb := bf_le (φ := φ) (ts := ts) (cd := cd) (p := p) (spb φ ts cd p d n)
  have hd : dst φ ts cd p 6 n ≠ 0 := fun q => by rw [fr_9 q] at h; omega
  have h4 : spb φ ts cd p d n = 0 ∨ dst φ ts cd p 6 n < dst φ ts cd p 6 (spb φ ts cd p d n - 1) := by
    by_cases e : spb φ ts cd p d n = 0
    · exact Or.inl e
    · rw [fr_dst hn hd, bf_dst (by omega) e] at h; exact Or.inr h
  exact if_pos ⟨hd, hw, hc, h4⟩
theorem spb_nf {n : Nat} (hn : n < φ 7 3) (h : ¬ fr φ ts cd p 6 n < bf φ ts cd p (spb φ ts cd p d n)) : spb φ ts cd p d (n + 1) = spb φ ts cd p d n := by
  have hl := dst_le (φ := φ) (ts := ts) (cd := cd) (p := p) 6 n
  rw [spb, if_neg]
  rintro ⟨h1, _, _, h4⟩
  rw [fr_dst hn h1] at h
  rcases h4 with h4 | h4
  · rw [bf, if_pos h4] at h; omega
  · by_cases e : spb φ ts cd p d n = 0
    · rw [bf, if_pos e] at h; omega
    · rw [bf_dst (by omega) e] at h; omega
theorem spb_n {n : Nat} (h : dst φ ts cd p 6 n = 0 ∨ will φ ts cd n = false ∨ (φ 5 n).testBit d = false) : spb φ ts cd p d (n + 1) = spb φ ts cd p d n := by
  rw [spb, if_neg]
  rintro ⟨h1, h2, h3, _⟩
  rcases h with h | h | h
  · exact h1 h
  · rw [h] at h2; cases h2
  · rw [h] at h3; cases h3
theorem spm_lt : ∀ n, spm φ ts cd p n < 2 ^ n
  | 0 => by simp [spm]
  | n + 1 => by
    have h := spm_lt n
    rw [spm]
    refine Nat.or_lt_two_pow (by rw [Nat.pow_succ]; omega) ?_
    split
    · exact Nat.two_pow_pos _
    · rw [Nat.pow_succ]; have := Nat.two_pow_pos n; omega
end SPB
