/-! the way to a sponsor -/
theorem sub1_spi (i : Nat) : nI i - nI 1 = spi i := by
  rw [spi]
  cases i with
  | zero => decide
  | succ n => rw [if_neg (by omega), Nat.add_sub_cancel, ← nI_add, Int32.sub_eq_add_neg, Int32.add_assoc, ← Int32.sub_eq_add_neg, Int32.sub_self, Int32.add_zero]
theorem dec_spi (i : Nat) : nI i + Int32.ofInt (-1) = spi i := by
  rw [← sub1_spi, show Int32.ofInt (-1) = -(nI 1) by decide, ← Int32.sub_eq_add_neg]
def isLow (f : Nat → Bool) (n u : Nat) : Prop := u < n ∧ f u = true ∧ ∀ v, v < u → f v = false
def lowf (f : Nat → Bool) : Nat → Nat → Nat
  | 0, i => i
  | n + 1, i => if f i = true then i else lowf f n (i + 1)
theorem lowf_of {f : Nat → Bool} : ∀ {n i u : Nat}, i ≤ u → u < i + n → f u = true → (∀ v, i ≤ v → v < u → f v = false) → lowf f n i = u
  | 0, i, u, h1, h2, _, _ => by omega
  | n + 1, i, u, h1, h2, h3, h4 => by
    rw [lowf]
    by_cases e : i = u
    · rw [e, if_pos h3]
    · rw [if_neg (by rw [h4 i (Nat.le_refl _) (by omega)]; decide)]
      exact lowf_of (by omega) (by omega) h3 (fun v h5 h6 => h4 v (by omega) h6)
theorem lowf_low {f : Nat → Bool} {n u : Nat} (h : isLow f n u) : lowf f n 0 = u := lowf_of (Nat.zero_le _) (by have := h.1; omega) h.2.1 (fun v _ h6 => h.2.2 v h6)
theorem low_ex {f : Nat → Bool} : ∀ {n : Nat}, (∃ u, u < n ∧ f u = true) → ∃ u, isLow f n u
  | 0, h => by obtain ⟨u, h1, _⟩ := h; omega
  | n + 1, h => by
    by_cases e : ∃ u, u < n ∧ f u = true
    · obtain ⟨u, h1, h2, h3⟩ := low_ex e; exact ⟨u, by omega, h2, h3⟩
    · obtain ⟨u, h1, h2⟩ := h
      have : u = n := by
        rcases Nat.lt_or_ge u n with q | q
        · exact absurd ⟨u, q, h2⟩ e
        · omega
      subst this
      exact ⟨u, by omega, h2, fun v hv => Bool.eq_false_iff.mpr (fun q => e ⟨v, hv, q⟩)⟩
/-- who may stand before one on the way, the first of them -/
def bef (φ ts cd : Nat → Nat → Nat) (p t q : Nat) : Bool := decide (dst φ ts cd p 6 q + 1 = dst φ ts cd p 6 t) && will φ ts cd q && (φ 4 q).testBit t
def nx (φ ts cd : Nat → Nat → Nat) (p t : Nat) : Nat := lowf (bef φ ts cd p t) (φ 7 3) 0
def ptr (φ ts cd : Nat → Nat → Nat) (p : Nat) : Nat → Nat → Nat → Nat
  | 0, _, _ => 0
  | n + 1, t, pl => if n = 0 then 0 else pl * (nx φ ts cd p t + 1) + ptr φ ts cd p n (nx φ ts cd p t) (pl * 10)
section WAY
variable {φ ts cd : Nat → Nat → Nat} {p : Nat}
theorem dst_ring {k v : Nat} : ∀ n, k < n → dst φ ts cd p n v = k + 1 → (rsn φ ts cd p k).1 v = true
  | 0, h, _ => by omega
  | n + 1, h, hd => by
    rw [dst] at hd
    split at hd
    · next q => rw [show k = n by omega]; exact q
    · have := dst_le (φ := φ) (ts := ts) (cd := cd) (p := p) n v
      exact dst_ring n (by omega) hd
theorem dst_up {k v : Nat} (h : dst φ ts cd p (k + 1) v = k + 1) : ∀ m, dst φ ts cd p (k + 1 + m) v = k + 1
  | 0 => h
  | m + 1 => by
    have ih := dst_up h m
    rw [← Nat.add_assoc, dst, if_neg, ih]
    intro q
    have hr : (rsn φ ts cd p (k + 1 + m)).1 v = (!((rsn φ ts cd p (k + m)).2 v) && exb (fun u => (rsn φ ts cd p (k + m)).1 u && will φ ts cd u && (φ 4 u).testBit v) (φ 7 3)) := by
      rw [show k + 1 + m = (k + m) + 1 by omega]; rfl
    rw [hr] at q
    have hs : (rsn φ ts cd p (k + m)).2 v = true := seen_iff.mpr (Or.inr (by rw [show k + m + 1 = k + 1 + m by omega, ih]; omega))
    rw [hs] at q; simp at q
/-- one further on stands behind one who wills -/
theorem bef_ex {k t : Nat} (hk : k + 2 ≤ 6) (h : dst φ ts cd p 6 t = k + 2) : ∃ u, isLow (bef φ ts cd p t) (φ 7 3) u ∧ dst φ ts cd p 6 u = k + 1 := by
  have h1 := dst_ring 6 (by omega) h
  have h2 : (rsn φ ts cd p (k + 1)).1 t = (!((rsn φ ts cd p k).2 t) && exb (fun u => (rsn φ ts cd p k).1 u && will φ ts cd u && (φ 4 u).testBit t) (φ 7 3)) := rfl
  rw [h2, Bool.and_eq_true] at h1
  obtain ⟨u, hu, hf⟩ := exb_iff.mp h1.2
  simp only [Bool.and_eq_true] at hf
  have h3 : dst φ ts cd p 6 u = k + 1 := by
    have := dst_up (ring_iff.mp hf.1.1) (5 - k)
    rw [show k + 1 + (5 - k) = 6 by omega] at this; exact this
  obtain ⟨w, hw⟩ := low_ex (f := bef φ ts cd p t) (n := φ 7 3) ⟨u, hu, by simp [bef, h3, h, hf.1.2, hf.2]⟩
  refine ⟨w, hw, ?_⟩
  have := hw.2.1
  simp only [bef, Bool.and_eq_true, decide_eq_true_eq] at this
  omega
theorem wth_5 : ∀ b, b < 6 → wth (nI b) (nI 0) (nI 5) = nI b := by decide +kernel
end WAY
/-- seeking downwards: the lowest met so far, plus 1 -/
def inv (f : Nat → Bool) (H i b : Nat) : Prop := (b = 0 ∧ ∀ u, i ≤ u → u < H → f u = false) ∨ (b ≠ 0 ∧ i ≤ b - 1 ∧ b - 1 < H ∧ f (b - 1) = true ∧ ∀ u, i ≤ u → u < b - 1 → f u = false)
theorem inv_y {f : Nat → Bool} {H i : Nat} (hi : i < H) (h : f i = true) : inv f H i (i + 1) := Or.inr ⟨by omega, by omega, by omega, by rw [Nat.add_sub_cancel]; exact h, fun u h1 h2 => by omega⟩
theorem inv_n {f : Nat → Bool} {H i b : Nat} (h : inv f H (i + 1) b) (hf : f i = false) : inv f H i b := by
  rcases h with ⟨h1, h2⟩ | ⟨h1, h2, h3, h4, h5⟩
  · exact Or.inl ⟨h1, fun u h3 h4 => if e : u = i then (by rw [e]; exact hf) else h2 u (by omega) h4⟩
  · exact Or.inr ⟨h1, by omega, h3, h4, fun u h6 h7 => if e : u = i then (by rw [e]; exact hf) else h5 u (by omega) h7⟩
theorem inv_0 {f : Nat → Bool} {H b : Nat} (h : inv f H 0 b) (hx : ∃ u, isLow f H u) : spi b = nI (lowf f H 0) := by
  obtain ⟨w, hw⟩ := hx
  rcases h with ⟨h1, h2⟩ | ⟨h1, h2, h3, h4, h5⟩
  · exact absurd (h2 w (Nat.zero_le _) hw.1) (by rw [hw.2.1]; decide)
  · rw [lowf_low (u := b - 1) ⟨h3, h4, fun v hv => h5 v (Nat.zero_le _) hv⟩, spi, if_neg h1]
theorem inv_s {f : Nat → Bool} {H : Nat} : inv f H H 0 := Or.inl ⟨rfl, fun u h1 h2 => by omega⟩
section WAY2
variable {φ ts cd : Nat → Nat → Nat} {p : Nat}
theorem nx_ok {k t : Nat} (hk : k + 2 ≤ 6) (h : dst φ ts cd p 6 t = k + 2) : nx φ ts cd p t < φ 7 3 ∧ dst φ ts cd p 6 (nx φ ts cd p t) = k + 1 := by
  obtain ⟨u, h1, h2⟩ := bef_ex hk h
  rw [nx, lowf_low h1]; exact ⟨h1.1, h2⟩
theorem fr_iff {k u t : Nat} (hu : u < φ 7 3) (hk : k + 2 ≤ 6) (h : dst φ ts cd p 6 t = k + 2) : fr φ ts cd p 6 u = k + 2 - 1 ↔ dst φ ts cd p 6 u + 1 = dst φ ts cd p 6 t := by
  rw [h, fr]
  by_cases e : dst φ ts cd p 6 u = 0
  · rw [if_neg (fun q => q.2 e), e]; omega
  · rw [if_pos ⟨hu, e⟩]; omega
theorem bef_t {u t : Nat} (h1 : dst φ ts cd p 6 u + 1 = dst φ ts cd p 6 t) (h2 : will φ ts cd u = true) (h3 : (φ 4 u).testBit t = true) : bef φ ts cd p t u = true := by simp [bef, h1, h2, h3]
theorem bef_f {u t : Nat} (h : dst φ ts cd p 6 u + 1 ≠ dst φ ts cd p 6 t ∨ will φ ts cd u = false ∨ (φ 4 u).testBit t = false) : bef φ ts cd p t u = false := by
  rcases h with h | h | h <;> simp [bef, h]
/-- the way's digits -/
def pth (φ ts cd : Nat → Nat → Nat) (p n t pl : Nat) : Nat := if n = 0 then 0 else (t + 1) * pl + ptr φ ts cd p n t (pl * 10)
theorem ptr_s {n t pl : Nat} : ptr φ ts cd p (n + 2) t pl = pl * (nx φ ts cd p t + 1) + ptr φ ts cd p (n + 1) (nx φ ts cd p t) (pl * 10) := by rw [ptr, if_neg (by omega)]
theorem ptr_1 {t pl : Nat} : ptr φ ts cd p 1 t pl = 0 := rfl
theorem pth_s {n t pl : Nat} : pth φ ts cd p (n + 2) t pl = (t + 1) * pl + pth φ ts cd p (n + 1) (nx φ ts cd p t) (pl * 10) := by
  rw [pth, if_neg (by omega), ptr_s, pth, if_neg (by omega), Nat.mul_comm (pl * 10)]
end WAY2
/-- who of the first so many is far by 1 .. n, in bits -/
def cir (φ ts cd : Nat → Nat → Nat) (p n : Nat) : Nat → Nat
  | 0 => 0
  | q + 1 => cir φ ts cd p n q ||| (if 0 < fx φ ts cd p 6 q ∧ fx φ ts cd p 6 q ≤ n then 2 ^ q else 0)
