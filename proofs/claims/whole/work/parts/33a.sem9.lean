/-- the class's cells that measuring may change; the row of far ones, k rings told -/
def scV (k j : Nat) : Bool := scR k j || decide (k = 36) || (decide (k = 35) && decide (j = 0))
theorem scV_R {k j : Nat} (h : scV k j = false) : scR k j = false := by simp [scV] at h; exact h.1.1
theorem scV_ne {k j : Nat} (h1 : k ≠ 33) (h2 : k ≠ 34) (h3 : k ≠ 36) (h4 : k ≠ 35) : scV k j = false := by simp [scV, scR, h1, h2, h3, h4]
theorem FA_V {f : Nat} {φ : Nat → Nat → Nat} {a a' : Nat → Nat → Int32} (h : FA f φ a) (hf : f ≤ 17) (hc : chg scV a a') : FA f φ a' := FA_ch h hc (fun i j hi => scV_ne (by omega) (by omega) (by omega) (by omega))
theorem TX_V {nt : Nat} {ts cd : Nat → Nat → Nat} {sh : List (Nat × Nat)} {a a' : Nat → Nat → Int32} {r : Nat → Nat → Option Nat} (h : TX nt ts cd sh a r) (hc : chg scV a a') : TX nt ts cd sh a' r := TX_ch h hc rfl (fun k j hk => scV_ne (by omega) (by omega) (by omega) (by omega))
def fx (φ ts cd : Nat → Nat → Nat) (p k v : Nat) : Nat := if v < φ 7 3 then dst φ ts cd p k v else 0
theorem fx_le {φ ts cd : Nat → Nat → Nat} {p : Nat} (k v : Nat) : fx φ ts cd p k v ≤ k := by
  have := dst_le (φ := φ) (ts := ts) (cd := cd) (p := p) k v
  rw [fx]; split <;> omega
theorem wm_mi {φ ts cd : Nat → Nat → Nat} {i H : Nat} (h : i < H) : wm φ ts cd (min (i + 1) H) = wm φ ts cd (min i H) ||| (if will φ ts cd i = true then 2 ^ i else 0) := by
  rw [show min (i + 1) H = i + 1 by omega, show min i H = i by omega]; rfl
theorem wm_mo {φ ts cd : Nat → Nat → Nat} {i H : Nat} (h : H ≤ i) : wm φ ts cd (min (i + 1) H) = wm φ ts cd (min i H) := by
  rw [show min (i + 1) H = H by omega, show min i H = H by omega]
theorem full_bit : ∀ v, v < 32 → (4294967295 : Nat).testBit v = true := by decide +kernel
theorem clr_bit {n m v : Nat} (h : v < 32) : (n &&& (m ^^^ 4294967295)).testBit v = (n.testBit v && !(m.testBit v)) := by
  rw [Nat.testBit_and, Nat.testBit_xor, full_bit v h, Bool.xor_true]
theorem and_lt {n m k : Nat} (h : n < k) : n &&& m < k := Nat.lt_of_le_of_lt Nat.and_le_left h
theorem or64 {n m : Nat} (h1 : n < 64) (h2 : m < 64) : n ||| m < 64 := Nat.or_lt_two_pow (n := 6) h1 h2
theorem rsn_0 {φ ts cd : Nat → Nat → Nat} {p v : Nat} : (2 ^ p ||| φ 4 p).testBit v = (rsn φ ts cd p 0).2 v := by
  rw [Nat.testBit_or, Nat.testBit_two_pow]
  show _ = (decide (v = p) || (φ 4 p).testBit v)
  congr 1
  exact decide_eq_decide.mpr ⟨fun h => h.symm, fun h => h.symm⟩
theorem pow6 : ∀ d, d < 6 → 2 ^ d < 64 := by decide +kernel
/-- amid a ring: those before q told -/
def mx (φ ts cd : Nat → Nat → Nat) (p k q v : Nat) : Nat := if v < q then fx φ ts cd p (k + 1) v else fx φ ts cd p k v
theorem fx_y {φ ts cd : Nat → Nat → Nat} {p k v : Nat} (hv : v < φ 7 3) (h : (rsn φ ts cd p k).1 v = true) : fx φ ts cd p (k + 1) v = k + 1 := by rw [fx, if_pos hv, dst, if_pos h]
theorem fx_n {φ ts cd : Nat → Nat → Nat} {p k v : Nat} (hv : v < φ 7 3) (h : (rsn φ ts cd p k).1 v = false) : fx φ ts cd p (k + 1) v = fx φ ts cd p k v := by rw [fx, if_pos hv, dst, if_neg (by rw [h]; decide), fx, if_pos hv]
/-- the deer on the cards of the first so many who are far by any and will -/
def hld (φ ts cd : Nat → Nat → Nat) (p : Nat) : Nat → Nat
  | 0 => 0
  | n + 1 => hld φ ts cd p n ||| (if dst φ ts cd p 6 n ≠ 0 ∧ will φ ts cd n = true then φ 5 n else 0)
theorem hld_lt {φ ts cd : Nat → Nat → Nat} {p : Nat} (hI : FI φ) : ∀ n, n ≤ 6 → hld φ ts cd p n < 1024
  | 0, _ => by rw [hld]; decide
  | n + 1, h => by
    rw [hld]
    refine Nat.or_lt_two_pow (n := 10) (hld_lt hI n (by omega)) ?_
    split
    · exact FI_ca hI (by omega)
    · decide
theorem hld_bit {φ ts cd : Nat → Nat → Nat} {p d : Nat} : ∀ n, (hld φ ts cd p n).testBit d = true ↔ spb φ ts cd p d n ≠ 0
  | 0 => by simp [hld, spb]
  | n + 1 => by
    have ih := hld_bit (φ := φ) (ts := ts) (cd := cd) (p := p) (d := d) n
    rw [hld, Nat.testBit_or, Bool.or_eq_true, ih, spb]
    by_cases h1 : dst φ ts cd p 6 n ≠ 0 ∧ will φ ts cd n = true
    · rw [if_pos h1]
      by_cases h2 : (φ 5 n).testBit d = true
      · simp only [h2, or_true, true_iff]
        split
        · omega
        · next q => exact fun z => q ⟨h1.1, h1.2, trivial, Or.inl z⟩
      · rw [if_neg (fun q => h2 q.2.2.1)]; simp [h2]
    · rw [if_neg h1, if_neg (fun q => h1 ⟨q.1, q.2.1⟩)]; simp
/-- the two ways to it -/
theorem spm_hld {φ ts cd : Nat → Nat → Nat} {p : Nat} (hI : FI φ) (hp : p < 6) : spm φ ts cd p 10 = (hld φ ts cd p (φ 7 3) &&& φ 7 0) &&& (φ 5 p ^^^ 4294967295) := by
  have hb : ∀ n d, (spm φ ts cd p n).testBit d = (decide (d < n) && decide (spo φ ts cd p d ≠ -1)) := by
    intro n
    induction n with
    | zero => intro d; simp [spm]
    | succ n ih =>
      intro d
      rw [spm, Nat.testBit_or, ih]
      by_cases e : d = n
      · subst e
        by_cases h : spo φ ts cd p d = -1
        · simp [h]
        · simp [h]
      · have hlt : decide (d < n) = decide (d < n + 1) := decide_eq_decide.mpr (by omega)
        by_cases h : spo φ ts cd p n = -1
        · simp [h, hlt]
        · simp [h, Nat.testBit_two_pow, show ¬ n = d by omega, hlt]
  apply Nat.eq_of_testBit_eq
  intro d
  rw [hb]
  by_cases hd : d < 10
  · rw [clr_bit (by omega), Nat.testBit_and]
    have hl := hld_bit (φ := φ) (ts := ts) (cd := cd) (p := p) (d := d) (φ 7 3)
    have hs := @spb_ok φ ts cd p d (φ 7 3)
    have hhu := FI_hu hI
    rw [spo]
    by_cases h1 : (φ 7 0).testBit d = true
    · by_cases h2 : (φ 5 p).testBit d = true
      · simp [h1, h2]
      · by_cases h3 : spb φ ts cd p d (φ 7 3) = 0
        · have : (hld φ ts cd p (φ 7 3)).testBit d = false := by rw [← Bool.not_eq_true, hl]; simp [h3]
          simp [h1, h2, h3, this, spi]
        · have h4 := hl.mpr h3
          have h5 := hs h3
          have h6 : ¬ nI (spb φ ts cd p d (φ 7 3) - 1) = -1 := nI_nem1 (by omega)
          simp [h1, h2, h3, h4, spi, h6, hd]
    · simp [h1]
  · have : ((hld φ ts cd p (φ 7 3) &&& φ 7 0) &&& (φ 5 p ^^^ 4294967295)).testBit d = false := Nat.testBit_lt_two_pow (Nat.lt_of_lt_of_le (and_lt (and_lt (hld_lt hI _ (FI_hu hI)))) (Nat.pow_le_pow_right (n := 2) (i := 10) (by decide) (by omega)))
    rw [this]; simp [hd]
theorem mx_ne {φ ts cd : Nat → Nat → Nat} {p k q v : Nat} (h : v ≠ q) : mx φ ts cd p k (q + 1) v = mx φ ts cd p k q v := by
  rw [mx, mx]
  by_cases e2 : v < q
  · rw [if_pos e2, if_pos (by omega)]
  · rw [if_neg e2, if_neg (by omega)]
theorem mx_s {φ ts cd : Nat → Nat → Nat} {p k q : Nat} : mx φ ts cd p k (q + 1) q = fx φ ts cd p (k + 1) q := if_pos (Nat.lt_succ_self q)
theorem mx_no {φ ts cd : Nat → Nat → Nat} {p k q : Nat} (hq : q < φ 7 3) (h : (rsn φ ts cd p k).1 q = false) (v : Nat) : mx φ ts cd p k (q + 1) v = mx φ ts cd p k q v := by
  by_cases e : v = q
  · rw [e, mx_s, fx_n hq h, mx, if_neg (Nat.lt_irrefl q)]
  · exact mx_ne e
theorem scV_36 {k j : Nat} (h : scV k j = false) : sR 36 k j = false := by simp [scV] at h; simp [sR]; exact h.1.2
section SPX
variable {φ ts cd : Nat → Nat → Nat} {p d : Nat}
theorem fx_dst {v : Nat} (h : v < φ 7 3) : fx φ ts cd p 6 v = dst φ ts cd p 6 v := if_pos h
theorem spi_0 {b : Nat} (hb : b < 7) (h : spi b = -1) : b = 0 := by
  by_cases e : b = 0
  · exact e
  · rw [spi, if_neg e] at h; exact absurd h (nI_nem1 (by omega))
theorem spi_n {b : Nat} (h : ¬ spi b = -1) : b ≠ 0 ∧ spi b = nI (b - 1) := by
  have e : b ≠ 0 := fun q => h (if_pos q)
  exact ⟨e, if_neg e⟩
theorem spb_le : ∀ n, spb φ ts cd p d n ≤ n
  | 0 => Nat.le_refl _
  | n + 1 => by
    have := spb_le n
    rw [spb]; split <;> omega
theorem spb_yx {n : Nat} (hn : n < φ 7 3) (h1 : 0 < fx φ ts cd p 6 n) (h2 : will φ ts cd n = true) (h3 : (φ 5 n).testBit d = true) (h4 : spb φ ts cd p d n = 0 ∨ fx φ ts cd p 6 n < fx φ ts cd p 6 (spb φ ts cd p d n - 1)) : spb φ ts cd p d (n + 1) = n + 1 := by
  have h5 : spb φ ts cd p d n = 0 ∨ dst φ ts cd p 6 n < dst φ ts cd p 6 (spb φ ts cd p d n - 1) := by
    by_cases e : spb φ ts cd p d n = 0
    · exact Or.inl e
    · have h6 := spb_ok e
      rw [fx_dst hn, fx_dst (by omega)] at h4; exact h4
  rw [fx_dst hn] at h1
  exact if_pos ⟨by omega, h2, h3, h5⟩
theorem spb_nx {n : Nat} (hn : n < φ 7 3) (h0 : spb φ ts cd p d n ≠ 0) (h : ¬ fx φ ts cd p 6 n < fx φ ts cd p 6 (spb φ ts cd p d n - 1)) : spb φ ts cd p d (n + 1) = spb φ ts cd p d n := by
  refine if_neg ?_
  rintro ⟨_, _, _, h4⟩
  have h6 := spb_ok h0
  rw [fx_dst hn, fx_dst (by omega)] at h
  rcases h4 with h4 | h4
  · exact h0 h4
  · exact h h4
theorem fx_0 {v : Nat} (h : v < φ 7 3) (h2 : fx φ ts cd p 6 v = 0) : dst φ ts cd p 6 v = 0 := by rw [fx_dst h] at h2; exact h2
end SPX
/-- to how many deer there are sponsors of the first so many -/
def alls (φ ts cd : Nat → Nat → Nat) : Nat → Nat
  | 0 => 0
  | n + 1 => alls φ ts cd n + pops (spm φ ts cd n 10) 10
theorem alls_le {φ ts cd : Nat → Nat → Nat} : ∀ n, alls φ ts cd n ≤ 10 * n
  | 0 => Nat.le_refl _
  | n + 1 => by
    have := alls_le (φ := φ) (ts := ts) (cd := cd) n
    have := pops_le (spm φ ts cd n 10) 10
    rw [alls]; omega
theorem spm1024 {φ ts cd : Nat → Nat → Nat} {p : Nat} : spm φ ts cd p 10 < 1024 := spm_lt 10
theorem rM_W {k j : Nat} (h : rM k j = true) : scW k j = false := by
  simp [rM] at h; simp [scW, scM]; omega
theorem rT_W {k j : Nat} (h : rT k j = true) : scW k j = false := by
  simp [rT] at h; simp [scW, scM]; omega
theorem MA_W {φ : Nat → Nat → Nat} {a a' : Nat → Nat → Int32} (h : MA φ a) (hc : chg scW a a') : MA φ a' := MA_ch h hc (fun _ _ => rM_W)
theorem TM_W {nt : Nat} {ts cd : Nat → Nat → Nat} {a a' : Nat → Nat → Int32} (h : TM nt ts cd a) (hc : chg scW a a') : TM nt ts cd a' := TM_ch h hc (fun _ _ => rT_W)
