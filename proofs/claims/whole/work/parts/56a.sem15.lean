/-! safest, prize, ball, society, taken -/
theorem hol_lt (φ : g_Fo) (d : Nat) : ∀ n, hol φ d n < 2 ^ n
  | 0 => by simp [hol]
  | n + 1 => by
    have h1 := hol_lt φ d n
    have h2 : hol φ d n < 2 ^ (n + 1) := Nat.lt_of_lt_of_le h1 (Nat.pow_le_pow_right (by decide) (by omega))
    have h3 : (if (φ 5 n).testBit d = true then 2 ^ n else 0) < 2 ^ (n + 1) := by
      have : 2 ^ n < 2 ^ (n + 1) := Nat.pow_lt_pow_right (by decide) (by omega)
      split
      · exact this
      · omega
    exact Nat.or_lt_two_pow h2 h3
theorem hol64 {φ : g_Fo} {d n : Nat} (h : n ≤ 6) : hol φ d n < 64 := Nat.lt_of_lt_of_le (hol_lt φ d n) (Nat.pow_le_pow_right (by decide) h)
/-- how many have a deer on the cards -/
def hnm (φ : g_Fo) (d : Nat) : Nat := pops (hol φ d (φ 7 3)) 10
theorem hnm_le (φ : g_Fo) (d : Nat) : hnm φ d ≤ 10 := pops_le _ _
def sfb (φ : g_Fo) : Nat → Nat × Nat
  | 0 => (0, 0)
  | k + 1 => if (φ 7 0).testBit k = true then (if (sfb φ k).1 = 0 ∨ hnm φ k < (sfb φ k).2 ∨ (hnm φ k = (sfb φ k).2 ∧ φ 0 ((sfb φ k).1 - 1) < φ 0 k) then (k + 1, hnm φ k) else sfb φ k) else sfb φ k
theorem sfb_le (φ : g_Fo) : ∀ k, (sfb φ k).1 ≤ k ∧ (sfb φ k).2 ≤ 10
  | 0 => ⟨Nat.le_refl _, Nat.zero_le _⟩
  | k + 1 => by
    have ⟨h1, h2⟩ := sfb_le φ k
    have h3 := hnm_le φ k
    simp only [sfb]
    split
    · split
      · exact ⟨Nat.le_refl _, h3⟩
      · exact ⟨by omega, h2⟩
    · exact ⟨by omega, h2⟩
theorem sfb_d {φ : g_Fo} {k : Nat} (h : (φ 7 0).testBit k = false) : sfb φ (k + 1) = sfb φ k := by rw [sfb, if_neg (by rw [h]; decide)]
theorem sfb_y {φ : g_Fo} {k : Nat} (h : (φ 7 0).testBit k = true) (h2 : (sfb φ k).1 = 0 ∨ hnm φ k < (sfb φ k).2 ∨ (hnm φ k = (sfb φ k).2 ∧ φ 0 ((sfb φ k).1 - 1) < φ 0 k)) : sfb φ (k + 1) = (k + 1, hnm φ k) := by rw [sfb, if_pos h, if_pos h2]
theorem sfb_n {φ : g_Fo} {k : Nat} (h : (φ 7 0).testBit k = true) (h2 : ¬ ((sfb φ k).1 = 0 ∨ hnm φ k < (sfb φ k).2 ∨ (hnm φ k = (sfb φ k).2 ∧ φ 0 ((sfb φ k).1 - 1) < φ 0 k))) : sfb φ (k + 1) = sfb φ k := by rw [sfb, if_pos h, if_neg h2]
def fsi (b n : Nat) : Int32 := if b = 0 then -1 else nI n
theorem fsi_s {k n : Nat} : fsi (k + 1) n = nI n := by rw [fsi, if_neg (by omega)]
def oSafest (φ : g_Fo) (w : Int32) : Int32 := if inb w (nI 0) (nI 1) = false then -2 else if w = nI 0 then spi (sfb φ 10).1 else fsi (sfb φ 10).1 (sfb φ 10).2
theorem oSafest_w {φ : g_Fo} {w : Int32} (h : inb w (nI 0) (nI 1) = false) : oSafest φ w = -2 := if_pos h
theorem oSafest_0 {φ : g_Fo} : oSafest φ (nI 0) = spi (sfb φ 10).1 := by rw [oSafest, if_neg (by decide), if_pos rfl]
theorem oSafest_1 {φ : g_Fo} : oSafest φ (nI 1) = fsi (sfb φ 10).1 (sfb φ 10).2 := by rw [oSafest, if_neg (by decide), if_neg (by decide)]
-- prize
def hvd (φ : g_Fo) (p d : Nat) : Nat := min 99 (φ 3 p + 1 + φ 0 d / 10)
def prb (φ ts cd : g_Fo) (p : Nat) : Nat → Nat × Nat
  | 0 => (0, φ 3 p)
  | k + 1 => if aim φ ts cd p k = 2 then (if (prb φ ts cd p k).1 = 0 ∨ (prb φ ts cd p k).2 < hvd φ p k then (k + 1, hvd φ p k) else prb φ ts cd p k) else prb φ ts cd p k
theorem hvd_le (φ : g_Fo) (p d : Nat) : hvd φ p d ≤ 99 := Nat.min_le_left _ _
theorem prb_le {φ ts cd : g_Fo} {p : Nat} (h : φ 3 p ≤ 99) : ∀ k, (prb φ ts cd p k).1 ≤ k ∧ (prb φ ts cd p k).2 ≤ 99
  | 0 => ⟨Nat.le_refl _, h⟩
  | k + 1 => by
    have ⟨h1, h2⟩ := prb_le (ts := ts) (cd := cd) h k
    have h3 := hvd_le φ p k
    simp only [prb]
    split
    · split
      · exact ⟨Nat.le_refl _, h3⟩
      · exact ⟨by omega, h2⟩
    · exact ⟨by omega, h2⟩
theorem prb_d {φ ts cd : g_Fo} {p k : Nat} (h : ¬ aim φ ts cd p k = 2) : prb φ ts cd p (k + 1) = prb φ ts cd p k := by rw [prb, if_neg h]
theorem prb_y {φ ts cd : g_Fo} {p k : Nat} (h : aim φ ts cd p k = 2) (h2 : (prb φ ts cd p k).1 = 0 ∨ (prb φ ts cd p k).2 < hvd φ p k) : prb φ ts cd p (k + 1) = (k + 1, hvd φ p k) := by rw [prb, if_pos h, if_pos h2]
theorem prb_n {φ ts cd : g_Fo} {p k : Nat} (h : aim φ ts cd p k = 2) (h2 : ¬ ((prb φ ts cd p k).1 = 0 ∨ (prb φ ts cd p k).2 < hvd φ p k)) : prb φ ts cd p (k + 1) = prb φ ts cd p k := by rw [prb, if_pos h, if_neg h2]
def oPrize (φ ts cd : g_Fo) (p w : Int32) : Int32 := if inr p (φ 7 3) = false then -5 else if inb w (nI 0) (nI 1) = false then -7 else if w = nI 0 then spi (prb φ ts cd p.toNatClampNeg 10).1 else nI (prb φ ts cd p.toNatClampNeg 10).2
theorem oPrize_p {φ ts cd : g_Fo} {p w : Int32} (h : inr p (φ 7 3) = false) : oPrize φ ts cd p w = -5 := if_pos h
theorem oPrize_w {φ ts cd : g_Fo} {p : Nat} {w : Int32} (hp : p < φ 7 3) (hh : φ 7 3 ≤ 6) (h : inb w (nI 0) (nI 1) = false) : oPrize φ ts cd (nI p) w = -7 := by rw [oPrize, if_neg (by rw [inr_lt_t (by omega) hp]; decide), if_pos h]
theorem oPrize_0 {φ ts cd : g_Fo} {p : Nat} (hp : p < φ 7 3) (hh : φ 7 3 ≤ 6) : oPrize φ ts cd (nI p) (nI 0) = spi (prb φ ts cd p 10).1 := by rw [oPrize, if_neg (by rw [inr_lt_t (by omega) hp]; decide), if_neg (by decide), if_pos rfl, nI_clamp (by omega)]
theorem oPrize_1 {φ ts cd : g_Fo} {p : Nat} (hp : p < φ 7 3) (hh : φ 7 3 ≤ 6) : oPrize φ ts cd (nI p) (nI 1) = nI (prb φ ts cd p 10).2 := by rw [oPrize, if_neg (by rw [inr_lt_t (by omega) hp]; decide), if_neg (by decide), if_neg (by decide), nI_clamp (by omega)]
-- ball: who two, one more than 10 a + b; 0: none
def FY (φ : g_Fo) : Prop := ∀ p q, p < 6 → q < 6 → (φ 4 p).testBit q = (φ 4 q).testBit p
def blv (φ ts cd : g_Fo) (p q : Nat) : Nat := alls (mee1 φ p q) ts cd (φ 7 3)
def bls (φ ts cd : g_Fo) (p q : Nat) (s : Nat × Nat) : Nat × Nat := if (φ 4 p).testBit q = true then s else if s.2 < blv φ ts cd p q then (10 * p + q + 1, blv φ ts cd p q) else s
def bli (φ ts cd : g_Fo) (p : Nat) : Nat → Nat → Nat × Nat → Nat × Nat
  | 0, _, s => s
  | n + 1, q, s => bli φ ts cd p n (q + 1) (bls φ ts cd p q s)
def blo (φ ts cd : g_Fo) : Nat → Nat → Nat × Nat → Nat × Nat
  | 0, _, s => s
  | n + 1, p, s => blo φ ts cd n (p + 1) (bli φ ts cd p (φ 7 3 - (p + 1)) (p + 1) s)
def bal (φ ts cd : g_Fo) : Nat × Nat := blo φ ts cd (φ 7 3) 0 (0, alls φ ts cd (φ 7 3))
def oBall (φ ts cd : g_Fo) (w : Int32) : Int32 := if inb w (nI 0) (nI 1) = false then -2 else if w = nI 0 then spi (bal φ ts cd).1 else nI (bal φ ts cd).2
theorem oBall_w {φ ts cd : g_Fo} {w : Int32} (h : inb w (nI 0) (nI 1) = false) : oBall φ ts cd w = -2 := if_pos h
theorem oBall_0 {φ ts cd : g_Fo} : oBall φ ts cd (nI 0) = spi (bal φ ts cd).1 := by rw [oBall, if_neg (by decide), if_pos rfl]
theorem oBall_1 {φ ts cd : g_Fo} : oBall φ ts cd (nI 1) = nI (bal φ ts cd).2 := by rw [oBall, if_neg (by decide), if_neg (by decide)]
theorem clr_or6 : ∀ d, d < 6 → ∀ n, n < 64 → n.testBit d = false → clr (n ||| 2 ^ d) d = n := by decide +kernel
theorem mee01 {φ : g_Fo} {p q : Nat} (hI : FI φ) (hp : p < 6) (hq : q < 6) (hne : p ≠ q) (h1 : (φ 4 p).testBit q = false) (h2 : (φ 4 q).testBit p = false) : mee0 (mee1 φ p q) p q = φ := by
  have e1 : (mee1 φ p q) 4 p = φ 4 p ||| 2 ^ q := by simp [mee1, fu, hne]
  have e2 : (mee1 φ p q) 4 q = φ 4 q ||| 2 ^ p := by simp [mee1, fu]
  have k1 := clr_or6 q hq _ (FI_me hI hp) h1
  have k2 := clr_or6 p hp _ (FI_me hI hq) h2
  rw [mee0, e1, k1, e2, k2]
  funext x y
  simp only [mee1, fu]
  by_cases hx : x = 4
  · subst hx
    by_cases hy : y = q
    · simp [hy]
    · by_cases hy2 : y = p
      · simp [hy2, hne]
      · simp [hy, hy2]
  · simp [hx]
theorem FJ_mee1 {φ : g_Fo} {p q : Nat} (h : FJ φ) (hp : p < 6) (hq : q < 6) (hne : p ≠ q) : FJ (mee1 φ p q) := by
  intro v hv
  simp only [mee1, fu]
  by_cases e1 : v = q
  · subst e1
    simp [Nat.testBit_or, h v hv, Nat.testBit_two_pow, hne]
  · by_cases e2 : v = p
    · subst e2
      simp [e1, Nat.testBit_or, h v hv, Nat.testBit_two_pow]
      omega
    · simp [e1, e2, h v hv]
theorem alls60 {φ ts cd : g_Fo} {n : Nat} (h : n ≤ 6) : alls φ ts cd n ≤ 60 := by have := alls_le (φ := φ) (ts := ts) (cd := cd) n; omega
-- society
def metS (φ : g_Fo) : Nat → Nat
  | 0 => 0
  | k + 1 => metS φ k + pops (φ 4 k) 10
theorem metS_le (φ : g_Fo) : ∀ k, metS φ k ≤ 10 * k
  | 0 => Nat.le_refl _
  | k + 1 => by have h1 := metS_le φ k; have h2 := pops_le (φ 4 k) 10; simp only [metS]; omega
def lowt (n d part : Nat) : Nat := (if part = 0 then n else d) / Nat.gcd n d
def oNO : Int64 := -4611686018427387904
def oSociety (φ : g_Fo) (w : Int32) : Int64 := if inb w (nI 0) (nI 1) = false ∨ φ 7 3 < 2 then oNO else lN (lowt (metS φ (φ 7 3) / 2) (φ 7 3 * (φ 7 3 - 1) / 2) w.toNatClampNeg)
theorem oSociety_n {φ : g_Fo} {w : Int32} (h : inb w (nI 0) (nI 1) = false ∨ φ 7 3 < 2) : oSociety φ w = oNO := if_pos h
theorem oSociety_u {φ : g_Fo} {w : Nat} (hw : w ≤ 1) (h : 2 ≤ φ 7 3) : oSociety φ (nI w) = lN (lowt (metS φ (φ 7 3) / 2) (φ 7 3 * (φ 7 3 - 1) / 2) w) := by
  rw [oSociety, if_neg (by rw [inb_nI (Nat.zero_le _) hw (by decide)]; simp; omega), nI_clamp (by omega)]
-- taken
def oTaken (φ : g_Fo) (i k : Int32) : Int32 := if inb k (nI 0) (nI 6) = false then -2 else if inb i (nI 0) (nI 15) = false then -12
  else if i.toNatClampNeg < 6 then (if φ 7 3 ≤ i.toNatClampNeg then -11 else if k.toNatClampNeg < 6 ∧ ofk (φ 1 i.toNatClampNeg) k.toNatClampNeg = true then i else -13)
  else (if (φ 7 0).testBit (i.toNatClampNeg - 6) = false then -11 else if k.toNatClampNeg = 6 then nI (φ 0 (i.toNatClampNeg - 6)) else -13)
theorem oTaken_k {φ : g_Fo} {i k : Int32} (h : inb k (nI 0) (nI 6) = false) : oTaken φ i k = -2 := if_pos h
theorem oTaken_i {φ : g_Fo} {i : Int32} {k : Nat} (hk : k ≤ 6) (h : inb i (nI 0) (nI 15) = false) : oTaken φ i (nI k) = -12 := by rw [oTaken, if_neg (by rw [inb_nI (Nat.zero_le _) hk (by decide)]; decide), if_pos h]
theorem oTaken_u {φ : g_Fo} {i k : Nat} (hk : k ≤ 6) (hi : i ≤ 15) : oTaken φ (nI i) (nI k) = if i < 6 then (if φ 7 3 ≤ i then -11 else if k < 6 ∧ ofk (φ 1 i) k = true then nI i else -13) else (if (φ 7 0).testBit (i - 6) = false then -11 else if k = 6 then nI (φ 0 (i - 6)) else -13) := by
  rw [oTaken, if_neg (by rw [inb_nI (Nat.zero_le _) hk (by decide)]; decide), if_neg (by rw [inb_nI (Nat.zero_le _) hi (by decide)]; decide), nI_clamp (by omega), nI_clamp (by omega)]
