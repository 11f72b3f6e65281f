/-! a text's code: c < 6 a name, 100000 + v a number, 11 or, 12 and, 13 not, 14 <, 15 =, 16 +, 17 -, 18 *, 19 - ahead -/
def two (c : Nat) (x y : Int32) : Int32 := if c = 11 then (if x = 0 then (if y = 0 then nI 0 else nI 1) else nI 1) else if c = 12 then (if x = 0 then nI 0 else if y = 0 then nI 0 else nI 1) else if c = 14 then (if x < y then nI 1 else nI 0) else if c = 15 then (if x = y then nI 1 else nI 0) else if c = 16 then x + y else if c = 17 then x - y else x * y
def dp1 (c n : Nat) : Nat := if c < 11 ∨ 100000 ≤ c then n + 1 else if c = 13 ∨ c = 19 then n else n - 1
/-- how many lie on the stack behind k codes from f on -/
def dpn (cd : Nat → Nat) (f : Nat) : Nat → Nat
  | 0 => 0
  | k + 1 => dp1 (cd (f + k)) (dpn cd f k)
def st1 (nm : Nat → Int32) (c n : Nat) (s : Nat → Int32) : Nat → Int32 :=
  if c < 11 then upd s n (nm c) else if 100000 ≤ c then upd s n (nI (c - 100000)) else if c = 13 then upd s (n - 1) (if s (n - 1) = 0 then nI 1 else nI 0) else if c = 19 then upd s (n - 1) (-(s (n - 1))) else upd s (n - 2) (two c (s (n - 2)) (s (n - 1)))
def rsk (nm : Nat → Int32) (cd : Nat → Nat) (f : Nat) (s0 : Nat → Int32) : Nat → (Nat → Int32)
  | 0 => s0
  | k + 1 => st1 nm (cd (f + k)) (dpn cd f k) (rsk nm cd f s0 k)
def okc (c n : Nat) : Prop := (c < 11 → c < 6) ∧ (c = 13 ∨ c = 19 → 1 ≤ n) ∧ (11 ≤ c ∧ c < 100000 ∧ c ≠ 13 ∧ c ≠ 19 → 2 ≤ n ∧ (c = 11 ∨ c = 12 ∨ c = 14 ∨ c = 15 ∨ c = 16 ∨ c = 17 ∨ c = 18)) ∧ c < 110000
def wfc (cd : Nat → Nat) (f len : Nat) : Prop := (∀ k, k < len → okc (cd (f + k)) (dpn cd f k)) ∧ dpn cd f len = 1
theorem dpn_le (cd : Nat → Nat) (f : Nat) : ∀ k, dpn cd f k ≤ k
  | 0 => Nat.le_refl _
  | k + 1 => by
    have := dpn_le cd f k
    simp only [dpn, dp1]
    split
    · omega
    · split <;> omega
/-- what lies there before doesn't matter -/
theorem rsk_cong {nm : Nat → Int32} {cd : Nat → Nat} {f : Nat} {s0 s1 : Nat → Int32} : ∀ {k : Nat}, (∀ i, i < k → okc (cd (f + i)) (dpn cd f i)) → ∀ j, j < dpn cd f k → rsk nm cd f s0 k j = rsk nm cd f s1 k j
  | 0, _, j, hj => by simp [dpn] at hj
  | k + 1, hk, j, hj => by
    have ih := rsk_cong (nm := nm) (s0 := s0) (s1 := s1) (k := k) (fun i hi => hk i (by omega))
    have hok := hk k (Nat.lt_succ_self k)
    generalize hc : cd (f + k) = c at hok
    generalize hn : dpn cd f k = n at hok ih
    have e1 : ∀ s, rsk nm cd f s (k + 1) = st1 nm c n (rsk nm cd f s k) := fun s => by rw [rsk, hc, hn]
    have e2 : dpn cd f (k + 1) = dp1 c n := by rw [dpn, hc, hn]
    rw [e2] at hj
    rw [e1, e1]
    generalize rsk nm cd f s0 k = u at ih ⊢
    generalize rsk nm cd f s1 k = w at ih ⊢
    obtain ⟨o1, o2, o3, o4⟩ := hok
    simp only [dp1] at hj
    simp only [st1]
    by_cases h1 : c < 11
    · rw [if_pos (Or.inl h1)] at hj
      rw [if_pos h1, if_pos h1]
      by_cases e : j = n
      · rw [e, pk_us, pk_us]
      · rw [pk_un e, pk_un e]; exact ih j (by omega)
    · rw [if_neg h1, if_neg h1]
      by_cases h2 : 100000 ≤ c
      · rw [if_pos (Or.inr h2)] at hj
        rw [if_pos h2, if_pos h2]
        by_cases e : j = n
        · rw [e, pk_us, pk_us]
        · rw [pk_un e, pk_un e]; exact ih j (by omega)
      · rw [if_neg (by omega)] at hj
        rw [if_neg h2, if_neg h2]
        by_cases h3 : c = 13
        · rw [if_pos (Or.inl h3)] at hj
          rw [if_pos h3, if_pos h3]
          have z := ih (n - 1) (by omega)
          by_cases e : j = n - 1
          · rw [e, pk_us, pk_us, z]
          · rw [pk_un e, pk_un e]; exact ih j (by omega)
        · rw [if_neg h3, if_neg h3]
          by_cases h4 : c = 19
          · rw [if_pos (Or.inr h4)] at hj
            rw [if_pos h4, if_pos h4]
            have z := ih (n - 1) (by omega)
            by_cases e : j = n - 1
            · rw [e, pk_us, pk_us, z]
            · rw [pk_un e, pk_un e]; exact ih j (by omega)
          · rw [if_neg (by omega)] at hj
            rw [if_neg h4, if_neg h4]
            have z1 := ih (n - 1) (by omega)
            have z2 := ih (n - 2) (by omega)
            by_cases e : j = n - 2
            · rw [e, pk_us, pk_us, z1, z2]
            · rw [pk_un e, pk_un e]; exact ih j (by omega)
/-- the texts: how many, where their parts begin, their codes -/
def TI (nt : Nat) (ts : Nat → Nat → Nat) (cd : Nat → Nat → Nat) : Prop := 1 ≤ nt ∧ nt ≤ 6 ∧ ∀ t, t < nt → (ts t 0 ≤ ts t 1 ∧ ts t 1 ≤ ts t 2 ∧ ts t 2 ≤ ts t 3 ∧ ts t 3 ≤ 160) ∧ ∀ q, q < 3 → wfc (cd t) (ts t q) (ts t (q + 1) - ts t q)
def TM (nt : Nat) (ts : Nat → Nat → Nat) (cd : Nat → Nat → Nat) (a : Nat → Nat → Int32) : Prop := a 50 11 = nI nt ∧ (∀ t, t < nt → ∀ i, i < 4 → a 57 (4 * t + i) = nI (ts t i)) ∧ ∀ t, t < nt → ∀ k, k < ts t 3 → a 56 (200 * t + k) = nI (cd t k)
/-- the numbers of the names, for a hunter and a deer's shyness -/
def nmf (φ : Nat → Nat → Nat) (p sy : Nat) : Nat → Int32 := fun i => nI (if i = 0 then φ 3 p else if i = 1 then sy else if i = 2 then pops (φ 4 p) 10 else if i = 3 then pops (φ 5 p) 10 else if i = 4 then φ 7 1 else φ 2 p)
/-- what a part of a text says -/
def rv (nm : Nat → Int32) (cd : Nat → Nat) (f len : Nat) : Int32 := rsk nm cd f (fun _ => 0) len 0
def ask3 (part : Nat) (v : Int32) : Int32 := if part = 2 then (if v = 0 then nI 0 else nI 1) else wth v (-99) (nI 99)
-- which cells may change
def chg (S : Nat → Nat → Bool) (a a' : Nat → Nat → Int32) : Prop := ∀ k j, S k j = false → a' k j = a k j
theorem chg_rf {S : Nat → Nat → Bool} {a : Nat → Nat → Int32} : chg S a a := fun _ _ _ => rfl
theorem chg_tr {S : Nat → Nat → Bool} {a b c : Nat → Nat → Int32} (h1 : chg S a b) (h2 : chg S b c) : chg S a c := fun k j h => (h2 k j h).trans (h1 k j h)
theorem chg_up {S : Nat → Nat → Bool} {a b : Nat → Nat → Int32} {k j : Nat} {v : Int32} (h : chg S a b) (hk : S k j = true) : chg S a (up2 b k j v) := fun x y hx => by
  rw [← h x y hx]
  by_cases e1 : x = k
  · by_cases e2 : y = j
    · subst e1; subst e2; rw [hk] at hx; cases hx
    · exact up2_j _ _ e2
  · exact up2_k _ _ e1
theorem chg_mono {S T : Nat → Nat → Bool} {a b : Nat → Nat → Int32} (h : chg S a b) (hST : ∀ k j, T k j = false → S k j = false) : chg T a b := fun k j hk => h k j (hST k j hk)
/-- the reference's scratch cells -/
def scM (k j : Nat) : Bool := (decide (66 ≤ k) && decide (k ≤ 67)) || (decide (k = 50) && ((decide (20 ≤ j) && decide (j ≤ 23)) || (decide (26 ≤ j) && decide (j ≤ 28)) || decide (j = 32) || decide (j = 35)))
/-- the class's scratch cells: the text's stack and names, who is far, the thought -/
def scX (k j : Nat) : Bool := (decide (9 ≤ k) && decide (k ≤ 16)) || decide (k = 33) || decide (k = 34) || decide (k = 36) || (decide (k = 35) && decide (j = 0))
theorem MA_sc {φ : Nat → Nat → Nat} {a a' : Nat → Nat → Int32} (h : MA φ a) (hc : chg scM a a') : MA φ a' := by
  obtain ⟨h1, h2, h3, h4, h5, h6, h7, h8, h9, h10, h11⟩ := h
  exact ⟨(hc _ _ rfl).trans h1, (hc _ _ rfl).trans h2, (hc _ _ rfl).trans h3, (hc _ _ rfl).trans h4, fun q hq => (hc _ _ rfl).trans (h5 q hq), fun q hq => (hc _ _ rfl).trans (h6 q hq), fun q hq => (hc _ _ rfl).trans (h7 q hq), fun q hq => (hc _ _ rfl).trans (h8 q hq), fun q hq => (hc _ _ rfl).trans (h9 q hq), fun q hq => (hc _ _ rfl).trans (h10 q hq), fun q hq => (hc _ _ rfl).trans (h11 q hq)⟩
theorem TM_sc {nt : Nat} {ts cd : Nat → Nat → Nat} {a a' : Nat → Nat → Int32} (h : TM nt ts cd a) (hc : chg scM a a') : TM nt ts cd a' := by
  obtain ⟨h1, h2, h3⟩ := h
  exact ⟨(hc _ _ rfl).trans h1, fun t ht i hi => (hc _ _ rfl).trans (h2 t ht i hi), fun t ht k hk => (hc _ _ rfl).trans (h3 t ht k hk)⟩
theorem nI_dec {n : Nat} (h : 1 ≤ n) : nI n + Int32.ofInt (-1) = nI (n - 1) := by
  cases n with
  | zero => omega
  | succ n => rw [show Int32.ofInt (-1) = -1 by decide, pk_m1, Nat.add_sub_cancel]
theorem pops_bit {n k : Nat} (h : ∀ i, k ≤ i → n.testBit i = false) : ∀ m, pops n (k + m) = pops n k
  | 0 => rfl
  | m + 1 => by rw [← Nat.add_assoc, pops, pops_bit h m, h (k + m) (by omega)]; simp
