/-! tokens of a tape -/
def srt (c : Nat) : Nat := if 97 ≤ c ∧ c ≤ 122 then 1 else if 48 ≤ c ∧ c ≤ 57 then 2 else 3
def isg (c : Nat) : Bool := decide (c = 40 ∨ c = 41 ∨ c = 59 ∨ c = 43 ∨ c = 45 ∨ c = 42 ∨ c = 60 ∨ c = 61)
theorem srt_1 {c : Nat} : srt c = 1 ↔ 97 ≤ c ∧ c ≤ 122 := by rw [srt]; split <;> (try split) <;> omega
theorem srt_2 {c : Nat} : srt c = 2 ↔ 48 ≤ c ∧ c ≤ 57 := by rw [srt]; split <;> (try split) <;> omega
theorem srt_3 {c : Nat} : srt c = 3 ↔ ¬ (97 ≤ c ∧ c ≤ 122) ∧ ¬ (48 ≤ c ∧ c ≤ 57) := by rw [srt]; split <;> (try split) <;> omega
theorem srt_l {c : Nat} : 1 ≤ srt c ∧ srt c ≤ 3 := by rw [srt]; split <;> (try split) <;> omega
section LEX
variable (tp : Nat → Nat) (nb : Nat)
def skp : Nat → Nat → Nat
  | 0, i => i
  | n + 1, i => if tp i = 32 ∨ tp i = 10 then skp n (i + 1) else i
/-- from i on: where something stands *-/
def sk (i : Nat) : Nat := skp tp (nb - i) i
def run (s : Nat) : Nat → Nat → Nat
  | 0, j => j
  | n + 1, j => if srt (tp j) = s then run s n (j + 1) else j
def en (b : Nat) : Nat := if srt (tp b) = 3 then b + 1 else run tp (srt (tp b)) (nb - (b + 1)) (b + 1)
def bs : Nat → Nat
  | 0 => sk tp nb 0
  | k + 1 => if bs k < nb then sk tp nb (en tp nb (bs k)) else nb
def mtL (q b : Nat) : Nat → Bool
  | 0 => true
  | n + 1 => mtL q b n && decide (tp (b + n) = byq q n)
def mtw (q b e : Nat) : Bool := decide (e = b + slq q) && mtL tp q b (slq q)
/-- which word stands there; 0: none -/
def qfs (b e : Nat) : Nat := if mtw tp 1 b e = true then 1 else if mtw tp 2 b e = true then 2 else if mtw tp 3 b e = true then 3 else if mtw tp 4 b e = true then 4 else if mtw tp 5 b e = true then 5 else if mtw tp 6 b e = true then 6 else if mtw tp 7 b e = true then 7 else if mtw tp 8 b e = true then 8 else if mtw tp 9 b e = true then 9 else if mtw tp 10 b e = true then 10 else if mtw tp 11 b e = true then 11 else if mtw tp 12 b e = true then 12 else 0
def kof (q : Nat) : Nat := if q = 0 then 1 else if q ≤ 6 then q + 1 else 10093 + q
def nmv (b : Nat) : Nat → Nat
  | 0 => 0
  | j + 1 => 10 * nmv b j + tp (b + j) - 48
def tkn (b : Nat) : Nat := if nb ≤ b then 0 else if srt (tp b) = 1 then kof (qfs tp b (en tp nb b)) else if srt (tp b) = 2 then (if 4 < en tp nb b - b then 1 else 100 + nmv tp b (en tp nb b - b)) else if isg (tp b) = true then tp b else 1
def tqf (k : Nat) : Nat := tkn tp nb (bs tp nb k)
end LEX
section LEXT
variable {tp : Nat → Nat} {nb : Nat}
theorem skp_le : ∀ n i, i ≤ skp tp n i ∧ skp tp n i ≤ i + n
  | 0, i => ⟨Nat.le_refl _, Nat.le_refl _⟩
  | n + 1, i => by
    have := skp_le n (i + 1)
    rw [skp]; split <;> omega
theorem sk_le {i : Nat} (h : i ≤ nb) : i ≤ sk tp nb i ∧ sk tp nb i ≤ nb := by have := skp_le (tp := tp) (nb - i) i; rw [sk]; omega
theorem sk_s {i : Nat} (h : i < nb) (hs : tp i = 32 ∨ tp i = 10) : sk tp nb i = sk tp nb (i + 1) := by
  rw [sk, sk, show nb - i = (nb - (i + 1)) + 1 by omega, skp, if_pos hs]
theorem sk_n {i : Nat} (h : ¬ (tp i = 32 ∨ tp i = 10)) : sk tp nb i = i := by
  rw [sk]
  cases e : nb - i with
  | zero => rfl
  | succ n => rw [skp, if_neg h]
theorem sk_e : sk tp nb nb = nb := by rw [sk, Nat.sub_self]; rfl
theorem sk_no {i : Nat} (hi : i ≤ nb) (h : sk tp nb i < nb) : ¬ (tp (sk tp nb i) = 32 ∨ tp (sk tp nb i) = 10) := by
  have key : ∀ n i, i + n = nb → skp tp n i < nb → ¬ (tp (skp tp n i) = 32 ∨ tp (skp tp n i) = 10) := by
    intro n
    induction n with
    | zero => intro i h1 h2; simp only [skp] at h2; omega
    | succ n ih =>
      intro i h1 h2
      rw [skp] at h2 ⊢
      split
      · next q => rw [if_pos q] at h2; exact ih (i + 1) (by omega) h2
      · next q => exact q
  exact key (nb - i) i (by omega) h
theorem run_le {s : Nat} : ∀ n j, j ≤ run tp s n j ∧ run tp s n j ≤ j + n
  | 0, j => ⟨Nat.le_refl _, Nat.le_refl _⟩
  | n + 1, j => by
    have := run_le (s := s) n (j + 1)
    rw [run]; split <;> omega
theorem run_in {s : Nat} : ∀ n j i, j ≤ i → i < run tp s n j → srt (tp i) = s
  | 0, j, i, h1, h2 => by rw [run] at h2; omega
  | n + 1, j, i, h1, h2 => by
    rw [run] at h2
    split at h2
    · next q =>
      by_cases e : i = j
      · rw [e]; exact q
      · exact run_in n (j + 1) i (by omega) h2
    · omega
theorem en_le {b : Nat} (h : b < nb) : b < en tp nb b ∧ en tp nb b ≤ nb := by
  rw [en]
  split
  · omega
  · have := run_le (tp := tp) (s := srt (tp b)) (nb - (b + 1)) (b + 1); omega
theorem en_in {b i : Nat} (h1 : b ≤ i) (h2 : i < en tp nb b) : srt (tp i) = srt (tp b) := by
  by_cases e : i = b
  · rw [e]
  · rw [en] at h2
    split at h2
    · omega
    · exact run_in _ _ i (by omega) h2
theorem bs_le : ∀ k, bs tp nb k ≤ nb
  | 0 => (sk_le (Nat.zero_le _)).2
  | k + 1 => by
    rw [bs]
    split
    · next q => exact (sk_le (en_le q).2).2
    · exact Nat.le_refl _
theorem bs_s {k : Nat} (h : bs tp nb k < nb) : bs tp nb (k + 1) = sk tp nb (en tp nb (bs tp nb k)) := by rw [bs, if_pos h]
theorem bs_ge : ∀ k, k ≤ bs tp nb k ∨ bs tp nb k = nb
  | 0 => Or.inl (Nat.zero_le _)
  | k + 1 => by
    rcases Nat.lt_or_ge (bs tp nb k) nb with h | h
    · rw [bs_s h]
      have h1 := en_le (tp := tp) h
      have h2 := sk_le (tp := tp) h1.2
      rcases bs_ge k with q | q
      · left; omega
      · omega
    · right; rw [bs, if_neg (by omega)]
theorem bs_ex (tp : Nat → Nat) (nb : Nat) : ∃ M, M ≤ nb ∧ bs tp nb M = nb ∧ ∀ j, j < M → bs tp nb j < nb := by
  have hx : bs tp nb nb = nb := by
    rcases bs_ge (tp := tp) (nb := nb) nb with h | h
    · exact Nat.le_antisymm (bs_le nb) h
    · exact h
  obtain ⟨M, h1, h2⟩ := pk_least (fun k => bs tp nb k = nb) ⟨nb, hx⟩
  refine ⟨M, ?_, h1, fun j hj => Nat.lt_of_le_of_ne (bs_le j) (h2 j hj)⟩
  rcases Nat.lt_or_ge nb M with z | z
  · exact absurd hx (h2 nb z)
  · exact z
theorem nmv_lt {b : Nat} : ∀ j, (∀ i, b ≤ i → i < b + j → 48 ≤ tp i ∧ tp i ≤ 57) → nmv tp b j < 10 ^ j
  | 0, _ => by show 0 < 1; decide
  | j + 1, h => by
    have h1 := nmv_lt j (fun i h1 h2 => h i h1 (by omega))
    have h2 := h (b + j) (by omega) (by omega)
    rw [nmv, Nat.pow_succ]
    omega
theorem nmv4 {b j : Nat} (hj : j ≤ 4) (h : ∀ i, b ≤ i → i < b + j → 48 ≤ tp i ∧ tp i ≤ 57) : nmv tp b j < 10000 := Nat.lt_of_lt_of_le (nmv_lt j h) (Nat.pow_le_pow_right (by decide) hj)
theorem qfs_le {b e : Nat} : qfs tp b e ≤ 12 := by
  unfold qfs
  repeat' split
  all_goals decide
theorem kof_lt {q : Nat} (h : q ≤ 12) : kof q < 10106 := by rw [kof]; split <;> (try split) <;> omega
theorem tkn_lt {b : Nat} (h256 : ∀ i, i < nb → tp i < 256) : tkn tp nb b < 10106 := by
  rw [tkn]
  split
  · decide
  · next h0 =>
    split
    · exact kof_lt qfs_le
    · split
      · next h1 h2 =>
        split
        · decide
        · next h3 =>
          have := nmv4 (tp := tp) (b := b) (j := en tp nb b - b) (by omega) (fun i k1 k2 => srt_2.mp ((en_in (nb := nb) k1 (by have := en_le (tp := tp) (nb := nb) (b := b) (by omega); omega)).trans h2))
          omega
      · split
        · have := h256 b (by omega); omega
        · decide
theorem mtL_t {q b : Nat} : ∀ {n : Nat}, mtL tp q b n = true ↔ ∀ i, i < n → tp (b + i) = byq q i
  | 0 => by simp [mtL]
  | n + 1 => by
    rw [mtL, Bool.and_eq_true, mtL_t (n := n), decide_eq_true_eq]
    constructor
    · rintro ⟨h1, h2⟩ i hi
      by_cases e : i = n
      · rw [e]; exact h2
      · exact h1 i (by omega)
    · intro h
      exact ⟨fun i hi => h i (by omega), h n (by omega)⟩
theorem mtL_f {q b i : Nat} (h : ¬ tp (b + i) = byq q i) {n : Nat} (hi : i < n) : mtL tp q b n = false := by
  cases e : mtL tp q b n with
  | false => rfl
  | true => exact absurd (mtL_t.mp e i hi) h
theorem wd_ne : ∀ q, q < 13 → ∀ p, p < 13 → 1 ≤ q → 1 ≤ p → q ≠ p → slq q = slq p → ∃ i, i < slq q ∧ byq q i ≠ byq p i := by
  have key : ∀ q, q < 13 → ∀ p, p < 13 → (q = 0 ∨ p = 0 ∨ q = p ∨ slq q ≠ slq p ∨ (List.range (slq q)).any (fun i => decide (byq q i ≠ byq p i)) = true) := by decide +kernel
  intro q hq p hp h1 h2 h3 h4
  have := (((key q hq p hp).resolve_left (by omega)).resolve_left (by omega)).resolve_left h3
  have := this.resolve_left (fun z => z h4)
  rw [List.any_eq_true] at this
  obtain ⟨i, hi, h5⟩ := this
  exact ⟨i, List.mem_range.mp hi, of_decide_eq_true h5⟩
theorem mtw_u {q p b e : Nat} (hq : 1 ≤ q ∧ q < 13) (hp : 1 ≤ p ∧ p < 13) (h1 : mtw tp q b e = true) (h2 : mtw tp p b e = true) : q = p := by
  rcases Nat.decEq q p with h | h
  · simp only [mtw, Bool.and_eq_true, decide_eq_true_eq] at h1 h2
    obtain ⟨i, hi, h5⟩ := wd_ne q hq.2 p hp.2 hq.1 hp.1 h (by omega)
    exact absurd ((mtL_t.mp h1.2 i hi).symm.trans (mtL_t.mp h2.2 i (by omega))) h5
  · exact h
end LEXT
