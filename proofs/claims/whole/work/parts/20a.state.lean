/-! the forest as numbers: rows 0 shy, 1 kind, 2 more, 3 honour, 4 met, 5 cards, 6 by; row 7: alive, day, law, hunters -/
def FI (φ : Nat → Nat → Nat) : Prop := φ 7 0 < 1024 ∧ φ 7 1 ≤ 999 ∧ φ 7 2 < 6 ∧ φ 7 3 ≤ 6 ∧ (∀ d, d < 10 → φ 0 d ≤ 99) ∧ (∀ p, p < 6 → φ 1 p < 6) ∧ (∀ p, p < 6 → φ 2 p < 10) ∧ (∀ p, p < 6 → φ 3 p ≤ 99) ∧ (∀ p, p < 6 → φ 4 p < 64) ∧ (∀ p, p < 6 → φ 5 p < 1024) ∧ ∀ p, p < 6 → φ 6 p < 4294967296
/-- the reference's cells hold the forest -/
def MA (φ : Nat → Nat → Nat) (a : Nat → Nat → Int32) : Prop := a 50 0 = nI (φ 7 3) ∧ a 50 5 = nI (φ 7 0) ∧ a 50 6 = nI (φ 7 1) ∧ a 50 12 = nI (φ 7 2) ∧ (∀ d, d < 10 → a 54 d = nI (φ 0 d)) ∧
  (∀ p, p < 6 → a 53 (4 * p) = nI (φ 3 p)) ∧ (∀ p, p < 6 → a 53 (4 * p + 1) = nI (φ 5 p)) ∧ (∀ p, p < 6 → a 53 (4 * p + 2) = nI (φ 4 p)) ∧ (∀ p, p < 6 → a 53 (4 * p + 3) = nI (φ 6 p)) ∧
  (∀ p, p < φ 7 3 → a 51 p = nI (φ 1 p)) ∧ ∀ p, p < φ 7 3 → a 52 p = nI (φ 2 p)
/-- the cells of the forest at f hold it -/
def FA (f : Nat) (φ : Nat → Nat → Nat) (a : Nat → Nat → Int32) : Prop := a f 1 = nI (φ 7 0) ∧ a f 2 = nI (φ 7 1) ∧ a f 3 = nI (φ 7 2) ∧ a f 4 = nI (φ 7 3) ∧ (∀ d, d < 10 → a (f + 1) d = nI (φ 0 d)) ∧
  (∀ p, p < 6 → a (f + 2) p = nI (φ 1 p)) ∧ (∀ p, p < 6 → a (f + 3) p = nI (φ 2 p)) ∧ (∀ p, p < 6 → a (f + 4) p = nI (φ 3 p)) ∧ (∀ p, p < 6 → a (f + 5) p = nI (φ 4 p)) ∧ (∀ p, p < 6 → a (f + 6) p = nI (φ 5 p)) ∧ ∀ p, p < 6 → a (f + 7) p = nI (φ 6 p)
section ST
variable {φ : Nat → Nat → Nat} {a : Nat → Nat → Int32} {f p d : Nat}
theorem FI_al (h : FI φ) : φ 7 0 < 1024 := h.1
theorem FI_da (h : FI φ) : φ 7 1 ≤ 999 := h.2.1
theorem FI_la (h : FI φ) : φ 7 2 < 6 := h.2.2.1
theorem FI_hu (h : FI φ) : φ 7 3 ≤ 6 := h.2.2.2.1
theorem FI_sh (h : FI φ) (hd : d < 10) : φ 0 d ≤ 99 := h.2.2.2.2.1 d hd
theorem FI_ki (h : FI φ) (hp : p < 6) : φ 1 p < 6 := h.2.2.2.2.2.1 p hp
theorem FI_mo (h : FI φ) (hp : p < 6) : φ 2 p < 10 := h.2.2.2.2.2.2.1 p hp
theorem FI_ho (h : FI φ) (hp : p < 6) : φ 3 p ≤ 99 := h.2.2.2.2.2.2.2.1 p hp
theorem FI_me (h : FI φ) (hp : p < 6) : φ 4 p < 64 := h.2.2.2.2.2.2.2.2.1 p hp
theorem FI_ca (h : FI φ) (hp : p < 6) : φ 5 p < 1024 := h.2.2.2.2.2.2.2.2.2.1 p hp
theorem FI_by (h : FI φ) (hp : p < 6) : φ 6 p < 4294967296 := h.2.2.2.2.2.2.2.2.2.2 p hp
theorem MA_hu (h : MA φ a) : a 50 0 = nI (φ 7 3) := h.1
theorem MA_al (h : MA φ a) : a 50 5 = nI (φ 7 0) := h.2.1
theorem MA_da (h : MA φ a) : a 50 6 = nI (φ 7 1) := h.2.2.1
theorem MA_la (h : MA φ a) : a 50 12 = nI (φ 7 2) := h.2.2.2.1
theorem MA_sh (h : MA φ a) (hd : d < 10) : a 54 d = nI (φ 0 d) := h.2.2.2.2.1 d hd
theorem MA_ho (h : MA φ a) (hp : p < 6) : a 53 (4 * p) = nI (φ 3 p) := h.2.2.2.2.2.1 p hp
theorem MA_ca (h : MA φ a) (hp : p < 6) : a 53 (4 * p + 1) = nI (φ 5 p) := h.2.2.2.2.2.2.1 p hp
theorem MA_me (h : MA φ a) (hp : p < 6) : a 53 (4 * p + 2) = nI (φ 4 p) := h.2.2.2.2.2.2.2.1 p hp
theorem MA_by (h : MA φ a) (hp : p < 6) : a 53 (4 * p + 3) = nI (φ 6 p) := h.2.2.2.2.2.2.2.2.1 p hp
theorem MA_ki (h : MA φ a) (hp : p < φ 7 3) : a 51 p = nI (φ 1 p) := h.2.2.2.2.2.2.2.2.2.1 p hp
theorem MA_mo (h : MA φ a) (hp : p < φ 7 3) : a 52 p = nI (φ 2 p) := h.2.2.2.2.2.2.2.2.2.2 p hp
theorem FA_al (h : FA f φ a) : a f 1 = nI (φ 7 0) := h.1
theorem FA_da (h : FA f φ a) : a f 2 = nI (φ 7 1) := h.2.1
theorem FA_la (h : FA f φ a) : a f 3 = nI (φ 7 2) := h.2.2.1
theorem FA_hu (h : FA f φ a) : a f 4 = nI (φ 7 3) := h.2.2.2.1
theorem FA_sh (h : FA f φ a) (hd : d < 10) : a (f + 1) d = nI (φ 0 d) := h.2.2.2.2.1 d hd
theorem FA_ki (h : FA f φ a) (hp : p < 6) : a (f + 2) p = nI (φ 1 p) := h.2.2.2.2.2.1 p hp
theorem FA_mo (h : FA f φ a) (hp : p < 6) : a (f + 3) p = nI (φ 2 p) := h.2.2.2.2.2.2.1 p hp
theorem FA_ho (h : FA f φ a) (hp : p < 6) : a (f + 4) p = nI (φ 3 p) := h.2.2.2.2.2.2.2.1 p hp
theorem FA_me (h : FA f φ a) (hp : p < 6) : a (f + 5) p = nI (φ 4 p) := h.2.2.2.2.2.2.2.2.1 p hp
theorem FA_ca (h : FA f φ a) (hp : p < 6) : a (f + 6) p = nI (φ 5 p) := h.2.2.2.2.2.2.2.2.2.1 p hp
theorem FA_by (h : FA f φ a) (hp : p < 6) : a (f + 7) p = nI (φ 6 p) := h.2.2.2.2.2.2.2.2.2.2 p hp
end ST
