/-! sheets, image, lots -/
abbrev g_Sh : Type := (Nat → Nat) × (Nat → Nat) × (Nat → Nat → Int32)
def so32 (v : Int32) : Nat := if v = -1 then 4294967295 else v.toNatClampNeg
def shz (s : g_Sh) (j o n : Nat) : g_Sh := (va_up s.1 j o, va_up s.2.1 j n, va_up s.2.2 j (fun _ => nI 0))
def rSheet (S : g_Sh) (s o n : Int32) : Int32 × g_Sh :=
  if inr s 4 = false then (-2, S) else if inb o (-1) (nI 2) = false then (-2, S)
  else if o = -1 then (nI 1, shz S s.toNatClampNeg 4294967295 0)
  else if nI 40 < n then (-2, S) else if n < 0 then (-14, S) else (nI 1, shz S s.toNatClampNeg o.toNatClampNeg n.toNatClampNeg)
theorem inb_m2 {v : Int32} {k : Nat} (hk : k < 2147483648) (h : inb v (-1) (nI k) = true) : v = -1 ∨ ∃ d, d ≤ k ∧ v = nI d := by
  have q2 : -1 ≤ v ∧ v ≤ nI k := of_decide_eq_true h
  by_cases h0 : v < 0
  · left
    have h1 : v.toInt < 0 := by have := Int32.lt_iff_toInt_lt.mp h0; simpa using this
    have h2 : -1 ≤ v.toInt := by have := Int32.le_iff_toInt_le.mp q2.1; simpa using this
    have h3 : v.toInt = -1 := by omega
    have e : v = Int32.ofInt v.toInt := (Int32.ofInt_toInt v).symm
    rw [h3] at e
    exact e
  · right
    obtain ⟨j, hj, rfl⟩ := nI_of h0
    refine ⟨j, ?_, rfl⟩
    rcases Nat.lt_or_ge k j with z | z
    · exact absurd (nI_lt z hj) (Int32.not_lt.mpr q2.2)
    · exact z
theorem inb_d2 : ∀ d, d ≤ 2 → inb (nI d) (-1) (nI 2) = true := by decide +kernel
section SHE
variable {S : g_Sh}
theorem rSheet_s {s o n : Int32} (h : inr s 4 = false) : rSheet S s o n = (-2, S) := if_pos h
theorem rSheet_o {j : Nat} {o n : Int32} (hj : j < 4) (h : inb o (-1) (nI 2) = false) : rSheet S (nI j) o n = (-2, S) := by rw [rSheet, if_neg (by rw [inr_lt_t (by decide) hj]; decide), if_pos h]
theorem rSheet_m {j : Nat} {n : Int32} (hj : j < 4) : rSheet S (nI j) (-1) n = (nI 1, shz S j 4294967295 0) := by rw [rSheet, if_neg (by rw [inr_lt_t (by decide) hj]; decide), if_neg (by decide), if_pos rfl, nI_clamp (by omega)]
theorem rSheet_b {j o : Nat} {n : Int32} (hj : j < 4) (ho : o ≤ 2) (hn : nI 40 < n) : rSheet S (nI j) (nI o) n = (-2, S) := by rw [rSheet, if_neg (by rw [inr_lt_t (by decide) hj]; decide), if_neg (by rw [inb_d2 o ho]; decide), if_neg (nI_nem1 (by omega)), if_pos hn]
theorem rSheet_l {j o : Nat} {n : Int32} (hj : j < 4) (ho : o ≤ 2) (hn : ¬ nI 40 < n) (h2 : n < 0) : rSheet S (nI j) (nI o) n = (-14, S) := by rw [rSheet, if_neg (by rw [inr_lt_t (by decide) hj]; decide), if_neg (by rw [inb_d2 o ho]; decide), if_neg (nI_nem1 (by omega)), if_neg hn, if_pos h2]
theorem rSheet_u {j o n : Nat} (hj : j < 4) (ho : o ≤ 2) (hn : n ≤ 40) : rSheet S (nI j) (nI o) (nI n) = (nI 1, shz S j o n) := by
  rw [rSheet, if_neg (by rw [inr_lt_t (by decide) hj]; decide), if_neg (by rw [inb_d2 o ho]; decide), if_neg (nI_nem1 (by omega)), if_neg (nI_nlt (by omega) (by decide)), if_neg (nI_lt0 (by omega)), nI_clamp (by omega), nI_clamp (by omega), nI_clamp (by omega)]
end SHE
/-- what a sheet call may change -/
def scC (k j : Nat) : Bool := decide (60 ≤ k ∧ k ≤ 62)
def scCx (k j : Nat) : Bool := decide (39 ≤ k ∧ k ≤ 46)
/-- a row's numbers are others from c on -/
theorem MS_shz {so sz : Nat → Nat} {cl : Nat → Nat → Int32} {a a' : Nat → Nat → Int32} {j o n : Nat} (hj : j < 4) (h : MS so sz cl a) (h0 : a' 60 j = nI o) (h1 : a' 61 j = nI n) (h2 : ∀ i, i < 40 → a' 62 (40 * j + i) = nI 0) (k0 : ∀ x, x ≠ j → a' 60 x = a 60 x) (k1 : ∀ x, x ≠ j → a' 61 x = a 61 x) (k2 : ∀ x, x < 40 * j ∨ 40 * j + 40 ≤ x → a' 62 x = a 62 x) : MS (shz (so, sz, cl) j o n).1 (shz (so, sz, cl) j o n).2.1 (shz (so, sz, cl) j o n).2.2 a' := by
  refine ⟨fun s hs => ?_, fun s hs => ?_, fun s hs i hi => ?_⟩
  · by_cases e : s = j
    · subst e; rw [h0]; simp [shz, va_up]
    · rw [k0 s e, h.1 s hs]; simp [shz, va_up, e]
  · by_cases e : s = j
    · subst e; rw [h1]; simp [shz, va_up]
    · rw [k1 s e, h.2.1 s hs]; simp [shz, va_up, e]
  · by_cases e : s = j
    · subst e; rw [h2 i hi]; simp [shz, va_up]
    · rw [k2 _ (by omega), h.2.2 s hs i hi]; simp [shz, va_up, e]
theorem SX_shz {so sz : Nat → Nat} {cl : Nat → Nat → Int32} {a a' : Nat → Nat → Int32} {j o n : Nat} (hj : j < 4) (h : SX so sz cl a) (h0 : a' (39 + 2 * j) 0 = nI o) (h1 : a' (39 + 2 * j) 1 = nI n) (h2 : ∀ i, i < 40 → a' (39 + 2 * j + 1) i = nI 0) (hc : ∀ k i, k ≠ 39 + 2 * j → k ≠ 39 + 2 * j + 1 → a' k i = a k i) : SX (shz (so, sz, cl) j o n).1 (shz (so, sz, cl) j o n).2.1 (shz (so, sz, cl) j o n).2.2 a' := by
  refine ⟨fun s hs => ?_, fun s hs => ?_, fun s hs i hi => ?_⟩
  · by_cases e : s = j
    · subst e; rw [h0]; simp [shz, va_up]
    · rw [hc _ _ (by omega) (by omega), h.1 s hs]; simp [shz, va_up, e]
  · by_cases e : s = j
    · subst e; rw [h1]; simp [shz, va_up]
    · rw [hc _ _ (by omega) (by omega), h.2.1 s hs]; simp [shz, va_up, e]
  · by_cases e : s = j
    · subst e; rw [h2 i hi]; simp [shz, va_up]
    · rw [hc _ _ (by omega) (by omega), h.2.2 s hs i hi]; simp [shz, va_up, e]
-- cell
def cst (o : Nat) (v : Int32) : Int32 := if o = 0 then v.toInt8.toInt32 else if o = 1 then v.toInt16.toInt32 else v
def she (S : g_Sh) (j i : Nat) (v : Int32) : g_Sh := (S.1, S.2.1, va_up S.2.2 j (va_up (S.2.2 j) i v))
def rCell (S : g_Sh) (s i v : Int32) : Int32 × g_Sh :=
  if inr s 4 = false then (-2, S) else if S.1 s.toNatClampNeg = 4294967295 then (-11, S) else if inr i (S.2.1 s.toNatClampNeg) = false then (-12, S)
  else (nI 1, she S s.toNatClampNeg i.toNatClampNeg (cst (S.1 s.toNatClampNeg) v))
section CEL
variable {S : g_Sh}
theorem rCell_s {s i v : Int32} (h : inr s 4 = false) : rCell S s i v = (-2, S) := if_pos h
theorem rCell_m {j : Nat} {i v : Int32} (hj : j < 4) (h : S.1 j = 4294967295) : rCell S (nI j) i v = (-11, S) := by rw [rCell, if_neg (by rw [inr_lt_t (by decide) hj]; decide), nI_clamp (by omega), if_pos h]
theorem rCell_i {j : Nat} {i v : Int32} (hj : j < 4) (h : ¬ S.1 j = 4294967295) (h2 : inr i (S.2.1 j) = false) : rCell S (nI j) i v = (-12, S) := by rw [rCell, if_neg (by rw [inr_lt_t (by decide) hj]; decide), nI_clamp (by omega), if_neg h, if_pos h2]
theorem rCell_u {j i : Nat} {v : Int32} (hj : j < 4) (h : ¬ S.1 j = 4294967295) (hz : S.2.1 j ≤ 40) (h2 : i < S.2.1 j) : rCell S (nI j) (nI i) v = (nI 1, she S j i (cst (S.1 j) v)) := by rw [rCell, if_neg (by rw [inr_lt_t (by decide) hj]; decide), nI_clamp (by omega), if_neg h, if_neg (by rw [inr_lt_t (by omega) h2]; decide), nI_clamp (by omega)]
end CEL
theorem MS_she {so sz : Nat → Nat} {cl : Nat → Nat → Int32} {a : Nat → Nat → Int32} {j i : Nat} {v : Int32} (hj : j < 4) (hi : i < 40) (h : MS so sz cl a) : MS (she (so, sz, cl) j i v).1 (she (so, sz, cl) j i v).2.1 (she (so, sz, cl) j i v).2.2 (up2 a 62 (40 * j + i) v) := by
  refine ⟨h.1, h.2.1, fun s hs k hk => ?_⟩
  by_cases e : s = j
  · subst e
    by_cases e2 : k = i
    · subst e2; rw [up2_s]; simp [she, va_up]
    · rw [up2_j _ _ (by omega), h.2.2 s hs k hk]; simp [she, va_up, e2]
  · rw [up2_j _ _ (by omega), h.2.2 s hs k hk]; simp [she, va_up, e]
theorem SX_she {so sz : Nat → Nat} {cl : Nat → Nat → Int32} {a : Nat → Nat → Int32} {j i : Nat} {v : Int32} (hj : j < 4) (hi : i < 40) (h : SX so sz cl a) : SX (she (so, sz, cl) j i v).1 (she (so, sz, cl) j i v).2.1 (she (so, sz, cl) j i v).2.2 (up2 a (39 + 2 * j + 1) i v) := by
  refine ⟨fun s hs => by rw [up2_k _ _ (by omega)]; exact h.1 s hs, fun s hs => by rw [up2_k _ _ (by omega)]; exact h.2.1 s hs, fun s hs k hk => ?_⟩
  by_cases e : s = j
  · subst e
    by_cases e2 : k = i
    · subst e2; rw [up2_s]; simp [she, va_up]
    · rw [up2_j _ _ e2, h.2.2 s hs k hk]; simp [she, va_up, e2]
  · rw [up2_k _ _ (by omega), h.2.2 s hs k hk]; simp [she, va_up, e]
/-- n places from i on are in a row of m -/
def hlds (i n : Int32) (m : Nat) : Bool := !(decide (i < 0)) && !(decide (n < 0)) && decide (i.toNatClampNeg + n.toNatClampNeg ≤ m)
theorem hlds_i {i n : Int32} {m : Nat} (h : i < 0) : hlds i n m = false := by simp [hlds, h]
theorem hlds_n {i n : Int32} {m : Nat} (h : n < 0) : hlds i n m = false := by simp [hlds, h]
theorem hlds_u {i n m : Nat} (hi : i < 2147483648) (hn : n < 2147483648) : hlds (nI i) (nI n) m = decide (i + n ≤ m) := by simp [hlds, nI_lt0 hi, nI_lt0 hn, nI_clamp hi, nI_clamp hn]
theorem hlds_t {i n : Int32} {m : Nat} (h : hlds i n m = true) (hm : m ≤ 40) : ∃ j k, j + k ≤ m ∧ i = nI j ∧ n = nI k := by
  simp only [hlds, Bool.and_eq_true, Bool.not_eq_true', decide_eq_false_iff_not, decide_eq_true_eq] at h
  obtain ⟨j, hj, rfl⟩ := nI_of h.1.1
  obtain ⟨k, hk, rfl⟩ := nI_of h.1.2
  have h3 := h.2
  rw [nI_clamp hj, nI_clamp hk] at h3
  exact ⟨j, k, h3, rfl, rfl⟩
theorem hlds_1 {i : Int32} {m : Nat} (hm : m ≤ 40) : hlds i (nI 1) m = inr i m := by
  by_cases h : i < 0
  · rw [hlds_i h, inr_lt h]
  · obtain ⟨j, hj, rfl⟩ := nI_of h
    rw [hlds_u hj (by decide), inr_nI hj]
    exact decide_eq_decide.mpr (by omega)
-- copy
def shc (S : g_Sh) (s i o j n : Nat) : g_Sh := (S.1, S.2.1, va_up S.2.2 o (va_cpy (S.2.2 s) (S.2.2 o) i j n))
def rCopy (S : g_Sh) (s i o j n : Int32) : Int32 × g_Sh :=
  if inr s 4 = false ∨ inr o 4 = false then (-2, S) else if S.1 s.toNatClampNeg = 4294967295 ∨ S.1 o.toNatClampNeg = 4294967295 then (-11, S) else if ¬ S.1 s.toNatClampNeg = S.1 o.toNatClampNeg then (-13, S)
  else if hlds i n (S.2.1 s.toNatClampNeg) = false ∨ hlds j n (S.2.1 o.toNatClampNeg) = false then (-12, S) else (n, shc S s.toNatClampNeg i.toNatClampNeg o.toNatClampNeg j.toNatClampNeg n.toNatClampNeg)
section COP
variable {S : g_Sh} {s o : Nat} {i j n : Int32}
theorem rCopy_s {vs vo : Int32} (h : inr vs 4 = false ∨ inr vo 4 = false) : rCopy S vs i vo j n = (-2, S) := if_pos h
theorem rCopy_m (hs : s < 4) (ho : o < 4) (h : S.1 s = 4294967295 ∨ S.1 o = 4294967295) : rCopy S (nI s) i (nI o) j n = (-11, S) := by rw [rCopy, if_neg (by rw [inr_lt_t (by decide) hs, inr_lt_t (by decide) ho]; decide), nI_clamp (by omega), nI_clamp (by omega), if_pos h]
theorem rCopy_k (hs : s < 4) (ho : o < 4) (h : ¬ (S.1 s = 4294967295 ∨ S.1 o = 4294967295)) (h2 : ¬ S.1 s = S.1 o) : rCopy S (nI s) i (nI o) j n = (-13, S) := by rw [rCopy, if_neg (by rw [inr_lt_t (by decide) hs, inr_lt_t (by decide) ho]; decide), nI_clamp (by omega), nI_clamp (by omega), if_neg h, if_pos h2]
theorem rCopy_h (hs : s < 4) (ho : o < 4) (h : ¬ (S.1 s = 4294967295 ∨ S.1 o = 4294967295)) (h2 : S.1 s = S.1 o) (h3 : hlds i n (S.2.1 s) = false ∨ hlds j n (S.2.1 o) = false) : rCopy S (nI s) i (nI o) j n = (-12, S) := by rw [rCopy, if_neg (by rw [inr_lt_t (by decide) hs, inr_lt_t (by decide) ho]; decide), nI_clamp (by omega), nI_clamp (by omega), if_neg h, if_neg (fun z => z h2), if_pos h3]
theorem rCopy_u {i j n : Nat} (hs : s < 4) (ho : o < 4) (h : ¬ (S.1 s = 4294967295 ∨ S.1 o = 4294967295)) (h2 : S.1 s = S.1 o) (z1 : S.2.1 s ≤ 40) (z2 : S.2.1 o ≤ 40) (h3 : i + n ≤ S.2.1 s) (h4 : j + n ≤ S.2.1 o) : rCopy S (nI s) (nI i) (nI o) (nI j) (nI n) = (nI n, shc S s i o j n) := by
  rw [rCopy, if_neg (by rw [inr_lt_t (by decide) hs, inr_lt_t (by decide) ho]; decide), nI_clamp (by omega), nI_clamp (by omega), if_neg h, if_neg (fun z => z h2), if_neg (by rw [hlds_u (by omega) (by omega), hlds_u (by omega) (by omega)]; simp; omega), nI_clamp (by omega), nI_clamp (by omega), nI_clamp (by omega)]
end COP
theorem MS_shc {so sz : Nat → Nat} {cl : Nat → Nat → Int32} {a a' : Nat → Nat → Int32} {s i o j n : Nat} (hs : s < 4) (ho : o < 4) (hi : i + n ≤ 40) (hj : j + n ≤ 40) (h : MS so sz cl a) (k0 : ∀ x, a' 60 x = a 60 x) (k1 : ∀ x, a' 61 x = a 61 x) (k2 : ∀ y, a' 62 y = if 40 * o + j ≤ y ∧ y < 40 * o + j + n then a 62 (40 * s + i + (y - (40 * o + j))) else a 62 y) : MS (shc (so, sz, cl) s i o j n).1 (shc (so, sz, cl) s i o j n).2.1 (shc (so, sz, cl) s i o j n).2.2 a' := by
  refine ⟨fun x hx => by rw [k0]; exact h.1 x hx, fun x hx => by rw [k1]; exact h.2.1 x hx, fun x hx k hk => ?_⟩
  rw [k2]
  by_cases e : x = o
  · subst e
    by_cases e2 : j ≤ k ∧ k < j + n
    · rw [if_pos (by omega), show 40 * s + i + (40 * x + k - (40 * x + j)) = 40 * s + (i + (k - j)) by omega, h.2.2 s hs _ (by omega)]
      simp [shc, va_up, va_cpy, e2]
    · rw [if_neg (by omega), h.2.2 x hx k hk]
      simp only [shc, va_up, va_cpy, if_true]
      rw [if_neg e2]
  · rw [if_neg (by omega), h.2.2 x hx k hk]
    simp [shc, va_up, e]
theorem SX_shc {so sz : Nat → Nat} {cl : Nat → Nat → Int32} {a : Nat → Nat → Int32} {s i o j n : Nat} (hs : s < 4) (ho : o < 4) (hi : i + n ≤ 40) (hj : j + n ≤ 40) (h : SX so sz cl a) : SX (shc (so, sz, cl) s i o j n).1 (shc (so, sz, cl) s i o j n).2.1 (shc (so, sz, cl) s i o j n).2.2 (va_up a (39 + 2 * o + 1) (va_cpy (a (39 + 2 * s + 1)) (a (39 + 2 * o + 1)) i j n)) := by
  refine ⟨fun x hx => by rw [va_up_n _ _ (by omega)]; exact h.1 x hx, fun x hx => by rw [va_up_n _ _ (by omega)]; exact h.2.1 x hx, fun x hx k hk => ?_⟩
  by_cases e : x = o
  · subst e
    rw [va_up_s]
    simp only [shc, va_up, if_true, va_cpy]
    by_cases e2 : j ≤ k ∧ k < j + n
    · rw [if_pos e2, if_pos e2, h.2.2 s hs _ (by omega)]
    · rw [if_neg e2, if_neg e2, h.2.2 x hx k hk]
  · rw [va_up_n _ _ (by omega), h.2.2 x hx k hk]
    simp [shc, va_up, e]
/-- the image: what of a forest the reference keeps -/
def IM (ψ : g_Fo) (a : Nat → Nat → Int32) : Prop := (∀ p, p < 6 → a 58 (4 * p) = nI (ψ 3 p)) ∧ (∀ p, p < 6 → a 58 (4 * p + 1) = nI (ψ 5 p)) ∧ (∀ p, p < 6 → a 58 (4 * p + 2) = nI (ψ 4 p)) ∧ (∀ p, p < 6 → a 58 (4 * p + 3) = nI (ψ 6 p)) ∧ (∀ d, d < 10 → a 58 (24 + d) = nI (ψ 0 d)) ∧ a 59 0 = nI (ψ 7 3) ∧ a 59 1 = nI (ψ 7 0) ∧ a 59 2 = nI (ψ 7 1) ∧ a 59 3 = nI (ψ 7 2)
theorem IM_ch {S : Nat → Nat → Bool} {ψ : g_Fo} {a a' : Nat → Nat → Int32} (h : IM ψ a) (hc : chg S a a') (hS : ∀ k j, k = 58 ∨ k = 59 → S k j = false) : IM ψ a' := by
  obtain ⟨h1, h2, h3, h4, h5, h6, h7, h8, h9⟩ := h
  exact ⟨fun p hp => (hc _ _ (hS _ _ (Or.inl rfl))).trans (h1 p hp), fun p hp => (hc _ _ (hS _ _ (Or.inl rfl))).trans (h2 p hp), fun p hp => (hc _ _ (hS _ _ (Or.inl rfl))).trans (h3 p hp), fun p hp => (hc _ _ (hS _ _ (Or.inl rfl))).trans (h4 p hp), fun p hp => (hc _ _ (hS _ _ (Or.inl rfl))).trans (h5 p hp), (hc _ _ (hS _ _ (Or.inr rfl))).trans h6, (hc _ _ (hS _ _ (Or.inr rfl))).trans h7, (hc _ _ (hS _ _ (Or.inr rfl))).trans h8, (hc _ _ (hS _ _ (Or.inr rfl))).trans h9⟩
/-- what an image and a forest have in common: the kinds of the image's hunters -/
def IK (ψ φ : g_Fo) : Prop := ψ 7 3 ≤ φ 7 3 ∧ ∀ p, p < ψ 7 3 → φ 1 p = ψ 1 p ∧ φ 2 p = ψ 2 p
def scI (k j : Nat) : Bool := decide (k = 58 ∨ k = 59) || (decide (k = 50) && decide (j = 13))
def scIx (k j : Nat) : Bool := decide (17 ≤ k ∧ k ≤ 24) || (decide (k = 0) && decide (j = 3))
-- lots
def lot1 (l : Nat) : Nat := l * 48271 % 2147483647
theorem lot1_lt (l : Nat) : lot1 l < 2147483647 := Nat.mod_lt _ (by decide)
def lsp (l : Nat) : Nat := lot1 l % 6
def lsd (l : Nat) : Nat := lot1 (lot1 l) % 10
def lsF (ts cd : g_Fo) : Nat → Nat → g_Fo → g_Fo
  | 0, _, φ => φ
  | n + 1, l, φ => lsF ts cd n (lot1 (lot1 l)) (if lsp l < φ 7 3 then shot φ ts cd (lsp l) (lsd l) else φ)
def lsH (ts cd : g_Fo) : Nat → Nat → g_Fo → Nat
  | 0, _, _ => 0
  | n + 1, l, φ => (if lsp l < φ 7 3 ∧ aim φ ts cd (lsp l) (lsd l) = 2 then 1 else 0) + lsH ts cd n (lot1 (lot1 l)) (if lsp l < φ 7 3 then shot φ ts cd (lsp l) (lsd l) else φ)
theorem lsH_le {ts cd : g_Fo} : ∀ n l (φ : g_Fo), lsH ts cd n l φ ≤ n
  | 0, _, _ => Nat.le_refl _
  | n + 1, l, φ => by
    have h1 := lsH_le (ts := ts) (cd := cd) n (lot1 (lot1 l)) (if lsp l < φ 7 3 then shot φ ts cd (lsp l) (lsd l) else φ)
    have h2 : (if lsp l < φ 7 3 ∧ aim φ ts cd (lsp l) (lsd l) = 2 then 1 else 0) ≤ 1 := by split <;> omega
    simp only [lsH]; omega
theorem FI_ls {ts cd : g_Fo} : ∀ n l (φ : g_Fo), FI φ → FI (lsF ts cd n l φ)
  | 0, _, _, h => h
  | n + 1, l, φ, h => by
    rw [lsF]
    refine FI_ls n _ _ ?_
    split
    · exact FI_shot h (Nat.mod_lt _ (by decide)) (Nat.mod_lt _ (by decide))
    · exact h
def oDrawn (φ ts cd : g_Fo) (s n w : Int32) : Int32 := if inb s (nI 0) (nI 99999) = false ∨ inb n (nI 0) (nI 60) = false ∨ inb w (nI 0) (nI 1) = false then -2 else if w = nI 0 then nI (lsF ts cd n.toNatClampNeg (s.toNatClampNeg + 1) φ 7 0) else nI (lsH ts cd n.toNatClampNeg (s.toNatClampNeg + 1) φ)
theorem oDrawn_n {φ ts cd : g_Fo} {s n w : Int32} (h : inb s (nI 0) (nI 99999) = false ∨ inb n (nI 0) (nI 60) = false ∨ inb w (nI 0) (nI 1) = false) : oDrawn φ ts cd s n w = -2 := if_pos h
theorem oDrawn_0 {φ ts cd : g_Fo} {s n : Nat} (hs : s ≤ 99999) (hn : n ≤ 60) : oDrawn φ ts cd (nI s) (nI n) (nI 0) = nI (lsF ts cd n (s + 1) φ 7 0) := by
  rw [oDrawn, if_neg (by rw [inb_nI (Nat.zero_le _) hs (by decide), inb_nI (Nat.zero_le _) hn (by decide)]; decide), if_pos rfl, nI_clamp (by omega), nI_clamp (by omega)]
theorem oDrawn_1 {φ ts cd : g_Fo} {s n : Nat} (hs : s ≤ 99999) (hn : n ≤ 60) : oDrawn φ ts cd (nI s) (nI n) (nI 1) = nI (lsH ts cd n (s + 1) φ) := by
  rw [oDrawn, if_neg (by rw [inb_nI (Nat.zero_le _) hs (by decide), inb_nI (Nat.zero_le _) hn (by decide)]; decide), if_neg (by decide), nI_clamp (by omega), nI_clamp (by omega)]
def odS (φ ts cd : g_Fo) (s l : Nat) : Nat → Nat
  | 0 => 0
  | k + 1 => odS φ ts cd s l k + (if l ≤ pops (lsF ts cd 20 (s + k + 1) φ 7 0) 10 then 1 else 0)
theorem odS_le {φ ts cd : g_Fo} {s l : Nat} : ∀ k, odS φ ts cd s l k ≤ k
  | 0 => Nat.le_refl _
  | k + 1 => by have := odS_le (φ := φ) (ts := ts) (cd := cd) (s := s) (l := l) k; simp only [odS]; split <;> omega
def oOdds (φ ts cd : g_Fo) (s n l w : Int32) : Int64 := if inb s (nI 0) (nI 99999) = false ∨ inb n (nI 1) (nI 40) = false ∨ inb l (nI 0) (nI 10) = false ∨ inb w (nI 0) (nI 1) = false then oNO else lN (lowt (odS φ ts cd s.toNatClampNeg l.toNatClampNeg n.toNatClampNeg) n.toNatClampNeg w.toNatClampNeg)
theorem oOdds_n {φ ts cd : g_Fo} {s n l w : Int32} (h : inb s (nI 0) (nI 99999) = false ∨ inb n (nI 1) (nI 40) = false ∨ inb l (nI 0) (nI 10) = false ∨ inb w (nI 0) (nI 1) = false) : oOdds φ ts cd s n l w = oNO := if_pos h
theorem oOdds_u {φ ts cd : g_Fo} {s n l w : Nat} (hs : s ≤ 99999) (hn1 : 1 ≤ n) (hn : n ≤ 40) (hl : l ≤ 10) (hw : w ≤ 1) : oOdds φ ts cd (nI s) (nI n) (nI l) (nI w) = lN (lowt (odS φ ts cd s l n) n w) := by
  rw [oOdds, if_neg (by rw [inb_nI (Nat.zero_le _) hs (by decide), inb_nI hn1 hn (by decide), inb_nI (Nat.zero_le _) hl (by decide), inb_nI (Nat.zero_le _) hw (by decide)]; decide), nI_clamp (by omega), nI_clamp (by omega), nI_clamp (by omega), nI_clamp (by omega)]
