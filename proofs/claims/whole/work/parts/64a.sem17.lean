/-! copies, films, hunters by sheets, images -/
def cpS (A B n k : Nat) (f0 : Nat → Int32) (y : Nat) : Int32 := if A < B then (if B + n - k ≤ y ∧ y < B + n then f0 (A + (y - B)) else f0 y) else (if B ≤ y ∧ y < B + k then f0 (A + (y - B)) else f0 y)
theorem cpS_0 {A B n : Nat} {f0 : Nat → Int32} (y : Nat) : cpS A B n 0 f0 y = f0 y := by
  simp only [cpS]
  split
  · rw [if_neg (by omega)]
  · rw [if_neg (by omega)]
theorem cpS_n {A B n : Nat} {f0 : Nat → Int32} (y : Nat) : cpS A B n n f0 y = if B ≤ y ∧ y < B + n then f0 (A + (y - B)) else f0 y := by
  simp only [cpS]
  rw [show B + n - n = B by omega]
  split <;> rfl
theorem cpS_s {A B n k x : Nat} {f0 f : Nat → Int32} (hk : k < n) (h : ∀ y, f y = cpS A B n k f0 y) (hx : x = if A < B then n - 1 - k else k) (y : Nat) : (if y = B + x then f (A + x) else f y) = cpS A B n (k + 1) f0 y := by
  rw [h, h]
  simp only [cpS]
  by_cases hAB : A < B
  · rw [if_pos hAB] at hx
    simp only [if_pos hAB]
    by_cases e : y = B + x
    · rw [if_pos e, if_neg (by omega), if_pos (by omega)]
      congr 1; omega
    · rw [if_neg e]
      by_cases e2 : B + n - k ≤ y ∧ y < B + n
      · rw [if_pos e2, if_pos (by omega)]
      · rw [if_neg e2, if_neg (by omega)]
  · rw [if_neg hAB] at hx
    simp only [if_neg hAB]
    by_cases e : y = B + x
    · rw [if_pos e, if_neg (by omega), if_pos (by omega)]
      congr 1; omega
    · rw [if_neg e]
      by_cases e2 : B ≤ y ∧ y < B + k
      · rw [if_pos e2, if_pos (by omega)]
      · rw [if_neg e2, if_neg (by omega)]
theorem up2_if {a : Nat → Nat → Int32} {k j y : Nat} {v : Int32} : up2 a k j v k y = if y = j then v else a k y := by simp [up2]
theorem hlds_t2 {i : Int32} {n m : Nat} (hn : n < 2147483648) (h : hlds i (nI n) m = true) : ∃ j, j + n ≤ m ∧ i = nI j := by
  simp only [hlds, Bool.and_eq_true, Bool.not_eq_true', decide_eq_false_iff_not, decide_eq_true_eq] at h
  obtain ⟨j, hj, rfl⟩ := nI_of h.1.1
  have h3 := h.2
  rw [nI_clamp hj, nI_clamp hn] at h3
  exact ⟨j, h3, rfl⟩
-- film
def shw (S : g_Sh) (j o n : Nat) (f : Nat → Int32) : g_Sh := (va_up S.1 j o, va_up S.2.1 j n, va_up S.2.2 j f)
theorem runs_sn {ts cd : g_Fo} {p : Nat} {f : Nat → Int32} : ∀ (n i : Nat) (φ : g_Fo), runs ts cd p f (n + 1) i φ = shot (runs ts cd p f n i φ) ts cd p (cN f (i + n))
  | 0, _, _ => rfl
  | n + 1, i, φ => by
    have := runs_sn (ts := ts) (cd := cd) (p := p) (f := f) n (i + 1) (shot φ ts cd p (cN f i))
    rw [show i + 1 + n = i + (n + 1) by omega] at this
    exact this
def flf (φ ts cd : g_Fo) (p : Nat) (f : Nat → Int32) (n x : Nat) : Int32 := if x < n then nI (runs ts cd p f (x + 1) 0 φ 3 p) else nI 0
def rFilm (φ ts cd : g_Fo) (S : g_Sh) (s t p : Int32) : Int32 × g_Sh :=
  if inr t 4 = false ∨ s = t then (-2, S) else if owr S.1 S.2.1 S.2.2 (φ 7 3) s p = 0 then (nI (S.2.1 s.toNatClampNeg), shw S t.toNatClampNeg 0 (S.2.1 s.toNatClampNeg) (flf φ ts cd p.toNatClampNeg (S.2.2 s.toNatClampNeg) (S.2.1 s.toNatClampNeg)))
  else (owr S.1 S.2.1 S.2.2 (φ 7 3) s p, S)
theorem rFilm_t {φ ts cd : g_Fo} {S : g_Sh} {s t p : Int32} (h : inr t 4 = false ∨ s = t) : rFilm φ ts cd S s t p = (-2, S) := if_pos h
theorem rFilm_r {φ ts cd : g_Fo} {S : g_Sh} {s t p : Int32} (h : ¬ (inr t 4 = false ∨ s = t)) (h2 : ¬ owr S.1 S.2.1 S.2.2 (φ 7 3) s p = 0) : rFilm φ ts cd S s t p = (owr S.1 S.2.1 S.2.2 (φ 7 3) s p, S) := by rw [rFilm, if_neg h, if_neg h2]
theorem rFilm_u {φ ts cd : g_Fo} {S : g_Sh} {s t p : Nat} (hs : s < 4) (ht : t < 4) (hst : s ≠ t) (hp : p < 6) (h2 : owr S.1 S.2.1 S.2.2 (φ 7 3) (nI s) (nI p) = 0) : rFilm φ ts cd S (nI s) (nI t) (nI p) = (nI (S.2.1 s), shw S t 0 (S.2.1 s) (flf φ ts cd p (S.2.2 s) (S.2.1 s))) := by
  rw [rFilm, if_neg (by rw [inr_lt_t (by decide) ht]; exact fun z => z.elim (by decide) (fun z => hst (nI_inj (by omega) (by omega) z))), if_pos h2, nI_clamp (by omega), nI_clamp (by omega), nI_clamp (by omega)]
theorem MS_shw {so sz : Nat → Nat} {cl : Nat → Nat → Int32} {a a' : Nat → Nat → Int32} {j o n : Nat} {f : Nat → Int32} (hj : j < 4) (h : MS so sz cl a) (h0 : a' 60 j = nI o) (h1 : a' 61 j = nI n) (h2 : ∀ i, i < 40 → a' 62 (40 * j + i) = f i) (k0 : ∀ x, x ≠ j → a' 60 x = a 60 x) (k1 : ∀ x, x ≠ j → a' 61 x = a 61 x) (k2 : ∀ x, x < 40 * j ∨ 40 * j + 40 ≤ x → a' 62 x = a 62 x) : MS (shw (so, sz, cl) j o n f).1 (shw (so, sz, cl) j o n f).2.1 (shw (so, sz, cl) j o n f).2.2 a' := by
  refine ⟨fun s hs => ?_, fun s hs => ?_, fun s hs i hi => ?_⟩
  · by_cases e : s = j
    · subst e; rw [h0]; simp [shw, va_up]
    · rw [k0 s e, h.1 s hs]; simp [shw, va_up, e]
  · by_cases e : s = j
    · subst e; rw [h1]; simp [shw, va_up]
    · rw [k1 s e, h.2.1 s hs]; simp [shw, va_up, e]
  · by_cases e : s = j
    · subst e; rw [h2 i hi]; simp [shw, va_up]
    · rw [k2 _ (by omega), h.2.2 s hs i hi]; simp [shw, va_up, e]
theorem SI_shw {so sz : Nat → Nat} {cl : Nat → Nat → Int32} {j o n : Nat} {f : Nat → Int32} (h : SI so sz) (ho : o = 4294967295 ∨ o ≤ 2) (hn : n ≤ 40) : SI (shw (so, sz, cl) j o n f).1 (shw (so, sz, cl) j o n f).2.1 := by
  refine ⟨fun s hs => ?_, fun s hs => ?_⟩
  · by_cases e : s = j
    · simp [shw, va_up, e, ho]
    · simp [shw, va_up, e]; exact h.1 s hs
  · by_cases e : s = j
    · simp [shw, va_up, e, hn]
    · simp [shw, va_up, e]; exact h.2 s hs
/-- the class's row half told -/
def flg (φ ts cd : g_Fo) (p : Nat) (f : Nat → Int32) (k x : Nat) : Int32 := if x < k then nI (runs ts cd p f (x + 1) 0 φ 3 p) else nI 0
theorem shw_she {S : g_Sh} {φ ts cd : g_Fo} {p j o n k : Nat} {f : Nat → Int32} : she (shw S j o n (flg φ ts cd p f k)) j k (nI (runs ts cd p f (k + 1) 0 φ 3 p)) = shw S j o n (flg φ ts cd p f (k + 1)) := by
  simp only [she, shw]
  congr 2
  funext x
  by_cases e : x = j
  · subst e
    rw [va_up_s, va_up_s, va_up_s]
    funext y
    by_cases e2 : y = k
    · subst e2
      rw [va_up_s, flg, if_pos (by omega)]
    · rw [va_up_n _ _ e2, flg, flg]
      by_cases e3 : y < k
      · rw [if_pos e3, if_pos (by omega)]
      · rw [if_neg e3, if_neg (by omega)]
  · rw [va_up_n _ _ e, va_up_n _ _ e, va_up_n _ _ e]
theorem shz_shw {S : g_Sh} {j o n : Nat} {φ ts cd : g_Fo} {p : Nat} {f : Nat → Int32} : shz S j o n = shw S j o n (flg φ ts cd p f 0) := by
  simp only [shz, shw]
  congr 2
theorem i8_99 : ∀ n, n < 100 → (nI n).toInt8.toInt32 = nI n := by decide +kernel
-- hunters by sheets
def hby (f : Nat → Int32) (z from_ : Nat) : Nat → Nat → g_Fo → Nat → Int32 × g_Fo
  | 0, _, φ, c => (nI c, φ)
  | n + 1, k, φ, c => if z < from_ + 3 * k + 3 then (-12, φ) else
    hby f z from_ n (k + 1) (rHunter φ (f (from_ + 3 * k)) (f (from_ + 3 * k + 1)) (f (from_ + 3 * k + 2))).2 (if (rHunter φ (f (from_ + 3 * k)) (f (from_ + 3 * k + 1)) (f (from_ + 3 * k + 2))).1 < 0 then c else c + 1)
def rHby (φ : g_Fo) (S : g_Sh) (s o from_ n : Int32) : Int32 × g_Fo :=
  if inr s 4 = false ∨ inb o (nI 0) (nI 2) = false ∨ inb n (nI 0) (nI 6) = false then (-2, φ) else if S.1 s.toNatClampNeg = 4294967295 then (-11, φ) else if ¬ nI (S.1 s.toNatClampNeg) = o then (-13, φ)
  else if n = nI 0 then (nI 0, φ) else if from_ < 0 then (-12, φ) else hby (S.2.2 s.toNatClampNeg) (S.2.1 s.toNatClampNeg) from_.toNatClampNeg n.toNatClampNeg 0 φ 0
section HBY
variable {φ : g_Fo} {S : g_Sh} {s o n : Nat} {from_ : Int32}
theorem rHby_n {vs vo vn : Int32} (h : inr vs 4 = false ∨ inb vo (nI 0) (nI 2) = false ∨ inb vn (nI 0) (nI 6) = false) : rHby φ S vs vo from_ vn = (-2, φ) := if_pos h
theorem rHby_m (hs : s < 4) (ho : o ≤ 2) (hn : n ≤ 6) (h : S.1 s = 4294967295) : rHby φ S (nI s) (nI o) from_ (nI n) = (-11, φ) := by
  rw [rHby, if_neg (by rw [inr_lt_t (by decide) hs, inb_nI (Nat.zero_le _) ho (by decide), inb_nI (Nat.zero_le _) hn (by decide)]; decide), nI_clamp (by omega), if_pos h]
theorem rHby_k (hs : s < 4) (ho : o ≤ 2) (hn : n ≤ 6) (h : ¬ S.1 s = 4294967295) (h2 : S.1 s ≤ 2) (h3 : ¬ S.1 s = o) : rHby φ S (nI s) (nI o) from_ (nI n) = (-13, φ) := by
  rw [rHby, if_neg (by rw [inr_lt_t (by decide) hs, inb_nI (Nat.zero_le _) ho (by decide), inb_nI (Nat.zero_le _) hn (by decide)]; decide), nI_clamp (by omega), if_neg h, if_pos (fun z => h3 (nI_inj (by omega) (by omega) z))]
theorem rHby_0 (hs : s < 4) (ho : o ≤ 2) (h : ¬ S.1 s = 4294967295) (h3 : S.1 s = o) : rHby φ S (nI s) (nI o) from_ (nI 0) = (nI 0, φ) := by
  rw [rHby, if_neg (by rw [inr_lt_t (by decide) hs, inb_nI (Nat.zero_le _) ho (by decide)]; decide), nI_clamp (by omega), if_neg h, if_neg (fun z => z (by rw [h3])), if_pos rfl]
theorem rHby_f (hs : s < 4) (ho : o ≤ 2) (hn : n + 1 ≤ 6) (h : ¬ S.1 s = 4294967295) (h3 : S.1 s = o) (hf : from_ < 0) : rHby φ S (nI s) (nI o) from_ (nI (n + 1)) = (-12, φ) := by
  rw [rHby, if_neg (by rw [inr_lt_t (by decide) hs, inb_nI (Nat.zero_le _) ho (by decide), inb_nI (Nat.zero_le _) hn (by decide)]; decide), nI_clamp (by omega), if_neg h, if_neg (fun z => z (by rw [h3])), if_neg (fun z => absurd (nI_inj (by omega) (by omega) z) (by omega)), if_pos hf]
theorem rHby_u {m : Nat} (hs : s < 4) (ho : o ≤ 2) (hn : n + 1 ≤ 6) (h : ¬ S.1 s = 4294967295) (h3 : S.1 s = o) (hm : m < 2147483648) : rHby φ S (nI s) (nI o) (nI m) (nI (n + 1)) = hby (S.2.2 s) (S.2.1 s) m (n + 1) 0 φ 0 := by
  rw [rHby, if_neg (by rw [inr_lt_t (by decide) hs, inb_nI (Nat.zero_le _) ho (by decide), inb_nI (Nat.zero_le _) hn (by decide)]; decide), nI_clamp (by omega), if_neg h, if_neg (fun z => z (by rw [h3])), if_neg (fun z => absurd (nI_inj (by omega) (by omega) z) (by omega)), if_neg (nI_lt0 hm), nI_clamp (by omega), nI_clamp (by omega)]
end HBY
theorem FI_rHunter {φ : g_Fo} (h : FI φ) (k m c : Int32) : FI (rHunter φ k m c).2 := by
  have hh := FI_hu h
  rw [rHunter]
  split
  · exact h
  · next h1 =>
    split
    · exact h
    · next h2 =>
      have e1 : inb k (nI 0) (nI 59) = true := by cases e : inb k (nI 0) (nI 59) with | true => rfl | false => exact absurd (Or.inl e) h1
      have e2 : inb m (nI 0) (nI 99) = true := by cases e : inb m (nI 0) (nI 99) with | true => rfl | false => exact absurd (Or.inr (Or.inl e)) h1
      have e3 : inb c (nI 0) (nI 1023) = true := by cases e : inb c (nI 0) (nI 1023) with | true => rfl | false => exact absurd (Or.inr (Or.inr e)) h1
      obtain ⟨k, _, hk, rfl⟩ := inb_r (by decide) (by decide) e1
      obtain ⟨m, _, hm, rfl⟩ := inb_r (by decide) (by decide) e2
      obtain ⟨c, _, hc, rfl⟩ := inb_r (by decide) (by decide) e3
      rw [nI_clamp (by omega), nI_clamp (by omega), nI_clamp (by omega)]
      exact FI_hun h (by omega) hk hm hc
