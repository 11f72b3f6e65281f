theorem shl_0 : ∀ d, d < 32 → nI 0 <<< (nI d &&& 31) = nI 0 := by decide +kernel
theorem clr_or : ∀ d, d < 10 → ∀ n, n < 1024 → n &&& ((2 ^ d) ^^^ 4294967295) ||| 2 ^ d = n ||| 2 ^ d := by decide +kernel
theorem or_lt6 : ∀ d, d < 6 → ∀ n, n < 64 → n ||| 2 ^ d < 64 := by decide +kernel
theorem clr_lt6 : ∀ d, d < 6 → ∀ n, n < 64 → clr n d < 64 := by decide +kernel
theorem or_lt10 : ∀ d, d < 10 → ∀ n, n < 1024 → n ||| 2 ^ d < 1024 := by decide +kernel
/-- two have met, or not -/
def mee0 (φ : Nat → Nat → Nat) (p q : Nat) : Nat → Nat → Nat := fu (fu φ 4 p (clr (φ 4 p) q)) 4 q (clr (φ 4 q) p)
def mee1 (φ : Nat → Nat → Nat) (p q : Nat) : Nat → Nat → Nat := fu (fu φ 4 p (φ 4 p ||| 2 ^ q)) 4 q (φ 4 q ||| 2 ^ p)
theorem FI_mee0 {φ : Nat → Nat → Nat} {p q : Nat} (h : FI φ) (hp : p < 6) (hq : q < 6) : FI (mee0 φ p q) := FI_setme (FI_setme h (clr_lt6 q hq _ (FI_me h hp))) (clr_lt6 p hp _ (FI_me h hq))
theorem FI_mee1 {φ : Nat → Nat → Nat} {p q : Nat} (h : FI φ) (hp : p < 6) (hq : q < 6) : FI (mee1 φ p q) := FI_setme (FI_setme h (or_lt6 q hq _ (FI_me h hp))) (or_lt6 p hp _ (FI_me h hq))
def cN (f : Nat → Int32) (i : Nat) : Nat := (f i).toNatClampNeg
theorem allD_cN {f : Nat → Int32} {n : Nat} (h : allD f n = true) {i : Nat} (hi : i < n) : f i = nI (cN f i) ∧ cN f i < 10 := by
  obtain ⟨d, h1, h2⟩ := allD_at h i hi
  rw [cN, h2, nI_clamp (by omega)]; exact ⟨rfl, h1⟩
theorem wth_d0 : ∀ c, c < 10 → wth (nI c) (nI 0) (nI 9) = nI c := by decide +kernel
theorem wth_d {c : Nat} (h : c < 10) : wth (nI c) (nI 0) (nI 9) = nI c := wth_d0 c h
/-- a sheet's shots, one behind another: the forest behind them, how many fell out so, where it goes otherwise than told -/
def runs (ts cd : Nat → Nat → Nat) (p : Nat) (f : Nat → Int32) : Nat → Nat → (Nat → Nat → Nat) → (Nat → Nat → Nat)
  | 0, _, φ => φ
  | n + 1, i, φ => runs ts cd p f n (i + 1) (shot φ ts cd p (cN f i))
def tal (ts cd : Nat → Nat → Nat) (p : Nat) (f : Nat → Int32) (k : Nat) : Nat → Nat → (Nat → Nat → Nat) → Nat
  | 0, _, _ => 0
  | n + 1, i, φ => (if aim φ ts cd p (cN f i) = k then 1 else 0) + tal ts cd p f k n (i + 1) (shot φ ts cd p (cN f i))
def unl (ts cd : Nat → Nat → Nat) (p : Nat) (f g : Nat → Int32) : Nat → Nat → (Nat → Nat → Nat) → Int32
  | 0, _, _ => -1
  | n + 1, i, φ => if nI (shot φ ts cd p (cN f i) 3 p) = g i then unl ts cd p f g n (i + 1) (shot φ ts cd p (cN f i)) else nI i
theorem tal_le {ts cd : Nat → Nat → Nat} {p : Nat} {f : Nat → Int32} {k : Nat} : ∀ {n i φ}, tal ts cd p f k n i φ ≤ n
  | 0, _, _ => Nat.le_refl _
  | n + 1, i, φ => by
    have := tal_le (ts := ts) (cd := cd) (p := p) (f := f) (k := k) (n := n) (i := i + 1) (φ := shot φ ts cd p (cN f i))
    simp only [tal]; split <;> omega
theorem shot_k (φ ts cd : Nat → Nat → Nat) (p d x y : Nat) (h : x ≠ 0) (h3 : x ≠ 3) (h7 : ¬ (x = 7 ∧ y = 0)) : shot φ ts cd p d x y = φ x y := by
  by_cases e : x = 7
  · have e2 : y ≠ 0 := fun q => h7 ⟨e, q⟩
    simp only [shot]; split; · rfl
    split; · simp [fu, h]
    split <;> simp [fu, h3, e2]
  · simp only [shot]; split; · rfl
    split; · simp [fu, h]
    split <;> simp [fu, h3, e]
theorem runs_k {ts cd : Nat → Nat → Nat} {p : Nat} {f : Nat → Int32} {x y : Nat} (h : x ≠ 0) (h3 : x ≠ 3) (h7 : ¬ (x = 7 ∧ y = 0)) : ∀ (n i : Nat) (φ : Nat → Nat → Nat), runs ts cd p f n i φ x y = φ x y
  | 0, _, _ => rfl
  | n + 1, i, φ => by rw [runs, runs_k h h3 h7 n]; exact shot_k φ ts cd p _ x y h h3 h7
theorem FI_runs {ts cd : Nat → Nat → Nat} {p : Nat} {f : Nat → Int32} (hp : p < 6) : ∀ (n i : Nat) (φ : Nat → Nat → Nat), FI φ → allD f (i + n) = true → FI (runs ts cd p f n i φ)
  | 0, _, _, h, _ => h
  | n + 1, i, φ, h, ha => FI_runs hp n (i + 1) _ (FI_shot h hp (allD_cN ha (by omega)).2) (by rw [show i + 1 + n = i + (n + 1) by omega]; exact ha)
/-- agrees with φ where a shot changes nothing -/
def likeF (φ ψ : Nat → Nat → Nat) : Prop := ∀ x y, x ≠ 0 → x ≠ 3 → ¬ (x = 7 ∧ y = 0) → ψ x y = φ x y
theorem lay_like {φ ψ : Nat → Nat → Nat} (h : likeF φ ψ) : lay ψ φ = φ := by
  funext x y
  simp only [lay]
  split
  · rfl
  · exact h x y (by omega) (by omega) (by omega)
theorem like_shot {φ ψ ts cd : Nat → Nat → Nat} {p d : Nat} (h : likeF φ ψ) : likeF φ (shot ψ ts cd p d) := fun x y h1 h2 h3 => (shot_k ψ ts cd p d x y h1 h2 h3).trans (h x y h1 h2 h3)
/-- why a sheet tells no season for one; why two sheets don't match -/
def owr (so sz : Nat → Nat) (cl : Nat → Nat → Int32) (hu : Nat) (s p : Int32) : Int32 := if swr so sz cl s = 0 then (if inr p hu = true then nI 0 else -5) else swr so sz cl s
def twr (so sz : Nat → Nat) (cl : Nat → Nat → Int32) (s t : Int32) : Int32 := if inr t 4 = false then -2 else if swr so sz cl s = 0 then (if so t.toNatClampNeg = 4294967295 then -11 else if sz t.toNatClampNeg ≤ sz s.toNatClampNeg then nI 0 else -2) else swr so sz cl s
def tlw (so sz : Nat → Nat) (cl : Nat → Nat → Int32) (hu : Nat) (s t p : Int32) : Int32 := if twr so sz cl s t = 0 then (if inr p hu = true then nI 0 else -5) else twr so sz cl s t
def s53 (k j : Nat) : Bool := decide (k = 53)
/-- a sheet that tells a season -/
theorem swr_ok {so sz : Nat → Nat} {cl : Nat → Nat → Int32} {s : Int32} (h : swr so sz cl s = 0) : ∃ i, i < 4 ∧ s = nI i ∧ so i ≠ 4294967295 ∧ allD (cl i) (sz i) = true := by
  simp only [swr] at h
  split at h
  · exact absurd h (by decide)
  · next h1 =>
    obtain ⟨i, hi, rfl⟩ := inr_t (by simpa using h1) (by decide)
    rw [nI_clamp (by omega)] at h
    split at h
    · exact absurd h (by decide)
    · next h2 =>
      split at h
      · next h3 => exact ⟨i, hi, rfl, h2, h3⟩
      · exact absurd h (by decide)
theorem swr_in {so sz : Nat → Nat} {cl : Nat → Nat → Int32} {s : Int32} (h : swr so sz cl s = 0) : ∃ i, i < 4 ∧ s = nI i := by
  obtain ⟨i, h1, h2, _⟩ := swr_ok h
  exact ⟨i, h1, h2⟩
def scG (k j : Nat) : Bool := scS k j || decide (k = 70)
theorem scG_S {k j : Nat} (h : scG k j = false) : scS k j = false := by simp [scG] at h; exact h.1
theorem scG_60 (k j : Nat) (h1 : 60 ≤ k) (h2 : k ≤ 62) : scG k j = false := by
  rcases (by omega : k = 60 ∨ k = 61 ∨ k = 62) with rfl | rfl | rfl <;> rfl
def scK (k j : Nat) : Bool := scS k j || decide (k = 69)
theorem scK_S {k j : Nat} (h : scK k j = false) : scS k j = false := by simp [scK] at h; exact h.1
theorem scK_60 (k j : Nat) (h1 : 60 ≤ k) (h2 : k ≤ 62) : scK k j = false := by
  rcases (by omega : k = 60 ∨ k = 61 ∨ k = 62) with rfl | rfl | rfl <;> rfl
/-- cells that the forest, the texts hold -/
def rM (k j : Nat) : Bool := decide (51 ≤ k ∧ k ≤ 54) || (decide (k = 50) && decide (j = 0 ∨ j = 5 ∨ j = 6 ∨ j = 12))
theorem MA_ch {S : Nat → Nat → Bool} {φ : Nat → Nat → Nat} {a a' : Nat → Nat → Int32} (h : MA φ a) (hc : chg S a a') (hS : ∀ k j, rM k j = true → S k j = false) : MA φ a' := by
  obtain ⟨h1, h2, h3, h4, h5, h6, h7, h8, h9, h10, h11⟩ := h
  exact ⟨(hc _ _ (hS _ _ rfl)).trans h1, (hc _ _ (hS _ _ rfl)).trans h2, (hc _ _ (hS _ _ rfl)).trans h3, (hc _ _ (hS _ _ rfl)).trans h4, fun q hq => (hc _ _ (hS _ _ rfl)).trans (h5 q hq), fun q hq => (hc _ _ (hS _ _ rfl)).trans (h6 q hq), fun q hq => (hc _ _ (hS _ _ rfl)).trans (h7 q hq), fun q hq => (hc _ _ (hS _ _ rfl)).trans (h8 q hq), fun q hq => (hc _ _ (hS _ _ rfl)).trans (h9 q hq), fun q hq => (hc _ _ (hS _ _ rfl)).trans (h10 q hq), fun q hq => (hc _ _ (hS _ _ rfl)).trans (h11 q hq)⟩
def rT (k j : Nat) : Bool := decide (k = 56) || decide (k = 57) || (decide (k = 50) && decide (j = 11))
theorem TM_ch {S : Nat → Nat → Bool} {nt : Nat} {ts cd : Nat → Nat → Nat} {a a' : Nat → Nat → Int32} (h : TM nt ts cd a) (hc : chg S a a') (hS : ∀ k j, rT k j = true → S k j = false) : TM nt ts cd a' := by
  obtain ⟨h1, h2, h3⟩ := h
  exact ⟨(hc _ _ (hS _ _ rfl)).trans h1, fun t ht i hi => (hc _ _ (hS _ _ rfl)).trans (h2 t ht i hi), fun t ht k hk => (hc _ _ (hS _ _ rfl)).trans (h3 t ht k hk)⟩
def sR (K k j : Nat) : Bool := decide (k = K)
theorem sR_M {K k j : Nat} (hK : 55 ≤ K) (h : rM k j = true) : sR K k j = false := by
  simp [rM] at h; simp [sR]; omega
theorem sR_T {K k j : Nat} (hK : 58 ≤ K) (h : rT k j = true) : sR K k j = false := by
  simp [rT] at h; simp [sR]; omega
theorem chg_row {K : Nat} {a : Nat → Nat → Int32} {j : Nat} {v : Int32} : chg (sR K) a (up2 a K j v) := chg_up chg_rf (by simp [sR])
theorem MA_row {K : Nat} (hK : 55 ≤ K) {φ : Nat → Nat → Nat} {a : Nat → Nat → Int32} {j : Nat} {v : Int32} (h : MA φ a) : MA φ (up2 a K j v) := MA_ch h chg_row (fun _ _ => sR_M hK)
theorem TM_row {K : Nat} (hK : 58 ≤ K) {nt : Nat} {ts cd : Nat → Nat → Nat} {a : Nat → Nat → Int32} {j : Nat} {v : Int32} (h : TM nt ts cd a) : TM nt ts cd (up2 a K j v) := TM_ch h chg_row (fun _ _ => sR_T hK)
theorem MS_row {K : Nat} (hK : 63 ≤ K) {so sz : Nat → Nat} {cl : Nat → Nat → Int32} {a : Nat → Nat → Int32} {j : Nat} {v : Int32} (h : MS so sz cl a) : MS so sz cl (up2 a K j v) := MS_ch h chg_row (fun k j h1 h2 => by simp [sR]; omega)
def bump (c : Nat → Nat) (x k : Nat) : Nat := if k = x then c k + 1 else c k
theorem up_bump {a : Nat → Nat → Int32} {K x : Nat} {c : Nat → Nat} (h : ∀ k, k < 4 → a K k = nI (c k)) : ∀ k, k < 4 → up2 a K x (nI (c x + 1)) K k = nI (bump c x k) := by
  intro k hk
  by_cases e : k = x
  · rw [e, up2_s, bump, if_pos rfl]
  · rw [up2_j _ _ e, h k hk, bump, if_neg e]
theorem bump_le {c : Nat → Nat} {x i : Nat} (h : ∀ k, k < 4 → c k ≤ i) : ∀ k, k < 4 → bump c x k ≤ i + 1 := by
  intro k hk
  have := h k hk
  rw [bump]; split <;> omega
theorem bump_tal {c : Nat → Nat} {x k y : Nat} : bump c x k + y = c k + ((if x = k then 1 else 0) + y) := by
  rw [bump]
  by_cases e : k = x
  · rw [if_pos e, if_pos e.symm]; omega
  · rw [if_neg e, if_neg (fun q => e q.symm)]; omega
theorem scS_L {k j : Nat} (h : scS k j = false) : scL k j = false := by
  simp [scS] at h; simp [scL]; exact ⟨⟨h.1.1.2, h.1.2⟩, h.2⟩
theorem chg_mono2 {S T : Nat → Nat → Bool} {a b : Nat → Nat → Int32} (hST : ∀ {k j}, T k j = false → S k j = false) (h : chg S a b) : chg T a b := fun k j hk => h k j (hST hk)
theorem W_Sj {sh : List (Nat × Nat)} {r : Nat → Nat → Option Nat} (hW : WD sh r) {j : Nat} (hj : j < 4) : isS sh r (39 + 2 * j) := by
  rcases (by omega : j = 0 ∨ j = 1 ∨ j = 2 ∨ j = 3) with rfl | rfl | rfl | rfl
  · exact W_S39 hW
  · exact W_S41 hW
  · exact W_S43 hW
  · exact W_S45 hW
theorem W_r38 {sh : List (Nat × Nat)} {r : Nat → Nat → Option Nat} (hW : WD sh r) {j : Nat} (hj : j < 4) : r 38 j = some (39 + 2 * j) := by
  rcases (by omega : j = 0 ∨ j = 1 ∨ j = 2 ∨ j = 3) with rfl | rfl | rfl | rfl
  · exact W_r38_0 hW
  · exact W_r38_1 hW
  · exact W_r38_2 hW
  · exact W_r38_3 hW
theorem allD_f {f : Nat → Int32} {i : Nat} (hf : inr (f i) 10 = false) : ∀ {n : Nat}, i < n → allD f n = false
  | 0, h => by omega
  | n + 1, h => by
    by_cases e : i = n
    · subst e; simp [allD, hf]
    · simp [allD, allD_f hf (n := n) (by omega)]
theorem SX_ch {S : Nat → Nat → Bool} {so sz : Nat → Nat} {cl : Nat → Nat → Int32} {a a' : Nat → Nat → Int32} (h : SX so sz cl a) (hc : chg S a a') (hS : ∀ {k : Nat} (j : Nat), 39 ≤ k → k ≤ 46 → S k j = false) : SX so sz cl a' :=
  ⟨fun s hs => (hc _ _ (hS _ (by omega) (by omega))).trans (h.1 s hs), fun s hs => (hc _ _ (hS _ (by omega) (by omega))).trans (h.2.1 s hs), fun s hs i hi => (hc _ _ (hS _ (by omega) (by omega))).trans (h.2.2 s hs i hi)⟩
