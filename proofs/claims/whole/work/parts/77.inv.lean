/-! what every call keeps of a forest -/
def FB (φ : g_Fo) : Prop := ∀ p q, p < 6 → q < 6 → (φ 4 p).testBit q = true → q < φ 7 3
def PH (nt : Nat) (φ : g_Fo) : Prop := FI φ ∧ FJ φ ∧ FY φ ∧ FB φ ∧ φ 7 2 < nt
def SG (nt : Nat) (φ φ' : g_Fo) : Prop := PH nt φ' ∧ IK φ φ'
theorem IK_rf (φ : g_Fo) : IK φ φ := ⟨Nat.le_refl _, fun _ _ => ⟨rfl, rfl⟩⟩
theorem IK_tr {φ φ' φ'' : g_Fo} (h : IK φ φ') (h' : IK φ' φ'') : IK φ φ'' := ⟨Nat.le_trans h.1 h'.1, fun p hp => ⟨(h'.2 p (Nat.lt_of_lt_of_le hp h.1)).1.trans (h.2 p hp).1, (h'.2 p (Nat.lt_of_lt_of_le hp h.1)).2.trans (h.2 p hp).2⟩⟩
theorem SG_rf {nt : Nat} {φ : g_Fo} (h : PH nt φ) : SG nt φ φ := ⟨h, IK_rf φ⟩
theorem SG_tr {nt : Nat} {φ φ' φ'' : g_Fo} (h : SG nt φ φ') (h' : SG nt φ' φ'') : SG nt φ φ'' := ⟨h'.1, IK_tr h.2 h'.2⟩
theorem SG_eq {nt : Nat} {φ φ' : g_Fo} (h : PH nt φ) (hF : FI φ') (e1 : φ' 1 = φ 1) (e2 : φ' 2 = φ 2) (e4 : φ' 4 = φ 4) (e72 : φ' 7 2 < nt) (e73 : φ' 7 3 = φ 7 3) : SG nt φ φ' := by
  obtain ⟨h1, h2, h3, h4, h5⟩ := h
  refine ⟨⟨hF, fun p hp => by rw [e4]; exact h2 p hp, fun p q hp hq => by rw [e4]; exact h3 p q hp hq, fun p q hp hq => by rw [e4, e73]; exact h4 p q hp hq, e72⟩, by rw [e73]; exact Nat.le_refl _, fun p _ => ⟨by rw [e1], by rw [e2]⟩⟩
theorem fu_row {φ : g_Fo} {i j v x : Nat} (h : x ≠ i) : fu φ i j v x = φ x := by funext y; exact fu_i h
theorem SG_fu {nt i j v : Nat} {φ : g_Fo} (h : PH nt φ) (hF : FI (fu φ i j v)) (hi : i = 0 ∨ i = 3 ∨ i = 5 ∨ i = 6 ∨ (i = 7 ∧ (j = 0 ∨ j = 1))) : SG nt φ (fu φ i j v) := by
  refine SG_eq h hF (fu_row (by omega)) (fu_row (by omega)) (fu_row (by omega)) ?_ ?_
  · rw [show fu φ i j v 7 2 = φ 7 2 by rcases hi with rfl | rfl | rfl | rfl | ⟨rfl, rfl | rfl⟩ <;> simp [fu]]; exact h.2.2.2.2
  · rcases hi with rfl | rfl | rfl | rfl | ⟨rfl, rfl | rfl⟩ <;> simp [fu]
theorem SG_like {nt : Nat} {φ φ' : g_Fo} (h : PH nt φ) (hF : FI φ') (hk : ∀ x y, x ≠ 0 → x ≠ 3 → ¬ (x = 7 ∧ y = 0) → φ' x y = φ x y) : SG nt φ φ' := by
  refine SG_eq h hF (by funext y; exact hk _ _ (by decide) (by decide) (by omega)) (by funext y; exact hk _ _ (by decide) (by decide) (by omega)) (by funext y; exact hk _ _ (by decide) (by decide) (by omega)) ?_ (hk _ _ (by decide) (by decide) (by omega))
  rw [hk 7 2 (by decide) (by decide) (by omega)]; exact h.2.2.2.2
theorem SG_shot {nt p d : Nat} {φ ts cd : g_Fo} (h : PH nt φ) (hp : p < 6) (hd : d < 10) : SG nt φ (shot φ ts cd p d) := SG_like h (FI_shot h.1 hp hd) (fun x y h1 h2 h3 => shot_k φ ts cd p d x y h1 h2 h3)
theorem mee1_4 {φ : g_Fo} {p q v : Nat} : mee1 φ p q 4 v = if v = q then φ 4 q ||| 2 ^ p else if v = p then φ 4 p ||| 2 ^ q else φ 4 v := by simp [mee1, fu]
theorem mee0_4 {φ : g_Fo} {p q v : Nat} : mee0 φ p q 4 v = if v = q then clr (φ 4 q) p else if v = p then clr (φ 4 p) q else φ 4 v := by simp [mee0, fu]
theorem clr_tb {n d i : Nat} (h : i < 32) : (clr n d).testBit i = (n.testBit i && !(decide (i = d))) := by
  rw [clr, clr_bit h, Nat.testBit_two_pow]
  by_cases e : i = d
  · subst e; simp
  · have : d ≠ i := fun z => e z.symm
    simp [e, this]
theorem or_tb {n d i : Nat} : (n ||| 2 ^ d).testBit i = (n.testBit i || decide (i = d)) := by
  rw [Nat.testBit_or, Nat.testBit_two_pow]
  by_cases e : i = d
  · subst e; simp
  · have : d ≠ i := fun z => e z.symm
    simp [e, this]
theorem SG_mee1 {nt p q : Nat} {φ : g_Fo} (h : PH nt φ) (hp : p < φ 7 3) (hq : q < φ 7 3) (hne : p ≠ q) : SG nt φ (mee1 φ p q) := by
  obtain ⟨h1, h2, h3, h4, h5⟩ := h
  have hu := FI_hu h1
  refine ⟨⟨FI_mee1 h1 (by omega) (by omega), FJ_mee1 h2 (by omega) (by omega) hne, fun x y hx hy => ?_, fun x y hx hy => ?_, h5⟩, Nat.le_refl _, fun _ _ => ⟨rfl, rfl⟩⟩
  · rw [mee1_4, mee1_4]
    have k1 := h3 x y hx hy
    by_cases a1 : x = q
    · by_cases a2 : y = q
      · rw [a1, a2]
      · by_cases a3 : y = p
        · subst a1; subst a3; simp [or_tb, hne]
        · rw [if_pos a1, if_neg a2, if_neg a3, or_tb, ← k1, a1]; simp [a3]
    · by_cases a2 : x = p
      · by_cases a3 : y = q
        · subst a2; subst a3; simp [or_tb, hne]
        · by_cases a4 : y = p
          · rw [a2, a4]
          · rw [if_neg a1, if_pos a2, if_neg a3, if_neg a4, or_tb, ← k1, a2]; simp [a3]
      · rw [if_neg a1, if_neg a2]
        by_cases a3 : y = q
        · rw [if_pos a3, or_tb, k1, a3]; simp [a2]
        · rw [if_neg a3]
          by_cases a4 : y = p
          · rw [if_pos a4, or_tb, k1, a4]; simp [a1]
          · rw [if_neg a4]; exact k1
  · show (mee1 φ p q 4 x).testBit y = true → y < φ 7 3
    rw [mee1_4]
    have k1 := h4 x y hx hy
    by_cases a1 : x = q
    · rw [if_pos a1, or_tb]
      intro z
      rcases Bool.or_eq_true _ _ ▸ z with z | z
      · rw [a1] at k1; exact k1 z
      · have := of_decide_eq_true z; omega
    · rw [if_neg a1]
      by_cases a2 : x = p
      · rw [if_pos a2, or_tb]
        intro z
        rcases Bool.or_eq_true _ _ ▸ z with z | z
        · rw [a2] at k1; exact k1 z
        · have := of_decide_eq_true z; omega
      · rw [if_neg a2]; exact k1
theorem SG_mee0 {nt p q : Nat} {φ : g_Fo} (h : PH nt φ) (hp : p < φ 7 3) (hq : q < φ 7 3) (hne : p ≠ q) : SG nt φ (mee0 φ p q) := by
  obtain ⟨h1, h2, h3, h4, h5⟩ := h
  have hu := FI_hu h1
  refine ⟨⟨FI_mee0 h1 (by omega) (by omega), fun x hx => ?_, fun x y hx hy => ?_, fun x y hx hy => ?_, h5⟩, Nat.le_refl _, fun _ _ => ⟨rfl, rfl⟩⟩
  · rw [mee0_4]
    have k1 := h2 x hx
    by_cases a1 : x = q
    · rw [if_pos a1, clr_tb (by omega), ← a1, k1]; rfl
    · rw [if_neg a1]
      by_cases a2 : x = p
      · rw [if_pos a2, clr_tb (by omega), ← a2, k1]; rfl
      · rw [if_neg a2]; exact k1
  · rw [mee0_4, mee0_4]
    have k1 := h3 x y hx hy
    by_cases a1 : x = q
    · by_cases a2 : y = q
      · rw [a1, a2]
      · by_cases a3 : y = p
        · subst a1; subst a3; rw [if_pos rfl, if_neg (fun z => hne z), if_pos rfl, clr_tb (by omega), clr_tb (by omega)]; simp
        · rw [if_pos a1, if_neg a2, if_neg a3, clr_tb (by omega), ← k1, a1]; simp [a3]
    · by_cases a2 : x = p
      · by_cases a3 : y = q
        · subst a2; subst a3; rw [if_neg a1, if_pos rfl, if_pos rfl, clr_tb (by omega), clr_tb (by omega)]; simp
        · by_cases a4 : y = p
          · rw [a2, a4]
          · rw [if_neg a1, if_pos a2, if_neg a3, if_neg a4, clr_tb (by omega), ← k1, a2]; simp [a3]
      · rw [if_neg a1, if_neg a2]
        by_cases a3 : y = q
        · rw [if_pos a3, clr_tb (by omega), k1, a3]; simp [a2]
        · rw [if_neg a3]
          by_cases a4 : y = p
          · rw [if_pos a4, clr_tb (by omega), k1, a4]; simp [a1]
          · rw [if_neg a4]; exact k1
  · show (mee0 φ p q 4 x).testBit y = true → y < φ 7 3
    rw [mee0_4]
    have k1 := h4 x y hx hy
    by_cases a1 : x = q
    · rw [if_pos a1, clr_tb (by omega)]
      intro z
      rw [a1] at k1
      exact k1 (Bool.and_eq_true _ _ ▸ z).1
    · rw [if_neg a1]
      by_cases a2 : x = p
      · rw [if_pos a2, clr_tb (by omega)]
        intro z
        rw [a2] at k1
        exact k1 (Bool.and_eq_true _ _ ▸ z).1
      · rw [if_neg a2]; exact k1
theorem hun_4 {φ : g_Fo} {k m c v : Nat} : hun φ k m c 4 v = if v = φ 7 3 then 0 else φ 4 v := by simp [hun, fu]
theorem SG_hun {nt k m c : Nat} {φ : g_Fo} (h : PH nt φ) (hh : φ 7 3 < 6) (hk : k ≤ 59) (hm : m ≤ 99) (hc : c ≤ 1023) : SG nt φ (hun φ k m c) := by
  obtain ⟨h1, h2, h3, h4, h5⟩ := h
  have e73 : hun φ k m c 7 3 = φ 7 3 + 1 := by simp [hun, fu]
  have e72 : hun φ k m c 7 2 = φ 7 2 := by simp [hun, fu]
  refine ⟨⟨FI_hun h1 hh hk hm hc, fun x hx => ?_, fun x y hx hy => ?_, fun x y hx hy => ?_, by rw [e72]; exact h5⟩, by rw [e73]; omega, fun p hp => ?_⟩
  · rw [hun_4]; split
    · exact Nat.zero_testBit _
    · exact h2 x hx
  · rw [hun_4, hun_4]
    have k1 := h3 x y hx hy
    by_cases a1 : x = φ 7 3
    · rw [if_pos a1]
      split
      · rw [Nat.zero_testBit, Nat.zero_testBit]
      · rw [Nat.zero_testBit, ← k1]
        cases z : (φ 4 x).testBit y with
        | false => rfl
        | true =>
          have := h4 y x hy hx (by rw [← k1]; exact z)
          omega
    · rw [if_neg a1]
      by_cases a2 : y = φ 7 3
      · rw [if_pos a2, Nat.zero_testBit]
        cases z : (φ 4 x).testBit y with
        | false => rfl
        | true =>
          have := h4 x y hx hy z
          omega
      · rw [if_neg a2]; exact k1
  · rw [hun_4, e73]
    split
    · rw [Nat.zero_testBit]; exact fun z => absurd z (by decide)
    · intro z; have := h4 x y hx hy z; omega
  · constructor <;> simp [hun, fu] <;> omega
theorem SG_rHunter {nt : Nat} {φ : g_Fo} (h : PH nt φ) (k m c : Int32) : SG nt φ (rHunter φ k m c).2 := by
  have hh := FI_hu h.1
  rw [rHunter]
  split
  · exact SG_rf h
  · next h1 =>
    split
    · exact SG_rf h
    · next h2 =>
      have e1 : inb k (nI 0) (nI 59) = true := by cases e : inb k (nI 0) (nI 59) with | true => rfl | false => exact absurd (Or.inl e) h1
      have e2 : inb m (nI 0) (nI 99) = true := by cases e : inb m (nI 0) (nI 99) with | true => rfl | false => exact absurd (Or.inr (Or.inl e)) h1
      have e3 : inb c (nI 0) (nI 1023) = true := by cases e : inb c (nI 0) (nI 1023) with | true => rfl | false => exact absurd (Or.inr (Or.inr e)) h1
      obtain ⟨k, _, hk, rfl⟩ := inb_r (by decide) (by decide) e1
      obtain ⟨m, _, hm, rfl⟩ := inb_r (by decide) (by decide) e2
      obtain ⟨c, _, hc, rfl⟩ := inb_r (by decide) (by decide) e3
      rw [nI_clamp (by omega), nI_clamp (by omega), nI_clamp (by omega)]
      exact SG_hun h (by omega) hk hm hc
theorem SG_hby {nt : Nat} {f : Nat → Int32} {z b : Nat} : ∀ (n k : Nat) (φ : g_Fo) (c : Nat), PH nt φ → SG nt φ (hby f z b n k φ c).2
  | 0, k, φ, c, h => SG_rf h
  | n + 1, k, φ, c, h => by
    rw [hby]
    split
    · exact SG_rf h
    · have h1 := SG_rHunter h (f (b + 3 * k)) (f (b + 3 * k + 1)) (f (b + 3 * k + 2))
      exact SG_tr h1 (SG_hby n (k + 1) _ _ h1.1)
theorem SG_rHby {nt : Nat} {φ : g_Fo} (h : PH nt φ) (S : g_Sh) (s o f n : Int32) : SG nt φ (rHby φ S s o f n).2 := by
  rw [rHby]
  split
  · exact SG_rf h
  · split
    · exact SG_rf h
    · split
      · exact SG_rf h
      · split
        · exact SG_rf h
        · split
          · exact SG_rf h
          · exact SG_hby _ _ _ _ h
theorem inb_n {v : Int32} {l h : Nat} {b : Bool} (q : inb v (nI l) (nI h) = b) (hb : ¬ b = false) (hh : h < 2147483648) (hl : l ≤ h) : ∃ j, l ≤ j ∧ j ≤ h ∧ v = nI j := inb_r hh hl (by cases b with | true => exact q | false => exact absurd rfl hb)
theorem inr_n {v : Int32} {n : Nat} (q : ¬ inr v n = false) (hn : n < 2147483648) : ∃ j, j < n ∧ v = nI j := inr_t (by cases e : inr v n with | true => rfl | false => exact absurd e q) hn
theorem SG_rForest {nt : Nat} {φ : g_Fo} (h : PH nt φ) (w d v : Int32) : SG nt φ (rForest φ w d v).2 := by
  have hI := h.1
  rw [rForest]
  split
  · exact SG_rf h
  · next h1 =>
    split
    · exact SG_rf h
    · next h2 =>
      split
      · exact SG_rf h
      · next h3 =>
        obtain ⟨w, _, hw, rfl⟩ := inb_n rfl h1 (by decide) (by decide)
        split
        · next h4 =>
          rw [fmost, if_pos h4] at h3
          obtain ⟨v, _, hv, rfl⟩ := inb_n rfl h3 (by decide) (by decide)
          rw [nI_clamp (by omega)]
          exact SG_fu h (FI_setda hI hv) (by omega)
        · next h4 =>
          have hd0 : ¬ inr d 10 = false := fun z => h2 ⟨h4, z⟩
          obtain ⟨d, hd, rfl⟩ := inr_n hd0 (by decide)
          rw [nI_clamp (by omega)]
          split
          · next h5 =>
            rw [fmost, if_neg h4, if_pos h5] at h3
            obtain ⟨v, _, hv, rfl⟩ := inb_n rfl h3 (by decide) (by decide)
            rw [nI_clamp (by omega)]
            exact SG_fu h (FI_setsh hI hv) (by omega)
          · refine SG_fu h (FI_setal hI ?_) (by omega)
            split
            · exact clr_lt d hd _ (FI_al hI)
            · exact or_lt10 d hd _ (FI_al hI)
theorem SG_sForce {nt : Nat} {φ : g_Fo} (h : PH nt φ) (h6 : nt ≤ 6) (v : Int32) : SG nt φ (sForce φ nt v) := by
  rw [sForce]
  split
  · exact SG_rf h
  · next h1 =>
    obtain ⟨v, hv, rfl⟩ := inr_n h1 (by omega)
    rw [nI_clamp (by omega)]
    exact SG_eq h (FI_setla h.1 (by omega)) (fu_row (by decide)) (fu_row (by decide)) (fu_row (by decide)) (by simpa [fu] using hv) (by simp [fu])
theorem SG_sFriends {nt : Nat} {φ : g_Fo} (h : PH nt φ) (p q v : Int32) : SG nt φ (sFriends φ p q v) := by
  have hh := FI_hu h.1
  rw [sFriends]
  split
  · next h1 =>
    obtain ⟨i, j, hi, hj, hne, rfl, rfl⟩ := twoH_t hh h1.1
    rw [nI_clamp (by omega), nI_clamp (by omega)]
    split
    · exact SG_mee0 h hi hj hne
    · exact SG_mee1 h hi hj hne
  · exact SG_rf h
theorem SG_rPut {nt : Nat} {φ : g_Fo} (h : PH nt φ) (p w v : Int32) : SG nt φ (rPut φ p w v).2 := by
  have hh := FI_hu h.1
  rw [rPut]
  split
  · exact SG_rf h
  · next h1 =>
    obtain ⟨p, hp, rfl⟩ := inr_n h1 (by omega)
    rw [nI_clamp (by omega)]
    split
    · exact SG_rf h
    · by_cases h4 : w = nI 0
      · simp only [if_pos h4]
        split
        · exact SG_rf h
        · next h3 =>
          obtain ⟨v, _, hv, rfl⟩ := inb_n rfl h3 (by decide) (by decide)
          rw [nI_clamp (by omega)]
          exact SG_fu h (FI_setho h.1 hv) (by omega)
      · simp only [if_neg h4]
        split
        · exact SG_rf h
        · next h3 =>
          obtain ⟨v, _, hv, rfl⟩ := inb_n rfl h3 (by decide) (by decide)
          rw [nI_clamp (by omega)]
          exact SG_fu h (FI_setca h.1 (by omega)) (by omega)
theorem SG_gnf {nt t : Nat} {φ ts cd : g_Fo} (h : PH nt φ) : SG nt φ (gnf φ ts cd t) := SG_fu h (FI_setho h.1 (rewN_le φ ts cd t)) (by omega)
theorem SG_rMeet {nt : Nat} {φ ts cd : g_Fo} (h : PH nt φ) (t p q : Int32) : SG nt φ (rMeet φ ts cd t p q).2 := by
  have hh := FI_hu h.1
  rw [rMeet]
  split
  · next h1 =>
    simp only [Bool.and_eq_true, Bool.not_eq_true', decide_eq_false_iff_not] at h1
    obtain ⟨i, j, hi, hj, hne, rfl, rfl⟩ := twoH_t hh h1.1.1
    obtain ⟨i2, k, hi2, hk, hne2, e, rfl⟩ := twoH_t hh h1.1.2
    rw [nI_clamp (by omega), nI_clamp (by omega), nI_clamp (by omega)]
    split
    · have s1 := SG_mee1 h hj hk (fun z => h1.2 (by rw [z]))
      have s2 : SG nt (mee1 φ j k) (fu (mee1 φ j k) 6 j i) := SG_fu s1.1 (FI_setby s1.1.1 (by omega)) (by omega)
      have s3 : SG nt (fu (mee1 φ j k) 6 j i) (mtf φ i j k) := SG_fu s2.1 (FI_setby s2.1.1 (by omega)) (by omega)
      exact SG_tr s1 (SG_tr s2 (SG_tr s3 (SG_gnf s3.1)))
    · exact SG_rf h
  · exact SG_rf h
theorem SG_rPresent {nt : Nat} {φ ts cd : g_Fo} (h : PH nt φ) (t p d : Int32) : SG nt φ (rPresent φ ts cd t p d).2 := by
  have hh := FI_hu h.1
  rw [rPresent]
  split
  · next h1 =>
    obtain ⟨i, j, hi, hj, hne, rfl, rfl⟩ := twoH_t hh h1
    split
    · next h2 =>
      obtain ⟨d, hd, rfl⟩ := inr_t h2 (by decide)
      rw [nI_clamp (by omega), nI_clamp (by omega), nI_clamp (by omega)]
      split
      · have s2 : SG nt φ (fu φ 5 j (φ 5 j ||| 2 ^ d)) := SG_fu h (FI_setca h.1 (or_lt10 d hd _ (FI_ca h.1 (by omega)))) (by omega)
        have s3 : SG nt (fu φ 5 j (φ 5 j ||| 2 ^ d)) (prf φ i j d) := SG_fu s2.1 (FI_setby s2.1.1 (by omega)) (by omega)
        exact SG_tr s2 (SG_tr s3 (SG_gnf s3.1))
      · exact SG_rf h
    · exact SG_rf h
  · exact SG_rf h
theorem SG_sShoot {nt : Nat} {φ ts cd : g_Fo} (h : PH nt φ) (p d : Int32) : SG nt φ (sShoot φ ts cd p d) := by
  have hh := FI_hu h.1
  rw [sShoot]
  split
  · next h1 =>
    obtain ⟨i, j, hi, hj, rfl, rfl⟩ := srf_0 hh h1
    rw [nI_clamp (by omega), nI_clamp (by omega)]
    exact SG_shot h (by omega) hj
  · exact SG_rf h
theorem SG_rHunt {nt : Nat} {φ ts cd : g_Fo} {so sz : Nat → Nat} {cl : Nat → Nat → Int32} (h : PH nt φ) (s p : Int32) : SG nt φ (rHunt φ ts cd so sz cl s p).2 := by
  have hh := FI_hu h.1
  rw [rHunt]
  split
  · next h1 =>
    obtain ⟨i, q, hi, hq, rfl, rfl, h2, h3⟩ := owr_ok hh h1
    rw [nI_clamp (by omega), nI_clamp (by omega)]
    split
    · exact SG_rf h
    · next h4 =>
      have hd := FI_da h.1
      have s1 : SG nt φ (runs ts cd q (cl i) (sz i) 0 φ) := SG_like h (FI_runs (by omega) _ _ _ h.1 (by rw [Nat.zero_add]; exact h3)) (fun x y h1 h2 h3 => runs_k h1 h2 h3 _ _ _)
      exact SG_tr s1 (SG_fu s1.1 (FI_setda s1.1.1 (by omega)) (by omega))
  · exact SG_rf h
-- sheets
theorem SI_up {so sz : Nat → Nat} {j o n : Nat} (h : SI so sz) (ho : o = 4294967295 ∨ o ≤ 2) (hn : n ≤ 40) : SI (va_up so j o) (va_up sz j n) := SI_shw (cl := fun _ _ => 0) (f := fun _ => 0) h ho hn
theorem SI_rSheet {so sz : Nat → Nat} {cl : Nat → Nat → Int32} (h : SI so sz) (s o n : Int32) : SI (rSheet (so, sz, cl) s o n).2.1 (rSheet (so, sz, cl) s o n).2.2.1 := by
  rw [rSheet]
  split
  · exact h
  · split
    · exact h
    · next h2 =>
      split
      · exact SI_up h (Or.inl rfl) (by omega)
      · next h3 =>
        split
        · exact h
        · next h4 =>
          split
          · exact h
          · next h5 =>
            have e : inb o (-1) (nI 2) = true := by cases e : inb o (-1) (nI 2) with | true => rfl | false => exact absurd e h2
            rcases inb_m2 (by decide) e with e | ⟨d, hd, rfl⟩
            · exact absurd e h3
            · obtain ⟨k, hk, rfl⟩ := nI_of h5
              have hk2 : k ≤ 40 := by
                rcases Nat.lt_or_ge 40 k with z | z
                · exact absurd (nI_lt z hk) h4
                · exact z
              show SI (va_up so s.toNatClampNeg (nI d).toNatClampNeg) (va_up sz s.toNatClampNeg (nI k).toNatClampNeg)
              rw [nI_clamp (by omega), nI_clamp (by omega)]
              exact SI_up h (Or.inr hd) hk2
theorem SI_rCell {so sz : Nat → Nat} {cl : Nat → Nat → Int32} (h : SI so sz) (s i v : Int32) : SI (rCell (so, sz, cl) s i v).2.1 (rCell (so, sz, cl) s i v).2.2.1 := by
  rw [rCell]
  split
  · exact h
  · split
    · exact h
    · split <;> exact h
theorem SI_rCopy {so sz : Nat → Nat} {cl : Nat → Nat → Int32} (h : SI so sz) (s i o j n : Int32) : SI (rCopy (so, sz, cl) s i o j n).2.1 (rCopy (so, sz, cl) s i o j n).2.2.1 := by
  rw [rCopy]
  split
  · exact h
  · split
    · exact h
    · split
      · exact h
      · split <;> exact h
theorem SI_rFilm {φ ts cd : g_Fo} {so sz : Nat → Nat} {cl : Nat → Nat → Int32} (h : SI so sz) (hh : φ 7 3 ≤ 6) (s t p : Int32) : SI (rFilm φ ts cd (so, sz, cl) s t p).2.1 (rFilm φ ts cd (so, sz, cl) s t p).2.2.1 := by
  rw [rFilm]
  split
  · exact h
  · split
    · next h1 =>
      obtain ⟨i, q, hi, hq, rfl, rfl, h2, h3⟩ := owr_ok hh h1
      rw [nI_clamp (by omega)]
      exact SI_shw h (Or.inr (Nat.zero_le _)) (h.2 i hi)
    · exact h
-- the tape
theorem rFeed_ok {nb : Nat} {tp : Nat → Nat} (hnb : nb ≤ 160) (h256 : ∀ i, i < nb → tp i < 256) (n b0 b1 b2 b3 b4 : Int32) : (rFeed nb tp n b0 b1 b2 b3 b4).2.1 ≤ 160 ∧ ∀ i, i < (rFeed nb tp n b0 b1 b2 b3 b4).2.1 → (rFeed nb tp n b0 b1 b2 b3 b4).2.2 i < 256 := by
  have key : ∀ b : Int32, ¬ inr b 256 = false → b.toNatClampNeg < 256 := fun b z => by
    obtain ⟨j, hj, rfl⟩ := inr_n z (by decide)
    rw [nI_clamp (by omega)]; exact hj
  rw [rFeed]
  split
  · exact ⟨hnb, h256⟩
  · next h1 =>
    split
    · exact ⟨hnb, h256⟩
    · next h2 =>
      refine ⟨by show nb + n.toNatClampNeg ≤ 160; omega, fun i hi => ?_⟩
      show fds _ nb tp i < 256
      rw [fds]
      split
      · next h3 => exact h256 i h3
      · rw [fby]
        split
        · exact key _ (fun z => h1 (Or.inr (Or.inl z)))
        · split
          · exact key _ (fun z => h1 (Or.inr (Or.inr (Or.inl z))))
          · split
            · exact key _ (fun z => h1 (Or.inr (Or.inr (Or.inr (Or.inl z)))))
            · split
              · exact key _ (fun z => h1 (Or.inr (Or.inr (Or.inr (Or.inr (Or.inl z))))))
              · exact key _ (fun z => h1 (Or.inr (Or.inr (Or.inr (Or.inr (Or.inr z))))))
