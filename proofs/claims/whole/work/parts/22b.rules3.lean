section GX
variable {Y : g_Y} {Z : g_Z} {k n pc pc' tgt idx i : Nat} {L : List (Option g_V)} {st : List g_V} {h : g_H} {x y : Int32}
theorem Gd_mmax (hl : Cond.methodLink Y.1.cls idx Lib.Math.max.name ∈ g_T) (hd1 : 1 ≤ Z.1) (hw : g_wd st ≤ 8) (hk : k ≤ Z.2.1) (hn : n ≤ Z.2.2.1) (hd : g_D Y pc (.invokestatic idx) 3 pc') (kk : Gd Y Z k n pc' L (vi (imax x y) :: st) h) : Gd Y Z k n pc L (vi y :: vi x :: st) h := by
  intro p l e R s m args below meth cc D cs aK A ad0 QS H locs ad ls C RR Wd Ad hl'
  obtain ⟨hd, rfl⟩ := hd
  have hlo := C.2.2.2.2.2.1.2.1
  have hsum := g_wd_eq (ad := ad) C.2.2.2.2.2.2.2.2.1.2.1 st
  exact va_mmax C.1 C.2.1 (by rw [C.2.2.1]; exact hl'.1.1.symm) C.2.2.2.1 (C.2.2.2.2.1 _ hl) (C.2.2.2.2.1 _ ok_J9_max_7cf53.2) (C.2.2.2.2.1 _ ok_J9_max_7cf53.1.2.1) (C.2.2.2.2.1 _ ok_J9_max_7cf53.1.1) (Nat.le_trans hd1 C.2.2.2.2.2.1.1) (by omega) (Nat.le_trans hk C.2.2.2.2.2.1.2.2.1) (Nat.le_trans hn C.2.2.2.2.2.1.2.2.2) hd (kk p l e R s m args below meth cc D cs aK A ad0 QS H locs ad ls C RR Wd Ad hl')
theorem Gd_mmin (hl : Cond.methodLink Y.1.cls idx Lib.Math.min.name ∈ g_T) (hd1 : 1 ≤ Z.1) (hw : g_wd st ≤ 8) (hk : k ≤ Z.2.1) (hn : n ≤ Z.2.2.1) (hd : g_D Y pc (.invokestatic idx) 3 pc') (kk : Gd Y Z k n pc' L (vi (imin x y) :: st) h) : Gd Y Z k n pc L (vi y :: vi x :: st) h := by
  intro p l e R s m args below meth cc D cs aK A ad0 QS H locs ad ls C RR Wd Ad hl'
  obtain ⟨hd, rfl⟩ := hd
  have hlo := C.2.2.2.2.2.1.2.1
  have hsum := g_wd_eq (ad := ad) C.2.2.2.2.2.2.2.2.1.2.1 st
  exact va_mmin C.1 C.2.1 (by rw [C.2.2.1]; exact hl'.1.1.symm) C.2.2.2.1 (C.2.2.2.2.1 _ hl) (C.2.2.2.2.1 _ ok_J9_min_7cf53.2) (C.2.2.2.2.1 _ ok_J9_min_7cf53.1.2.1) (C.2.2.2.2.1 _ ok_J9_min_7cf53.1.1) (Nat.le_trans hd1 C.2.2.2.2.2.1.1) (by omega) (Nat.le_trans hk C.2.2.2.2.2.1.2.2.1) (Nat.le_trans hn C.2.2.2.2.2.1.2.2.2) hd (kk p l e R s m args below meth cc D cs aK A ad0 QS H locs ad ls C RR Wd Ad hl')
theorem Gd_if_geN (ha : i < 2147483648) (hd : g_J Y pc (.ifCond .ge) tgt pc') (kt : Gd Y Z k n tgt L st h) : Gd Y Z k n pc L (vi (nI i) :: st) h := Gd_if_ge hd (fun _ => kt) (fun q => absurd (nI_pos' ha) q)
end GX
theorem imin_N {m n : Nat} (hm : m < 2147483648) (hn : n < 2147483648) : imin (nI m) (nI n) = nI (min m n) := by
  rw [imin]
  by_cases h : n < m
  · rw [if_pos (nI_lt h hm), Nat.min_eq_right (by omega)]
  · rw [if_neg (nI_nlt (by omega) hn), Nat.min_eq_left (by omega)]
theorem imax_m10 {n : Nat} (hn : n ≤ 99) : imax (nI 0) (nI n - nI 10) = nI (n - 10) := by
  have key : ∀ n, n < 100 → imax (nI 0) (nI n - nI 10) = nI (n - 10) := by decide +kernel
  exact key n (by omega)
theorem mm_wth (v lo hi : Int32) (h : lo ≤ hi) : imax lo (imin hi v) = wth v lo hi := by
  by_cases h2 : v < hi
  · have e : imin hi v = v := if_pos h2
    rw [e, imax, wth]
    by_cases h1 : v < lo
    · rw [if_pos h1, if_neg (Int32.not_lt.mpr (Int32.le_of_lt h1))]
    · rw [if_neg h1, if_neg (Int32.not_lt.mpr (Int32.le_of_lt h2))]
      by_cases h3 : lo < v
      · rw [if_pos h3]
      · rw [if_neg h3]; exact Int32.le_antisymm (Int32.not_lt.mp h1) (Int32.not_lt.mp h3)
  · have e : imin hi v = hi := if_neg h2
    rw [e, imax, wth]
    have h1 : ¬ v < lo := fun q => h2 (Int32.lt_of_lt_of_le q h)
    rw [if_neg h1]
    by_cases h3 : hi < v
    · rw [if_pos h3]
      by_cases h4 : lo < hi
      · rw [if_pos h4]
      · rw [if_neg h4]; exact Int32.le_antisymm h (Int32.not_lt.mp h4)
    · rw [if_neg h3]
      have e2 : v = hi := Int32.le_antisymm (Int32.not_lt.mp h3) (Int32.not_lt.mp h2)
      subst e2
      by_cases h4 : lo < v
      · rw [if_pos h4]
      · rw [if_neg h4]; exact Int32.le_antisymm h (Int32.not_lt.mp h4)
/-- what Rules.says writes -/
def scR (k j : Nat) : Bool := decide (k = 33) || decide (k = 34)
theorem scR_ne {k j : Nat} (h1 : k ≠ 33) (h2 : k ≠ 34) : scR k j = false := by simp [scR, h1, h2]
theorem FA_ch {S : Nat → Nat → Bool} {f : Nat} {φ : Nat → Nat → Nat} {a a' : Nat → Nat → Int32} (h : FA f φ a) (hc : chg S a a') (hS : ∀ i j, i ≤ 7 → S (f + i) j = false) : FA f φ a' := by
  obtain ⟨h1, h2, h3, h4, h5, h6, h7, h8, h9, h10, h11⟩ := h
  exact ⟨(hc _ _ (hS 0 _ (by omega))).trans h1, (hc _ _ (hS 0 _ (by omega))).trans h2, (hc _ _ (hS 0 _ (by omega))).trans h3, (hc _ _ (hS 0 _ (by omega))).trans h4, fun q hq => (hc _ _ (hS 1 _ (by omega))).trans (h5 q hq), fun q hq => (hc _ _ (hS 2 _ (by omega))).trans (h6 q hq), fun q hq => (hc _ _ (hS 3 _ (by omega))).trans (h7 q hq), fun q hq => (hc _ _ (hS 4 _ (by omega))).trans (h8 q hq), fun q hq => (hc _ _ (hS 5 _ (by omega))).trans (h9 q hq), fun q hq => (hc _ _ (hS 6 _ (by omega))).trans (h10 q hq), fun q hq => (hc _ _ (hS 7 _ (by omega))).trans (h11 q hq)⟩
theorem FA_R {f : Nat} {φ : Nat → Nat → Nat} {a a' : Nat → Nat → Int32} (h : FA f φ a) (hf : f ≤ 17) (hc : chg scR a a') : FA f φ a' := FA_ch h hc (fun i j hi => scR_ne (by omega) (by omega))
theorem pT_ge (t : Nat) : 47 ≤ pT t := by simp only [pT]; split <;> omega
theorem pT_ne (t : Nat) : pT t = 47 ∨ 71 ≤ pT t := by simp only [pT]; split <;> omega
theorem TX_ch {S : Nat → Nat → Bool} {nt : Nat} {ts cd : Nat → Nat → Nat} {sh : List (Nat × Nat)} {a a' : Nat → Nat → Int32} {r : Nat → Nat → Option Nat} (h : TX nt ts cd sh a r) (hc : chg S a a') (h31 : S 31 1 = false) (hS : ∀ k j, (47 ≤ k ∧ k ≤ 49) ∨ 71 ≤ k → S k j = false) : TX nt ts cd sh a' r := by
  refine ⟨(hc _ _ h31).trans h.1, fun t ht => ?_⟩
  obtain ⟨h1, h2, h3⟩ := h.2 t ht
  have hp := pT_ne t
  exact ⟨h1, fun i hi => (hc _ _ (hS _ _ (by omega))).trans (h2 i hi), fun k hk => (hc _ _ (hS _ _ (by omega))).trans (h3 k hk)⟩
theorem TX_R {nt : Nat} {ts cd : Nat → Nat → Nat} {sh : List (Nat × Nat)} {a a' : Nat → Nat → Int32} {r : Nat → Nat → Option Nat} (h : TX nt ts cd sh a r) (hc : chg scR a a') : TX nt ts cd sh a' r := TX_ch h hc rfl (fun k j hk => scR_ne (by omega) (by omega))
