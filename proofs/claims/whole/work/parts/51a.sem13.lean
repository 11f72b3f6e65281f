/-! answers and forests behind: season, hunt, judge, kinds, turned, honours, whose, laws, film -/
def s9_ (k j : Nat) : Bool := decide (9 ≤ k ∧ k ≤ 16)
def s17_ (k j : Nat) : Bool := decide (17 ≤ k ∧ k ≤ 24)
def s1_ (k j : Nat) : Bool := decide (1 ≤ k ∧ k ≤ 8)
theorem scX_9 {k j : Nat} (h : scX k j = false) : s9_ k j = false := by simp [scX] at h; simp [s9_]; omega
theorem scX_R {k j : Nat} (h : scX k j = false) : scR k j = false := by simp [scX] at h; simp [scR]; omega
theorem scX_T {k j : Nat} (h : scX k j = false) : scT 9 k j = false := by
  simp [scX] at h
  exact scT_ne (by omega) (by omega) (by omega) (by omega) (by omega)
theorem scX_V {k j : Nat} (h : scX k j = false) : scV k j = false := by simp [scX] at h; simp [scV, scR]; omega
theorem scX_r {K k j : Nat} (hK : 9 ≤ K ∧ K ≤ 16) (h : scX k j = false) : sR K k j = false := by simp [scX] at h; simp [sR]; omega
theorem FA_X {φ : g_Fo} {a a' : Nat → Nat → Int32} (h : FA 1 φ a) (hc : chg scX a a') : FA 1 φ a' := FA_ch h hc (fun i j hi => by simp [scX]; omega)
theorem TX_X {nt : Nat} {ts cd : g_Fo} {sh : List (Nat × Nat)} {a a' : Nat → Nat → Int32} {r : Nat → Nat → Option Nat} (h : TX nt ts cd sh a r) (hc : chg scX a a') : TX nt ts cd sh a' r := TX_ch h hc rfl (fun k j hk => by simp [scX]; omega)
theorem SX_X {so sz : Nat → Nat} {cl : Nat → Nat → Int32} {a a' : Nat → Nat → Int32} (h : SX so sz cl a) (hc : chg scX a a') : SX so sz cl a' := SX_ch h hc (fun j h1 h2 => by simp [scX]; omega)
theorem scU_X {k j : Nat} (h : scU k j = false) : scX k j = false := by simp [scU] at h; simp [scX]; omega
/-- what a call may change on the reference's side -/
def scZ (k j : Nat) : Bool := decide (51 ≤ k ∧ k ≤ 54) || decide (66 ≤ k ∧ k ≤ 70) || (decide (k = 50) && decide (j = 0 ∨ j = 5 ∨ j = 6 ∨ j = 12 ∨ (20 ≤ j ∧ j ≤ 23) ∨ (26 ≤ j ∧ j ≤ 28) ∨ j = 32 ∨ j = 35))
theorem scZ_S {k j : Nat} (h : scZ k j = false) : scS k j = false := by
  simp [scZ] at h; simp [scS, scM]; omega
theorem scZ_K {k j : Nat} (h : scZ k j = false) : scK k j = false := by
  have h1 := scZ_S h
  simp [scZ] at h; simp [scK, h1]; omega
theorem scZ_G {k j : Nat} (h : scZ k j = false) : scG k j = false := by
  have h1 := scZ_S h
  simp [scZ] at h; simp [scG, h1]; omega
theorem scZ_W {k j : Nat} (h : scZ k j = false) : scW k j = false := by
  have h1 := scS_M (scZ_S h)
  simp [scZ] at h; simp [scW, h1]; omega
theorem scZ_L {k j : Nat} (h : scZ k j = false) : scL k j = false := scS_L (scZ_S h)
theorem scZ_69 {k j : Nat} (h : scZ k j = false) : s69 k j = false := by simp [scZ] at h; simp [s69]; omega
theorem scZ_53 {k j : Nat} (h : scZ k j = false) : s53 k j = false := scS_53 (scZ_S h)
theorem TM_Z {nt : Nat} {ts cd : g_Fo} {a a' : Nat → Nat → Int32} (h : TM nt ts cd a) (hc : chg scZ a a') : TM nt ts cd a' := TM_ch h hc (fun k j q => by simp [rT] at q; simp [scZ]; omega)
theorem MS_Z {so sz : Nat → Nat} {cl : Nat → Nat → Int32} {a a' : Nat → Nat → Int32} (h : MS so sz cl a) (hc : chg scZ a a') : MS so sz cl a' := MS_ch h hc (fun k j h1 h2 => by simp [scZ]; omega)
theorem MA_K69 {φ : g_Fo} {a a' : Nat → Nat → Int32} (h : MA φ a) (hc : chg s69 a a') : MA φ a' := MA_ch h hc (fun k j q => by simp [rM] at q; simp [s69]; omega)
theorem fu_fu (φ : g_Fo) (i j v w : Nat) : fu (fu φ i j v) i j w = fu φ i j w := by
  funext x y
  simp only [fu]
  split
  · split <;> rfl
  · rfl
theorem fu_id (φ : g_Fo) (i j : Nat) : fu φ i j (φ i j) = φ := by
  funext x y
  simp only [fu]
  split
  · next h => split
              · next h2 => rw [h, h2]
              · rfl
  · rfl
theorem MA_setki {φ : g_Fo} {a : Nat → Nat → Int32} {p v : Nat} (h : MA φ a) : MA (fu φ 1 p v) (up2 a 51 p (nI v)) := by
  obtain ⟨h1, h2, h3, h4, h5, h6, h7, h8, h9, h10, h11⟩ := h
  refine ⟨by simpa [up2, fu] using h1, by simpa [up2, fu] using h2, by simpa [up2, fu] using h3, by simpa [up2, fu] using h4, by simpa [up2, fu] using h5, by simpa [up2, fu] using h6, by simpa [up2, fu] using h7, by simpa [up2, fu] using h8, by simpa [up2, fu] using h9, fun q hq => ?_, by simpa [up2, fu] using h11⟩
  by_cases e : q = p
  · simp [up2, fu, e]
  · rw [up2_j _ _ e, fu_j e]; exact h10 q (by simpa [fu] using hq)
theorem MA_setmo {φ : g_Fo} {a : Nat → Nat → Int32} {p v : Nat} (h : MA φ a) : MA (fu φ 2 p v) (up2 a 52 p (nI v)) := by
  obtain ⟨h1, h2, h3, h4, h5, h6, h7, h8, h9, h10, h11⟩ := h
  refine ⟨by simpa [up2, fu] using h1, by simpa [up2, fu] using h2, by simpa [up2, fu] using h3, by simpa [up2, fu] using h4, by simpa [up2, fu] using h5, by simpa [up2, fu] using h6, by simpa [up2, fu] using h7, by simpa [up2, fu] using h8, by simpa [up2, fu] using h9, by simpa [up2, fu] using h10, fun q hq => ?_⟩
  by_cases e : q = p
  · simp [up2, fu, e]
  · rw [up2_j _ _ e, fu_j e]; exact h11 q (by simpa [fu] using hq)
theorem like_runs {ts cd : g_Fo} {p : Nat} {f : Nat → Int32} {n i : Nat} {φ : g_Fo} : likeF φ (runs ts cd p f n i φ) := fun x y h1 h2 h3 => runs_k h1 h2 h3 n i φ
theorem owr_ok {so sz : Nat → Nat} {cl : Nat → Nat → Int32} {hu : Nat} {s p : Int32} (hh : hu ≤ 6) (h : owr so sz cl hu s p = 0) : ∃ i q, i < 4 ∧ q < hu ∧ s = nI i ∧ p = nI q ∧ so i ≠ 4294967295 ∧ allD (cl i) (sz i) = true := by
  rw [owr] at h
  split at h
  · next h1 =>
    split at h
    · next h2 =>
      obtain ⟨i, hi, rfl, h3, h4⟩ := swr_ok h1
      obtain ⟨q, hq, rfl⟩ := inr_t h2 (by omega)
      exact ⟨i, q, hi, hq, rfl, rfl, h3, h4⟩
    · exact absurd h (by decide)
  · next h1 => exact absurd h h1
theorem twr_ok {so sz : Nat → Nat} {cl : Nat → Nat → Int32} {s t : Int32} (h : twr so sz cl s t = 0) : ∃ i j, i < 4 ∧ j < 4 ∧ s = nI i ∧ t = nI j ∧ so i ≠ 4294967295 ∧ allD (cl i) (sz i) = true ∧ sz j ≤ sz i := by
  rw [twr] at h
  split at h
  · exact absurd h (by decide)
  · next h0 =>
    split at h
    · next h1 =>
      obtain ⟨i, hi, rfl, h3, h4⟩ := swr_ok h1
      obtain ⟨j, hj, rfl⟩ := inr_t (by simpa using h0) (by decide)
      rw [nI_clamp (by omega), nI_clamp (by omega)] at h
      split at h
      · exact absurd h (by decide)
      · split at h
        · next h5 => exact ⟨i, j, hi, hj, rfl, rfl, h3, h4, h5⟩
        · exact absurd h (by decide)
    · next h1 => exact absurd h h1
theorem tlw_ok {so sz : Nat → Nat} {cl : Nat → Nat → Int32} {hu : Nat} {s t p : Int32} (hh : hu ≤ 6) (h : tlw so sz cl hu s t p = 0) : ∃ i j q, i < 4 ∧ j < 4 ∧ q < hu ∧ s = nI i ∧ t = nI j ∧ p = nI q ∧ so i ≠ 4294967295 ∧ allD (cl i) (sz i) = true ∧ sz j ≤ sz i := by
  rw [tlw] at h
  split at h
  · next h1 =>
    split at h
    · next h2 =>
      obtain ⟨i, j, hi, hj, rfl, rfl, h3, h4, h5⟩ := twr_ok h1
      obtain ⟨q, hq, rfl⟩ := inr_t h2 (by omega)
      exact ⟨i, j, q, hi, hj, hq, rfl, rfl, rfl, h3, h4, h5⟩
    · exact absurd h (by decide)
  · next h1 => exact absurd h h1
-- season
def sea (φ ts cd : g_Fo) (p : Nat) (f : Nat → Int32) (n j : Nat) : Int32 := if j = 0 then nI (tal ts cd p f 2 n 0 φ) else if j = 1 then nI (tal ts cd p f 3 n 0 φ) else if j = 2 then nI (tal ts cd p f 1 n 0 φ) else if j = 3 then nI (runs ts cd p f n 0 φ 3 p) else nI (runs ts cd p f n 0 φ 7 0)
section SEA
variable {φ ts cd : g_Fo} {so sz : Nat → Nat} {cl : Nat → Nat → Int32}
def oSeason (φ ts cd : g_Fo) (so sz : Nat → Nat) (cl : Nat → Nat → Int32) (s p w : Int32) : Int32 := if owr so sz cl (φ 7 3) s p = 0 then (if inb w (nI 0) (nI 4) = false then -7 else sea φ ts cd p.toNatClampNeg (cl s.toNatClampNeg) (sz s.toNatClampNeg) w.toNatClampNeg) else owr so sz cl (φ 7 3) s p
theorem oSeason_r {s p w : Int32} (h : ¬ owr so sz cl (φ 7 3) s p = 0) : oSeason φ ts cd so sz cl s p w = owr so sz cl (φ 7 3) s p := if_neg h
theorem oSeason_w {s p w : Int32} (h : owr so sz cl (φ 7 3) s p = 0) (hw : inb w (nI 0) (nI 4) = false) : oSeason φ ts cd so sz cl s p w = -7 := by rw [oSeason, if_pos h, if_pos hw]
theorem oSeason_u {s p w : Nat} (h : owr so sz cl (φ 7 3) (nI s) (nI p) = 0) (hs : s < 4) (hp : p < 6) (hw : w ≤ 4) : oSeason φ ts cd so sz cl (nI s) (nI p) (nI w) = sea φ ts cd p (cl s) (sz s) w := by
  rw [oSeason, if_pos h, if_neg (by rw [inb_nI (Nat.zero_le _) hw (by decide)]; decide), nI_clamp (by omega), nI_clamp (by omega), nI_clamp (by omega)]
-- hunt
def rHunt (φ ts cd : g_Fo) (so sz : Nat → Nat) (cl : Nat → Nat → Int32) (s p : Int32) : Int32 × g_Fo :=
  if owr so sz cl (φ 7 3) s p = 0 then (if φ 7 1 = 999 then (-3, φ) else (nI (runs ts cd p.toNatClampNeg (cl s.toNatClampNeg) (sz s.toNatClampNeg) 0 φ 3 p.toNatClampNeg), fu (runs ts cd p.toNatClampNeg (cl s.toNatClampNeg) (sz s.toNatClampNeg) 0 φ) 7 1 (φ 7 1 + 1))) else (owr so sz cl (φ 7 3) s p, φ)
theorem rHunt_r {s p : Int32} (h : ¬ owr so sz cl (φ 7 3) s p = 0) : rHunt φ ts cd so sz cl s p = (owr so sz cl (φ 7 3) s p, φ) := if_neg h
theorem rHunt_u {s p : Nat} (h : owr so sz cl (φ 7 3) (nI s) (nI p) = 0) (hs : s < 4) (hp : p < 6) : rHunt φ ts cd so sz cl (nI s) (nI p) = if φ 7 1 = 999 then (-3, φ) else (nI (runs ts cd p (cl s) (sz s) 0 φ 3 p), fu (runs ts cd p (cl s) (sz s) 0 φ) 7 1 (φ 7 1 + 1)) := by
  rw [rHunt, if_pos h, nI_clamp (by omega), nI_clamp (by omega)]
-- judge, kinds ..
def oJudge (φ ts cd : g_Fo) (so sz : Nat → Nat) (cl : Nat → Nat → Int32) (s t p : Int32) : Int32 := if tlw so sz cl (φ 7 3) s t p = 0 then unl ts cd p.toNatClampNeg (cl s.toNatClampNeg) (cl t.toNatClampNeg) (sz t.toNatClampNeg) 0 φ else tlw so sz cl (φ 7 3) s t p
theorem oJudge_r {s t p : Int32} (h : ¬ tlw so sz cl (φ 7 3) s t p = 0) : oJudge φ ts cd so sz cl s t p = tlw so sz cl (φ 7 3) s t p := if_neg h
theorem oJudge_u {s t p : Nat} (h : tlw so sz cl (φ 7 3) (nI s) (nI t) (nI p) = 0) (hs : s < 4) (ht : t < 4) (hp : p < 6) : oJudge φ ts cd so sz cl (nI s) (nI t) (nI p) = unl ts cd p (cl s) (cl t) (sz t) 0 φ := by
  rw [oJudge, if_pos h, nI_clamp (by omega), nI_clamp (by omega), nI_clamp (by omega)]
def ok1 (ts cd : g_Fo) (p : Nat) (f g : Nat → Int32) (n : Nat) (φ : g_Fo) : Bool := decide (unl ts cd p f g n 0 φ = -1)
def fitB (T : Nat → Bool) : Nat → Nat
  | 0 => 0
  | k + 1 => fitB T k ||| (if T k = true then 2 ^ k else 0)
theorem fitB_lt (T : Nat → Bool) : ∀ n, fitB T n < 2 ^ n
  | 0 => by simp [fitB]
  | n + 1 => by
    have h1 := fitB_lt T n
    have h2 : fitB T n < 2 ^ (n + 1) := Nat.lt_of_lt_of_le h1 (Nat.pow_le_pow_right (by decide) (by omega))
    have h3 : (if T n = true then 2 ^ n else 0) < 2 ^ (n + 1) := by
      have : 2 ^ n < 2 ^ (n + 1) := Nat.pow_lt_pow_right (by decide) (by omega)
      split
      · exact this
      · omega
    exact Nat.or_lt_two_pow h2 h3
def kdf (φ : g_Fo) (w p k : Nat) : g_Fo := if w = 0 then fu φ 1 p k else fu φ 2 p k
def oKinds (φ ts cd : g_Fo) (so sz : Nat → Nat) (cl : Nat → Nat → Int32) (s t p w : Int32) : Int32 := if tlw so sz cl (φ 7 3) s t p = 0 then (if inb w (nI 0) (nI 1) = false then -7 else nI (fitB (fun k => ok1 ts cd p.toNatClampNeg (cl s.toNatClampNeg) (cl t.toNatClampNeg) (sz t.toNatClampNeg) (kdf φ w.toNatClampNeg p.toNatClampNeg k)) (if w = nI 0 then 6 else 10))) else tlw so sz cl (φ 7 3) s t p
theorem oKinds_r {s t p w : Int32} (h : ¬ tlw so sz cl (φ 7 3) s t p = 0) : oKinds φ ts cd so sz cl s t p w = tlw so sz cl (φ 7 3) s t p := if_neg h
theorem oKinds_w {s t p w : Int32} (h : tlw so sz cl (φ 7 3) s t p = 0) (hw : inb w (nI 0) (nI 1) = false) : oKinds φ ts cd so sz cl s t p w = -7 := by rw [oKinds, if_pos h, if_pos hw]
theorem oKinds_u {s t p w : Nat} (h : tlw so sz cl (φ 7 3) (nI s) (nI t) (nI p) = 0) (hs : s < 4) (ht : t < 4) (hp : p < 6) (hw : w ≤ 1) : oKinds φ ts cd so sz cl (nI s) (nI t) (nI p) (nI w) = nI (fitB (fun k => ok1 ts cd p (cl s) (cl t) (sz t) (kdf φ w p k)) (if w = 0 then 6 else 10)) := by
  rw [oKinds, if_pos h, if_neg (by rw [inb_nI (Nat.zero_le _) hw (by decide)]; decide), nI_clamp (by omega), nI_clamp (by omega), nI_clamp (by omega), nI_clamp (by omega)]
  simp only [nI_eq (show w < 2147483648 by omega) (show 0 < 2147483648 by decide)]
def oTurned (φ ts cd : g_Fo) (so sz : Nat → Nat) (cl : Nat → Nat → Int32) (s t p : Int32) : Int32 := if tlw so sz cl (φ 7 3) s t p = 0 then nI (fitB (fun k => ok1 ts cd p.toNatClampNeg (cl s.toNatClampNeg) (cl t.toNatClampNeg) (sz t.toNatClampNeg) (fu φ 5 p.toNatClampNeg (φ 5 p.toNatClampNeg ^^^ 2 ^ k))) 10) else tlw so sz cl (φ 7 3) s t p
theorem oTurned_r {s t p : Int32} (h : ¬ tlw so sz cl (φ 7 3) s t p = 0) : oTurned φ ts cd so sz cl s t p = tlw so sz cl (φ 7 3) s t p := if_neg h
theorem oTurned_u {s t p : Nat} (h : tlw so sz cl (φ 7 3) (nI s) (nI t) (nI p) = 0) (hs : s < 4) (ht : t < 4) (hp : p < 6) : oTurned φ ts cd so sz cl (nI s) (nI t) (nI p) = nI (fitB (fun k => ok1 ts cd p (cl s) (cl t) (sz t) (fu φ 5 p (φ 5 p ^^^ 2 ^ k))) 10) := by
  rw [oTurned, if_pos h, nI_clamp (by omega), nI_clamp (by omega), nI_clamp (by omega)]
def oLaws (φ ts cd : g_Fo) (nt : Nat) (so sz : Nat → Nat) (cl : Nat → Nat → Int32) (s t p : Int32) : Int32 := if tlw so sz cl (φ 7 3) s t p = 0 then nI (fitB (fun k => ok1 ts cd p.toNatClampNeg (cl s.toNatClampNeg) (cl t.toNatClampNeg) (sz t.toNatClampNeg) (fu φ 7 2 k)) nt) else tlw so sz cl (φ 7 3) s t p
theorem oLaws_r {nt : Nat} {s t p : Int32} (h : ¬ tlw so sz cl (φ 7 3) s t p = 0) : oLaws φ ts cd nt so sz cl s t p = tlw so sz cl (φ 7 3) s t p := if_neg h
theorem oLaws_u {nt s t p : Nat} (h : tlw so sz cl (φ 7 3) (nI s) (nI t) (nI p) = 0) (hs : s < 4) (ht : t < 4) (hp : p < 6) : oLaws φ ts cd nt so sz cl (nI s) (nI t) (nI p) = nI (fitB (fun k => ok1 ts cd p (cl s) (cl t) (sz t) (fu φ 7 2 k)) nt) := by
  rw [oLaws, if_pos h, nI_clamp (by omega), nI_clamp (by omega), nI_clamp (by omega)]
def oWhose (φ ts cd : g_Fo) (so sz : Nat → Nat) (cl : Nat → Nat → Int32) (s t : Int32) : Int32 := if twr so sz cl s t = 0 then nI (fitB (fun k => ok1 ts cd k (cl s.toNatClampNeg) (cl t.toNatClampNeg) (sz t.toNatClampNeg) φ) (φ 7 3)) else twr so sz cl s t
theorem oWhose_r {s t : Int32} (h : ¬ twr so sz cl s t = 0) : oWhose φ ts cd so sz cl s t = twr so sz cl s t := if_neg h
theorem oWhose_u {s t : Nat} (h : twr so sz cl (nI s) (nI t) = 0) (hs : s < 4) (ht : t < 4) : oWhose φ ts cd so sz cl (nI s) (nI t) = nI (fitB (fun k => ok1 ts cd k (cl s) (cl t) (sz t) φ) (φ 7 3)) := by
  rw [oWhose, if_pos h, nI_clamp (by omega), nI_clamp (by omega)]
/-- how many of the first n are so; the least, one more (0: none) -/
def cntB (T : Nat → Bool) : Nat → Nat
  | 0 => 0
  | k + 1 => cntB T k + (if T k = true then 1 else 0)
theorem cntB_le (T : Nat → Bool) : ∀ n, cntB T n ≤ n
  | 0 => Nat.le_refl _
  | n + 1 => by have := cntB_le T n; simp only [cntB]; split <;> omega
def lstB (T : Nat → Bool) : Nat → Nat
  | 0 => 0
  | k + 1 => if lstB T k = 0 then (if T k = true then k + 1 else 0) else lstB T k
theorem lstB_le (T : Nat → Bool) : ∀ n, lstB T n ≤ n
  | 0 => Nat.le_refl _
  | n + 1 => by have := lstB_le T n; simp only [lstB]; split <;> (try split) <;> omega
def oHonours (φ ts cd : g_Fo) (so sz : Nat → Nat) (cl : Nat → Nat → Int32) (s t p w : Int32) : Int32 := if tlw so sz cl (φ 7 3) s t p = 0 then (if inb w (nI 0) (nI 1) = false then -7 else if w = nI 0 then nI (cntB (fun k => ok1 ts cd p.toNatClampNeg (cl s.toNatClampNeg) (cl t.toNatClampNeg) (sz t.toNatClampNeg) (fu φ 3 p.toNatClampNeg k)) 100) else spi (lstB (fun k => ok1 ts cd p.toNatClampNeg (cl s.toNatClampNeg) (cl t.toNatClampNeg) (sz t.toNatClampNeg) (fu φ 3 p.toNatClampNeg k)) 100)) else tlw so sz cl (φ 7 3) s t p
theorem oHonours_r {s t p w : Int32} (h : ¬ tlw so sz cl (φ 7 3) s t p = 0) : oHonours φ ts cd so sz cl s t p w = tlw so sz cl (φ 7 3) s t p := if_neg h
theorem oHonours_w {s t p w : Int32} (h : tlw so sz cl (φ 7 3) s t p = 0) (hw : inb w (nI 0) (nI 1) = false) : oHonours φ ts cd so sz cl s t p w = -7 := by rw [oHonours, if_pos h, if_pos hw]
theorem oHonours_u {s t p w : Nat} (h : tlw so sz cl (φ 7 3) (nI s) (nI t) (nI p) = 0) (hs : s < 4) (ht : t < 4) (hp : p < 6) (hw : w ≤ 1) : oHonours φ ts cd so sz cl (nI s) (nI t) (nI p) (nI w) = if w = 0 then nI (cntB (fun k => ok1 ts cd p (cl s) (cl t) (sz t) (fu φ 3 p k)) 100) else spi (lstB (fun k => ok1 ts cd p (cl s) (cl t) (sz t) (fu φ 3 p k)) 100) := by
  rw [oHonours, if_pos h, if_neg (by rw [inb_nI (Nat.zero_le _) hw (by decide)]; decide), nI_clamp (by omega), nI_clamp (by omega), nI_clamp (by omega)]
  simp only [nI_eq (show w < 2147483648 by omega) (show 0 < 2147483648 by decide)]
end SEA
theorem xor_lt10n {d n : Nat} (hd : d < 10) (hn : n < 1024) : n ^^^ 2 ^ d < 1024 := xor_lt10 d hd n hn
theorem unl_bI {x : Int32} {b : Bool} (h : b = decide (x = -1)) : (x = -1) ↔ b = true := by rw [h]; simp
