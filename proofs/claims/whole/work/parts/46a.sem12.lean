/-! answers and forests behind the calls: forest, asks, feed, hunter, put, told, meet, present -/
theorem inb_m1 {v : Int32} (h : inb v (-1) (nI 9) = true) : v = -1 ∨ ∃ d, d < 10 ∧ v = nI d := by
  have q2 : -1 ≤ v ∧ v ≤ nI 9 := of_decide_eq_true h
  by_cases h0 : v < 0
  · left
    have h1 : v.toInt < 0 := by have := Int32.lt_iff_toInt_lt.mp h0; simpa using this
    have h2 : -1 ≤ v.toInt := by have := Int32.le_iff_toInt_le.mp q2.1; simpa using this
    have h3 : v.toInt = -1 := by omega
    have e : v = Int32.ofInt v.toInt := (Int32.ofInt_toInt v).symm
    rw [h3] at e
    exact e
  · right
    obtain ⟨j, hj, rfl⟩ := nI_of h0
    refine ⟨j, ?_, rfl⟩
    rcases Nat.lt_or_ge 9 j with z | z
    · exact absurd (nI_lt z hj) (Int32.not_lt.mpr q2.2)
    · omega
theorem inb_c0 {v : Int32} {k : Nat} (h1 : ¬ v < 0) (h2 : ¬ nI k < v) : inb v (nI 0) (nI k) = true := inb_tt (by rw [nI_0]; exact h1) h2
theorem inb_l0 {v : Int32} {k : Nat} (h1 : v < 0) : inb v (nI 0) (nI k) = false := inb_f1 (by rw [nI_0]; exact h1)
theorem inr_lt_t {n k : Nat} (hk : k < 2147483648) (h : n < k) : inr (nI n) k = true := by rw [inr_nI (by omega)]; simp [h]
theorem fu_comm (φ : Nat → Nat → Nat) {i i' : Nat} (j j' v v' : Nat) (h : i ≠ i') : fu (fu φ i j v) i' j' v' = fu (fu φ i' j' v') i j v := by
  funext x y
  by_cases h1 : x = i
  · subst h1; simp [fu, h]
  · simp [fu, h1]
abbrev g_Fo : Type := Nat → Nat → Nat
/-- a forest's number by what -/
def fmost (w : Int32) : Int32 := if w = nI 0 then nI 999 else if w = nI 1 then nI 99 else nI 1
def rForest (φ : g_Fo) (w d v : Int32) : Int32 × g_Fo :=
  if inb w (nI 0) (nI 2) = false then (-5, φ) else if ¬ w = nI 0 ∧ inr d 10 = false then (-5, φ) else if inb v (nI 0) (fmost w) = false then (-7, φ)
  else if w = nI 0 then (nI (φ 7 1), fu φ 7 1 v.toNatClampNeg) else if w = nI 1 then (nI (φ 0 d.toNatClampNeg), fu φ 0 d.toNatClampNeg v.toNatClampNeg)
  else (bI ((φ 7 0).testBit d.toNatClampNeg), fu φ 7 0 (if v = nI 0 then clr (φ 7 0) d.toNatClampNeg else φ 7 0 ||| 2 ^ d.toNatClampNeg))
theorem rForest_0 {φ : g_Fo} {d : Int32} {v : Nat} (hv : v ≤ 999) : rForest φ (nI 0) d (nI v) = (nI (φ 7 1), fu φ 7 1 v) := by
  rw [rForest, if_neg (by decide), if_neg (fun z => z.1 rfl), if_neg (by rw [fmost, if_pos rfl, inb_nI (Nat.zero_le _) hv (by decide)]; decide), if_pos rfl, nI_clamp (by omega)]
theorem rForest_1 {φ : g_Fo} {d v : Nat} (hd : d < 10) (hv : v ≤ 99) : rForest φ (nI 1) (nI d) (nI v) = (nI (φ 0 d), fu φ 0 d v) := by
  rw [rForest, if_neg (by decide), if_neg (fun z => by rw [inr_lt_t (by decide) hd] at z; exact absurd z.2 (by decide)), if_neg (by rw [fmost, if_neg (by decide), if_pos rfl, inb_nI (Nat.zero_le _) hv (by decide)]; decide), if_neg (by decide), if_pos rfl, nI_clamp (by omega), nI_clamp (by omega)]
theorem rForest_2 {φ : g_Fo} {d v : Nat} (hd : d < 10) (hv : v ≤ 1) : rForest φ (nI 2) (nI d) (nI v) = (bI ((φ 7 0).testBit d), fu φ 7 0 (if v = 0 then clr (φ 7 0) d else φ 7 0 ||| 2 ^ d)) := by
  rw [rForest, if_neg (by decide), if_neg (fun z => by rw [inr_lt_t (by decide) hd] at z; exact absurd z.2 (by decide)), if_neg (by rw [fmost, if_neg (by decide), if_neg (by decide), inb_nI (Nat.zero_le _) hv (by decide)]; decide), if_neg (by decide), if_neg (by decide), nI_clamp (by omega)]
  simp only [nI_eq (show v < 2147483648 by omega) (show 0 < 2147483648 by decide)]
theorem rForest_w {φ : g_Fo} {w d v : Int32} (h : inb w (nI 0) (nI 2) = false) : rForest φ w d v = (-5, φ) := if_pos h
theorem rForest_d {φ : g_Fo} {w d v : Int32} (hw : inb w (nI 0) (nI 2) = true) (h0 : ¬ w = nI 0) (h : inr d 10 = false) : rForest φ w d v = (-5, φ) := by rw [rForest, if_neg (by rw [hw]; decide), if_pos ⟨h0, h⟩]
theorem rForest_v {φ : g_Fo} {w d v : Int32} (hw : inb w (nI 0) (nI 2) = true) (h0 : w = nI 0 ∨ inr d 10 = true) (h : inb v (nI 0) (fmost w) = false) : rForest φ w d v = (-7, φ) := by
  rw [rForest, if_neg (by rw [hw]; decide), if_neg (fun z => h0.elim z.1 (fun q => by rw [q] at z; exact absurd z.2 (by decide))), if_pos h]
/-- what a forest call changes -/
def scF (k j : Nat) : Bool := decide (k = 54) || (decide (k = 50) && decide (j = 5 ∨ j = 6))
def scFx (k j : Nat) : Bool := decide (k = 2) || (decide (k = 1) && decide (j = 1 ∨ j = 2))
-- asks
def oAsks (φ ts cd : g_Fo) (w p d : Int32) : Int32 := if inb w (nI 0) (nI 2) = false ∨ inr p (φ 7 3) = false ∨ inb d (-1) (nI 9) = false then -1000 else if d = -1 then ask φ ts cd w.toNatClampNeg p.toNatClampNeg 0 else ask φ ts cd w.toNatClampNeg p.toNatClampNeg (φ 0 d.toNatClampNeg)
theorem oAsks_n {φ ts cd : g_Fo} {w p d : Int32} (h : inb w (nI 0) (nI 2) = false ∨ inr p (φ 7 3) = false ∨ inb d (-1) (nI 9) = false) : oAsks φ ts cd w p d = -1000 := if_pos h
theorem oAsks_0 {φ ts cd : g_Fo} {w p : Nat} (hw : w ≤ 2) (hp : p < φ 7 3) (hh : φ 7 3 ≤ 6) : oAsks φ ts cd (nI w) (nI p) (-1) = ask φ ts cd w p 0 := by
  rw [oAsks, if_neg (by rw [inb_nI (Nat.zero_le _) hw (by decide), inr_lt_t (by omega) hp]; decide), if_pos rfl, nI_clamp (by omega), nI_clamp (by omega)]
theorem inb_d9 : ∀ d, d < 10 → inb (nI d) (-1) (nI 9) = true := by decide +kernel
theorem oAsks_1 {φ ts cd : g_Fo} {w p d : Nat} (hw : w ≤ 2) (hp : p < φ 7 3) (hh : φ 7 3 ≤ 6) (hd : d < 10) : oAsks φ ts cd (nI w) (nI p) (nI d) = ask φ ts cd w p (φ 0 d) := by
  rw [oAsks, if_neg (by rw [inb_nI (Nat.zero_le _) hw (by decide), inr_lt_t (by omega) hp, inb_d9 d hd]; decide), if_neg (nI_nem1 (by omega)), nI_clamp (by omega), nI_clamp (by omega), nI_clamp (by omega)]
-- the tape: how many bytes, which; R its owner, j the field, C the row
def TP (R j C nb : Nat) (tp : Nat → Nat) (a : Nat → Nat → Int32) : Prop := a R j = nI nb ∧ ∀ i, i < nb → a C i = nI (tp i)
def fby (b0 b1 b2 b3 b4 k : Nat) : Nat := if k = 0 then b0 else if k = 1 then b1 else if k = 2 then b2 else if k = 3 then b3 else b4
def fds (bs : Nat → Nat) (nb : Nat) (tp : Nat → Nat) (i : Nat) : Nat := if i < nb then tp i else bs (i - nb)
def rFeed (nb : Nat) (tp : Nat → Nat) (n b0 b1 b2 b3 b4 : Int32) : Int32 × Nat × (Nat → Nat) :=
  if inb n (nI 1) (nI 5) = false ∨ inr b0 256 = false ∨ inr b1 256 = false ∨ inr b2 256 = false ∨ inr b3 256 = false ∨ inr b4 256 = false then (-2, nb, tp)
  else if 160 < nb + n.toNatClampNeg then (-4, nb, tp)
  else (nI (nb + n.toNatClampNeg), nb + n.toNatClampNeg, fds (fby b0.toNatClampNeg b1.toNatClampNeg b2.toNatClampNeg b3.toNatClampNeg b4.toNatClampNeg) nb tp)
theorem rFeed_n {nb : Nat} {tp : Nat → Nat} {n b0 b1 b2 b3 b4 : Int32} (h : inb n (nI 1) (nI 5) = false ∨ inr b0 256 = false ∨ inr b1 256 = false ∨ inr b2 256 = false ∨ inr b3 256 = false ∨ inr b4 256 = false) : rFeed nb tp n b0 b1 b2 b3 b4 = (-2, nb, tp) := if_pos h
theorem rFeed_u {nb : Nat} {tp : Nat → Nat} {n b0 b1 b2 b3 b4 : Nat} (h1 : 1 ≤ n) (h5 : n ≤ 5) (hb : b0 < 256 ∧ b1 < 256 ∧ b2 < 256 ∧ b3 < 256 ∧ b4 < 256) : rFeed nb tp (nI n) (nI b0) (nI b1) (nI b2) (nI b3) (nI b4) = if 160 < nb + n then (-4, nb, tp) else (nI (nb + n), nb + n, fds (fby b0 b1 b2 b3 b4) nb tp) := by
  rw [rFeed, if_neg (by rw [inb_nI h1 h5 (by decide), inr_lt_t (by decide) hb.1, inr_lt_t (by decide) hb.2.1, inr_lt_t (by decide) hb.2.2.1, inr_lt_t (by decide) hb.2.2.2.1, inr_lt_t (by decide) hb.2.2.2.2]; decide), nI_clamp (by omega), nI_clamp (by omega), nI_clamp (by omega), nI_clamp (by omega), nI_clamp (by omega), nI_clamp (by omega)]
theorem fds_up {a : Nat → Nat → Int32} {C nb k w : Nat} {bs tp : Nat → Nat} (h : ∀ i, i < nb + k → a C i = nI (fds bs nb tp i)) (hw : w = bs k) : ∀ i, i < nb + (k + 1) → up2 a C (nb + k) (nI w) C i = nI (fds bs nb tp i) := by
  intro i hi
  by_cases e : i = nb + k
  · rw [e, up2_s, fds, if_neg (by omega), Nat.add_sub_cancel_left, hw]
  · rw [up2_j _ _ e]; exact h i (by omega)
/-- what a feed changes -/
def scN (R j C k i : Nat) : Bool := decide (k = C) || (decide (k = R) && decide (i = j))
-- hunter
def hun (φ : g_Fo) (k m c : Nat) : g_Fo := fu (fu (fu (fu (fu (fu (fu φ 1 (φ 7 3) (k / 10)) 2 (φ 7 3) (k % 10)) 3 (φ 7 3) m) 5 (φ 7 3) c) 4 (φ 7 3) 0) 6 (φ 7 3) 4294967295) 7 3 (φ 7 3 + 1)
def rHunter (φ : g_Fo) (k m c : Int32) : Int32 × g_Fo :=
  if inb k (nI 0) (nI 59) = false ∨ inb m (nI 0) (nI 99) = false ∨ inb c (nI 0) (nI 1023) = false then (-2, φ) else if φ 7 3 = 6 then (-4, φ) else (nI (φ 7 3), hun φ k.toNatClampNeg m.toNatClampNeg c.toNatClampNeg)
theorem rHunter_n {φ : g_Fo} {k m c : Int32} (h : inb k (nI 0) (nI 59) = false ∨ inb m (nI 0) (nI 99) = false ∨ inb c (nI 0) (nI 1023) = false) : rHunter φ k m c = (-2, φ) := if_pos h
theorem rHunter_u {φ : g_Fo} {k m c : Nat} (h1 : k ≤ 59) (h2 : m ≤ 99) (h3 : c ≤ 1023) : rHunter φ (nI k) (nI m) (nI c) = if φ 7 3 = 6 then (-4, φ) else (nI (φ 7 3), hun φ k m c) := by
  rw [rHunter, if_neg (by rw [inb_nI (Nat.zero_le _) h1 (by decide), inb_nI (Nat.zero_le _) h2 (by decide), inb_nI (Nat.zero_le _) h3 (by decide)]; decide), nI_clamp (by omega), nI_clamp (by omega), nI_clamp (by omega)]
theorem MA_hun {φ : g_Fo} {a : Nat → Nat → Int32} (h : MA φ a) (hh : φ 7 3 < 6) (k m c : Nat) : MA (hun φ k m c) (up2 (up2 (up2 (up2 (up2 (up2 (up2 a 51 (φ 7 3) (nI (k / 10))) 52 (φ 7 3) (nI (k % 10))) 53 (4 * φ 7 3) (nI m)) 53 (4 * φ 7 3 + 1) (nI c)) 53 (4 * φ 7 3 + 2) (nI 0)) 53 (4 * φ 7 3 + 3) (-1)) 50 0 (nI (φ 7 3 + 1))) := by
  obtain ⟨h1, h2, h3, h4, h5, h6, h7, h8, h9, h10, h11⟩ := h
  generalize hH : φ 7 3 = H at *
  have e3 : hun φ k m c 7 3 = H + 1 := by simp [hun, fu, hH]
  refine ⟨by rw [e3]; simp [up2], by simpa [up2, hun, fu] using h2, by simpa [up2, hun, fu] using h3, by simpa [up2, hun, fu] using h4, fun d hd => ?_, fun p hp => ?_, fun p hp => ?_, fun p hp => ?_, fun p hp => ?_, fun p hp => ?_, fun p hp => ?_⟩
  · simpa [up2, hun, fu] using h5 d hd
  · by_cases e : p = H
    · subst e
      simp [up2, hun, fu, hH]
    · have := h6 p hp
      have e1 : ¬ 4 * p = 4 * H := by omega
      have e2 : ¬ 4 * p = 4 * H + 1 := by omega
      have e3 : ¬ 4 * p = 4 * H + 2 := by omega
      have e4 : ¬ 4 * p = 4 * H + 3 := by omega
      simp only [up2, hun, fu, hH, e, e1, e2, e3, e4]; simpa using this
  · by_cases e : p = H
    · subst e
      simp [up2, hun, fu, hH]
    · have := h7 p hp
      have e1 : ¬ 4 * p + 1 = 4 * H := by omega
      have e2 : ¬ 4 * p + 1 = 4 * H + 1 := by omega
      have e3 : ¬ 4 * p + 1 = 4 * H + 2 := by omega
      have e4 : ¬ 4 * p + 1 = 4 * H + 3 := by omega
      simp only [up2, hun, fu, hH, e, e1, e2, e3, e4]; simpa using this
  · by_cases e : p = H
    · subst e
      simp [up2, hun, fu, hH]
    · have := h8 p hp
      have e1 : ¬ 4 * p + 2 = 4 * H := by omega
      have e2 : ¬ 4 * p + 2 = 4 * H + 1 := by omega
      have e3 : ¬ 4 * p + 2 = 4 * H + 2 := by omega
      have e4 : ¬ 4 * p + 2 = 4 * H + 3 := by omega
      simp only [up2, hun, fu, hH, e, e1, e2, e3, e4]; simpa using this
  · by_cases e : p = H
    · subst e
      simp [up2, hun, fu, hH, nI_m1]
    · have := h9 p hp
      have e1 : ¬ 4 * p + 3 = 4 * H := by omega
      have e2 : ¬ 4 * p + 3 = 4 * H + 1 := by omega
      have e3 : ¬ 4 * p + 3 = 4 * H + 2 := by omega
      have e4 : ¬ 4 * p + 3 = 4 * H + 3 := by omega
      simp only [up2, hun, fu, hH, e, e1, e2, e3, e4]; simpa using this
  · rw [e3] at hp
    by_cases e : p = H
    · subst e
      simp [up2, hun, fu, hH]
    · have := h10 p (by omega)
      simp only [up2, hun, fu, hH, e]; simpa using this
  · rw [e3] at hp
    by_cases e : p = H
    · subst e
      simp [up2, hun, fu, hH]
    · have := h11 p (by omega)
      simp only [up2, hun, fu, hH, e]; simpa using this
theorem FA_hun {f : Nat} {φ : g_Fo} {a : Nat → Nat → Int32} (h : FA f φ a) (k m c : Nat) : FA f (hun φ k m c) (up2 (up2 (up2 (up2 (up2 (up2 (up2 a (f + 2) (φ 7 3) (nI (k / 10))) (f + 3) (φ 7 3) (nI (k % 10))) (f + 4) (φ 7 3) (nI m)) (f + 5) (φ 7 3) (nI 0)) (f + 6) (φ 7 3) (nI c)) (f + 7) (φ 7 3) (-1)) f 4 (nI (φ 7 3 + 1))) := by
  have e : hun φ k m c = fu (fu (fu (fu (fu (fu (fu φ 1 (φ 7 3) (k / 10)) 2 (φ 7 3) (k % 10)) 3 (φ 7 3) m) 4 (φ 7 3) 0) 5 (φ 7 3) c) 6 (φ 7 3) 4294967295) 7 3 (φ 7 3 + 1) := by
    rw [hun, fu_comm _ (i := 5) (i' := 4) _ _ _ _ (by decide)]
  rw [e, ← nI_m1]
  exact FA_sethu (FA_setby (FA_setca (FA_setme (FA_setho (FA_setmo (FA_setki h))))))
theorem FI_hun {φ : g_Fo} (h : FI φ) (hh : φ 7 3 < 6) {k m c : Nat} (h1 : k ≤ 59) (h2 : m ≤ 99) (h3 : c ≤ 1023) : FI (hun φ k m c) :=
  FI_sethu (FI_setby (FI_setme (FI_setca (FI_setho (FI_setmo (FI_setki h (by omega)) (by omega)) h2) (by omega)) (by decide)) (by decide)) (by omega)
def scH (k j : Nat) : Bool := decide (51 ≤ k ∧ k ≤ 53) || (decide (k = 50) && decide (j = 0))
def scHx (f k j : Nat) : Bool := decide (f + 2 ≤ k ∧ k ≤ f + 7) || (decide (k = f) && decide (j = 4))
-- put
def rPut (φ : g_Fo) (p w v : Int32) : Int32 × g_Fo :=
  if inr p (φ 7 3) = false then (-5, φ) else if inb w (nI 0) (nI 1) = false then (-7, φ) else if inb v (nI 0) (if w = nI 0 then nI 99 else nI 1023) = false then (-7, φ)
  else if w = nI 0 then (nI (φ 3 p.toNatClampNeg), fu φ 3 p.toNatClampNeg v.toNatClampNeg) else (nI (φ 5 p.toNatClampNeg), fu φ 5 p.toNatClampNeg v.toNatClampNeg)
section PUT
variable {φ : g_Fo} {p v : Nat}
theorem rPut_p {p w v : Int32} (h : inr p (φ 7 3) = false) : rPut φ p w v = (-5, φ) := if_pos h
theorem rPut_w {w v : Int32} (hp : p < φ 7 3) (hh : φ 7 3 ≤ 6) (h : inb w (nI 0) (nI 1) = false) : rPut φ (nI p) w v = (-7, φ) := by rw [rPut, if_neg (by rw [inr_lt_t (by omega) hp]; decide), if_pos h]
theorem rPut_v0 {v : Int32} (hp : p < φ 7 3) (hh : φ 7 3 ≤ 6) (h : inb v (nI 0) (nI 99) = false) : rPut φ (nI p) (nI 0) v = (-7, φ) := by rw [rPut, if_neg (by rw [inr_lt_t (by omega) hp]; decide), if_neg (by decide), if_pos (by rw [if_pos rfl]; exact h)]
theorem rPut_v1 {v : Int32} (hp : p < φ 7 3) (hh : φ 7 3 ≤ 6) (h : inb v (nI 0) (nI 1023) = false) : rPut φ (nI p) (nI 1) v = (-7, φ) := by rw [rPut, if_neg (by rw [inr_lt_t (by omega) hp]; decide), if_neg (by decide), if_pos (by rw [if_neg (by decide)]; exact h)]
theorem rPut_0 (hp : p < φ 7 3) (hh : φ 7 3 ≤ 6) (hv : v ≤ 99) : rPut φ (nI p) (nI 0) (nI v) = (nI (φ 3 p), fu φ 3 p v) := by
  rw [rPut, if_neg (by rw [inr_lt_t (by omega) hp]; decide), if_neg (by decide), if_neg (by rw [if_pos rfl, inb_nI (Nat.zero_le _) hv (by decide)]; decide), if_pos rfl, nI_clamp (by omega), nI_clamp (by omega)]
theorem rPut_1 (hp : p < φ 7 3) (hh : φ 7 3 ≤ 6) (hv : v ≤ 1023) : rPut φ (nI p) (nI 1) (nI v) = (nI (φ 5 p), fu φ 5 p v) := by
  rw [rPut, if_neg (by rw [inr_lt_t (by omega) hp]; decide), if_neg (by decide), if_neg (by rw [if_neg (by decide), inb_nI (Nat.zero_le _) hv (by decide)]; decide), if_neg (by decide), nI_clamp (by omega), nI_clamp (by omega)]
end PUT
def scP (k j : Nat) : Bool := decide (k = 5 ∨ k = 7)
-- told
theorem swN (n : Nat) (hn : n < 2147483648) (v : Int32) : (∃ j, j ≤ n ∧ v = nI j) ∨ (v.toInt < 0 ∨ (n : Int) < v.toInt) := by
  by_cases h : v.toInt < 0 ∨ (n : Int) < v.toInt
  · exact Or.inr h
  · left
    have h0 : ¬ v < 0 := fun z => by have := Int32.lt_iff_toInt_lt.mp z; simp at this; omega
    obtain ⟨j, hj, rfl⟩ := nI_of h0
    refine ⟨j, ?_, rfl⟩
    have e : (nI j).toInt = j := by
      have := nI_clamp hj
      have h2 : 0 ≤ (nI j).toInt := by omega
      rw [Int32.toNatClampNeg] at this
      omega
    omega
theorem sw_o {n j : Nat} {v : Int32} (hn : n < 2147483648) (hj : j ≤ n) (ho : v.toInt < 0 ∨ (n : Int) < v.toInt) : ¬ v = nI j := by
  intro e
  subst e
  have h1 := nI_clamp (show j < 2147483648 by omega)
  rw [Int32.toNatClampNeg] at h1
  have h0 : ¬ nI j < 0 := nI_lt0 (by omega)
  have h2 : ¬ (nI j).toInt < 0 := fun z => h0 (Int32.lt_iff_toInt_lt.mpr (by simpa using z))
  omega
def tl9 (φ ts cd : g_Fo) (p : Nat) (j : Nat) : Int32 := if j = 0 then nI (φ 3 p) else if j = 1 then nI (φ 5 p) else if j = 2 then nI (φ 4 p) else if j = 3 then nI (φ 1 p) else if j = 4 then nI (φ 2 p) else if j = 5 then bI (will φ ts cd p) else if j = 6 then gains φ ts cd p else if j = 7 then nI (φ 6 p) else nI (spm φ ts cd p 10)
def oTold (φ ts cd : g_Fo) (p v : Int32) : Int32 := if inr p (φ 7 3) = false then -5000 else if v.toInt < 0 ∨ 8 < v.toInt then -7000 else tl9 φ ts cd p.toNatClampNeg v.toNatClampNeg
theorem oTold_p {φ ts cd : g_Fo} {p v : Int32} (h : inr p (φ 7 3) = false) : oTold φ ts cd p v = -5000 := if_pos h
theorem oTold_o {φ ts cd : g_Fo} {p : Nat} {v : Int32} (hp : p < φ 7 3) (hh : φ 7 3 ≤ 6) (h : v.toInt < 0 ∨ 8 < v.toInt) : oTold φ ts cd (nI p) v = -7000 := by rw [oTold, if_neg (by rw [inr_lt_t (by omega) hp]; decide), if_pos h]
theorem oTold_u {φ ts cd : g_Fo} {p j : Nat} (hp : p < φ 7 3) (hh : φ 7 3 ≤ 6) (h : j ≤ 8) : oTold φ ts cd (nI p) (nI j) = tl9 φ ts cd p j := by
  rw [oTold, if_neg (by rw [inr_lt_t (by omega) hp]; decide), if_neg (show ¬ ((nI j).toInt < 0 ∨ 8 < (nI j).toInt) from fun z => sw_o (n := 8) (by decide) h (by simpa using z) rfl), nI_clamp (by omega), nI_clamp (by omega)]
-- meet
def mtn (φ ts cd : g_Fo) (t p q : Nat) : Bool := (φ 4 t).testBit p && (φ 4 t).testBit q && !((φ 4 p).testBit q) && will φ ts cd t
def mtf (φ : g_Fo) (t p q : Nat) : g_Fo := fu (fu (mee1 φ p q) 6 p t) 6 q t
def gnf (φ ts cd : g_Fo) (t : Nat) : g_Fo := fu φ 3 t (rewN φ ts cd t)
def rMeet (φ ts cd : g_Fo) (t p q : Int32) : Int32 × g_Fo :=
  if twoH φ t p && twoH φ t q && !(decide (p = q)) then
    (if mtn φ ts cd t.toNatClampNeg p.toNatClampNeg q.toNatClampNeg then (nI (rewN (mtf φ t.toNatClampNeg p.toNatClampNeg q.toNatClampNeg) ts cd t.toNatClampNeg), gnf (mtf φ t.toNatClampNeg p.toNatClampNeg q.toNatClampNeg) ts cd t.toNatClampNeg) else (-3, φ))
  else (-5, φ)
theorem rMeet_n {φ ts cd : g_Fo} {t p q : Int32} (h : (twoH φ t p && twoH φ t q && !(decide (p = q))) = false) : rMeet φ ts cd t p q = (-5, φ) := by rw [rMeet, h]; rfl
theorem rMeet_u {φ ts cd : g_Fo} {t p q : Nat} (hh : φ 7 3 ≤ 6) (ht : t < φ 7 3) (hp : p < φ 7 3) (hq : q < φ 7 3) (h1 : t ≠ p) (h2 : t ≠ q) (h3 : p ≠ q) : rMeet φ ts cd (nI t) (nI p) (nI q) = if mtn φ ts cd t p q then (nI (rewN (mtf φ t p q) ts cd t), gnf (mtf φ t p q) ts cd t) else (-3, φ) := by
  have e1 : nI t ≠ nI p := fun e => h1 (nI_inj (by omega) (by omega) e)
  have e2 : nI t ≠ nI q := fun e => h2 (nI_inj (by omega) (by omega) e)
  have e3 : nI p ≠ nI q := fun e => h3 (nI_inj (by omega) (by omega) e)
  rw [rMeet, if_pos (by simp [twoH, inr_lt_t (show φ 7 3 < 2147483648 by omega) ht, inr_lt_t (show φ 7 3 < 2147483648 by omega) hp, inr_lt_t (show φ 7 3 < 2147483648 by omega) hq, e1, e2, e3]), nI_clamp (by omega), nI_clamp (by omega), nI_clamp (by omega)]
theorem mtf_hu (φ : g_Fo) (t p q : Nat) : mtf φ t p q 7 3 = φ 7 3 := rfl
theorem mtf_la (φ : g_Fo) (t p q : Nat) : mtf φ t p q 7 2 = φ 7 2 := rfl
theorem FI_mtf {φ : g_Fo} (h : FI φ) {t p q : Nat} (ht : t < 6) (hp : p < 6) (hq : q < 6) : FI (mtf φ t p q) := FI_setby (FI_setby (FI_mee1 h hp hq) (by omega)) (by omega)
-- present
def prn (φ ts cd : g_Fo) (t p d : Nat) : Bool := (φ 4 t).testBit p && (φ 5 t).testBit d && !((φ 5 p).testBit d) && (φ 7 0).testBit d && will φ ts cd t
def prf (φ : g_Fo) (t p d : Nat) : g_Fo := fu (fu φ 5 p (φ 5 p ||| 2 ^ d)) 6 p t
def rPresent (φ ts cd : g_Fo) (t p d : Int32) : Int32 × g_Fo :=
  if twoH φ t p then (if inr d 10 then
    (if prn φ ts cd t.toNatClampNeg p.toNatClampNeg d.toNatClampNeg then (nI (rewN (prf φ t.toNatClampNeg p.toNatClampNeg d.toNatClampNeg) ts cd t.toNatClampNeg), gnf (prf φ t.toNatClampNeg p.toNatClampNeg d.toNatClampNeg) ts cd t.toNatClampNeg) else (-3, φ))
  else (-6, φ)) else (-5, φ)
theorem rPresent_n {φ ts cd : g_Fo} {t p d : Int32} (h : twoH φ t p = false) : rPresent φ ts cd t p d = (-5, φ) := by rw [rPresent, h]; rfl
theorem rPresent_d {φ ts cd : g_Fo} {t p d : Int32} (h : twoH φ t p = true) (hd : inr d 10 = false) : rPresent φ ts cd t p d = (-6, φ) := by rw [rPresent, if_pos h, hd]; rfl
theorem twoH_u {φ : g_Fo} {p q : Nat} (hh : φ 7 3 ≤ 6) (hp : p < φ 7 3) (hq : q < φ 7 3) (h : p ≠ q) : twoH φ (nI p) (nI q) = true := by
  have e1 : nI p ≠ nI q := fun e => h (nI_inj (by omega) (by omega) e)
  simp [twoH, inr_lt_t (show φ 7 3 < 2147483648 by omega) hp, inr_lt_t (show φ 7 3 < 2147483648 by omega) hq, e1]
theorem rPresent_u {φ ts cd : g_Fo} {t p d : Nat} (hh : φ 7 3 ≤ 6) (ht : t < φ 7 3) (hp : p < φ 7 3) (h1 : t ≠ p) (hd : d < 10) : rPresent φ ts cd (nI t) (nI p) (nI d) = if prn φ ts cd t p d then (nI (rewN (prf φ t p d) ts cd t), gnf (prf φ t p d) ts cd t) else (-3, φ) := by
  rw [rPresent, if_pos (twoH_u hh ht hp h1), if_pos (inr_lt_t (by decide) hd), nI_clamp (by omega), nI_clamp (by omega), nI_clamp (by omega)]
theorem FI_prf {φ : g_Fo} (h : FI φ) {t p d : Nat} (ht : t < 6) (hp : p < 6) (hd : d < 10) : FI (prf φ t p d) := FI_setby (FI_setca h (or_lt10 d hd _ (FI_ca h hp))) (by omega)
theorem xor_or10 : ∀ d, d < 10 → ∀ n, n < 1024 → n.testBit d = false → n ^^^ 2 ^ d = n ||| 2 ^ d := by decide +kernel
theorem xor_lt10 : ∀ d, d < 10 → ∀ n, n < 1024 → n ^^^ 2 ^ d < 1024 := by decide +kernel
