theorem inb_r {v : Int32} {l h : Nat} (hh : h < 2147483648) (hl : l ≤ h) (q : inb v (nI l) (nI h) = true) : ∃ j, l ≤ j ∧ j ≤ h ∧ v = nI j := by
  have q2 : nI l ≤ v ∧ v ≤ nI h := of_decide_eq_true q
  have h0 : ¬ v < 0 := fun z => nI_lt0 (by omega) (Int32.lt_of_le_of_lt q2.1 z)
  obtain ⟨j, hj, rfl⟩ := nI_of h0
  refine ⟨j, ?_, ?_, rfl⟩
  · rcases Nat.lt_or_ge j l with z | z
    · exact absurd (nI_lt z (by omega)) (Int32.not_lt.mpr q2.1)
    · exact z
  · rcases Nat.lt_or_ge h j with z | z
    · exact absurd (nI_lt z hj) (Int32.not_lt.mpr q2.2)
    · exact z
theorem cir_H {φ ts cd : Nat → Nat → Nat} {p n : Nat} : ∀ m, cir φ ts cd p n (φ 7 3 + m) = cir φ ts cd p n (φ 7 3)
  | 0 => rfl
  | m + 1 => by
    rw [← Nat.add_assoc, cir, if_neg (fun z => by have := z.1; rw [fx, if_neg (by omega)] at this; omega), Nat.or_zero, cir_H m]
theorem cir_6 {φ ts cd : Nat → Nat → Nat} {p n : Nat} (h : φ 7 3 ≤ 6) : cir φ ts cd p n 6 = cir φ ts cd p n (φ 7 3) := by
  have := cir_H (φ := φ) (ts := ts) (cd := cd) (p := p) (n := n) (6 - φ 7 3)
  rw [show φ 7 3 + (6 - φ 7 3) = 6 by omega] at this; exact this
theorem cir_iff {φ ts cd : Nat → Nat → Nat} {p n q : Nat} (hq : q < φ 7 3) (hn : n ≤ 6) : fr φ ts cd p 6 q ≤ n ↔ (0 < fx φ ts cd p 6 q ∧ fx φ ts cd p 6 q ≤ n) := by
  rw [fx_dst hq, fr]
  by_cases e : dst φ ts cd p 6 q = 0
  · rw [if_neg (fun z => z.2 e), e]; omega
  · rw [if_pos ⟨hq, e⟩]; omega
/-- the answers of circle, way -/
def oCircle (φ ts cd : Nat → Nat → Nat) (p n : Int32) : Int32 := if inr p (φ 7 3) = false then -5 else if inb n (nI 1) (nI 6) = false then -7 else nI (cir φ ts cd p.toNatClampNeg n.toNatClampNeg 6)
def oWay (φ ts cd : Nat → Nat → Nat) (p d v : Int32) : Int32 := if inr p (φ 7 3) = false then -5 else if inr d 10 = false ∨ inb v (nI 0) (nI 2) = false then -7 else if (φ 5 p.toNatClampNeg).testBit d.toNatClampNeg = true then (if v = nI 2 then -1 else nI 0) else if spo φ ts cd p.toNatClampNeg d.toNatClampNeg = -1 ∨ v = nI 2 then spo φ ts cd p.toNatClampNeg d.toNatClampNeg else if v = nI 0 then nI (dst φ ts cd p.toNatClampNeg 6 (spo φ ts cd p.toNatClampNeg d.toNatClampNeg).toNatClampNeg) else nI (pth φ ts cd p.toNatClampNeg (dst φ ts cd p.toNatClampNeg 6 (spo φ ts cd p.toNatClampNeg d.toNatClampNeg).toNatClampNeg) (spo φ ts cd p.toNatClampNeg d.toNatClampNeg).toNatClampNeg 1)
theorem spo_n {φ ts cd : Nat → Nat → Nat} {p d : Nat} (h : ¬ spo φ ts cd p d = -1) : ∃ u k, u < φ 7 3 ∧ spo φ ts cd p d = nI u ∧ dst φ ts cd p 6 u = k + 1 := by
  rw [spo] at h ⊢
  split at h
  · next q =>
    have h1 := spi_n h
    have h2 := spb_ok h1.1
    exact ⟨spb φ ts cd p d (φ 7 3) - 1, dst φ ts cd p 6 (spb φ ts cd p d (φ 7 3) - 1) - 1, h2.1, by rw [if_pos q]; exact h1.2, by have := h2.2.1; omega⟩
  · exact absurd rfl h
section OWAY
variable {φ ts cd : Nat → Nat → Nat} {p d v : Nat}
theorem oWay_p {vp vd vv : Int32} (h : inr vp (φ 7 3) = false) : oWay φ ts cd vp vd vv = -5 := if_pos h
theorem oWay_d {vd vv : Int32} (hp : p < φ 7 3) (hh : φ 7 3 ≤ 6) (h : inr vd 10 = false ∨ inb vv (nI 0) (nI 2) = false) : oWay φ ts cd (nI p) vd vv = -7 := by
  rw [oWay, if_neg (by rw [inr_nI (by omega)]; simp [hp]), if_pos h]
theorem inb_nI {l h v : Nat} (h1 : l ≤ v) (h2 : v ≤ h) (h3 : h < 2147483648) : inb (nI v) (nI l) (nI h) = true := by
  refine decide_eq_true ⟨?_, ?_⟩
  · rcases Nat.lt_or_ge l v with z | z
    · exact Int32.le_of_lt (nI_lt z (by omega))
    · rw [show l = v by omega]; exact Int32.le_refl _
  · rcases Nat.lt_or_ge v h with z | z
    · exact Int32.le_of_lt (nI_lt z (by omega))
    · rw [show h = v by omega]; exact Int32.le_refl _
theorem oWay_u (hp : p < φ 7 3) (hh : φ 7 3 ≤ 6) (hd : d < 10) (hv : v ≤ 2) : oWay φ ts cd (nI p) (nI d) (nI v) = if (φ 5 p).testBit d = true then (if v = 2 then -1 else nI 0) else if spo φ ts cd p d = -1 ∨ v = 2 then spo φ ts cd p d else if v = 0 then nI (dst φ ts cd p 6 (spo φ ts cd p d).toNatClampNeg) else nI (pth φ ts cd p (dst φ ts cd p 6 (spo φ ts cd p d).toNatClampNeg) (spo φ ts cd p d).toNatClampNeg 1) := by
  rw [oWay, if_neg (by rw [inr_nI (by omega)]; simp [hp]), if_neg (by rw [inr_nI (by omega), inb_nI (by omega) hv (by decide)]; simp [hd]), nI_clamp (by omega), nI_clamp (by omega)]
  simp only [nI_eq (show v < 2147483648 by omega) (show 2 < 2147483648 by decide), nI_eq (show v < 2147483648 by omega) (show 0 < 2147483648 by decide)]
end OWAY
theorem bshl0 : ∀ q, q < 31 → bI false <<< (nI q &&& 31) = nI 0 := by decide +kernel
theorem bshl1 : ∀ q, q < 31 → bI true <<< (nI q &&& 31) = nI (2 ^ q) := by decide +kernel
theorem bshl {b : Bool} {q : Nat} (h : q < 31) : bI b <<< (nI q &&& 31) = nI (if b = true then 2 ^ q else 0) := by
  cases b
  · exact bshl0 q h
  · exact bshl1 q h
/-- who has a deer on the cards, in bits -/
def hol (φ : Nat → Nat → Nat) (d : Nat) : Nat → Nat
  | 0 => 0
  | q + 1 => hol φ d q ||| (if (φ 5 q).testBit d = true then 2 ^ q else 0)
def oHits (φ ts cd : Nat → Nat → Nat) (p d : Int32) : Int32 := if inr p (φ 7 3) = false ∨ inr d 10 = false then -1000 else hitv φ ts cd p.toNatClampNeg d.toNatClampNeg
def oAims (φ ts cd : Nat → Nat → Nat) (p d : Int32) : Int32 := if inr p (φ 7 3) = false then -5 else if inr d 10 = false then -6 else nI (aim φ ts cd p.toNatClampNeg d.toNatClampNeg)
def oForce (φ : Nat → Nat → Nat) (nt : Nat) (v : Int32) : Int32 := if inr v nt = false then -2 else nI (φ 7 2)
def sForce (φ : Nat → Nat → Nat) (nt : Nat) (v : Int32) : Nat → Nat → Nat := if inr v nt = false then φ else fu φ 7 2 v.toNatClampNeg
theorem oHits_u {φ ts cd : Nat → Nat → Nat} {p d : Nat} (hh : φ 7 3 ≤ 6) (hp : p < φ 7 3) (hd : d < 10) : oHits φ ts cd (nI p) (nI d) = hitv φ ts cd p d := by
  rw [oHits, if_neg (by rw [inr_nI (by omega), inr_nI (by omega)]; simp [hp, hd]), nI_clamp (by omega), nI_clamp (by omega)]
theorem oAims_u {φ ts cd : Nat → Nat → Nat} {p d : Nat} (hh : φ 7 3 ≤ 6) (hp : p < φ 7 3) (hd : d < 10) : oAims φ ts cd (nI p) (nI d) = nI (aim φ ts cd p d) := by
  rw [oAims, if_neg (by rw [inr_nI (by omega)]; simp [hp]), if_neg (by rw [inr_nI (by omega)]; simp [hd]), nI_clamp (by omega), nI_clamp (by omega)]
def s50_12 (k j : Nat) : Bool := decide (k = 50) && decide (j = 12)
def s1_3 (k j : Nat) : Bool := decide (k = 1) && decide (j = 3)
/-- why one can't shoot at one; 0: one can -/
def srf (φ : Nat → Nat → Nat) (p d : Int32) : Int32 := if inr p (φ 7 3) = false then -5 else if inr d 10 = false then -6 else nI 0
theorem srf_0 {φ : Nat → Nat → Nat} {p d : Int32} (hh : φ 7 3 ≤ 6) (h : srf φ p d = 0) : ∃ i j, i < φ 7 3 ∧ j < 10 ∧ p = nI i ∧ d = nI j := by
  rw [srf] at h
  split at h
  · exact absurd h (by decide)
  · next h1 =>
    split at h
    · exact absurd h (by decide)
    · next h2 =>
      obtain ⟨i, hi, rfl⟩ := inr_t (by simpa using h1) (by omega)
      obtain ⟨j, hj, rfl⟩ := inr_t (by simpa using h2) (by decide)
      exact ⟨i, j, hi, hj, rfl, rfl⟩
theorem oAims_r {φ ts cd : Nat → Nat → Nat} {p d : Int32} (h : ¬ srf φ p d = 0) : oAims φ ts cd p d = srf φ p d := by
  rw [srf] at h ⊢
  rw [oAims]
  split
  · rfl
  · split
    · rfl
    · next h1 h2 => rw [if_neg h1, if_neg h2] at h; exact absurd nI_0 h
def sShoot (φ ts cd : Nat → Nat → Nat) (p d : Int32) : Nat → Nat → Nat := if srf φ p d = 0 then shot φ ts cd p.toNatClampNeg d.toNatClampNeg else φ
theorem srf_u {φ : Nat → Nat → Nat} {p d : Nat} (hh : φ 7 3 ≤ 6) (hp : p < φ 7 3) (hd : d < 10) : srf φ (nI p) (nI d) = 0 := by
  rw [srf, if_neg (by rw [inr_nI (by omega)]; simp [hp]), if_neg (by rw [inr_nI (by omega)]; simp [hd]), nI_0]
theorem sShoot_u {φ ts cd : Nat → Nat → Nat} {p d : Nat} (hh : φ 7 3 ≤ 6) (hp : p < φ 7 3) (hd : d < 10) : sShoot φ ts cd (nI p) (nI d) = shot φ ts cd p d := by
  rw [sShoot, if_pos (srf_u hh hp hd), nI_clamp (by omega), nI_clamp (by omega)]
theorem sShoot_n {φ ts cd : Nat → Nat → Nat} {p d : Int32} (h : ¬ srf φ p d = 0) : sShoot φ ts cd p d = φ := if_neg h
theorem sShoot_p {φ ts cd : Nat → Nat → Nat} {p d : Int32} (h : inr p (φ 7 3) = false) : sShoot φ ts cd p d = φ := sShoot_n (by rw [srf, if_pos h]; decide)
theorem sShoot_d {φ ts cd : Nat → Nat → Nat} {p : Nat} {d : Int32} (hh : φ 7 3 ≤ 6) (hp : p < φ 7 3) (h : inr d 10 = false) : sShoot φ ts cd (nI p) d = φ := sShoot_n (by
  have e : inr (nI p) (φ 7 3) = true := by rw [inr_nI (by omega)]; simp [hp]
  rw [srf, if_neg (by rw [e]; decide), if_pos h]; decide)
/-- two of the hunters -/
def twoH (φ : Nat → Nat → Nat) (p q : Int32) : Bool := inr p (φ 7 3) && inr q (φ 7 3) && !(decide (p = q))
def oFriends (φ : Nat → Nat → Nat) (p q v : Int32) : Int32 := if twoH φ p q = false then -5 else if inb v (nI 0) (nI 1) = false then -7 else bI ((φ 4 p.toNatClampNeg).testBit q.toNatClampNeg)
def sFriends (φ : Nat → Nat → Nat) (p q v : Int32) : Nat → Nat → Nat := if twoH φ p q = true ∧ inb v (nI 0) (nI 1) = true then (if v = nI 0 then mee0 φ p.toNatClampNeg q.toNatClampNeg else mee1 φ p.toNatClampNeg q.toNatClampNeg) else φ
theorem twoH_t {φ : Nat → Nat → Nat} {p q : Int32} (hh : φ 7 3 ≤ 6) (h : twoH φ p q = true) : ∃ i j, i < φ 7 3 ∧ j < φ 7 3 ∧ i ≠ j ∧ p = nI i ∧ q = nI j := by
  simp only [twoH, Bool.and_eq_true] at h
  obtain ⟨i, hi, rfl⟩ := inr_t h.1.1 (by omega)
  obtain ⟨j, hj, rfl⟩ := inr_t h.1.2 (by omega)
  exact ⟨i, j, hi, hj, fun e => by subst e; have := h.2; simp at this, rfl, rfl⟩
theorem oFr_n {φ : Nat → Nat → Nat} {p q v : Int32} (h : twoH φ p q = false) : oFriends φ p q v = -5 ∧ sFriends φ p q v = φ := ⟨if_pos h, if_neg (fun z => by rw [h] at z; exact absurd z.1 (by decide))⟩
theorem oFr_v {φ : Nat → Nat → Nat} {p q v : Int32} (h : twoH φ p q = true) (h2 : inb v (nI 0) (nI 1) = false) : oFriends φ p q v = -7 ∧ sFriends φ p q v = φ := ⟨by rw [oFriends, if_neg (by rw [h]; decide), if_pos h2], if_neg (fun z => by rw [h2] at z; exact absurd z.2 (by decide))⟩
theorem oFr_u {φ : Nat → Nat → Nat} {p q v : Nat} (hh : φ 7 3 ≤ 6) (hp : p < φ 7 3) (hq : q < φ 7 3) (h : twoH φ (nI p) (nI q) = true) (hv : v ≤ 1) : oFriends φ (nI p) (nI q) (nI v) = bI ((φ 4 p).testBit q) ∧ sFriends φ (nI p) (nI q) (nI v) = if v = 0 then mee0 φ p q else mee1 φ p q := by
  have e := inb_nI (l := 0) (h := 1) (v := v) (Nat.zero_le _) hv (by decide)
  refine ⟨by rw [oFriends, if_neg (by rw [h]; decide), if_neg (by rw [e]; decide), nI_clamp (by omega), nI_clamp (by omega)], ?_⟩
  rw [sFriends, if_pos ⟨h, e⟩, nI_clamp (by omega), nI_clamp (by omega)]
  simp only [nI_eq (show v < 2147483648 by omega) (show 0 < 2147483648 by decide)]
theorem sw3 (v : Int32) : v = nI 0 ∨ v = nI 1 ∨ v = nI 2 ∨ (v.toInt < 0 ∨ 2 < v.toInt) := by
  by_cases h : v.toInt < 0 ∨ 2 < v.toInt
  · exact Or.inr (Or.inr (Or.inr h))
  · have e : v = Int32.ofInt v.toInt := (Int32.ofInt_toInt v).symm
    rcases (by omega : v.toInt = 0 ∨ v.toInt = 1 ∨ v.toInt = 2) with q | q | q
    · rw [q] at e; exact Or.inl (e.trans (by decide))
    · rw [q] at e; exact Or.inr (Or.inl (e.trans (by decide)))
    · rw [q] at e; exact Or.inr (Or.inr (Or.inl (e.trans (by decide))))
def oDeer (φ : Nat → Nat → Nat) (d v : Int32) : Int32 := if inr d 10 = false then -5 else if v = nI 0 then nI (φ 0 d.toNatClampNeg) else if v = nI 1 then bI ((φ 7 0).testBit d.toNatClampNeg) else if v = nI 2 then nI (hol φ d.toNatClampNeg (φ 7 3)) else -7
theorem oDeer_u {φ : Nat → Nat → Nat} {d : Nat} (h : d < 10) (v : Int32) : oDeer φ (nI d) v = if v = nI 0 then nI (φ 0 d) else if v = nI 1 then bI ((φ 7 0).testBit d) else if v = nI 2 then nI (hol φ d (φ 7 3)) else -7 := by
  rw [oDeer, if_neg (by rw [inr_nI (by omega)]; simp [h]), nI_clamp (by omega)]
theorem oDeer_0 {φ : Nat → Nat → Nat} {d : Nat} (h : d < 10) : oDeer φ (nI d) (nI 0) = nI (φ 0 d) := by rw [oDeer_u h, if_pos rfl]
theorem oDeer_1 {φ : Nat → Nat → Nat} {d : Nat} (h : d < 10) : oDeer φ (nI d) (nI 1) = bI ((φ 7 0).testBit d) := by rw [oDeer_u h, if_neg (by decide), if_pos rfl]
theorem oDeer_2 {φ : Nat → Nat → Nat} {d : Nat} (h : d < 10) : oDeer φ (nI d) (nI 2) = nI (hol φ d (φ 7 3)) := by rw [oDeer_u h, if_neg (by decide), if_neg (by decide), if_pos rfl]
theorem oDeer_o {φ : Nat → Nat → Nat} {d : Nat} (h : d < 10) {v : Int32} (ho : v.toInt < 0 ∨ 2 < v.toInt) : oDeer φ (nI d) v = -7 := by
  rw [oDeer_u h, if_neg (fun e => by rw [e] at ho; exact absurd ho (by decide)), if_neg (fun e => by rw [e] at ho; exact absurd ho (by decide)), if_neg (fun e => by rw [e] at ho; exact absurd ho (by decide))]
theorem sw6 (v : Int32) : v = nI 0 ∨ v = nI 1 ∨ v = nI 2 ∨ v = nI 3 ∨ v = nI 4 ∨ v = nI 5 ∨ (v.toInt < 0 ∨ 5 < v.toInt) := by
  by_cases h : v.toInt < 0 ∨ 5 < v.toInt
  · exact Or.inr (Or.inr (Or.inr (Or.inr (Or.inr (Or.inr h)))))
  · have e : v = Int32.ofInt v.toInt := (Int32.ofInt_toInt v).symm
    rcases (by omega : v.toInt = 0 ∨ v.toInt = 1 ∨ v.toInt = 2 ∨ v.toInt = 3 ∨ v.toInt = 4 ∨ v.toInt = 5) with q | q | q | q | q | q
    · rw [q] at e; exact Or.inl (e.trans (by decide))
    · rw [q] at e; exact Or.inr (Or.inl (e.trans (by decide)))
    · rw [q] at e; exact Or.inr (Or.inr (Or.inl (e.trans (by decide))))
    · rw [q] at e; exact Or.inr (Or.inr (Or.inr (Or.inl (e.trans (by decide)))))
    · rw [q] at e; exact Or.inr (Or.inr (Or.inr (Or.inr (Or.inl (e.trans (by decide))))))
    · rw [q] at e; exact Or.inr (Or.inr (Or.inr (Or.inr (Or.inr (Or.inl (e.trans (by decide)))))))
def oCount (φ : Nat → Nat → Nat) (nt nb : Nat) (v : Int32) : Int32 := if v = nI 0 then nI (φ 7 3) else if v = nI 1 then nI (pops (φ 7 0) 10) else if v = nI 2 then nI (φ 7 1) else if v = nI 3 then nI nt else if v = nI 4 then nI (φ 7 2) else if v = nI 5 then nI nb else -2
theorem oCount_o {φ : Nat → Nat → Nat} {nt nb : Nat} {v : Int32} (ho : v.toInt < 0 ∨ 5 < v.toInt) : oCount φ nt nb v = -2 := by
  rw [oCount, if_neg (fun e => by rw [e] at ho; exact absurd ho (by decide)), if_neg (fun e => by rw [e] at ho; exact absurd ho (by decide)), if_neg (fun e => by rw [e] at ho; exact absurd ho (by decide)), if_neg (fun e => by rw [e] at ho; exact absurd ho (by decide)), if_neg (fun e => by rw [e] at ho; exact absurd ho (by decide)), if_neg (fun e => by rw [e] at ho; exact absurd ho (by decide))]
