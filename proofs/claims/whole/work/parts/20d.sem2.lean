theorem rsk_nm {nm nm' : Nat → Int32} {cd : Nat → Nat} {f : Nat} {s0 : Nat → Int32} (hnm : ∀ i, i < 6 → nm i = nm' i) : ∀ {k : Nat}, (∀ i, i < k → okc (cd (f + i)) (dpn cd f i)) → rsk nm cd f s0 k = rsk nm' cd f s0 k
  | 0, _ => rfl
  | k + 1, hk => by
    have ih := rsk_nm (s0 := s0) hnm (k := k) (fun i hi => hk i (by omega))
    have hok := hk k (Nat.lt_succ_self k)
    rw [rsk, rsk, ih]
    simp only [st1]
    by_cases h1 : cd (f + k) < 11
    · rw [if_pos h1, if_pos h1, hnm _ (hok.1 h1)]
    · rw [if_neg h1, if_neg h1]
theorem rv_nm {nm nm' : Nat → Int32} {cd : Nat → Nat} {f len : Nat} (hnm : ∀ i, i < 6 → nm i = nm' i) (hw : wfc cd f len) : rv nm cd f len = rv nm' cd f len := by rw [rv, rv, rsk_nm hnm hw.1]
/-- what part of the law says of hunter p, the deer's shyness being sy -/
def ask (φ ts cd : Nat → Nat → Nat) (part p sy : Nat) : Int32 := ask3 part (rv (nmf φ p sy) (cd (φ 7 2)) (ts (φ 7 2) part) (ts (φ 7 2) (part + 1) - ts (φ 7 2) part))
def gains (φ ts cd : Nat → Nat → Nat) (p : Nat) : Int32 := if φ 1 p = 1 then ask φ ts cd 0 p 0 + nI (φ 2 p) else if φ 1 p = 3 then nI 2 * (ask φ ts cd 0 p 0 + nI (φ 2 p)) else if φ 1 p = 4 then -(ask φ ts cd 0 p 0) else ask φ ts cd 0 p 0
def hitH (φ ts cd : Nat → Nat → Nat) (p d : Nat) : Int32 := if (φ 5 p).testBit d = true then ask φ ts cd 1 p (φ 0 d) else ask φ ts cd 1 p (φ 0 d) / nI 2
def hitS (φ ts cd : Nat → Nat → Nat) (p d : Nat) : Int32 := if (φ 5 p).testBit d = true then ask φ ts cd 1 p (φ 0 d) + nI (φ 2 p) else nI 0
def hitv (φ ts cd : Nat → Nat → Nat) (p d : Nat) : Int32 := if φ 1 p = 2 then hitS φ ts cd p d else if φ 1 p = 3 then hitH φ ts cd p d / nI 3 else if φ 1 p = 4 then hitS φ ts cd p d + nI 20 else if φ 1 p = 5 then (if (φ 5 p).testBit d = true then nI (φ 2 p) else ask φ ts cd 1 p (φ 0 d)) else hitH φ ts cd p d
def willso (φ ts cd : Nat → Nat → Nat) (p : Nat) : Bool := decide (ask φ ts cd 2 p 0 = nI 1)
def will (φ ts cd : Nat → Nat → Nat) (p : Nat) : Bool := if φ 1 p = 1 ∨ φ 1 p = 3 then true else if φ 1 p = 5 then !(willso φ ts cd p) else if φ 1 p = 0 then willso φ ts cd p else willso φ ts cd p && decide (φ 7 1 % 2 = 0)
def aim (φ ts cd : Nat → Nat → Nat) (p d : Nat) : Nat := if (φ 7 0).testBit d = false then 0 else if hitv φ ts cd p d < nI (φ 0 d) then 1 else if (φ 5 p).testBit d = true then 2 else 3
def clr (n d : Nat) : Nat := n &&& ((2 ^ d) ^^^ 4294967295)
def shot (φ ts cd : Nat → Nat → Nat) (p d : Nat) : Nat → Nat → Nat := if aim φ ts cd p d = 0 then φ else if aim φ ts cd p d = 1 then fu φ 0 d (min 99 (φ 0 d + 5)) else if aim φ ts cd p d = 2 then fu (fu φ 7 0 (clr (φ 7 0) d)) 3 p (min 99 (φ 3 p + (1 + φ 0 d / 10))) else fu (fu φ 7 0 (clr (φ 7 0) d)) 3 p (φ 3 p - 10)
theorem TI_at {nt t : Nat} {ts cd : Nat → Nat → Nat} (h : TI nt ts cd) (ht : t < nt) : ts t 0 ≤ ts t 1 ∧ ts t 1 ≤ ts t 2 ∧ ts t 2 ≤ ts t 3 ∧ ts t 3 ≤ 160 := (h.2.2 t ht).1
theorem TI_q {nt t q : Nat} {ts cd : Nat → Nat → Nat} (h : TI nt ts cd) (ht : t < nt) (hq : q < 3) : ts t q ≤ ts t (q + 1) ∧ ts t (q + 1) ≤ ts t 3 ∧ ts t (q + 1) ≤ 160 := by
  obtain ⟨h1, h2, h3, h4⟩ := TI_at h ht
  rcases (by omega : q = 0 ∨ q = 1 ∨ q = 2) with rfl | rfl | rfl <;> simp only [Nat.zero_add, Nat.reduceAdd] <;> omega
theorem wth_pos {n k : Nat} (hn : n < 2147483648) (hk : k < 2147483648) : wth (nI n) (nI 0) (nI k) = nI (min k n) := by
  rw [wth, if_neg (by rw [nI_0]; exact nI_lt0 hn)]
  by_cases h : k < n
  · rw [if_pos (nI_lt h hn), Nat.min_eq_left (by omega)]
  · rw [if_neg (nI_nlt (by omega) hk), Nat.min_eq_right (by omega)]
theorem wth_m10 {n : Nat} (hn : n ≤ 99) : wth (nI n + (-10)) (nI 0) (nI 99) = nI (n - 10) := by
  have key : ∀ n, n < 100 → wth (nI n + (-10)) (nI 0) (nI 99) = nI (n - 10) := by decide +kernel
  exact key n (by omega)
