/-! the text's two readers, as numbers. Tokens as the class has them: 0 the end, 1 broken, 2 .. 4 keys, 5 or, 6 and, 7 not, 40 .. 61 signs, 100 + v a number, 10100 + c a name; codes as the reference has them -/
def rnk (g : Nat) : Nat := if g = 0 then 0 else if g = 11 then 1 else if g = 12 then 2 else if g = 13 then 3 else if g ≤ 15 then 4 else if g ≤ 17 then 5 else if g = 18 then 6 else 7
def sgc (t : Nat) : Nat := if t = 5 then 11 else if t = 6 then 12 else if t = 60 then 14 else if t = 61 then 15 else if t = 43 then 16 else if t = 45 then 17 else 18
def rkx (t : Nat) : Nat := if t = 5 then 0 else if t = 6 then 1 else if t = 60 ∨ t = 61 then 2 else if t = 43 ∨ t = 45 then 3 else if t = 42 then 4 else 9
def opc (t : Nat) : Nat := if t < 10100 then 100000 + (t - 100) else t - 10100
/-- the class's reader: which token, the fault's place + 1 (0: none), how many codes, which -/
abbrev g_Ps : Type := Nat × Nat × Nat × (Nat → Nat)
def ptk (tq : Nat → Nat) (s : g_Ps) : Nat := if s.2.1 = 0 then tq s.1 else 1
def pav (M : Nat) (s : g_Ps) : g_Ps := (if s.1 < M then s.1 + 1 else s.1, s.2)
def pfl (pl : Nat → Nat) (s : g_Ps) : g_Ps := if s.2.1 = 0 then (s.1, pl s.1 + 1, s.2.2) else s
def pem (v : Nat) (s : g_Ps) : g_Ps := if s.2.2.1 < 160 then (s.1, s.2.1, s.2.2.1 + 1, va_up s.2.2.2 s.2.2.1 v) else s
def pex (tq pl : Nat → Nat) (M t : Nat) (s : g_Ps) : g_Ps := if ptk tq s = t then pav M s else pfl pl s
def plp (tq : Nat → Nat) (M : Nat) (g : g_Ps → g_Ps) (r : Nat) : Nat → g_Ps → g_Ps
  | 0, s => s
  | n + 1, s => if rkx (ptk tq s) = r then plp tq M g r n (pem (sgc (ptk tq s)) (g (pav M s))) else s
def jn (tq pl : Nat → Nat) (M : Nat) : Nat → Nat → Nat → g_Ps → g_Ps
  | 0, _, _, s => s
  | d + 1, r, o, s =>
    if r ≤ 4 then
      (if r = 2 ∧ ptk tq s = 7 then (if 5 ≤ o then pfl pl s else pem 13 (jn tq pl M d 2 (o + 1) (pav M s)))
      else plp tq M (jn tq pl M d (r + 1) o) r (if r = 2 then 1 else 160) (jn tq pl M d (r + 1) o s))
    else if 100 ≤ ptk tq s then pav M (pem (opc (ptk tq s)) s)
    else if ptk tq s = 45 then (if 5 ≤ o then pfl pl s else pem 19 (jn tq pl M d 5 (o + 1) (pav M s)))
    else if ptk tq s = 40 then (if 5 ≤ o then pfl pl s else pex tq pl M 41 (jn tq pl M d 0 (o + 1) (pav M s)))
    else pfl pl s
/-- the reference's reader: what is held (the last first), how many codes, which -/
abbrev g_Mc : Type := List Nat × Nat × (Nat → Nat)
def unw (l : Nat) : List Nat → Nat → (Nat → Nat) → g_Mc
  | [], n, c => ([], n, c)
  | x :: H, n, c => if l ≤ rnk x then unw l H (n + 1) (va_up c n x) else (x :: H, n, c)
def unwC (l : Nat) (C : g_Mc) : g_Mc := unw l C.1 C.2.1 C.2.2
def cnt : List Nat → Nat
  | [] => 0
  | x :: H => cnt H + (if x = 0 ∨ x = 13 ∨ x = 19 then 1 else 0)
def topL : List Nat → Nat
  | [] => 0
  | x :: _ => rnk x
/-- mode 0: wants a sign; 1: wants an operand; 2: wants an operand or not -/
def eR (tq : Nat → Nat) : Nat → Nat → Nat → g_Mc → Bool × Nat × Nat × (Nat → Nat)
  | 0, _, k, C => (false, k, C.2)
  | fu + 1, m, k, C =>
    if m = 0 then
      (if tq k = 59 then ((unwC 1 C).1.isEmpty, k, (unwC 1 C).2)
      else if tq k = 41 then (if (unwC 1 C).1 = [] then (false, k, (unwC 1 C).2) else eR tq fu 0 (k + 1) (unw 7 (unwC 1 C).1.tail (unwC 1 C).2.1 (unwC 1 C).2.2))
      else if rkx (tq k) = 9 then (false, k, C.2)
      else if rnk (sgc (tq k)) = 4 ∧ topL (unwC (if rnk (sgc (tq k)) = 4 then 5 else rnk (sgc (tq k))) C).1 = 4 then (false, k, (unwC (if rnk (sgc (tq k)) = 4 then 5 else rnk (sgc (tq k))) C).2)
      else eR tq fu (if sgc (tq k) ≤ 12 then 2 else 1) (k + 1) (sgc (tq k) :: (unwC (if rnk (sgc (tq k)) = 4 then 5 else rnk (sgc (tq k))) C).1, (unwC (if rnk (sgc (tq k)) = 4 then 5 else rnk (sgc (tq k))) C).2))
    else if 100 ≤ tq k then eR tq fu 0 (k + 1) (unw 7 C.1 (C.2.1 + 1) (va_up C.2.2 C.2.1 (opc (tq k))))
    else if tq k = 7 ∧ m = 2 then (if cnt C.1 = 5 then (false, k, C.2) else eR tq fu 2 (k + 1) (13 :: C.1, C.2))
    else if tq k = 45 then (if cnt C.1 = 5 then (false, k, C.2) else eR tq fu 1 (k + 1) (19 :: C.1, C.2))
    else if tq k = 40 then (if cnt C.1 = 5 then (false, k, C.2) else eR tq fu 2 (k + 1) (0 :: C.1, C.2))
    else (false, k, C.2)
-- unwinding
theorem unw_top {l : Nat} {H : List Nat} {n : Nat} {c : Nat → Nat} (h : topL H < l ∨ H = []) : unw l H n c = (H, n, c) := by
  cases H with
  | nil => rfl
  | cons x H =>
    rcases h with h | h
    · rw [unw, if_neg (by simp only [topL] at h; omega)]
    · cases h
theorem unw_unw {l m : Nat} (h : l ≤ m) : ∀ (H : List Nat) (n : Nat) (c : Nat → Nat), unwC l (unw m H n c) = unw l H n c
  | [], _, _ => rfl
  | x :: H, n, c => by
    rw [unw]
    by_cases h1 : m ≤ rnk x
    · rw [if_pos h1, unw_unw h H, unw, if_pos (by omega)]
    · rw [if_neg h1]; rfl
theorem unw_push {l x : Nat} {H : List Nat} {n : Nat} {c : Nat → Nat} (h : l ≤ rnk x) : unwC l (x :: H, n, c) = unwC l (H, n + 1, va_up c n x) := by
  show unw l (x :: H) n c = _
  rw [unw, if_pos h]; rfl
-- how deep codes lie
def wdp (c : Nat → Nat) (f n D : Nat) : Prop := (∀ i, f ≤ i → i < n → okc (c i) (dpn c f (i - f))) ∧ dpn c f (n - f) = D
theorem dpn_cong {c c' : Nat → Nat} {f : Nat} : ∀ {k : Nat}, (∀ i, i < f + k → c' i = c i) → dpn c' f k = dpn c f k
  | 0, _ => rfl
  | k + 1, h => by rw [dpn, dpn, dpn_cong (fun i hi => h i (by omega)), h (f + k) (by omega)]
theorem wdp_em {c : Nat → Nat} {f n D v : Nat} (hf : f ≤ n) (h : wdp c f n D) (hv : okc v D) : wdp (va_up c n v) f (n + 1) (dp1 v D) := by
  have e : ∀ i, i < n → va_up c n v i = c i := fun i hi => va_up_n _ _ (by omega)
  refine ⟨fun i h1 h2 => ?_, ?_⟩
  · rw [dpn_cong (fun j hj => e j (by omega))]
    by_cases e2 : i = n
    · subst e2
      rw [va_up_s, h.2]; exact hv
    · rw [e i (by omega)]; exact h.1 i h1 (by omega)
  · rw [show n + 1 - f = (n - f) + 1 by omega, dpn, dpn_cong (fun j hj => e j (by omega)), h.2, show f + (n - f) = n by omega, va_up_s]
def cfa (n : Nat) (c : Nat → Nat) (n' : Nat) (c' : Nat → Nat) : Prop := (∀ i, i < n → c' i = c i) ∧ n ≤ n' ∧ ∀ f D, f ≤ n → wdp c f n D → wdp c' f n' (D + 1)
section PARSE
variable {tq pl : Nat → Nat} {M : Nat}
def pR (r : Nat) : Nat := if r = 0 then 1 else if r = 1 then 2 else if r = 2 then 3 else if r = 3 then 5 else if r = 4 then 6 else 7
def pPre (r : Nat) (H : List Nat) : Prop := r = 5 ∨ (r = 2 ∧ topL H ≤ 3) ∨ (r < 5 ∧ r ≠ 2 ∧ topL H < pR r)
def mdr (r : Nat) : Nat := if r ≤ 2 then 2 else 1
def pOk (tq : Nat → Nat) (r : Nat) (H : List Nat) (s : g_Ps) (C : g_Mc) : Prop := (∀ l, l ≤ pR r → unwC l C = unwC l (H, s.2.2)) ∧ (rkx (tq s.1) ≠ 9 → rkx (tq s.1) < r ∨ (r ≤ 2 ∧ rkx (tq s.1) = 2 ∧ topL (unwC 5 C).1 = 4))
def JY (tq : Nat → Nat) (M r : Nat) (H : List Nat) (k n : Nat) (c : Nat → Nat) (s : g_Ps) : Prop := s.2.1 = 0 ∧ ∃ C : g_Mc, pOk tq r H s C ∧ k < s.1 ∧ s.1 ≤ M ∧ s.2.2.1 + k ≤ s.1 + n ∧ cfa n c s.2.2.1 s.2.2.2 ∧ ∀ fu, eR tq (fu + (s.1 - k)) (mdr r) k (H, n, c) = eR tq fu 0 s.1 C
def JN (tq pl : Nat → Nat) (M r : Nat) (H : List Nat) (k n : Nat) (c : Nat → Nat) (s : g_Ps) : Prop := ∃ kf, k ≤ kf ∧ kf ≤ M ∧ s.2.1 = pl kf + 1 ∧ ∀ fu, ∃ z, eR tq (fu + (kf - k) + 1) (mdr r) k (H, n, c) = (false, kf, z)
def JJ (tq pl : Nat → Nat) (M d r o : Nat) : Prop := ∀ (H : List Nat) (k n : Nat) (c : Nat → Nat), cnt H = o → pPre r H → k ≤ M → n ≤ k → 1 ≤ k → JY tq M r H k n c (jn tq pl M d r o (k, 0, n, c)) ∨ JN tq pl M r H k n c (jn tq pl M d r o (k, 0, n, c))
-- the machine's steps
theorem eR_op {fu m k : Nat} {C : g_Mc} (hm : m ≠ 0) (h : 100 ≤ tq k) : eR tq (fu + 1) m k C = eR tq fu 0 (k + 1) (unw 7 C.1 (C.2.1 + 1) (va_up C.2.2 C.2.1 (opc (tq k)))) := by rw [eR, if_neg hm, if_pos h]
theorem eR_not {fu k : Nat} {C : g_Mc} (h : tq k = 7) : eR tq (fu + 1) 2 k C = if cnt C.1 = 5 then (false, k, C.2) else eR tq fu 2 (k + 1) (13 :: C.1, C.2) := by rw [eR, if_neg (by decide), if_neg (by omega), if_pos ⟨h, rfl⟩]
theorem eR_neg {fu m k : Nat} {C : g_Mc} (hm : m ≠ 0) (h : tq k = 45) : eR tq (fu + 1) m k C = if cnt C.1 = 5 then (false, k, C.2) else eR tq fu 1 (k + 1) (19 :: C.1, C.2) := by rw [eR, if_neg hm, if_neg (by omega), if_neg (by omega), if_pos h]
theorem eR_par {fu m k : Nat} {C : g_Mc} (hm : m ≠ 0) (h : tq k = 40) : eR tq (fu + 1) m k C = if cnt C.1 = 5 then (false, k, C.2) else eR tq fu 2 (k + 1) (0 :: C.1, C.2) := by rw [eR, if_neg hm, if_neg (by omega), if_neg (by omega), if_neg (by omega), if_pos h]
theorem eR_bad {fu m k : Nat} {C : g_Mc} (hm : m ≠ 0) (h1 : ¬ 100 ≤ tq k) (h2 : ¬ (tq k = 7 ∧ m = 2)) (h3 : ¬ tq k = 45) (h4 : ¬ tq k = 40) : eR tq (fu + 1) m k C = (false, k, C.2) := by rw [eR, if_neg hm, if_neg h1, if_neg h2, if_neg h3, if_neg h4]
theorem eR_21 {fu k : Nat} {C : g_Mc} (h : tq k ≠ 7) : eR tq fu 2 k C = eR tq fu 1 k C := by
  cases fu with
  | zero => rfl
  | succ fu => simp only [eR, h, false_and, if_false, show ¬ (2 : Nat) = 0 by decide, show ¬ (1 : Nat) = 0 by decide]
theorem eR_cl {fu k : Nat} {C : g_Mc} (h : tq k = 41) : eR tq (fu + 1) 0 k C = if (unwC 1 C).1 = [] then (false, k, (unwC 1 C).2) else eR tq fu 0 (k + 1) (unw 7 (unwC 1 C).1.tail (unwC 1 C).2.1 (unwC 1 C).2.2) := by rw [eR, if_pos rfl, if_neg (by omega), if_pos h]
theorem eR_sc {fu k : Nat} {C : g_Mc} (h : tq k = 59) : eR tq (fu + 1) 0 k C = ((unwC 1 C).1.isEmpty, k, (unwC 1 C).2) := by rw [eR, if_pos rfl, if_pos h]
theorem eR_sg {fu k r : Nat} {C : g_Mc} (h : rkx (tq k) = r) (hr : r ≠ 9) : eR tq (fu + 1) 0 k C = if rnk (sgc (tq k)) = 4 ∧ topL (unwC (if rnk (sgc (tq k)) = 4 then 5 else rnk (sgc (tq k))) C).1 = 4 then (false, k, (unwC (if rnk (sgc (tq k)) = 4 then 5 else rnk (sgc (tq k))) C).2)
      else eR tq fu (if sgc (tq k) ≤ 12 then 2 else 1) (k + 1) (sgc (tq k) :: (unwC (if rnk (sgc (tq k)) = 4 then 5 else rnk (sgc (tq k))) C).1, (unwC (if rnk (sgc (tq k)) = 4 then 5 else rnk (sgc (tq k))) C).2) := by
  have h1 : tq k ≠ 59 := fun e => by rw [e] at h; exact hr (h.symm.trans (by decide))
  have h2 : tq k ≠ 41 := fun e => by rw [e] at h; exact hr (h.symm.trans (by decide))
  rw [eR, if_pos rfl, if_neg h1, if_neg h2, if_neg (by rw [h]; exact hr)]
theorem eR_no {fu k : Nat} {C : g_Mc} (h1 : tq k ≠ 59) (h2 : tq k ≠ 41) (h : rkx (tq k) = 9) : eR tq (fu + 1) 0 k C = (false, k, C.2) := by rw [eR, if_pos rfl, if_neg h1, if_neg h2, if_pos h]
-- signs and their ranks
theorem rkx_c {t : Nat} (h : rkx t ≠ 9) : t = 5 ∨ t = 6 ∨ t = 60 ∨ t = 61 ∨ t = 43 ∨ t = 45 ∨ t = 42 := by
  rcases Nat.decEq t 5 with h1 | h1
  · rcases Nat.decEq t 6 with h2 | h2
    · by_cases h3 : t = 60 ∨ t = 61
      · omega
      · by_cases h4 : t = 43 ∨ t = 45
        · omega
        · by_cases h5 : t = 42
          · omega
          · exact absurd (by rw [rkx, if_neg h1, if_neg h2, if_neg h3, if_neg h4, if_neg h5]) h
    · omega
  · omega
theorem sg_f {t r : Nat} (h : rkx t = r) (hr : r ≠ 9) : r ≤ 4 ∧ t < 100 ∧ t ≠ 0 ∧ (11 ≤ sgc t ∧ sgc t ≤ 18 ∧ sgc t ≠ 13) ∧ (if r = 2 then rnk (sgc t) = 4 else rnk (sgc t) = pR r) ∧ (sgc t ≤ 12 ↔ r ≤ 1) := by
  subst h
  rcases rkx_c hr with rfl | rfl | rfl | rfl | rfl | rfl | rfl <;> decide
theorem okc_sg {g D : Nat} (h : 11 ≤ g ∧ g ≤ 18 ∧ g ≠ 13) (hD : 2 ≤ D) : okc g D ∧ dp1 g D = D - 1 := by
  refine ⟨⟨fun z => by omega, fun z => by omega, fun _ => ⟨hD, by omega⟩, by omega⟩, ?_⟩
  rw [dp1, if_neg (by omega), if_neg (by omega)]
theorem okc_un {g D : Nat} (h : g = 13 ∨ g = 19) (hD : 1 ≤ D) : okc g D ∧ dp1 g D = D := by
  refine ⟨⟨fun z => by omega, fun _ => hD, fun z => by omega, by omega⟩, ?_⟩
  rw [dp1, if_neg (by omega), if_pos h]
theorem okc_op {t D : Nat} (h : 100 ≤ t) (h2 : t < 10106) : okc (opc t) D ∧ dp1 (opc t) D = D + 1 := by
  by_cases e : t < 10100
  · rw [opc, if_pos e]
    refine ⟨⟨fun z => by omega, fun z => by omega, fun z => by omega, by omega⟩, ?_⟩
    rw [dp1, if_pos (Or.inr (by omega))]
  · rw [opc, if_neg e]
    refine ⟨⟨fun z => by omega, fun z => by omega, fun z => by omega, by omega⟩, ?_⟩
    rw [dp1, if_pos (Or.inl (by omega))]
theorem cfa_op {n v : Nat} {c : Nat → Nat} (h : ∀ D, okc v D ∧ dp1 v D = D + 1) : cfa n c (n + 1) (va_up c n v) :=
  ⟨fun i hi => va_up_n _ _ (by omega), by omega, fun f D hf hw => by have := wdp_em hf hw (h D).1; rw [(h D).2] at this; exact this⟩
theorem cfa_un {n n' v : Nat} {c c' : Nat → Nat} (h : cfa n c n' c') (hv : v = 13 ∨ v = 19) : cfa n c (n' + 1) (va_up c' n' v) :=
  ⟨fun i hi => (va_up_n _ _ (by have := h.2.1; omega)).trans (h.1 i hi), by have := h.2.1; omega, fun f D hf hw => by
    have h1 := h.2.2 f D hf hw
    have h2 := okc_un (D := D + 1) hv (by omega)
    have := wdp_em (Nat.le_trans hf h.2.1) h1 h2.1
    rw [h2.2] at this; exact this⟩
theorem cfa_bi {n n1 n2 v : Nat} {c c1 c2 : Nat → Nat} (h : cfa n c n1 c1) (h2 : cfa n1 c1 n2 c2) (hv : 11 ≤ v ∧ v ≤ 18 ∧ v ≠ 13) : cfa n c (n2 + 1) (va_up c2 n2 v) :=
  ⟨fun i hi => (va_up_n _ _ (by have := h.2.1; have := h2.2.1; omega)).trans ((h2.1 i (by have := h.2.1; omega)).trans (h.1 i hi)), by have := h.2.1; have := h2.2.1; omega, fun f D hf hw => by
    have e1 := h.2.2 f D hf hw
    have e2 := h2.2.2 f (D + 1) (Nat.le_trans hf h.2.1) e1
    have e3 := okc_sg (D := D + 1 + 1) hv (by omega)
    have := wdp_em (Nat.le_trans hf (Nat.le_trans h.2.1 h2.2.1)) e2 e3.1
    rw [e3.2] at this; exact this⟩
end PARSE
