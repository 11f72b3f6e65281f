/-! the readers agree on what lies between a key and its end -/
section PARSE2
variable {tq pl : Nat → Nat} {M : Nat}
theorem cnt_s {H : List Nat} {x : Nat} (h : x = 0 ∨ x = 13 ∨ x = 19) : cnt (x :: H) = cnt H + 1 := by rw [cnt, if_pos h]
theorem cnt_n {H : List Nat} {x : Nat} (h : ¬ (x = 0 ∨ x = 13 ∨ x = 19)) : cnt (x :: H) = cnt H := by rw [cnt, if_neg h, Nat.add_zero]
theorem pav_f {k n : Nat} {c : Nat → Nat} (h : k < M) : pav M (k, 0, n, c) = (k + 1, 0, n, c) := by
  show (if k < M then k + 1 else k, 0, n, c) = _
  rw [if_pos h]
theorem ptk_0 {k n : Nat} {c : Nat → Nat} : ptk tq (k, 0, n, c) = tq k := if_pos rfl
theorem ptk_f {s : g_Ps} (h : s.2.1 ≠ 0) : ptk tq s = 1 := if_neg h
theorem pfl_0 {k n : Nat} {c : Nat → Nat} : pfl pl (k, 0, n, c) = (k, pl k + 1, n, c) := if_pos rfl
theorem pfl_f {s : g_Ps} (h : s.2.1 ≠ 0) : pfl pl s = s := if_neg h
theorem pem_f (v : Nat) (s : g_Ps) : (pem v s).2.1 = s.2.1 ∧ (pem v s).1 = s.1 := by
  rw [pem]; split <;> exact ⟨rfl, rfl⟩
theorem pem_y {v k f n : Nat} {c : Nat → Nat} (h : n < 160) : pem v (k, f, n, c) = (k, f, n + 1, va_up c n v) := if_pos h
theorem pre_up {r : Nat} {H : List Nat} (hr : r ≤ 4) (h : pPre r H) : pPre (r + 1) H := by
  rcases (by omega : r = 0 ∨ r = 1 ∨ r = 2 ∨ r = 3 ∨ r = 4) with rfl | rfl | rfl | rfl | rfl
  · rcases h with h | h | h
    · omega
    · omega
    · exact Or.inr (Or.inr ⟨by decide, by decide, Nat.lt_trans h.2.2 (by decide)⟩)
  · rcases h with h | h | h
    · omega
    · omega
    · exact Or.inr (Or.inl ⟨rfl, by have := h.2.2; simp only [pR] at this; simp at this; omega⟩)
  · rcases h with h | h | h
    · omega
    · exact Or.inr (Or.inr ⟨by decide, by decide, by have := h.2; simp only [pR]; simp; omega⟩)
    · exact absurd rfl h.2.1
  · rcases h with h | h | h
    · omega
    · omega
    · exact Or.inr (Or.inr ⟨by decide, by decide, Nat.lt_trans h.2.2 (by decide)⟩)
  · exact Or.inl rfl
theorem pR_le {r : Nat} (h : r ≤ 4) : pR r ≤ pR (r + 1) := by
  rcases (by omega : r = 0 ∨ r = 1 ∨ r = 2 ∨ r = 3 ∨ r = 4) with rfl | rfl | rfl | rfl | rfl <;> decide
theorem mdr_n {r : Nat} : mdr r ≠ 0 := by rw [mdr]; split <;> decide
/-- modes of neighbouring ranks: alike where no not comes -/
theorem eR_md {fu r k : Nat} {C : g_Mc} (hr : r ≤ 4) (h : r = 2 → tq k ≠ 7) : eR tq fu (mdr r) k C = eR tq fu (mdr (r + 1)) k C := by
  rcases (by omega : r = 0 ∨ r = 1 ∨ r = 2 ∨ r = 3 ∨ r = 4) with rfl | rfl | rfl | rfl | rfl
  · rfl
  · rfl
  · exact eR_21 (h rfl)
  · rfl
  · rfl
/-- a fault of the inner one is the outer one's -/
theorem JN_of {r r' : Nat} {H H' : List Nat} {k j n n' : Nat} {c c' : Nat → Nat} {s s' : g_Ps} (hf : s'.2.1 = s.2.1) (hk : k ≤ j) (h : JN tq pl M r H j n c s) (he : ∀ fu, eR tq (fu + (j - k)) (mdr r') k (H', n', c') = eR tq fu (mdr r) j (H, n, c)) : JN tq pl M r' H' k n' c' s' := by
  obtain ⟨kf, h1, h2, h3, h4⟩ := h
  refine ⟨kf, by omega, h2, hf.trans h3, fun fu => ?_⟩
  obtain ⟨z, hz⟩ := h4 fu
  refine ⟨z, ?_⟩
  rw [← hz, ← he (fu + (kf - j) + 1)]
  congr 1
  omega
/-- what a sign's loop keeps -/
def pLp (tq : Nat → Nat) (M r : Nat) (H : List Nat) (k n : Nat) (c : Nat → Nat) (s : g_Ps) : Prop := s.2.1 = 0 ∧ ∃ C : g_Mc, (∀ l, l ≤ pR r → unwC l C = unwC l (H, s.2.2)) ∧ (rkx (tq s.1) ≠ 9 → rkx (tq s.1) < r + 1 ∨ (r + 1 ≤ 2 ∧ rkx (tq s.1) = 2 ∧ topL (unwC 5 C).1 = 4)) ∧ k < s.1 ∧ s.1 ≤ M ∧ s.2.2.1 + k ≤ s.1 + n ∧ cfa n c s.2.2.1 s.2.2.2 ∧ ∀ fu, eR tq (fu + (s.1 - k)) (mdr r) k (H, n, c) = eR tq fu 0 s.1 C
theorem lp_f {g : g_Ps → g_Ps} {r : Nat} (hr : r ≤ 4) {s : g_Ps} (h : s.2.1 ≠ 0) : ∀ m, plp tq M g r m s = s
  | 0 => rfl
  | m + 1 => by rw [plp, ptk_f h, if_neg (fun z => by rw [show rkx 1 = 9 by decide] at z; omega)]
theorem unw_id {r : Nat} {H : List Nat} {n : Nat} {c : Nat → Nat} (hr : r ≤ 4) (h2 : r ≠ 2) (h : pPre r H) : unwC (pR r) (H, n, c) = (H, n, c) := by
  rcases h with h | h | h
  · omega
  · exact absurd h.1 h2
  · exact unw_top (Or.inl h.2.2)
theorem lp_ok (htM : tq M = 0) (hM : M ≤ 160) {d r o : Nat} (hr : r ≤ 4) (hr2 : r ≠ 2) (hJ : JJ tq pl M d (r + 1) o) {H : List Nat} {k n : Nat} {c : Nat → Nat} (hcn : cnt H = o) (hp : pPre r H) (hk1 : 1 ≤ k) (hnk : n ≤ k) : ∀ (m : Nat) (s : g_Ps), M < s.1 + m → pLp tq M r H k n c s → JY tq M r H k n c (plp tq M (jn tq pl M d (r + 1) o) r m s) ∨ JN tq pl M r H k n c (plp tq M (jn tq pl M d (r + 1) o) r m s)
  | 0, s, hm, h => by obtain ⟨_, C, _, _, _, h5, _⟩ := h; omega
  | m + 1, s, hm, h => by
    obtain ⟨h0, C, h1, h2, h3, h4, h5, h6, h7⟩ := h
    obtain ⟨ks, fs, ns, cs⟩ := s
    simp only at h0
    subst h0
    simp only at h1 h2 h3 h4 h5 h6 h7 hm
    by_cases hs : rkx (tq ks) = r
    · rw [plp, ptk_0, if_pos hs]
      have hkM : ks < M := by
        rcases Nat.lt_or_ge ks M with z | z
        · exact z
        · rw [show ks = M by omega, htM] at hs
          rw [show rkx 0 = 9 by decide] at hs
          omega
      rw [pav_f hkM]
      obtain ⟨s1, s2, s3, s4, s5, s6⟩ := sg_f hs (by omega)
      rw [if_neg hr2] at s5
      have hsg : ¬ (sgc (tq ks) = 0 ∨ sgc (tq ks) = 13 ∨ sgc (tq ks) = 19) := by omega
      have hpR : pR r ≠ 4 := by
        rcases (by omega : r = 0 ∨ r = 1 ∨ r = 3 ∨ r = 4) with rfl | rfl | rfl | rfl <;> decide
      have hstep : ∀ fu, eR tq (fu + 1) 0 ks C = eR tq fu (mdr (r + 1)) (ks + 1) (sgc (tq ks) :: H, ns, cs) := fun fu => by
        rw [eR_sg hs (by omega), s5, if_neg (fun z => hpR z.1), if_neg hpR, h1 _ (Nat.le_refl _), unw_id hr hr2 hp]
        congr 1
        rw [mdr]
        by_cases z : r ≤ 1
        · rw [if_pos (s6.mpr z), if_pos (by omega)]
        · rw [if_neg (fun q => z (s6.mp q)), if_neg (by omega)]
      have hpre : pPre (r + 1) (sgc (tq ks) :: H) := by
        rcases (by omega : r = 0 ∨ r = 1 ∨ r = 3 ∨ r = 4) with rfl | rfl | rfl | rfl
        · exact Or.inr (Or.inr ⟨by decide, by decide, by rw [topL, s5]; decide⟩)
        · exact Or.inr (Or.inl ⟨rfl, by rw [topL, s5]; decide⟩)
        · exact Or.inr (Or.inr ⟨by decide, by decide, by rw [topL, s5]; decide⟩)
        · exact Or.inl rfl
      have hrun : ∀ fu, eR tq (fu + (ks + 1 - k)) (mdr r) k (H, n, c) = eR tq fu (mdr (r + 1)) (ks + 1) (sgc (tq ks) :: H, ns, cs) := fun fu => by
        rw [← hstep fu, ← h7 (fu + 1)]
        congr 1
        omega
      rcases hJ (sgc (tq ks) :: H) (ks + 1) ns cs ((cnt_n hsg).trans hcn) hpre (by omega) (by omega) (by omega) with hy | hn
      · obtain ⟨g0, C2, g1, g3, g4, g5, g6, g7⟩ := hy
        generalize hq : jn tq pl M d (r + 1) o (ks + 1, 0, ns, cs) = s' at g0 g1 g3 g4 g5 g6 g7
        obtain ⟨k2, f2, n2, c2⟩ := s'
        simp only at g0
        subst g0
        simp only at g1 g3 g4 g5 g6 g7
        rw [pem_y (by omega)]
        refine lp_ok htM hM hr hr2 hJ hcn hp hk1 hnk m _ (by show M < k2 + m; omega) ⟨rfl, C2, fun l hl => ?_, g1.2, by show k < k2; omega, g4, by show n2 + 1 + k ≤ k2 + n; omega, cfa_bi h6 g6 s4, fun fu => ?_⟩
        · rw [g1.1 l (Nat.le_trans hl (pR_le hr))]
          exact unw_push (by rw [s5]; exact hl)
        · rw [← g7 fu, ← hrun (fu + (k2 - (ks + 1)))]
          congr 1
          show fu + (k2 - k) = _
          omega
      · right
        have hf : (jn tq pl M d (r + 1) o (ks + 1, 0, ns, cs)).2.1 ≠ 0 := by obtain ⟨kf, _, _, z, _⟩ := hn; omega
        rw [lp_f hr (by rw [(pem_f _ _).1]; exact hf)]
        exact JN_of (pem_f _ _).1 (by omega) hn hrun
    · rw [plp, ptk_0, if_neg hs]
      refine Or.inl ⟨rfl, C, ⟨h1, fun q => ?_⟩, h3, h4, h5, h6, h7⟩
      rcases h2 q with z | z
      · exact Or.inl (show rkx (tq ks) < r by omega)
      · exact Or.inr ⟨by omega, z.2⟩
theorem pR_ge1 {r : Nat} : 1 ≤ pR r := by simp only [pR]; split <;> (try split) <;> (try split) <;> (try split) <;> (try split) <;> decide
/-- the readers agree, at each rank -/
theorem JJ_all (htM : tq M = 0) (hM : M ≤ 160) (htq : ∀ k, tq k < 10106) : ∀ (d r o : Nat), 6 * (5 - o) + (5 - r) + 1 ≤ d → r ≤ 5 → o ≤ 5 → JJ tq pl M d r o
  | 0, r, o, hd, hr, ho => by omega
  | d + 1, r, o, hd, hr, ho => by
    have IH := JJ_all htM hM htq d
    intro H k n c hcn hp hkM hnk hk1
    have hlt : tq k ≠ 0 → k < M := fun z => by
      rcases Nat.lt_or_ge k M with q | q
      · exact q
      · exact absurd (by rw [show k = M by omega]; exact htM) z
    -- a fault at once
    have bad : ∀ s : g_Ps, s.2.1 = pl k + 1 → (∀ fu, ∃ z, eR tq (fu + 1) (mdr r) k (H, n, c) = (false, k, z)) → JN tq pl M r H k n c s := fun s h1 h2 => ⟨k, Nat.le_refl _, hkM, h1, fun fu => by rw [Nat.sub_self, Nat.add_zero]; exact h2 fu⟩
    rw [jn]
    by_cases hr4 : r ≤ 4
    · rw [if_pos hr4, ptk_0]
      by_cases hnot : r = 2 ∧ tq k = 7
      · obtain ⟨rfl, ht⟩ := hnot
        rw [if_pos ⟨rfl, ht⟩]
        by_cases h5 : 5 ≤ o
        · rw [if_pos h5, pfl_0]
          exact Or.inr (bad _ rfl (fun fu => ⟨(n, c), by rw [show mdr 2 = 2 from rfl, eR_not ht, if_pos (show cnt H = 5 by omega)]⟩))
        · rw [if_neg h5, pav_f (hlt (by omega))]
          have hrun : ∀ fu, eR tq (fu + (k + 1 - k)) (mdr 2) k (H, n, c) = eR tq fu (mdr 2) (k + 1) (13 :: H, n, c) := fun fu => by
            rw [show fu + (k + 1 - k) = fu + 1 by omega, show mdr 2 = 2 from rfl, eR_not ht, if_neg (show ¬ cnt H = 5 by omega)]
          have hp2 : pPre 2 (13 :: H) := Or.inr (Or.inl ⟨rfl, by show rnk 13 ≤ 3; decide⟩)
          rcases IH 2 (o + 1) (by omega) (by omega) (by omega) (13 :: H) (k + 1) n c ((cnt_s (by omega)).trans (by omega)) hp2 (by have := hlt (by omega); omega) (by omega) (by omega) with hy | hn
          · obtain ⟨g0, C2, g1, g3, g4, g5, g6, g7⟩ := hy
            generalize hq : jn tq pl M d 2 (o + 1) (k + 1, 0, n, c) = s' at g0 g1 g3 g4 g5 g6 g7
            obtain ⟨k2, f2, n2, c2⟩ := s'
            simp only at g0
            subst g0
            simp only at g1 g3 g4 g5 g6 g7
            rw [pem_y (by omega)]
            refine Or.inl ⟨rfl, C2, ⟨fun l hl => ?_, g1.2⟩, by show k < k2; omega, g4, by show n2 + 1 + k ≤ k2 + n; omega, cfa_un g6 (Or.inl rfl), fun fu => ?_⟩
            · rw [g1.1 l hl]
              exact unw_push (by have : l ≤ 3 := hl; exact this)
            · rw [← g7 fu, ← hrun (fu + (k2 - (k + 1)))]
              congr 1
              show fu + (k2 - k) = _
              omega
          · exact Or.inr (JN_of (pem_f _ _).1 (by omega) hn hrun)
      · rw [if_neg hnot]
        have h7 : r = 2 → tq k ≠ 7 := fun z q => hnot ⟨z, q⟩
        have hJ := IH (r + 1) o (by omega) (by omega) ho
        have hrun : ∀ fu, eR tq (fu + (k - k)) (mdr r) k (H, n, c) = eR tq fu (mdr (r + 1)) k (H, n, c) := fun fu => by rw [Nat.sub_self, Nat.add_zero]; exact eR_md hr4 h7
        rcases hJ H k n c hcn (pre_up hr4 hp) hkM hnk hk1 with hy | hn
        · obtain ⟨g0, C1, g1, g3, g4, g5, g6, g7⟩ := hy
          generalize hq : jn tq pl M d (r + 1) o (k, 0, n, c) = s' at g0 g1 g3 g4 g5 g6 g7
          by_cases hr2 : r = 2
          · subst hr2
            rw [if_pos rfl]
            obtain ⟨k1, f1, n1, c1⟩ := s'
            simp only at g0
            subst g0
            simp only at g1 g3 g4 g5 g6 g7
            have htop : topL H ≤ 3 := by
              rcases hp with z | z | z
              · omega
              · exact z.2
              · exact absurd rfl z.2.1
            show JY tq M 2 H k n c (plp tq M (jn tq pl M d 3 o) 2 (0 + 1) (k1, 0, n1, c1)) ∨ JN tq pl M 2 H k n c (plp tq M (jn tq pl M d 3 o) 2 (0 + 1) (k1, 0, n1, c1))
            by_cases hs : rkx (tq k1) = 2
            · rw [plp, ptk_0, if_pos hs, plp]
              have hkM1 : k1 < M := by
                rcases Nat.lt_or_ge k1 M with z | z
                · exact z
                · rw [show k1 = M by omega, htM] at hs
                  exact absurd hs (by decide)
              rw [pav_f hkM1]
              obtain ⟨s1, s2, s3, s4, s5, s6⟩ := sg_f hs (by decide)
              rw [if_pos rfl] at s5
              have hsg : ¬ (sgc (tq k1) = 0 ∨ sgc (tq k1) = 13 ∨ sgc (tq k1) = 19) := by omega
              have h5 : unwC 5 C1 = (H, n1, c1) := (g1.1 5 (by decide)).trans (unw_top (H := H) (Or.inl (by omega)))
              have hstep : ∀ fu, eR tq (fu + 1) 0 k1 C1 = eR tq fu (mdr 3) (k1 + 1) (sgc (tq k1) :: H, n1, c1) := fun fu => by
                rw [eR_sg hs (by decide), s5, if_pos rfl, h5, if_neg (fun z => by have := z.2; simp only at this; omega), if_neg (fun z => by have := s6.mp z; omega)]
                rfl
              have hpre : pPre 3 (sgc (tq k1) :: H) := Or.inr (Or.inr ⟨by decide, by decide, by rw [topL, s5]; decide⟩)
              have hrun2 : ∀ fu, eR tq (fu + (k1 + 1 - k)) (mdr 2) k (H, n, c) = eR tq fu (mdr 3) (k1 + 1) (sgc (tq k1) :: H, n1, c1) := fun fu => by
                rw [← hstep fu, ← g7 (fu + 1), ← hrun (fu + 1 + (k1 - k))]
                congr 1
                omega
              rcases hJ (sgc (tq k1) :: H) (k1 + 1) n1 c1 ((cnt_n hsg).trans hcn) hpre (by omega) (by omega) (by omega) with hy2 | hn2
              · obtain ⟨e0, C2, e1, e3, e4, e5, e6, e7⟩ := hy2
                generalize hq2 : jn tq pl M d 3 o (k1 + 1, 0, n1, c1) = s'' at e0 e1 e3 e4 e5 e6 e7
                obtain ⟨k2, f2, n2, c2⟩ := s''
                simp only at e0
                subst e0
                simp only at e1 e3 e4 e5 e6 e7
                rw [pem_y (by omega)]
                refine Or.inl ⟨rfl, C2, ⟨fun l hl => ?_, fun q => ?_⟩, by show k < k2; omega, e4, by show n2 + 1 + k ≤ k2 + n; omega, cfa_bi g6 e6 s4, fun fu => ?_⟩
                · have hl3 : l ≤ 3 := hl
                  rw [e1.1 l (Nat.le_trans hl3 (by decide))]
                  exact unw_push (by rw [s5]; omega)
                · rcases e1.2 q with z | z
                  · have z : rkx (tq k2) < 3 := z
                    by_cases z2 : rkx (tq k2) = 2
                    · refine Or.inr ⟨by decide, z2, ?_⟩
                      rw [e1.1 5 (by decide)]
                      show topL (unw 5 (sgc (tq k1) :: H) n2 c2).1 = 4
                      rw [unw_top (Or.inl (by rw [topL, s5]; decide)), topL, s5]
                    · exact Or.inl (show rkx (tq k2) < 2 by omega)
                  · omega
                · rw [← e7 fu, ← hrun2 (fu + (k2 - (k1 + 1)))]
                  congr 1
                  show fu + (k2 - k) = _
                  omega
              · exact Or.inr (JN_of (pem_f _ _).1 (by omega) hn2 hrun2)
            · rw [plp, ptk_0, if_neg hs]
              refine Or.inl ⟨rfl, C1, ⟨fun l hl => g1.1 l (Nat.le_trans hl (by decide)), fun q => ?_⟩, g3, g4, g5, g6, fun fu => ?_⟩
              · rcases g1.2 q with z | z
                · exact Or.inl (show rkx (tq k1) < 2 by have : rkx (tq k1) < 3 := z; omega)
                · omega
              · rw [← g7 fu, ← hrun (fu + (k1 - k))]
                rw [Nat.sub_self, Nat.add_zero]
          · rw [if_neg hr2]
            refine lp_ok htM hM hr4 hr2 hJ hcn hp hk1 hnk 160 s' (by omega) ⟨g0, C1, fun l hl => g1.1 l (Nat.le_trans hl (pR_le hr4)), g1.2, g3, g4, g5, g6, fun fu => ?_⟩
            rw [← g7 fu, ← hrun (fu + (s'.1 - k)), Nat.sub_self, Nat.add_zero]
        · right
          have hf : (jn tq pl M d (r + 1) o (k, 0, n, c)).2.1 ≠ 0 := by obtain ⟨kf, _, _, z, _⟩ := hn; omega
          rw [lp_f hr4 hf]
          exact JN_of rfl (Nat.le_refl _) hn hrun
    · obtain rfl : r = 5 := by omega
      rw [if_neg hr4, ptk_0]
      have hm : mdr 5 ≠ 0 := by decide
      by_cases h1 : 100 ≤ tq k
      · rw [if_pos h1]
        have hkM' := hlt (by omega)
        rw [pem_y (by omega), pav_f hkM']
        refine Or.inl ⟨rfl, unw 7 H (n + 1) (va_up c n (opc (tq k))), ⟨fun l hl => unw_unw hl _ _ _, fun q => ?_⟩, by show k < k + 1; omega, by show k + 1 ≤ M; omega, by show n + 1 + k ≤ k + 1 + n; omega, cfa_op (fun D => okc_op h1 (htq k)), fun fu => ?_⟩
        · left
          show rkx (tq (k + 1)) < 5
          rcases rkx_c q with e | e | e | e | e | e | e <;> (rw [show tq (k + 1) = _ from e]; decide)
        · show eR tq (fu + (k + 1 - k)) _ _ _ = _
          rw [show fu + (k + 1 - k) = fu + 1 by omega, eR_op hm h1]
      · rw [if_neg h1]
        by_cases h2 : tq k = 45
        · rw [if_pos h2]
          by_cases h5 : 5 ≤ o
          · rw [if_pos h5, pfl_0]
            exact Or.inr (bad _ rfl (fun fu => ⟨(n, c), by rw [eR_neg hm h2, if_pos (show cnt H = 5 by omega)]⟩))
          · rw [if_neg h5, pav_f (hlt (by omega))]
            have hrun : ∀ fu, eR tq (fu + (k + 1 - k)) (mdr 5) k (H, n, c) = eR tq fu (mdr 5) (k + 1) (19 :: H, n, c) := fun fu => by
              rw [show fu + (k + 1 - k) = fu + 1 by omega, eR_neg hm h2, if_neg (show ¬ cnt H = 5 by omega)]; rfl
            rcases IH 5 (o + 1) (by omega) (by omega) (by omega) (19 :: H) (k + 1) n c ((cnt_s (by omega)).trans (by omega)) (Or.inl rfl) (by have := hlt (by omega); omega) (by omega) (by omega) with hy | hn
            · obtain ⟨g0, C2, g1, g3, g4, g5, g6, g7⟩ := hy
              generalize hq : jn tq pl M d 5 (o + 1) (k + 1, 0, n, c) = s' at g0 g1 g3 g4 g5 g6 g7
              obtain ⟨k2, f2, n2, c2⟩ := s'
              simp only at g0
              subst g0
              simp only at g1 g3 g4 g5 g6 g7
              rw [pem_y (by omega)]
              refine Or.inl ⟨rfl, C2, ⟨fun l hl => ?_, g1.2⟩, by show k < k2; omega, g4, by show n2 + 1 + k ≤ k2 + n; omega, cfa_un g6 (Or.inr rfl), fun fu => ?_⟩
              · rw [g1.1 l hl]
                exact unw_push (by have : l ≤ 7 := hl; exact this)
              · rw [← g7 fu, ← hrun (fu + (k2 - (k + 1)))]
                congr 1
                show fu + (k2 - k) = _
                omega
            · exact Or.inr (JN_of (pem_f _ _).1 (by omega) hn hrun)
        · rw [if_neg h2]
          by_cases h3 : tq k = 40
          · rw [if_pos h3]
            by_cases h5 : 5 ≤ o
            · rw [if_pos h5, pfl_0]
              exact Or.inr (bad _ rfl (fun fu => ⟨(n, c), by rw [eR_par hm h3, if_pos (show cnt H = 5 by omega)]⟩))
            · rw [if_neg h5, pav_f (hlt (by omega))]
              have hrun : ∀ fu, eR tq (fu + (k + 1 - k)) (mdr 5) k (H, n, c) = eR tq fu (mdr 0) (k + 1) (0 :: H, n, c) := fun fu => by
                rw [show fu + (k + 1 - k) = fu + 1 by omega, eR_par hm h3, if_neg (show ¬ cnt H = 5 by omega)]; rfl
              rcases IH 0 (o + 1) (by omega) (by omega) (by omega) (0 :: H) (k + 1) n c ((cnt_s (by omega)).trans (by omega)) (Or.inr (Or.inr ⟨by decide, by decide, by show rnk 0 < pR 0; decide⟩)) (by have := hlt (by omega); omega) (by omega) (by omega) with hy | hn
              · obtain ⟨g0, C2, g1, g3, g4, g5, g6, g7⟩ := hy
                generalize hq : jn tq pl M d 0 (o + 1) (k + 1, 0, n, c) = s' at g0 g1 g3 g4 g5 g6 g7
                obtain ⟨k2, f2, n2, c2⟩ := s'
                simp only at g0
                subst g0
                simp only at g1 g3 g4 g5 g6 g7
                have hu : unwC 1 C2 = (0 :: H, n2, c2) := (g1.1 1 (by decide)).trans (unw_top (Or.inl (by show rnk 0 < 1; decide)))
                have hrun2 : ∀ fu, eR tq (fu + (k2 - k)) (mdr 5) k (H, n, c) = eR tq fu 0 k2 C2 := fun fu => by
                  rw [← g7 fu, ← hrun (fu + (k2 - (k + 1)))]
                  congr 1
                  omega
                by_cases h4 : tq k2 = 41
                · have hk2 : k2 < M := by
                    rcases Nat.lt_or_ge k2 M with z | z
                    · exact z
                    · rw [show k2 = M by omega, htM] at h4; omega
                  rw [pex, ptk_0, if_pos h4, pav_f hk2]
                  refine Or.inl ⟨rfl, unw 7 H n2 c2, ⟨fun l hl => unw_unw hl _ _ _, fun q => ?_⟩, by show k < k2 + 1; omega, by show k2 + 1 ≤ M; omega, by show n2 + k ≤ k2 + 1 + n; omega, g6, fun fu => ?_⟩
                  · left
                    show rkx (tq (k2 + 1)) < 5
                    rcases rkx_c q with e | e | e | e | e | e | e <;> (rw [show tq (k2 + 1) = _ from e]; decide)
                  · show eR tq (fu + (k2 + 1 - k)) _ _ _ = _
                    rw [show fu + (k2 + 1 - k) = fu + 1 + (k2 - k) by omega, hrun2, eR_cl h4, hu, if_neg (by simp)]
                    rfl
                · rw [pex, ptk_0, if_neg h4, pfl_0]
                  refine Or.inr ⟨k2, by omega, g4, rfl, fun fu => ?_⟩
                  rw [show fu + (k2 - k) + 1 = fu + 1 + (k2 - k) by omega, hrun2]
                  by_cases h6 : tq k2 = 59
                  · exact ⟨_, by rw [eR_sc h6, hu]; rfl⟩
                  · by_cases h8 : rkx (tq k2) = 9
                    · exact ⟨_, eR_no h6 h4 h8⟩
                    · rcases g1.2 h8 with z | z
                      · omega
                      · obtain ⟨s1, s2, s3, s4, s5, s6⟩ := sg_f z.2.1 (by decide)
                        rw [if_pos rfl] at s5
                        exact ⟨_, by rw [eR_sg z.2.1 (by decide), s5, if_pos rfl, if_pos ⟨rfl, z.2.2⟩]⟩
              · right
                have hf : (jn tq pl M d 0 (o + 1) (k + 1, 0, n, c)).2.1 ≠ 0 := by obtain ⟨kf, _, _, z, _⟩ := hn; omega
                rw [pex, ptk_f hf, if_neg (by decide), pfl_f hf]
                exact JN_of rfl (by omega) hn hrun
          · rw [if_neg h3, pfl_0]
            exact Or.inr (bad _ rfl (fun fu => ⟨(n, c), by rw [eR_bad hm h1 (fun z => absurd z.2 (by decide)) h2 h3]⟩))
end PARSE2
