-- the class's whole reading: what its success says
theorem wfc_cg {cd cd' : Nat → Nat} {f len : Nat} (h : ∀ i, i < len → cd' (f + i) = cd (f + i)) (hw : wfc cd f len) : wfc cd' f len := by
  have key : ∀ k, k ≤ len → dpn cd' f k = dpn cd f k := by
    intro k
    induction k with
    | zero => intro _; rfl
    | succ k ih => intro hk; rw [dpn, dpn, ih (by omega), h k (by omega)]
  exact ⟨fun k hk => by rw [h k hk, key k (by omega)]; exact hw.1 k hk, (key len (Nat.le_refl _)).trans hw.2⟩
theorem wfc_0 (c : Nat → Nat) (f : Nat) : wdp c f f 0 := ⟨fun i h1 h2 => absurd h2 (by omega), by rw [Nat.sub_self]; rfl⟩
theorem wdp_wfc {c : Nat → Nat} {f n : Nat} (h : wdp c f n 1) (hf : f ≤ n) : wfc c f (n - f) := ⟨fun k hk => by
    have := h.1 (f + k) (by omega) (by omega)
    rwa [Nat.add_sub_cancel_left] at this, h.2⟩
section RDA
variable {tq pl : Nat → Nat} {M d : Nat}
theorem pex_n {t : Nat} (s : g_Ps) : (pex tq pl M t s).2.2 = s.2.2 := by
  rw [pex]; split
  · rfl
  · rw [pfl]; split <;> rfl
theorem rdA_f {p : Nat} (h : (rdA tq pl M d p).2.1 ≠ 0) : rdA tq pl M d (p + 1) = rdA tq pl M d p := by
  rw [rdA, pex_f (by omega) h, jn_f _ _ _ _ h, pex_f (by decide) h]
theorem rdA_f3 : ∀ (m p : Nat), p + m = 3 → (rdA tq pl M d p).2.1 ≠ 0 → rdA tq pl M d 3 = rdA tq pl M d p
  | 0, p, h, hf => by rw [show p = 3 by omega]
  | m + 1, p, h, hf => by
    have e := rdA_f (tq := tq) (pl := pl) (M := M) (d := d) hf
    rw [rdA_f3 m (p + 1) (by omega) (by rw [e]; exact hf), e]
theorem rdT_n {p : Nat} (h : p ≤ 3) : rdT tq pl M d p = (rdA tq pl M d p).2.2.1 := by
  rw [rdT]; split
  · rw [pex_n]
  · rw [show p = 3 by omega]
/-- what lies behind p parts well read -/
def RDo (tq pl : Nat → Nat) (M d p n : Nat) (c : Nat → Nat) : Prop := ∀ q, q < p → (rdA tq pl M d q).2.2.1 ≤ (rdA tq pl M d (q + 1)).2.2.1 ∧ (rdA tq pl M d (q + 1)).2.2.1 ≤ n ∧ wfc c (rdA tq pl M d q).2.2.1 ((rdA tq pl M d (q + 1)).2.2.1 - (rdA tq pl M d q).2.2.1)
theorem RDo_s {p n n' k k' : Nat} {c c' : Nat → Nat} (h : RDo tq pl M d p n c) (h1 : rdA tq pl M d p = (k, 0, n, c)) (h2 : rdA tq pl M d (p + 1) = (k', 0, n', c')) (hc : cfa n c n' c') : RDo tq pl M d (p + 1) n' c' := by
  intro q hq
  by_cases e : q = p
  · subst e
    rw [h1, h2]
    exact ⟨hc.2.1, Nat.le_refl _, wdp_wfc (hc.2.2 n 0 (Nat.le_refl _) (wfc_0 c n)) hc.2.1⟩
  · obtain ⟨q1, q2, q3⟩ := h q (by omega)
    have := hc.2.1
    exact ⟨q1, by omega, wfc_cg (fun i hi => hc.1 _ (by omega)) q3⟩
theorem RDo_0 : RDo tq pl M d 0 0 (fun _ => 0) := fun q hq => absurd hq (Nat.not_lt_zero _)
theorem rdA_ok (htM : tq M = 0) (hM : M ≤ 160) (htq : ∀ k, tq k < 10106) (hd : 36 ≤ d) : ∀ (p : Nat), (rdA tq pl M d p).2.1 = 0 → ∃ (k n : Nat) (c : Nat → Nat), rdA tq pl M d p = (k, 0, n, c) ∧ k ≤ M ∧ n ≤ k ∧ RDo tq pl M d p n c
  | 0, _ => ⟨0, 0, _, rfl, Nat.zero_le _, Nat.le_refl _, RDo_0⟩
  | p + 1, h => by
    have h0 : (rdA tq pl M d p).2.1 = 0 := by
      rcases Nat.eq_zero_or_pos (rdA tq pl M d p).2.1 with q | q
      · exact q
      · rw [rdA_f (by omega)] at h; exact h
    obtain ⟨k, n, c, e, hk, hn, ho⟩ := rdA_ok htM hM htq hd p h0
    rcases part_eq (pl := pl) htM hM htq (p := p) (c := c) hd hk hn with ⟨_, k', n', c', e1, e2, e3, e4, e5, _⟩ | ⟨kf, _, e1, _⟩
    · have e6 : rdA tq pl M d (p + 1) = (k' + 1, 0, n', c') := by rw [rdA, e]; exact e1
      exact ⟨_, _, _, e6, by omega, by omega, RDo_s ho e e6 e5⟩
    · rw [rdA, e, e1] at h; omega
end RDA
theorem tq_end {tp : Nat → Nat} {nb M : Nat} (hbM : bs tp nb M = nb) : tqf tp nb M = 0 := by rw [tqf, hbM, tkn, if_pos (Nat.le_refl _)]
