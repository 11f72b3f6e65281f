-- one part of a text, both readers
section PART
variable {tq pl : Nat → Nat} {M : Nat}
theorem pex_f {s : g_Ps} {t : Nat} (ht : t ≠ 1) (h : s.2.1 ≠ 0) : pex tq pl M t s = s := by rw [pex, ptk_f h, if_neg (fun z => ht z.symm), pfl_f h]
theorem jn_f : ∀ (d r o : Nat) (s : g_Ps), s.2.1 ≠ 0 → jn tq pl M d r o s = s
  | 0, _, _, _, _ => rfl
  | d + 1, r, o, s, h => by
    have IH := jn_f d
    rw [jn, ptk_f h]
    by_cases hr : r ≤ 4
    · rw [if_pos hr, if_neg (fun z => absurd z.2 (by decide)), IH (r + 1) o s h, lp_f hr h]
    · rw [if_neg hr, if_neg (by decide), if_neg (by decide), if_neg (by decide), pfl_f h]
theorem part_eq (htM : tq M = 0) (hM : M ≤ 160) (htq : ∀ k, tq k < 10106) {d k n p : Nat} {c : Nat → Nat} (hd : 36 ≤ d) (hkM : k ≤ M) (hnk : n ≤ k) :
    (tq k = 2 + p ∧ ∃ (k' n' : Nat) (c' : Nat → Nat), pex tq pl M 59 (jn tq pl M d 0 0 (pex tq pl M (2 + p) (k, 0, n, c))) = (k' + 1, 0, n', c') ∧ k + 1 < k' ∧ k' < M ∧ n' + (k + 1) ≤ k' + n ∧ cfa n c n' c' ∧ ∀ fu, eR tq (fu + 1 + (k' - (k + 1))) 2 (k + 1) ([], n, c) = (true, k', n', c')) ∨
    (∃ kf, kf ≤ M ∧ (pex tq pl M 59 (jn tq pl M d 0 0 (pex tq pl M (2 + p) (k, 0, n, c)))).2.1 = pl kf + 1 ∧ ((tq k ≠ 2 + p ∧ kf = k) ∨ (tq k = 2 + p ∧ k + 1 ≤ kf ∧ ∀ fu, ∃ z, eR tq (fu + 1 + (kf - (k + 1))) 2 (k + 1) ([], n, c) = (false, kf, z)))) := by
  have hlt : ∀ j, j ≤ M → tq j ≠ 0 → j < M := fun j h1 h2 => by
    rcases Nat.lt_or_ge j M with q | q
    · exact q
    · exact absurd (by rw [show j = M by omega]; exact htM) h2
  by_cases h1 : tq k = 2 + p
  · have hk := hlt k hkM (by omega)
    have e1 : pex tq pl M (2 + p) (k, 0, n, c) = (k + 1, 0, n, c) := by rw [pex, ptk_0, if_pos h1, pav, if_pos hk]
    rw [e1]
    rcases JJ_all (pl := pl) htM hM htq d 0 0 (by omega) (by omega) (by omega) [] (k + 1) n c rfl (Or.inr (Or.inr ⟨by decide, by decide, by decide⟩)) (by omega) (by omega) (by omega) with ⟨j1, C, j2, j3, j4, j5, j6, j7⟩ | ⟨kf, j1, j2, j3, j4⟩
    · generalize jn tq pl M d 0 0 (k + 1, 0, n, c) = s at j1 j2 j3 j4 j5 j6 j7 ⊢
      obtain ⟨ks, f, ns, cs⟩ := s
      simp only at j1 j2 j3 j4 j5 j6 j7
      subst j1
      have hC : unwC 1 C = ([], ns, cs) := (j2.1 1 (by decide)).trans rfl
      by_cases h2 : tq ks = 59
      · have hks := hlt ks j4 (by omega)
        refine Or.inl ⟨h1, ks, ns, cs, by rw [pex, ptk_0, if_pos h2, pav, if_pos hks], j3, hks, j5, j6, fun fu => ?_⟩
        rw [show fu + 1 + (ks - (k + 1)) = (fu + 1) + (ks - (k + 1)) by omega]
        have := j7 (fu + 1)
        rw [show mdr 0 = 2 from rfl] at this
        rw [this, eR_sc h2, hC]; rfl
      · refine Or.inr ⟨ks, j4, by rw [pex, ptk_0, if_neg h2, pfl_0], Or.inr ⟨h1, by omega, fun fu => ?_⟩⟩
        have := j7 (fu + 1)
        rw [show mdr 0 = 2 from rfl] at this
        rw [this]
        by_cases h3 : tq ks = 41
        · exact ⟨_, by rw [eR_cl h3, hC, if_pos rfl]⟩
        · by_cases h4 : rkx (tq ks) = 9
          · exact ⟨_, eR_no h2 h3 h4⟩
          · rcases j2.2 h4 with q | q
            · omega
            · have h5 := sg_f (t := tq ks) q.2.1 (by decide)
              have h6 : rnk (sgc (tq ks)) = 4 := by have := h5.2.2.2.2.1; rwa [if_pos rfl] at this
              exact ⟨_, by rw [eR_sg q.2.1 (by decide), if_pos h6, if_pos ⟨h6, q.2.2⟩]⟩
    · refine Or.inr ⟨kf, j2, by rw [pex_f (by decide) (by omega)]; exact j3, Or.inr ⟨h1, j1, fun fu => ?_⟩⟩
      obtain ⟨z, hz⟩ := j4 fu
      exact ⟨z, by rw [show fu + 1 + (kf - (k + 1)) = fu + (kf - (k + 1)) + 1 by omega]; exact hz⟩
  · have e1 : pex tq pl M (2 + p) (k, 0, n, c) = (k, pl k + 1, n, c) := by rw [pex, ptk_0, if_neg h1, pfl_0]
    refine Or.inr ⟨k, hkM, ?_, Or.inl ⟨h1, rfl⟩⟩
    rw [e1, jn_f _ _ _ _ (by show pl k + 1 ≠ 0; omega), pex_f (by decide) (by show pl k + 1 ≠ 0; omega)]
end PART
