def bI (b : Bool) : Int32 := if b then nI 1 else nI 0
theorem bI_01 (b : Bool) : bI b = 0 ∨ bI b = 1 := by cases b <;> simp [bI] <;> decide
theorem bI_t {b : Bool} (h : b = true) : bI b = nI 1 := by rw [h]; rfl
theorem bI_f {b : Bool} (h : b = false) : bI b = nI 0 := by rw [h]; rfl
theorem bI_eq0 (b : Bool) : bI b = 0 ↔ b = false := by cases b <;> decide
theorem nI_inc (i : Nat) : nI i + Int32.ofInt 1 = nI (i + 1) := by rw [show Int32.ofInt 1 = 1 by decide]; exact nI_1 i
theorem nI_lt0 {i : Nat} (h : i < 2147483648) : ¬ nI i < 0 := nI_pos h
theorem nI_eq0 {i : Nat} (h : i < 2147483648) : nI i = 0 ↔ i = 0 := by
  constructor
  · intro q
    rcases Nat.eq_zero_or_pos i with z | z
    · exact z
    · exact absurd q (nI_ne0 z h)
  · rintro rfl; exact nI_0
/-- an answer and a heap, no other -/
def g_P (v : Option g_V) (h2 : g_H) : Option g_V → g_H → Prop := fun r h' => r = v ∧ h' = h2
/-- the heap's numbers change, so that R holds -/
def g_E (sh : List (Nat × Nat)) (r : Nat → Nat → Option Nat) (g : Nat → Nat → Int64) (R : Option g_V → (Nat → Nat → Int32) → Prop) : Option g_V → g_H → Prop := fun v h' => ∃ a' : Nat → Nat → Int32, h' = (sh, a', r, g) ∧ R v a'
section GN
variable {Y : g_Y} {Z : g_Z} {k n pc pc' tgt : Nat} {L : List (Option g_V)} {st rest : List g_V} {sh : List (Nat × Nat)} {a : Nat → Nat → Int32} {r : Nat → Nat → Option Nat} {g : Nat → Nat → Int64} {b idx c j nf i w9 : Nat} {fin : Bool} {x v : Int32} {h h2 : g_H} {bb : Bool}
theorem Gd_iaddN (hd : g_D Y pc .iadd 1 pc') (kk : Gd Y Z k n pc' L (vi (nI (i + j)) :: st) h) : Gd Y Z k n pc L (vi (nI j) :: vi (nI i) :: st) h := Gd_iadd hd (by rw [nI_add]; exact kk)
theorem Gd_imulN (hd : g_D Y pc .imul 1 pc') (kk : Gd Y Z k n pc' L (vi (nI (i * j)) :: st) h) : Gd Y Z k n pc L (vi (nI j) :: vi (nI i) :: st) h := Gd_imul hd (by rw [pk_mul]; exact kk)
theorem Gd_isubN (hij : j ≤ i) (hd : g_D Y pc .isub 1 pc') (kk : Gd Y Z k n pc' L (vi (nI (i - j)) :: st) h) : Gd Y Z k n pc L (vi (nI j) :: vi (nI i) :: st) h := Gd_isub hd (by rw [pk_sub hij]; exact kk)
theorem Gd_getIe (hf : g_F Y.1.cls idx c j nf 0 fin) (hb : sh[b]? = some (c, nf)) (he : a b j = v) (hd : g_D Y pc (.getfield idx) 3 pc') (kk : Gd Y Z k n pc' L (vi v :: st) (sh, a, r, g)) : Gd Y Z k n pc L (vr b :: st) (sh, a, r, g) := Gd_getI hf hb hd (by rw [he]; exact kk)
theorem Gd_getZe (hf : g_F Y.1.cls idx c j nf 3 fin) (hb : sh[b]? = some (c, nf)) (he : a b j = v) (hd : g_D Y pc (.getfield idx) 3 pc') (kk : Gd Y Z k n pc' L (vi v :: st) (sh, a, r, g)) : Gd Y Z k n pc L (vr b :: st) (sh, a, r, g) := Gd_getZ hf hb hd (by rw [he]; exact kk)
theorem Gd_ialdN (hb : sh[b]? = some (20, w9)) (hi : i < w9 ∧ w9 < 2147483648) (hd : g_D Y pc .iaload 1 pc') (kk : Gd Y Z k n pc' L (vi (a b i) :: st) (sh, a, r, g)) : Gd Y Z k n pc L (vi (nI i) :: vr b :: st) (sh, a, r, g) :=
  Gd_iald hb (vp_in_nI hi.1 hi.2) hd (by rw [nI_clamp (Nat.lt_trans hi.1 hi.2)]; exact kk)
theorem Gd_ialdE (hb : sh[b]? = some (20, w9)) (hi : i < w9 ∧ w9 < 2147483648) (he : a b i = v) (hd : g_D Y pc .iaload 1 pc') (kk : Gd Y Z k n pc' L (vi v :: st) (sh, a, r, g)) : Gd Y Z k n pc L (vi (nI i) :: vr b :: st) (sh, a, r, g) :=
  Gd_ialdN hb hi hd (by rw [he]; exact kk)
theorem Gd_iastN (hb : sh[b]? = some (20, w9)) (hi : i < w9 ∧ w9 < 2147483648) (hd : g_D Y pc .iastore 1 pc') (kk : Gd Y Z k n pc' L st (sh, up2 a b i v, r, g)) : Gd Y Z k n pc L (vi v :: vi (nI i) :: vr b :: st) (sh, a, r, g) :=
  Gd_iast hb (vp_in_nI hi.1 hi.2) hd (by rw [nI_clamp (Nat.lt_trans hi.1 hi.2)]; exact kk)
theorem Gd_aaldN {t ci : Nat} {o : Option Nat} (hc : g_rc c t ci) (hb : sh[b]? = some (c, w9)) (hi : i < w9 ∧ w9 < 2147483648) (ho : r b i = o) (hd : g_D Y pc .aaload 1 pc') (kk : Gd Y Z k n pc' L (vo o :: st) (sh, a, r, g)) : Gd Y Z k n pc L (vi (nI i) :: vr b :: st) (sh, a, r, g) :=
  Gd_aald hc hb (vp_in_nI hi.1 hi.2) (by rw [nI_clamp (Nat.lt_trans hi.1 hi.2)]; exact ho) hd kk
theorem Gd_icmp_eqN (ha : i < 2147483648) (hb : j < 2147483648) (hd : g_J Y pc (.if_icmp .eq) tgt pc') (kt : i = j → Gd Y Z k n tgt L st h) (kf : i ≠ j → Gd Y Z k n pc' L st h) : Gd Y Z k n pc L (vi (nI j) :: vi (nI i) :: st) h := Gd_icmp_eq hd (fun q => kt ((nI_eq ha hb).mp q)) (fun q => kf (fun z => q ((nI_eq ha hb).mpr z)))
theorem Gd_icmp_neN (ha : i < 2147483648) (hb : j < 2147483648) (hd : g_J Y pc (.if_icmp .ne) tgt pc') (kt : i ≠ j → Gd Y Z k n tgt L st h) (kf : i = j → Gd Y Z k n pc' L st h) : Gd Y Z k n pc L (vi (nI j) :: vi (nI i) :: st) h := Gd_icmp_ne hd (fun q => kt (fun z => q ((nI_eq ha hb).mpr z))) (fun q => kf (by
  rcases Nat.lt_or_ge i j with z | z
  · exact (nI_eq ha hb).mp (by simpa using q)
  · exact (nI_eq ha hb).mp (by simpa using q)))
theorem Gd_icmp_ltN (ha : i < 2147483648) (hb : j < 2147483648) (hd : g_J Y pc (.if_icmp .lt) tgt pc') (kt : i < j → Gd Y Z k n tgt L st h) (kf : j ≤ i → Gd Y Z k n pc' L st h) : Gd Y Z k n pc L (vi (nI j) :: vi (nI i) :: st) h := Gd_icmp_lt hd (fun q => kt ((nI_ltI ha hb).mp q)) (fun q => kf (Nat.not_lt.mp (fun z => q ((nI_ltI ha hb).mpr z))))
theorem Gd_icmp_geN (ha : i < 2147483648) (hb : j < 2147483648) (hd : g_J Y pc (.if_icmp .ge) tgt pc') (kt : j ≤ i → Gd Y Z k n tgt L st h) (kf : i < j → Gd Y Z k n pc' L st h) : Gd Y Z k n pc L (vi (nI j) :: vi (nI i) :: st) h := Gd_icmp_ge hd (fun q => kt ((nI_leI hb ha).mp q)) (fun q => kf (Nat.not_le.mp (fun z => q ((nI_leI hb ha).mpr z))))
theorem Gd_icmp_gtN (ha : i < 2147483648) (hb : j < 2147483648) (hd : g_J Y pc (.if_icmp .gt) tgt pc') (kt : j < i → Gd Y Z k n tgt L st h) (kf : i ≤ j → Gd Y Z k n pc' L st h) : Gd Y Z k n pc L (vi (nI j) :: vi (nI i) :: st) h := Gd_icmp_gt hd (fun q => kt ((nI_ltI hb ha).mp q)) (fun q => kf (Nat.not_lt.mp (fun z => q ((nI_ltI hb ha).mpr z))))
theorem Gd_icmp_leN (ha : i < 2147483648) (hb : j < 2147483648) (hd : g_J Y pc (.if_icmp .le) tgt pc') (kt : i ≤ j → Gd Y Z k n tgt L st h) (kf : j < i → Gd Y Z k n pc' L st h) : Gd Y Z k n pc L (vi (nI j) :: vi (nI i) :: st) h := Gd_icmp_le hd (fun q => kt ((nI_leI ha hb).mp q)) (fun q => kf (Nat.not_le.mp (fun z => q ((nI_leI ha hb).mpr z))))
theorem Gd_if_eqN (ha : i < 2147483648) (hd : g_J Y pc (.ifCond .eq) tgt pc') (kt : i = 0 → Gd Y Z k n tgt L st h) (kf : i ≠ 0 → Gd Y Z k n pc' L st h) : Gd Y Z k n pc L (vi (nI i) :: st) h := Gd_if_eq hd (fun q => kt ((nI_eq0 ha).mp q)) (fun q => kf (fun z => q ((nI_eq0 ha).mpr z)))
theorem Gd_if_neN (ha : i < 2147483648) (hd : g_J Y pc (.ifCond .ne) tgt pc') (kt : i ≠ 0 → Gd Y Z k n tgt L st h) (kf : i = 0 → Gd Y Z k n pc' L st h) : Gd Y Z k n pc L (vi (nI i) :: st) h := Gd_if_ne hd (fun q => kt (fun z => q ((nI_eq0 ha).mpr z))) (fun q => kf ((nI_eq0 ha).mp (by simpa using q)))
theorem Gd_if_ltN (ha : i < 2147483648) (hd : g_J Y pc (.ifCond .lt) tgt pc') (kt : False → Gd Y Z k n tgt L st h) (kf : 0 ≤ i → Gd Y Z k n pc' L st h) : Gd Y Z k n pc L (vi (nI i) :: st) h := Gd_if_lt hd (fun q => kt (nI_lt0 ha q)) (fun q => kf (Nat.zero_le _))
theorem Gd_if_gtN (ha : i < 2147483648) (hd : g_J Y pc (.ifCond .gt) tgt pc') (kt : 0 < i → Gd Y Z k n tgt L st h) (kf : i = 0 → Gd Y Z k n pc' L st h) : Gd Y Z k n pc L (vi (nI i) :: st) h := Gd_if_gt hd (fun q => kt (by
  rcases Nat.eq_zero_or_pos i with z | z
  · subst z; exact absurd q (by decide)
  · exact z)) (fun q => kf (by
  rcases Nat.eq_zero_or_pos i with z | z
  · exact z
  · have h1 : nI 0 < nI i := (nI_ltI (by decide) ha).mpr z
    rw [nI_0] at h1
    exact absurd h1 q))
theorem Gd_if_leN (ha : i < 2147483648) (hd : g_J Y pc (.ifCond .le) tgt pc') (kt : i = 0 → Gd Y Z k n tgt L st h) (kf : 0 < i → Gd Y Z k n pc' L st h) : Gd Y Z k n pc L (vi (nI i) :: st) h := Gd_if_le hd (fun q => kt (by
  rcases Nat.eq_zero_or_pos i with z | z
  · exact z
  · exact absurd q (nI_nle z ha))) (fun q => kf (by
  rcases Nat.eq_zero_or_pos i with z | z
  · subst z; exact absurd (by decide : nI 0 ≤ 0) q
  · exact z))
theorem Gd_if_eqB (hd : g_J Y pc (.ifCond .eq) tgt pc') (kt : bb = false → Gd Y Z k n tgt L st h) (kf : bb = true → Gd Y Z k n pc' L st h) : Gd Y Z k n pc L (vi (bI bb) :: st) h := Gd_if_eq hd (fun q => kt ((bI_eq0 bb).mp q)) (fun q => kf (by cases bb with | true => rfl | false => exact absurd rfl (fun z => q ((bI_eq0 false).mpr z))))
theorem Gd_if_neB (hd : g_J Y pc (.ifCond .ne) tgt pc') (kt : bb = true → Gd Y Z k n tgt L st h) (kf : bb = false → Gd Y Z k n pc' L st h) : Gd Y Z k n pc L (vi (bI bb) :: st) h := Gd_if_ne hd (fun q => kt (by cases bb with | true => rfl | false => exact absurd ((bI_eq0 false).mpr rfl) q)) (fun q => kf (by cases bb with | true => exact absurd q (by decide) | false => rfl))
theorem Gd_callP {v : g_V} (hc : g_Call Y Z k n pc L st rest h 0 0 (g_P (some v) h) pc') (kk : Gd Y Z k n pc' L (v :: rest) h) : Gd Y Z k n pc L st h := g_call0 hc (fun r h' q => by obtain ⟨rfl, rfl⟩ := q; exact ⟨rfl, kk⟩)
theorem Gd_callQ {v : g_V} (hc : g_Call Y Z k n pc L st rest h 0 0 (g_P (some v) h2) pc') (hs : h2.1 = h.1) (kk : Gd Y Z k n pc' L (v :: rest) h2) : Gd Y Z k n pc L st h := g_call0 hc (fun r h' q => by obtain ⟨rfl, rfl⟩ := q; exact ⟨hs, kk⟩)
theorem Gd_callP0 (hc : g_Call Y Z k n pc L st rest h 0 0 (g_P none h2) pc') (hs : h2.1 = h.1) (kk : Gd Y Z k n pc' L rest h2) : Gd Y Z k n pc L st h := g_call0 hc (fun r h' q => by obtain ⟨rfl, rfl⟩ := q; exact ⟨hs, kk⟩)
theorem Gd_callE {r' : Nat → Nat → Option Nat} {g' : Nat → Nat → Int64} {R : Option g_V → (Nat → Nat → Int32) → Prop} (hc : g_Call Y Z k n pc L st rest (sh, a, r, g) 0 0 (g_E sh r' g' R) pc') (kk : ∀ (v : Option g_V) (a' : Nat → Nat → Int32), R v a' → Gd Y Z k n pc' L (v.toList ++ rest) (sh, a', r', g')) : Gd Y Z k n pc L st (sh, a, r, g) := g_call0 hc (fun v h' q => by obtain ⟨a', rfl, q⟩ := q; exact ⟨rfl, kk v a' q⟩)
end GN
