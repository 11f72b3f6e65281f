/-- a known answer, and numbers of which R holds -/
def g_EV (sh : List (Nat × Nat)) (r : Nat → Nat → Option Nat) (g : Nat → Nat → Int64) (x : g_V) (R : (Nat → Nat → Int32) → Prop) : Option g_V → g_H → Prop := fun v h' => ∃ a' : Nat → Nat → Int32, v = some x ∧ h' = (sh, a', r, g) ∧ R a'
def g_E0 (sh : List (Nat × Nat)) (r : Nat → Nat → Option Nat) (g : Nat → Nat → Int64) (R : (Nat → Nat → Int32) → Prop) : Option g_V → g_H → Prop := fun v h' => ∃ a' : Nat → Nat → Int32, v = none ∧ h' = (sh, a', r, g) ∧ R a'
section GE
variable {Y : g_Y} {Z : g_Z} {k n pc pc' : Nat} {L : List (Option g_V)} {st rest : List g_V} {sh : List (Nat × Nat)} {a : Nat → Nat → Int32} {r r' : Nat → Nat → Option Nat} {g g' : Nat → Nat → Int64} {x : g_V} {R : (Nat → Nat → Int32) → Prop}
theorem Gd_callEV (hc : g_Call Y Z k n pc L st rest (sh, a, r, g) 0 0 (g_EV sh r' g' x R) pc') (kk : ∀ a' : Nat → Nat → Int32, R a' → Gd Y Z k n pc' L (x :: rest) (sh, a', r', g')) : Gd Y Z k n pc L st (sh, a, r, g) := g_call0 hc (fun v h' q => by obtain ⟨a', rfl, rfl, q⟩ := q; exact ⟨rfl, kk a' q⟩)
theorem Gd_callE0 (hc : g_Call Y Z k n pc L st rest (sh, a, r, g) 0 0 (g_E0 sh r' g' R) pc') (kk : ∀ a' : Nat → Nat → Int32, R a' → Gd Y Z k n pc' L rest (sh, a', r', g')) : Gd Y Z k n pc L st (sh, a, r, g) := g_call0 hc (fun v h' q => by obtain ⟨a', rfl, rfl, q⟩ := q; exact ⟨rfl, kk a' q⟩)
end GE
theorem nI_nem1 {i : Nat} (h : i < 2147483648) : ¬ nI i = -1 := fun q => nI_lt0 h (by rw [q]; decide)
section GM1
variable {Y : g_Y} {Z : g_Z} {k n pc pc' tgt i : Nat} {L : List (Option g_V)} {st : List g_V} {h : g_H}
theorem Gd_icmp_eqM1 (hd : g_J Y pc (.if_icmp .eq) tgt pc') (kt : Gd Y Z k n tgt L st h) : Gd Y Z k n pc L (vi (-1) :: vi (-1) :: st) h := Gd_icmp_eq hd (fun _ => kt) (fun q => absurd rfl q)
theorem Gd_icmp_neM1 (hd : g_J Y pc (.if_icmp .ne) tgt pc') (kk : Gd Y Z k n pc' L st h) : Gd Y Z k n pc L (vi (-1) :: vi (-1) :: st) h := Gd_icmp_ne hd (fun q => absurd rfl q) (fun _ => kk)
theorem Gd_icmp_eqM0 (hi : i < 2147483648) (hd : g_J Y pc (.if_icmp .eq) tgt pc') (kk : Gd Y Z k n pc' L st h) : Gd Y Z k n pc L (vi (-1) :: vi (nI i) :: st) h := Gd_icmp_eq hd (fun q => absurd q (nI_nem1 hi)) (fun _ => kk)
theorem Gd_icmp_neM0 (hi : i < 2147483648) (hd : g_J Y pc (.if_icmp .ne) tgt pc') (kk : Gd Y Z k n tgt L st h) : Gd Y Z k n pc L (vi (-1) :: vi (nI i) :: st) h := Gd_icmp_ne hd (fun _ => kk) (fun q => absurd (by simpa using q) (nI_nem1 hi))
end GM1
