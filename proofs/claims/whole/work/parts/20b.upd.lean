abbrev z0 (d N0 : Nat) (Q : Option g_V → g_H → Prop) : g_Z := (d, 0, 0, N0, (0, fun _ => 0), Q)
/-- one number of the forest is another one -/
def fu (φ : Nat → Nat → Nat) (i j v : Nat) : Nat → Nat → Nat := fun x y => if x = i then (if y = j then v else φ x y) else φ x y
section UP
variable {φ : Nat → Nat → Nat} {a : Nat → Nat → Int32} {f p d v : Nat}
theorem fu_s : fu φ p d v p d = v := by simp [fu]
theorem fu_i {x y : Nat} (h : x ≠ p) : fu φ p d v x y = φ x y := by simp [fu, h]
theorem fu_j {x y : Nat} (h : y ≠ d) : fu φ p d v x y = φ x y := by simp [fu, h]
theorem MA_setda (h : MA φ a) : MA (fu φ 7 1 v) (up2 a 50 6 (nI v)) := by
  obtain ⟨h1, h2, h3, h4, h5, h6, h7, h8, h9, h10, h11⟩ := h
  exact ⟨by simpa [up2, fu] using h1, by simpa [up2, fu] using h2, by simp [up2, fu], by simpa [up2, fu] using h4, by simpa [up2, fu] using h5, by simpa [up2, fu] using h6, by simpa [up2, fu] using h7, by simpa [up2, fu] using h8, by simpa [up2, fu] using h9, by simpa [up2, fu] using h10, by simpa [up2, fu] using h11⟩
theorem MA_setal (h : MA φ a) : MA (fu φ 7 0 v) (up2 a 50 5 (nI v)) := by
  obtain ⟨h1, h2, h3, h4, h5, h6, h7, h8, h9, h10, h11⟩ := h
  exact ⟨by simpa [up2, fu] using h1, by simp [up2, fu], by simpa [up2, fu] using h3, by simpa [up2, fu] using h4, by simpa [up2, fu] using h5, by simpa [up2, fu] using h6, by simpa [up2, fu] using h7, by simpa [up2, fu] using h8, by simpa [up2, fu] using h9, by simpa [up2, fu] using h10, by simpa [up2, fu] using h11⟩
theorem MA_setla (h : MA φ a) : MA (fu φ 7 2 v) (up2 a 50 12 (nI v)) := by
  obtain ⟨h1, h2, h3, h4, h5, h6, h7, h8, h9, h10, h11⟩ := h
  exact ⟨by simpa [up2, fu] using h1, by simpa [up2, fu] using h2, by simpa [up2, fu] using h3, by simp [up2, fu], by simpa [up2, fu] using h5, by simpa [up2, fu] using h6, by simpa [up2, fu] using h7, by simpa [up2, fu] using h8, by simpa [up2, fu] using h9, by simpa [up2, fu] using h10, by simpa [up2, fu] using h11⟩
theorem MA_setsh (h : MA φ a) : MA (fu φ 0 d v) (up2 a 54 d (nI v)) := by
  obtain ⟨h1, h2, h3, h4, h5, h6, h7, h8, h9, h10, h11⟩ := h
  refine ⟨by simpa [up2, fu] using h1, by simpa [up2, fu] using h2, by simpa [up2, fu] using h3, by simpa [up2, fu] using h4, fun q hq => ?_, by simpa [up2, fu] using h6, by simpa [up2, fu] using h7, by simpa [up2, fu] using h8, by simpa [up2, fu] using h9, by simpa [up2, fu] using h10, by simpa [up2, fu] using h11⟩
  by_cases e : q = d
  · simp [up2, fu, e]
  · simp [up2, fu, e, h5 q hq]
theorem MA_setho (h : MA φ a) : MA (fu φ 3 p v) (up2 a 53 (4 * p) (nI v)) := by
  obtain ⟨h1, h2, h3, h4, h5, h6, h7, h8, h9, h10, h11⟩ := h
  refine ⟨by simpa [up2, fu] using h1, by simpa [up2, fu] using h2, by simpa [up2, fu] using h3, by simpa [up2, fu] using h4, by simpa [up2, fu] using h5, fun q hq => ?_, fun q hq => ?_, fun q hq => ?_, fun q hq => ?_, by simpa [up2, fu] using h10, by simpa [up2, fu] using h11⟩
  · by_cases e : q = p
    · simp [up2, fu, e]
    · rw [up2_j _ _ (by omega), fu_j e]; exact h6 q hq
  · rw [up2_j _ _ (by omega), fu_i (by decide)]; exact h7 q hq
  · rw [up2_j _ _ (by omega), fu_i (by decide)]; exact h8 q hq
  · rw [up2_j _ _ (by omega), fu_i (by decide)]; exact h9 q hq
theorem MA_setca (h : MA φ a) : MA (fu φ 5 p v) (up2 a 53 (4 * p + 1) (nI v)) := by
  obtain ⟨h1, h2, h3, h4, h5, h6, h7, h8, h9, h10, h11⟩ := h
  refine ⟨by simpa [up2, fu] using h1, by simpa [up2, fu] using h2, by simpa [up2, fu] using h3, by simpa [up2, fu] using h4, by simpa [up2, fu] using h5, fun q hq => ?_, fun q hq => ?_, fun q hq => ?_, fun q hq => ?_, by simpa [up2, fu] using h10, by simpa [up2, fu] using h11⟩
  · rw [up2_j _ _ (by omega), fu_i (by decide)]; exact h6 q hq
  · by_cases e : q = p
    · simp [up2, fu, e]
    · rw [up2_j _ _ (by omega), fu_j e]; exact h7 q hq
  · rw [up2_j _ _ (by omega), fu_i (by decide)]; exact h8 q hq
  · rw [up2_j _ _ (by omega), fu_i (by decide)]; exact h9 q hq
theorem MA_setme (h : MA φ a) : MA (fu φ 4 p v) (up2 a 53 (4 * p + 2) (nI v)) := by
  obtain ⟨h1, h2, h3, h4, h5, h6, h7, h8, h9, h10, h11⟩ := h
  refine ⟨by simpa [up2, fu] using h1, by simpa [up2, fu] using h2, by simpa [up2, fu] using h3, by simpa [up2, fu] using h4, by simpa [up2, fu] using h5, fun q hq => ?_, fun q hq => ?_, fun q hq => ?_, fun q hq => ?_, by simpa [up2, fu] using h10, by simpa [up2, fu] using h11⟩
  · rw [up2_j _ _ (by omega), fu_i (by decide)]; exact h6 q hq
  · rw [up2_j _ _ (by omega), fu_i (by decide)]; exact h7 q hq
  · by_cases e : q = p
    · simp [up2, fu, e]
    · rw [up2_j _ _ (by omega), fu_j e]; exact h8 q hq
  · rw [up2_j _ _ (by omega), fu_i (by decide)]; exact h9 q hq
theorem MA_setby (h : MA φ a) : MA (fu φ 6 p v) (up2 a 53 (4 * p + 3) (nI v)) := by
  obtain ⟨h1, h2, h3, h4, h5, h6, h7, h8, h9, h10, h11⟩ := h
  refine ⟨by simpa [up2, fu] using h1, by simpa [up2, fu] using h2, by simpa [up2, fu] using h3, by simpa [up2, fu] using h4, by simpa [up2, fu] using h5, fun q hq => ?_, fun q hq => ?_, fun q hq => ?_, fun q hq => ?_, by simpa [up2, fu] using h10, by simpa [up2, fu] using h11⟩
  · rw [up2_j _ _ (by omega), fu_i (by decide)]; exact h6 q hq
  · rw [up2_j _ _ (by omega), fu_i (by decide)]; exact h7 q hq
  · rw [up2_j _ _ (by omega), fu_i (by decide)]; exact h8 q hq
  · by_cases e : q = p
    · simp [up2, fu, e]
    · rw [up2_j _ _ (by omega), fu_j e]; exact h9 q hq
theorem FA_setal (h : FA f φ a) : FA f (fu φ 7 0 v) (up2 a f 1 (nI v)) := by
  obtain ⟨h1, h2, h3, h4, h5, h6, h7, h8, h9, h10, h11⟩ := h
  exact ⟨by simp [up2, fu], by simpa [up2, fu] using h2, by simpa [up2, fu] using h3, by simpa [up2, fu] using h4, fun q hq => by rw [up2_k _ _ (by omega), fu_i (by decide)]; exact h5 q hq, fun q hq => by rw [up2_k _ _ (by omega), fu_i (by decide)]; exact h6 q hq, fun q hq => by rw [up2_k _ _ (by omega), fu_i (by decide)]; exact h7 q hq, fun q hq => by rw [up2_k _ _ (by omega), fu_i (by decide)]; exact h8 q hq, fun q hq => by rw [up2_k _ _ (by omega), fu_i (by decide)]; exact h9 q hq, fun q hq => by rw [up2_k _ _ (by omega), fu_i (by decide)]; exact h10 q hq, fun q hq => by rw [up2_k _ _ (by omega), fu_i (by decide)]; exact h11 q hq⟩
theorem FA_setda (h : FA f φ a) : FA f (fu φ 7 1 v) (up2 a f 2 (nI v)) := by
  obtain ⟨h1, h2, h3, h4, h5, h6, h7, h8, h9, h10, h11⟩ := h
  exact ⟨by simpa [up2, fu] using h1, by simp [up2, fu], by simpa [up2, fu] using h3, by simpa [up2, fu] using h4, fun q hq => by rw [up2_k _ _ (by omega), fu_i (by decide)]; exact h5 q hq, fun q hq => by rw [up2_k _ _ (by omega), fu_i (by decide)]; exact h6 q hq, fun q hq => by rw [up2_k _ _ (by omega), fu_i (by decide)]; exact h7 q hq, fun q hq => by rw [up2_k _ _ (by omega), fu_i (by decide)]; exact h8 q hq, fun q hq => by rw [up2_k _ _ (by omega), fu_i (by decide)]; exact h9 q hq, fun q hq => by rw [up2_k _ _ (by omega), fu_i (by decide)]; exact h10 q hq, fun q hq => by rw [up2_k _ _ (by omega), fu_i (by decide)]; exact h11 q hq⟩
theorem FA_setla (h : FA f φ a) : FA f (fu φ 7 2 v) (up2 a f 3 (nI v)) := by
  obtain ⟨h1, h2, h3, h4, h5, h6, h7, h8, h9, h10, h11⟩ := h
  exact ⟨by simpa [up2, fu] using h1, by simpa [up2, fu] using h2, by simp [up2, fu], by simpa [up2, fu] using h4, fun q hq => by rw [up2_k _ _ (by omega), fu_i (by decide)]; exact h5 q hq, fun q hq => by rw [up2_k _ _ (by omega), fu_i (by decide)]; exact h6 q hq, fun q hq => by rw [up2_k _ _ (by omega), fu_i (by decide)]; exact h7 q hq, fun q hq => by rw [up2_k _ _ (by omega), fu_i (by decide)]; exact h8 q hq, fun q hq => by rw [up2_k _ _ (by omega), fu_i (by decide)]; exact h9 q hq, fun q hq => by rw [up2_k _ _ (by omega), fu_i (by decide)]; exact h10 q hq, fun q hq => by rw [up2_k _ _ (by omega), fu_i (by decide)]; exact h11 q hq⟩
theorem FA_sethu (h : FA f φ a) : FA f (fu φ 7 3 v) (up2 a f 4 (nI v)) := by
  obtain ⟨h1, h2, h3, h4, h5, h6, h7, h8, h9, h10, h11⟩ := h
  exact ⟨by simpa [up2, fu] using h1, by simpa [up2, fu] using h2, by simpa [up2, fu] using h3, by simp [up2, fu], fun q hq => by rw [up2_k _ _ (by omega), fu_i (by decide)]; exact h5 q hq, fun q hq => by rw [up2_k _ _ (by omega), fu_i (by decide)]; exact h6 q hq, fun q hq => by rw [up2_k _ _ (by omega), fu_i (by decide)]; exact h7 q hq, fun q hq => by rw [up2_k _ _ (by omega), fu_i (by decide)]; exact h8 q hq, fun q hq => by rw [up2_k _ _ (by omega), fu_i (by decide)]; exact h9 q hq, fun q hq => by rw [up2_k _ _ (by omega), fu_i (by decide)]; exact h10 q hq, fun q hq => by rw [up2_k _ _ (by omega), fu_i (by decide)]; exact h11 q hq⟩
theorem FA_setsh (h : FA f φ a) : FA f (fu φ 0 p v) (up2 a (f + 1) p (nI v)) := by
  obtain ⟨h1, h2, h3, h4, h5, h6, h7, h8, h9, h10, h11⟩ := h
  refine ⟨by rw [up2_k _ _ (by omega), fu_i (by decide)]; exact h1, by rw [up2_k _ _ (by omega), fu_i (by decide)]; exact h2, by rw [up2_k _ _ (by omega), fu_i (by decide)]; exact h3, by rw [up2_k _ _ (by omega), fu_i (by decide)]; exact h4, fun q hq => by
    by_cases e : q = p
    · simp [up2, fu, e]
    · rw [up2_j _ _ e, fu_j e]; exact h5 q hq, fun q hq => by rw [up2_k _ _ (by omega), fu_i (by decide)]; exact h6 q hq, fun q hq => by rw [up2_k _ _ (by omega), fu_i (by decide)]; exact h7 q hq, fun q hq => by rw [up2_k _ _ (by omega), fu_i (by decide)]; exact h8 q hq, fun q hq => by rw [up2_k _ _ (by omega), fu_i (by decide)]; exact h9 q hq, fun q hq => by rw [up2_k _ _ (by omega), fu_i (by decide)]; exact h10 q hq, fun q hq => by rw [up2_k _ _ (by omega), fu_i (by decide)]; exact h11 q hq⟩
theorem FA_setki (h : FA f φ a) : FA f (fu φ 1 p v) (up2 a (f + 2) p (nI v)) := by
  obtain ⟨h1, h2, h3, h4, h5, h6, h7, h8, h9, h10, h11⟩ := h
  refine ⟨by rw [up2_k _ _ (by omega), fu_i (by decide)]; exact h1, by rw [up2_k _ _ (by omega), fu_i (by decide)]; exact h2, by rw [up2_k _ _ (by omega), fu_i (by decide)]; exact h3, by rw [up2_k _ _ (by omega), fu_i (by decide)]; exact h4, fun q hq => by rw [up2_k _ _ (by omega), fu_i (by decide)]; exact h5 q hq, fun q hq => by
    by_cases e : q = p
    · simp [up2, fu, e]
    · rw [up2_j _ _ e, fu_j e]; exact h6 q hq, fun q hq => by rw [up2_k _ _ (by omega), fu_i (by decide)]; exact h7 q hq, fun q hq => by rw [up2_k _ _ (by omega), fu_i (by decide)]; exact h8 q hq, fun q hq => by rw [up2_k _ _ (by omega), fu_i (by decide)]; exact h9 q hq, fun q hq => by rw [up2_k _ _ (by omega), fu_i (by decide)]; exact h10 q hq, fun q hq => by rw [up2_k _ _ (by omega), fu_i (by decide)]; exact h11 q hq⟩
theorem FA_setmo (h : FA f φ a) : FA f (fu φ 2 p v) (up2 a (f + 3) p (nI v)) := by
  obtain ⟨h1, h2, h3, h4, h5, h6, h7, h8, h9, h10, h11⟩ := h
  refine ⟨by rw [up2_k _ _ (by omega), fu_i (by decide)]; exact h1, by rw [up2_k _ _ (by omega), fu_i (by decide)]; exact h2, by rw [up2_k _ _ (by omega), fu_i (by decide)]; exact h3, by rw [up2_k _ _ (by omega), fu_i (by decide)]; exact h4, fun q hq => by rw [up2_k _ _ (by omega), fu_i (by decide)]; exact h5 q hq, fun q hq => by rw [up2_k _ _ (by omega), fu_i (by decide)]; exact h6 q hq, fun q hq => by
    by_cases e : q = p
    · simp [up2, fu, e]
    · rw [up2_j _ _ e, fu_j e]; exact h7 q hq, fun q hq => by rw [up2_k _ _ (by omega), fu_i (by decide)]; exact h8 q hq, fun q hq => by rw [up2_k _ _ (by omega), fu_i (by decide)]; exact h9 q hq, fun q hq => by rw [up2_k _ _ (by omega), fu_i (by decide)]; exact h10 q hq, fun q hq => by rw [up2_k _ _ (by omega), fu_i (by decide)]; exact h11 q hq⟩
theorem FA_setho (h : FA f φ a) : FA f (fu φ 3 p v) (up2 a (f + 4) p (nI v)) := by
  obtain ⟨h1, h2, h3, h4, h5, h6, h7, h8, h9, h10, h11⟩ := h
  refine ⟨by rw [up2_k _ _ (by omega), fu_i (by decide)]; exact h1, by rw [up2_k _ _ (by omega), fu_i (by decide)]; exact h2, by rw [up2_k _ _ (by omega), fu_i (by decide)]; exact h3, by rw [up2_k _ _ (by omega), fu_i (by decide)]; exact h4, fun q hq => by rw [up2_k _ _ (by omega), fu_i (by decide)]; exact h5 q hq, fun q hq => by rw [up2_k _ _ (by omega), fu_i (by decide)]; exact h6 q hq, fun q hq => by rw [up2_k _ _ (by omega), fu_i (by decide)]; exact h7 q hq, fun q hq => by
    by_cases e : q = p
    · simp [up2, fu, e]
    · rw [up2_j _ _ e, fu_j e]; exact h8 q hq, fun q hq => by rw [up2_k _ _ (by omega), fu_i (by decide)]; exact h9 q hq, fun q hq => by rw [up2_k _ _ (by omega), fu_i (by decide)]; exact h10 q hq, fun q hq => by rw [up2_k _ _ (by omega), fu_i (by decide)]; exact h11 q hq⟩
theorem FA_setme (h : FA f φ a) : FA f (fu φ 4 p v) (up2 a (f + 5) p (nI v)) := by
  obtain ⟨h1, h2, h3, h4, h5, h6, h7, h8, h9, h10, h11⟩ := h
  refine ⟨by rw [up2_k _ _ (by omega), fu_i (by decide)]; exact h1, by rw [up2_k _ _ (by omega), fu_i (by decide)]; exact h2, by rw [up2_k _ _ (by omega), fu_i (by decide)]; exact h3, by rw [up2_k _ _ (by omega), fu_i (by decide)]; exact h4, fun q hq => by rw [up2_k _ _ (by omega), fu_i (by decide)]; exact h5 q hq, fun q hq => by rw [up2_k _ _ (by omega), fu_i (by decide)]; exact h6 q hq, fun q hq => by rw [up2_k _ _ (by omega), fu_i (by decide)]; exact h7 q hq, fun q hq => by rw [up2_k _ _ (by omega), fu_i (by decide)]; exact h8 q hq, fun q hq => by
    by_cases e : q = p
    · simp [up2, fu, e]
    · rw [up2_j _ _ e, fu_j e]; exact h9 q hq, fun q hq => by rw [up2_k _ _ (by omega), fu_i (by decide)]; exact h10 q hq, fun q hq => by rw [up2_k _ _ (by omega), fu_i (by decide)]; exact h11 q hq⟩
theorem FA_setca (h : FA f φ a) : FA f (fu φ 5 p v) (up2 a (f + 6) p (nI v)) := by
  obtain ⟨h1, h2, h3, h4, h5, h6, h7, h8, h9, h10, h11⟩ := h
  refine ⟨by rw [up2_k _ _ (by omega), fu_i (by decide)]; exact h1, by rw [up2_k _ _ (by omega), fu_i (by decide)]; exact h2, by rw [up2_k _ _ (by omega), fu_i (by decide)]; exact h3, by rw [up2_k _ _ (by omega), fu_i (by decide)]; exact h4, fun q hq => by rw [up2_k _ _ (by omega), fu_i (by decide)]; exact h5 q hq, fun q hq => by rw [up2_k _ _ (by omega), fu_i (by decide)]; exact h6 q hq, fun q hq => by rw [up2_k _ _ (by omega), fu_i (by decide)]; exact h7 q hq, fun q hq => by rw [up2_k _ _ (by omega), fu_i (by decide)]; exact h8 q hq, fun q hq => by rw [up2_k _ _ (by omega), fu_i (by decide)]; exact h9 q hq, fun q hq => by
    by_cases e : q = p
    · simp [up2, fu, e]
    · rw [up2_j _ _ e, fu_j e]; exact h10 q hq, fun q hq => by rw [up2_k _ _ (by omega), fu_i (by decide)]; exact h11 q hq⟩
theorem FA_setby (h : FA f φ a) : FA f (fu φ 6 p v) (up2 a (f + 7) p (nI v)) := by
  obtain ⟨h1, h2, h3, h4, h5, h6, h7, h8, h9, h10, h11⟩ := h
  refine ⟨by rw [up2_k _ _ (by omega), fu_i (by decide)]; exact h1, by rw [up2_k _ _ (by omega), fu_i (by decide)]; exact h2, by rw [up2_k _ _ (by omega), fu_i (by decide)]; exact h3, by rw [up2_k _ _ (by omega), fu_i (by decide)]; exact h4, fun q hq => by rw [up2_k _ _ (by omega), fu_i (by decide)]; exact h5 q hq, fun q hq => by rw [up2_k _ _ (by omega), fu_i (by decide)]; exact h6 q hq, fun q hq => by rw [up2_k _ _ (by omega), fu_i (by decide)]; exact h7 q hq, fun q hq => by rw [up2_k _ _ (by omega), fu_i (by decide)]; exact h8 q hq, fun q hq => by rw [up2_k _ _ (by omega), fu_i (by decide)]; exact h9 q hq, fun q hq => by rw [up2_k _ _ (by omega), fu_i (by decide)]; exact h10 q hq, fun q hq => by
    by_cases e : q = p
    · simp [up2, fu, e]
    · rw [up2_j _ _ e, fu_j e]; exact h11 q hq⟩
theorem FI_setal (h : FI φ) (hv : v < 1024) : FI (fu φ 7 0 v) := by
  obtain ⟨h1, h2, h3, h4, h5, h6, h7, h8, h9, h10, h11⟩ := h
  exact ⟨by simpa [fu] using hv, by simpa [fu] using h2, by simpa [fu] using h3, by simpa [fu] using h4, fun q hq => by rw [fu_i (by decide)]; exact h5 q hq, fun q hq => by rw [fu_i (by decide)]; exact h6 q hq, fun q hq => by rw [fu_i (by decide)]; exact h7 q hq, fun q hq => by rw [fu_i (by decide)]; exact h8 q hq, fun q hq => by rw [fu_i (by decide)]; exact h9 q hq, fun q hq => by rw [fu_i (by decide)]; exact h10 q hq, fun q hq => by rw [fu_i (by decide)]; exact h11 q hq⟩
theorem FI_setda (h : FI φ) (hv : v ≤ 999) : FI (fu φ 7 1 v) := by
  obtain ⟨h1, h2, h3, h4, h5, h6, h7, h8, h9, h10, h11⟩ := h
  exact ⟨by simpa [fu] using h1, by simpa [fu] using hv, by simpa [fu] using h3, by simpa [fu] using h4, fun q hq => by rw [fu_i (by decide)]; exact h5 q hq, fun q hq => by rw [fu_i (by decide)]; exact h6 q hq, fun q hq => by rw [fu_i (by decide)]; exact h7 q hq, fun q hq => by rw [fu_i (by decide)]; exact h8 q hq, fun q hq => by rw [fu_i (by decide)]; exact h9 q hq, fun q hq => by rw [fu_i (by decide)]; exact h10 q hq, fun q hq => by rw [fu_i (by decide)]; exact h11 q hq⟩
theorem FI_setla (h : FI φ) (hv : v < 6) : FI (fu φ 7 2 v) := by
  obtain ⟨h1, h2, h3, h4, h5, h6, h7, h8, h9, h10, h11⟩ := h
  exact ⟨by simpa [fu] using h1, by simpa [fu] using h2, by simpa [fu] using hv, by simpa [fu] using h4, fun q hq => by rw [fu_i (by decide)]; exact h5 q hq, fun q hq => by rw [fu_i (by decide)]; exact h6 q hq, fun q hq => by rw [fu_i (by decide)]; exact h7 q hq, fun q hq => by rw [fu_i (by decide)]; exact h8 q hq, fun q hq => by rw [fu_i (by decide)]; exact h9 q hq, fun q hq => by rw [fu_i (by decide)]; exact h10 q hq, fun q hq => by rw [fu_i (by decide)]; exact h11 q hq⟩
theorem FI_sethu (h : FI φ) (hv : v ≤ 6) : FI (fu φ 7 3 v) := by
  obtain ⟨h1, h2, h3, h4, h5, h6, h7, h8, h9, h10, h11⟩ := h
  exact ⟨by simpa [fu] using h1, by simpa [fu] using h2, by simpa [fu] using h3, by simpa [fu] using hv, fun q hq => by rw [fu_i (by decide)]; exact h5 q hq, fun q hq => by rw [fu_i (by decide)]; exact h6 q hq, fun q hq => by rw [fu_i (by decide)]; exact h7 q hq, fun q hq => by rw [fu_i (by decide)]; exact h8 q hq, fun q hq => by rw [fu_i (by decide)]; exact h9 q hq, fun q hq => by rw [fu_i (by decide)]; exact h10 q hq, fun q hq => by rw [fu_i (by decide)]; exact h11 q hq⟩
theorem FI_setsh (h : FI φ) (hv : v ≤ 99) : FI (fu φ 0 p v) := by
  obtain ⟨h1, h2, h3, h4, h5, h6, h7, h8, h9, h10, h11⟩ := h
  refine ⟨by rw [fu_i (by decide)]; exact h1, by rw [fu_i (by decide)]; exact h2, by rw [fu_i (by decide)]; exact h3, by rw [fu_i (by decide)]; exact h4, fun q hq => by
    by_cases e : q = p
    · simpa [fu, e] using hv
    · rw [fu_j e]; exact h5 q hq, fun q hq => by rw [fu_i (by decide)]; exact h6 q hq, fun q hq => by rw [fu_i (by decide)]; exact h7 q hq, fun q hq => by rw [fu_i (by decide)]; exact h8 q hq, fun q hq => by rw [fu_i (by decide)]; exact h9 q hq, fun q hq => by rw [fu_i (by decide)]; exact h10 q hq, fun q hq => by rw [fu_i (by decide)]; exact h11 q hq⟩
theorem FI_setki (h : FI φ) (hv : v < 6) : FI (fu φ 1 p v) := by
  obtain ⟨h1, h2, h3, h4, h5, h6, h7, h8, h9, h10, h11⟩ := h
  refine ⟨by rw [fu_i (by decide)]; exact h1, by rw [fu_i (by decide)]; exact h2, by rw [fu_i (by decide)]; exact h3, by rw [fu_i (by decide)]; exact h4, fun q hq => by rw [fu_i (by decide)]; exact h5 q hq, fun q hq => by
    by_cases e : q = p
    · simpa [fu, e] using hv
    · rw [fu_j e]; exact h6 q hq, fun q hq => by rw [fu_i (by decide)]; exact h7 q hq, fun q hq => by rw [fu_i (by decide)]; exact h8 q hq, fun q hq => by rw [fu_i (by decide)]; exact h9 q hq, fun q hq => by rw [fu_i (by decide)]; exact h10 q hq, fun q hq => by rw [fu_i (by decide)]; exact h11 q hq⟩
theorem FI_setmo (h : FI φ) (hv : v < 10) : FI (fu φ 2 p v) := by
  obtain ⟨h1, h2, h3, h4, h5, h6, h7, h8, h9, h10, h11⟩ := h
  refine ⟨by rw [fu_i (by decide)]; exact h1, by rw [fu_i (by decide)]; exact h2, by rw [fu_i (by decide)]; exact h3, by rw [fu_i (by decide)]; exact h4, fun q hq => by rw [fu_i (by decide)]; exact h5 q hq, fun q hq => by rw [fu_i (by decide)]; exact h6 q hq, fun q hq => by
    by_cases e : q = p
    · simpa [fu, e] using hv
    · rw [fu_j e]; exact h7 q hq, fun q hq => by rw [fu_i (by decide)]; exact h8 q hq, fun q hq => by rw [fu_i (by decide)]; exact h9 q hq, fun q hq => by rw [fu_i (by decide)]; exact h10 q hq, fun q hq => by rw [fu_i (by decide)]; exact h11 q hq⟩
theorem FI_setho (h : FI φ) (hv : v ≤ 99) : FI (fu φ 3 p v) := by
  obtain ⟨h1, h2, h3, h4, h5, h6, h7, h8, h9, h10, h11⟩ := h
  refine ⟨by rw [fu_i (by decide)]; exact h1, by rw [fu_i (by decide)]; exact h2, by rw [fu_i (by decide)]; exact h3, by rw [fu_i (by decide)]; exact h4, fun q hq => by rw [fu_i (by decide)]; exact h5 q hq, fun q hq => by rw [fu_i (by decide)]; exact h6 q hq, fun q hq => by rw [fu_i (by decide)]; exact h7 q hq, fun q hq => by
    by_cases e : q = p
    · simpa [fu, e] using hv
    · rw [fu_j e]; exact h8 q hq, fun q hq => by rw [fu_i (by decide)]; exact h9 q hq, fun q hq => by rw [fu_i (by decide)]; exact h10 q hq, fun q hq => by rw [fu_i (by decide)]; exact h11 q hq⟩
theorem FI_setme (h : FI φ) (hv : v < 64) : FI (fu φ 4 p v) := by
  obtain ⟨h1, h2, h3, h4, h5, h6, h7, h8, h9, h10, h11⟩ := h
  refine ⟨by rw [fu_i (by decide)]; exact h1, by rw [fu_i (by decide)]; exact h2, by rw [fu_i (by decide)]; exact h3, by rw [fu_i (by decide)]; exact h4, fun q hq => by rw [fu_i (by decide)]; exact h5 q hq, fun q hq => by rw [fu_i (by decide)]; exact h6 q hq, fun q hq => by rw [fu_i (by decide)]; exact h7 q hq, fun q hq => by rw [fu_i (by decide)]; exact h8 q hq, fun q hq => by
    by_cases e : q = p
    · simpa [fu, e] using hv
    · rw [fu_j e]; exact h9 q hq, fun q hq => by rw [fu_i (by decide)]; exact h10 q hq, fun q hq => by rw [fu_i (by decide)]; exact h11 q hq⟩
theorem FI_setca (h : FI φ) (hv : v < 1024) : FI (fu φ 5 p v) := by
  obtain ⟨h1, h2, h3, h4, h5, h6, h7, h8, h9, h10, h11⟩ := h
  refine ⟨by rw [fu_i (by decide)]; exact h1, by rw [fu_i (by decide)]; exact h2, by rw [fu_i (by decide)]; exact h3, by rw [fu_i (by decide)]; exact h4, fun q hq => by rw [fu_i (by decide)]; exact h5 q hq, fun q hq => by rw [fu_i (by decide)]; exact h6 q hq, fun q hq => by rw [fu_i (by decide)]; exact h7 q hq, fun q hq => by rw [fu_i (by decide)]; exact h8 q hq, fun q hq => by rw [fu_i (by decide)]; exact h9 q hq, fun q hq => by
    by_cases e : q = p
    · simpa [fu, e] using hv
    · rw [fu_j e]; exact h10 q hq, fun q hq => by rw [fu_i (by decide)]; exact h11 q hq⟩
theorem FI_setby (h : FI φ) (hv : v < 4294967296) : FI (fu φ 6 p v) := by
  obtain ⟨h1, h2, h3, h4, h5, h6, h7, h8, h9, h10, h11⟩ := h
  refine ⟨by rw [fu_i (by decide)]; exact h1, by rw [fu_i (by decide)]; exact h2, by rw [fu_i (by decide)]; exact h3, by rw [fu_i (by decide)]; exact h4, fun q hq => by rw [fu_i (by decide)]; exact h5 q hq, fun q hq => by rw [fu_i (by decide)]; exact h6 q hq, fun q hq => by rw [fu_i (by decide)]; exact h7 q hq, fun q hq => by rw [fu_i (by decide)]; exact h8 q hq, fun q hq => by rw [fu_i (by decide)]; exact h9 q hq, fun q hq => by rw [fu_i (by decide)]; exact h10 q hq, fun q hq => by
    by_cases e : q = p
    · simpa [fu, e] using hv
    · rw [fu_j e]; exact h11 q hq⟩
end UP
