theorem gc_cat {aK : Nat → Value} {ad : Nat → Nat} (hK : ∀ k : Nat, ∃ r : Option Nat, aK k = va_rf r) (v : g_V) : (gc aK ad v).category = if g_isl (some v) then 2 else 1 := by
  rcases v with x | x | r | k
  · rfl
  · rfl
  · cases r <;> rfl
  · obtain ⟨r, hr⟩ := hK k
    show (aK k).category = _
    rw [hr]
    cases r <;> rfl
theorem g_ll_mem {aK : Nat → Value} {ad : Nat → Nat} : ∀ (L : List (Option g_V)) (i : Nat) (q : Nat × Value), q ∈ g_ll aK ad i L ↔ ∃ (j : Nat) (v : g_V), L[j]? = some (some v) ∧ q = (i + j, gc aK ad v)
  | [], i, q => by simp [g_ll]
  | none :: L, i, q => by
    rw [g_ll, g_ll_mem L (i + 1) q]
    constructor
    · rintro ⟨j, v, h, e⟩
      exact ⟨j + 1, v, by simpa using h, by rw [e]; congr 1; omega⟩
    · rintro ⟨j, v, h, e⟩
      cases j with
      | zero => simp at h
      | succ j => exact ⟨j, v, by simpa using h, by rw [e]; congr 1; omega⟩
  | some w :: L, i, q => by
    rw [g_ll, List.mem_cons, g_ll_mem L (i + 1) q]
    constructor
    · rintro (h | ⟨j, v, h, e⟩)
      · exact ⟨0, w, by simp, by simpa using h⟩
      · exact ⟨j + 1, v, by simpa using h, by rw [e]; congr 1; omega⟩
    · rintro ⟨j, v, h, e⟩
      cases j with
      | zero =>
        simp at h
        subst h
        exact Or.inl (by simpa using e)
      | succ j => exact Or.inr ⟨j, v, by simpa using h, by rw [e]; congr 1; omega⟩
theorem g_L_at {aK : Nat → Value} {ad : Nat → Nat} {ls : Array Slot} {nL : Nat} {L : List (Option g_V)} (h : g_L aK ad ls nL L) {i : Nat} {v : g_V} (hv : L[i]? = some (some v)) : ls[i]? = some (.val (gc aK ad v)) :=
  h.1.2.2 (i, gc aK ad v) ((g_ll_mem L 0 _).mpr ⟨i, v, hv, by simp⟩)
theorem g_clr_get {L : List (Option g_V)} {i j : Nat} {w : g_V} (h : (g_clr L i)[j]? = some (some w)) : L[j]? = some (some w) ∧ ¬ (j = i ∧ g_isl (some w) = true) := by
  unfold g_clr at h
  split at h
  next hl =>
    rw [List.getElem?_set] at h
    split at h
    next e => split at h <;> simp at h
    next e => exact ⟨h, fun q => e q.1.symm⟩
  next hl =>
    refine ⟨h, fun q => hl ?_⟩
    rw [← q.1, List.getD_eq_getElem?_getD, h]
    exact q.2
theorem g_clp_get {L : List (Option g_V)} {i j : Nat} {w : g_V} (h : (g_clp L i)[j]? = some (some w)) : L[j]? = some (some w) ∧ ¬ (j + 1 = i ∧ g_isl (some w) = true) := by
  cases i with
  | zero => exact ⟨h, fun q => by omega⟩
  | succ i =>
    obtain ⟨h1, h2⟩ := g_clr_get h
    exact ⟨h1, fun q => h2 ⟨by omega, q.2⟩⟩
theorem g_clp_len (L : List (Option g_V)) (i : Nat) : (g_clp L i).length = L.length := by
  cases i with
  | zero => rfl
  | succ i => simp only [g_clp, g_clr]; split <;> simp
theorem g_L_sub {aK : Nat → Value} {ad : Nat → Nat} {ls : Array Slot} {nL : Nat} {l : List (Nat × Value)} {L : List (Option g_V)} (h : lv_has ls nL l) (hL : L.length ≤ nL) (hs : ∀ (j : Nat) (w : g_V), L[j]? = some (some w) → (j, gc aK ad w) ∈ l) : g_L aK ad ls nL L := by
  refine ⟨⟨h.1, h.2.1, fun q hq => ?_⟩, hL⟩
  obtain ⟨j, v, h1, rfl⟩ := (g_ll_mem L 0 q).mp hq
  have := h.2.2 _ (hs j v h1)
  simpa using this
theorem g_L_st1 {aK : Nat → Value} {ad : Nat → Nat} (hK : ∀ k : Nat, ∃ r : Option Nat, aK k = va_rf r) {ls ls' : Array Slot} {nL i : Nat} {L : List (Option g_V)} {v : g_V} (h0 : g_L aK ad ls nL L)
    (h : lv_has ls' nL ((i, gc aK ad v) :: (g_ll aK ad 0 L).filter (fun q => !(q.1 == i) && !(q.1 + 1 == i && q.2.category == 2)))) : g_L aK ad ls' nL (g_st1 L i v) := by
  refine g_L_sub h (by simp [g_st1, g_clp_len]; exact h0.2) (fun j w hj => ?_)
  rw [g_st1, List.getElem?_set] at hj
  split at hj
  next e =>
    subst e
    split at hj
    · cases hj
      exact List.mem_cons_self
    · simp at hj
  next e =>
    obtain ⟨h1, h2⟩ := g_clp_get hj
    refine List.mem_cons_of_mem _ (List.mem_filter.mpr ⟨(g_ll_mem L 0 _).mpr ⟨j, w, h1, by simp⟩, ?_⟩)
    rw [gc_cat hK]
    have e2 : j ≠ i := fun q => e q.symm
    by_cases h3 : j + 1 = i
    · have h4 : g_isl (some w) = false := by
        cases hh : g_isl (some w) with
        | false => rfl
        | true => exact absurd ⟨h3, hh⟩ h2
      simp [e2, h4]
    · simp [e2, h3]
theorem g_L_st2 {aK : Nat → Value} {ad : Nat → Nat} (hK : ∀ k : Nat, ∃ r : Option Nat, aK k = va_rf r) {ls ls' : Array Slot} {nL i : Nat} {L : List (Option g_V)} {v : g_V} (h0 : g_L aK ad ls nL L)
    (h : lv_has ls' nL ((i, gc aK ad v) :: (g_ll aK ad 0 L).filter (fun q => !(q.1 == i) && (!(q.1 == i + 1) && !(q.1 + 1 == i && q.2.category == 2))))) : g_L aK ad ls' nL (g_st2 L i v) := by
  refine g_L_sub h (by simp [g_st2, g_clp_len]; exact h0.2) (fun j w hj => ?_)
  rw [g_st2, List.getElem?_set] at hj
  split at hj
  next e =>
    subst e
    split at hj
    · cases hj
      exact List.mem_cons_self
    · simp at hj
  next e =>
    rw [List.getElem?_set] at hj
    split at hj
    next e3 => split at hj <;> simp at hj
    next e3 =>
      obtain ⟨h1, h2⟩ := g_clp_get hj
      refine List.mem_cons_of_mem _ (List.mem_filter.mpr ⟨(g_ll_mem L 0 _).mpr ⟨j, w, h1, by simp⟩, ?_⟩)
      rw [gc_cat hK]
      have e2 : j ≠ i := fun q => e q.symm
      have e4 : j ≠ i + 1 := fun q => e3 q.symm
      by_cases h3 : j + 1 = i
      · have h4 : g_isl (some w) = false := by
          cases hh : g_isl (some w) with
          | false => rfl
          | true => exact absurd ⟨h3, hh⟩ h2
        simp [e2, e4, h4]
      · simp [e2, e4, h3]
-- the heap's cells
theorem g_cw_len (cs : Nat → ClassId) (ad : Nat → Nat) (h : g_H) : (g_cw cs ad h).length = h.1.length := by simp [g_cw]
theorem g_cw_at {cs : Nat → ClassId} {ad : Nat → Nat} {h : g_H} {k : Nat} (hk : k < h.1.length) : (g_cw cs ad h)[k]? = some (ad k, g_ce cs ad h k) := by simp [g_cw, hk]
theorem g_sh_lt {h : g_H} {k : Nat} {x : Nat × Nat} (hk : h.1[k]? = some x) : k < h.1.length := (List.getElem?_eq_some_iff.mp hk).1
theorem g_sh_D {h : g_H} {k : Nat} {x : Nat × Nat} (hk : h.1[k]? = some x) : h.1.getD k (0, 0) = x := by rw [List.getD_eq_getElem?_getD, hk]; rfl
theorem g_ce_ob {cs : Nat → ClassId} {ad : Nat → Nat} {h : g_H} {k c n : Nat} (hk : h.1[k]? = some (c, n)) (hc : c < 20) : g_ce cs ad h k = .inr (c, (List.range n).map (g_fv ad h c k)) := by
  unfold g_ce; rw [g_sh_D hk]; simp [hc]
theorem g_ce_ia {cs : Nat → ClassId} {ad : Nat → Nat} {h : g_H} {k n : Nat} (hk : h.1[k]? = some (20, n)) : g_ce cs ad h k = .inl (cs 20, n, .inl (h.2.1 k)) := by
  unfold g_ce; rw [g_sh_D hk]; simp
theorem g_ce_ra {cs : Nat → ClassId} {ad : Nat → Nat} {h : g_H} {k c n : Nat} (hk : h.1[k]? = some (c, n)) (hc : 20 < c) : g_ce cs ad h k = .inl (cs c, n, .inr (.inr (.inr (.inr (fun j => (h.2.2.1 k j).map ad))))) := by
  unfold g_ce; rw [g_sh_D hk]
  have h1 : ¬ c < 20 := by omega
  have h2 : ¬ c = 20 := by omega
  simp [h1, h2]
theorem g_cw_set {cs : Nat → ClassId} {ad : Nat → Nat} {h h' : g_H} {k : Nat} {e : va_E} (hl : h'.1 = h.1) (he : g_ce cs ad h' k = e) (ho : ∀ i, i ≠ k → g_ce cs ad h' i = g_ce cs ad h i) : (g_cw cs ad h).set k (ad k, e) = g_cw cs ad h' := by
  apply List.ext_getElem?
  intro i
  rw [List.getElem?_set, g_cw_len]
  by_cases hi : i < h.1.length
  · have hi' : i < h'.1.length := by rw [hl]; exact hi
    rw [g_cw_at hi', g_cw_at hi]
    by_cases e1 : k = i
    · subst e1
      rw [if_pos rfl, if_pos hi, he]
    · rw [if_neg e1, ho i (fun q => e1 q.symm)]
  · have hi' : ¬ i < h'.1.length := by rw [hl]; exact hi
    have e2 : (g_cw cs ad h')[i]? = none := by rw [List.getElem?_eq_none_iff, g_cw_len]; omega
    have e3 : (g_cw cs ad h)[i]? = none := by rw [List.getElem?_eq_none_iff, g_cw_len]; omega
    rw [e2, e3]
    split
    next q => rw [if_neg (by omega)]
    next q => rfl
theorem g_cw_push {cs : Nat → ClassId} {ad : Nat → Nat} {h h' : g_H} {x : Nat × Nat} {q : Nat} {e : va_E} (hl : h'.1 = h.1 ++ [x]) (he : g_ce cs (va_up ad h.1.length q) h' h.1.length = e) (ho : ∀ i, i < h.1.length → g_ce cs (va_up ad h.1.length q) h' i = g_ce cs ad h i) : g_cw cs ad h ++ [(q, e)] = g_cw cs (va_up ad h.1.length q) h' := by
  apply List.ext_getElem?
  intro i
  have hl' : h'.1.length = h.1.length + 1 := by rw [hl]; simp
  rw [List.getElem?_append, g_cw_len]
  by_cases hi : i < h.1.length
  · rw [if_pos hi, g_cw_at hi, g_cw_at (by omega), ho i hi]
    simp [va_up, Nat.ne_of_lt hi]
  · rw [if_neg hi]
    by_cases e1 : i = h.1.length
    · subst e1
      rw [g_cw_at (by omega), he]
      simp [va_up]
    · have e2 : (g_cw cs (va_up ad h.1.length q) h')[i]? = none := by rw [List.getElem?_eq_none_iff, g_cw_len]; omega
      rw [e2, List.getElem?_eq_none_iff]
      simp
      omega
/-- one number of the heap's rows is another one -/
def up2 (a : Nat → Nat → Int32) (k j : Nat) (v : Int32) : Nat → Nat → Int32 := fun x y => if x = k then (if y = j then v else a x y) else a x y
theorem up2_s (a : Nat → Nat → Int32) (k j : Nat) (v : Int32) : up2 a k j v k j = v := by simp [up2]
theorem up2_j (a : Nat → Nat → Int32) {k j x y : Nat} (v : Int32) (h : y ≠ j) : up2 a k j v x y = a x y := by simp [up2, h]
theorem up2_k (a : Nat → Nat → Int32) {k j x y : Nat} (v : Int32) (h : x ≠ k) : up2 a k j v x y = a x y := by simp [up2, h]
theorem up2_row (a : Nat → Nat → Int32) (k j : Nat) (v : Int32) : up2 a k j v k = upd (a k) j v := by
  funext y; simp [up2, upd]
theorem up2_rowne (a : Nat → Nat → Int32) {k x : Nat} (j : Nat) (v : Int32) (h : x ≠ k) : up2 a k j v x = a x := by
  funext y; simp [up2, h]
def upR (r : Nat → Nat → Option Nat) (k j : Nat) (v : Option Nat) : Nat → Nat → Option Nat := fun x y => if x = k then (if y = j then v else r x y) else r x y
def upL (g : Nat → Nat → Int64) (k j : Nat) (v : Int64) : Nat → Nat → Int64 := fun x y => if x = k then (if y = j then v else g x y) else g x y
