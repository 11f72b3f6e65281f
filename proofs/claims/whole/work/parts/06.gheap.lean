theorem g_T0 (ws : List Cond) (h1 : ws.all (fun w => decide (w ∈ tables_1) && goodWord w) = true) : ∀ w ∈ ws, w ∈ g_T := by
  intro w hw
  have h2 := List.all_eq_true.mp h1 w hw
  simp only [Bool.and_eq_true, decide_eq_true_eq] at h2
  exact List.mem_filter.mpr ⟨List.mem_append_right _ h2.1, h2.2⟩
theorem g_T0_0 : ∀ w ∈ wsX00, w ∈ g_T := g_T0 _ (by decide +kernel)
theorem g_T0_1 : ∀ w ∈ wsX10, w ∈ g_T := g_T0 _ (by decide +kernel)
theorem g_T0_2 : ∀ w ∈ wsX20, w ∈ g_T := g_T0 _ (by decide +kernel)
theorem g_T0_3 : ∀ w ∈ wsX30, w ∈ g_T := g_T0 _ (by decide +kernel)
theorem g_T0_4 : ∀ w ∈ wsX40, w ∈ g_T := g_T0 _ (by decide +kernel)
theorem g_T0_5 : ∀ w ∈ wsX50, w ∈ g_T := g_T0 _ (by decide +kernel)
theorem g_T0_6 : ∀ w ∈ wsX60, w ∈ g_T := g_T0 _ (by decide +kernel)
theorem g_T0_7 : ∀ w ∈ wsX70, w ∈ g_T := g_T0 _ (by decide +kernel)
theorem g_T0_8 : ∀ w ∈ wsX80, w ∈ g_T := g_T0 _ (by decide +kernel)
theorem g_cls {c : Nat} {C : String} {T : u_T} {N : Nat} (h : vwCl[c]? = some (C, T, N)) : (∀ w ∈ u_ws C T N, w ∈ g_T) ∧ (∀ k, k < N → parseFieldDescriptor (T k).2.2.1 = some (g_ty c k)) ∧ (∀ a, a < N → ∀ b, b < N → a ≠ b → (T a).2.1 ≠ (T b).2.1) := by
  match c, h with
  | 0, h => cases h; exact ⟨g_T0_0, tyX0_ok, nmX0⟩
  | 1, h => cases h; exact ⟨g_T0_1, tyX1_ok, nmX1⟩
  | 2, h => cases h; exact ⟨g_T0_2, tyX2_ok, nmX2⟩
  | 3, h => cases h; exact ⟨g_T0_3, tyX3_ok, nmX3⟩
  | 4, h => cases h; exact ⟨g_T0_4, tyX4_ok, nmX4⟩
  | 5, h => cases h; exact ⟨g_T0_5, tyX5_ok, nmX5⟩
  | 6, h => cases h; exact ⟨g_T0_6, tyX6_ok, nmX6⟩
  | 7, h => cases h; exact ⟨g_T0_7, tyX7_ok, nmX7⟩
  | 8, h => cases h; exact ⟨g_T0_8, tyX8_ok, nmX8⟩
  | c + 9, h => simp [vwCl] at h
/-- the field j of class c is what the pool of own has at idx; nf fields; of kind kd -/
def g_F (own : String) (idx c j nf kd : Nat) (fin : Bool) : Prop := ∃ (C : String) (T : u_T), vwCl[c]? = some (C, T, nf) ∧ c < 20 ∧ j < nf ∧ g_fk c j = kd ∧ (T j).2.2.2 = fin ∧ Cond.fieldLink own idx (T j).1 (T j).2.1 (T j).2.2.1 ∈ g_T
section GH
variable {Y : g_Y} {Z : g_Z} {k n pc pc' : Nat} {L : List (Option g_V)} {st : List g_V} {sh : List (Nat × Nat)} {a : Nat → Nat → Int32} {r : Nat → Nat → Option Nat} {g : Nat → Nat → Int64} {b idx c j nf : Nat} {fin : Bool}
theorem g_get {v : g_V} (hf : ∃ kd, g_F Y.1.cls idx c j nf kd fin) (hb : sh[b]? = some (c, nf)) (hv : ∀ (aK : Nat → Value) (ad : Nat → Nat), g_fv ad (sh, a, r, g) c b j = gc aK ad v) (hd : g_D Y pc (.getfield idx) 3 pc') (kk : Gd Y Z k n pc' L (v :: st) (sh, a, r, g)) : Gd Y Z k n pc L (vr b :: st) (sh, a, r, g) := by
  intro p l e R s m args below meth cc D cs aK A ad0 QS H locs ad ls C RR Wd Ad hl
  obtain ⟨hd, rfl⟩ := hd
  obtain ⟨kd, CC, T, hc, hc20, hj, hk, hfin, hlink⟩ := hf
  obtain ⟨c1, c2, c3⟩ := g_cls hc
  refine va_get (D := D) (ci := c) (C := CC) (T := T) (N := nf) (Ts := g_T) (ref := (T j).1) (fs := (List.range nf).map (g_fv ad (sh, a, r, g) c b)) (v := gc aK ad v) C.1 C.2.1 C.2.2.2.2.1 c1 C.2.2.2.1 C.2.2.2.2.2.2.2.2.2.1 Wd.1 b ?_ hc j hj (C.2.2.2.2.1 _ hlink) (fun _ q => q) ?_ hd (kk p l e R s m args below meth cc D cs aK A ad0 QS H locs ad ls C RR Wd Ad hl)
  · rw [g_cw_at (g_sh_lt (h := (sh, a, r, g)) hb), g_ce_ob (h := (sh, a, r, g)) hb hc20]
  · simp [hj, hv aK ad]
theorem Gd_getI (hf : g_F Y.1.cls idx c j nf 0 fin) (hb : sh[b]? = some (c, nf)) (hd : g_D Y pc (.getfield idx) 3 pc') (kk : Gd Y Z k n pc' L (vi (a b j) :: st) (sh, a, r, g)) : Gd Y Z k n pc L (vr b :: st) (sh, a, r, g) :=
  g_get ⟨_, hf⟩ hb (fun aK ad => by obtain ⟨_, _, _, _, _, hk, _⟩ := hf; simp [g_fv, hk, gc]) hd kk
theorem Gd_getZ (hf : g_F Y.1.cls idx c j nf 3 fin) (hb : sh[b]? = some (c, nf)) (hd : g_D Y pc (.getfield idx) 3 pc') (kk : Gd Y Z k n pc' L (vi (a b j) :: st) (sh, a, r, g)) : Gd Y Z k n pc L (vr b :: st) (sh, a, r, g) :=
  g_get ⟨_, hf⟩ hb (fun aK ad => by obtain ⟨_, _, _, _, _, hk, _⟩ := hf; simp [g_fv, hk, gc]) hd kk
theorem Gd_getL (hf : g_F Y.1.cls idx c j nf 1 fin) (hb : sh[b]? = some (c, nf)) (hd : g_D Y pc (.getfield idx) 3 pc') (kk : Gd Y Z k n pc' L (vl (g b j) :: st) (sh, a, r, g)) : Gd Y Z k n pc L (vr b :: st) (sh, a, r, g) :=
  g_get ⟨_, hf⟩ hb (fun aK ad => by obtain ⟨_, _, _, _, _, hk, _⟩ := hf; simp [g_fv, hk, gc]) hd kk
theorem Gd_getR {q : Nat} (hf : g_F Y.1.cls idx c j nf 2 fin) (hb : sh[b]? = some (c, nf)) (hr : r b j = some q) (hd : g_D Y pc (.getfield idx) 3 pc') (kk : Gd Y Z k n pc' L (vr q :: st) (sh, a, r, g)) : Gd Y Z k n pc L (vr b :: st) (sh, a, r, g) :=
  g_get ⟨_, hf⟩ hb (fun aK ad => by obtain ⟨_, _, _, _, _, hk, _⟩ := hf; simp [g_fv, hk, gc, hr]) hd kk
theorem g_fsset {ad : Nat → Nat} {h h' : g_H} {c b j nf : Nat} {v : Value} (hv : g_fv ad h' c b j = v) (ho : ∀ i, i ≠ j → g_fv ad h' c b i = g_fv ad h c b i) : ((List.range nf).map (g_fv ad h c b)).set j v = (List.range nf).map (g_fv ad h' c b) := by
  apply List.ext_getElem?
  intro i
  rw [List.getElem?_set]
  by_cases e : j = i
  · subst e
    by_cases hi : j < nf
    · simp [hi, hv]
    · simp [hi]
  · rw [if_neg e]
    by_cases hi : i < nf
    · simp [hi, ho i (fun q => e q.symm)]
    · simp [hi]
theorem g_put {h' : g_H} {v : g_V} {kd : Nat} {ty : FieldType} (hf : g_F Y.1.cls idx c j nf kd fin) (hin : fin = true → Y.1.name = "<init>") (hdecl : fin = true → ∀ (C : String) (T : u_T), vwCl[c]? = some (C, T, nf) → (T j).1 = Y.1.cls) (hb : sh[b]? = some (c, nf)) (hl' : h'.1 = sh) (hty : g_ty c j = ty) (hn : ∀ (aK : Nat → Value) (ad : Nat → Nat), narrow ty (gc aK ad v) = gc aK ad v ∧ fits ty (gc aK ad v) = true)
    (hv : ∀ (aK : Nat → Value) (ad : Nat → Nat), g_fv ad h' c b j = gc aK ad v) (ho : ∀ (ad : Nat → Nat) (i : Nat), i ≠ j → g_fv ad h' c b i = g_fv ad (sh, a, r, g) c b i) (hoc : ∀ (cs : Nat → ClassId) (ad : Nat → Nat) (i : Nat), i ≠ b → g_ce cs ad h' i = g_ce cs ad (sh, a, r, g) i)
    (hd : g_D Y pc (.putfield idx) 3 pc') (kk : Gd Y Z k n pc' L st h') : Gd Y Z k n pc L (v :: vr b :: st) (sh, a, r, g) := by
  intro p l e R s m args below meth cc D cs aK A ad0 QS H locs ad ls C RR Wd Ad hl
  obtain ⟨hd, rfl⟩ := hd
  obtain ⟨CC, T, hc, hc20, hj, hk, hfin, hlink⟩ := hf
  obtain ⟨c1, c2, c3⟩ := g_cls hc
  have he : (g_cw cs ad (sh, a, r, g))[b]? = some (ad b, .inr (c, (List.range nf).map (g_fv ad (sh, a, r, g) c b))) := by
    rw [g_cw_at (g_sh_lt (h := (sh, a, r, g)) hb), g_ce_ob (h := (sh, a, r, g)) hb hc20]
  have hset : (g_cw cs ad (sh, a, r, g)).set b (ad b, .inr (c, ((List.range nf).map (g_fv ad (sh, a, r, g) c b)).set j (gc aK ad v))) = g_cw cs ad h' := by
    refine g_cw_set hl' ?_ (hoc cs ad)
    rw [g_ce_ob (h := h') (by rw [hl']; exact hb) hc20, g_fsset (hv aK ad) (ho ad)]
  have hlen : h'.1.length = sh.length := by rw [hl']
  subst hty
  cases fin with
  | false =>
    refine va_put (D := D) (ci := c) (C := CC) (T := T) (N := nf) (Ts := g_T) (ref := (T j).1) (fs := (List.range nf).map (g_fv ad (sh, a, r, g) c b)) (v := gc aK ad v) C.1 C.2.1 C.2.2.2.2.1 c1 (g_ty c) c2 c3 C.2.2.2.1 C.2.2.2.2.2.2.2.2.2.1 Wd.1 Wd.2.1 Wd.2.2 b he hc j hj (C.2.2.2.2.1 _ hlink) (fun _ q => q) hfin (c2 j hj) (hn aK ad).1 (hn aK ad).2 (by simp [hj]) hd (fun H1 locs1 hP hD hS => ?_)
    rw [hset] at hP hD
    exact kk p l e R s m args below meth cc D cs aK A ad0 QS H1 locs1 ad ls C RR ⟨hP, hD, hS⟩ (by rw [hlen]; exact Ad) hl
  | true =>
    refine va_putF (D := D) (ci := c) (C := CC) (T := T) (N := nf) (Ts := g_T) (ref := (T j).1) (fs := (List.range nf).map (g_fv ad (sh, a, r, g) c b)) (v := gc aK ad v) C.1 C.2.1 C.2.2.2.2.1 c1 (g_ty c) c2 c3 C.2.2.2.1 C.2.2.2.2.2.2.2.2.2.1 Wd.1 Wd.2.1 Wd.2.2 b he hc j hj (C.2.2.2.2.1 _ hlink) (fun _ q => q) hfin (by rw [C.2.2.2.2.2.2.1]; exact hin rfl) (hdecl rfl _ _ hc) (c2 j hj) (hn aK ad).1 (hn aK ad).2 (by simp [hj]) hd (fun H1 locs1 hP hD hS => ?_)
    rw [hset] at hP hD
    exact kk p l e R s m args below meth cc D cs aK A ad0 QS H1 locs1 ad ls C RR ⟨hP, hD, hS⟩ (by rw [hlen]; exact Ad) hl
end GH
