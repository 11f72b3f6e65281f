/-- no reference points beyond N -/
def g_okv (N : Nat) : g_V → Prop
  | .inr (.inr (.inl (some p))) => p < N
  | _ => True
def g_okL (N : Nat) (L : List (Option g_V)) : Prop := ∀ v, some v ∈ L → g_okv N v
def g_okS (N : Nat) (st : List g_V) : Prop := ∀ v ∈ st, g_okv N v
def g_okR (N : Nat) (r : Nat → Nat → Option Nat) : Prop := ∀ x y p, r x y = some p → p < N
/-- the heap with one more cell, all 0 -/
def g_nw (h : g_H) (x : Nat × Nat) : g_H := (h.1 ++ [x], va_up h.2.1 h.1.length (fun _ => 0), va_up h.2.2.1 h.1.length (fun _ => none), va_up h.2.2.2 h.1.length (fun _ => 0))
theorem gc_up {aK : Nat → Value} {ad : Nat → Nat} {N q : Nat} {v : g_V} (h : g_okv N v) : gc aK (va_up ad N q) v = gc aK ad v := by
  rcases v with x | x | r | k
  · rfl
  · rfl
  · cases r with
    | none => rfl
    | some p =>
      have h : p < N := h
      show va_rf (some (va_up ad N q p)) = va_rf (some (ad p))
      rw [show va_up ad N q p = ad p by simp [va_up, Nat.ne_of_lt h]]
  · rfl
theorem gc_upS {aK : Nat → Value} {ad : Nat → Nat} {N q : Nat} {st : List g_V} (h : g_okS N st) : st.map (gc aK (va_up ad N q)) = st.map (gc aK ad) := List.map_congr_left fun v hv => gc_up (h v hv)
theorem g_L_up {aK : Nat → Value} {ad : Nat → Nat} {ls : Array Slot} {nL N q : Nat} {L : List (Option g_V)} (h : g_L aK ad ls nL L) (hL : g_okL N L) : g_L aK (va_up ad N q) ls nL L :=
  g_L_sub h.1 h.2 (fun j w hj => (g_ll_mem L 0 _).mpr ⟨j, w, hj, by rw [gc_up (hL w (List.mem_of_getElem? hj))]; simp⟩)
theorem g_ce_up {cs : Nat → ClassId} {ad : Nat → Nat} {h : g_H} {x : Nat × Nat} {q i : Nat} {a' : Nat → Nat → Int32} {r' : Nat → Nat → Option Nat} {g' : Nat → Nat → Int64} (hr : g_okR h.1.length h.2.2.1) (hi : i < h.1.length) (ha : a' i = h.2.1 i) (hr' : r' i = h.2.2.1 i) (hg : g' i = h.2.2.2 i) : g_ce cs (va_up ad h.1.length q) (h.1 ++ [x], a', r', g') i = g_ce cs ad h i := by
  refine g_ce_congr ?_ (fun j => by show a' i j = _; rw [ha]) (fun j => ?_) (fun j => by show g' i j = _; rw [hg])
  · show (h.1 ++ [x]).getD i (0, 0) = _
    rw [List.getD_eq_getElem?_getD, List.getD_eq_getElem?_getD, List.getElem?_append_left hi]
  · show (r' i j).map _ = _
    rw [hr']
    cases hh : h.2.2.1 i j with
    | none => rfl
    | some p =>
      have := hr i j p hh
      simp [va_up, Nat.ne_of_lt this]
theorem g_sh_last (sh : List (Nat × Nat)) (x : Nat × Nat) : (sh ++ [x])[sh.length]? = some x := by simp
theorem va_up_s {α : Type} (f : Nat → α) (k : Nat) (v : α) : va_up f k v k = v := by simp [va_up]
theorem va_up_n {α : Type} (f : Nat → α) {k j : Nat} (v : α) (h : j ≠ k) : va_up f k v j = f j := by simp [va_up, h]
theorem g_A_up {N0 N q : Nat} {ad0 ad : Nat → Nat} (h : g_A N0 ad0 ad N) : g_A N0 ad0 (va_up ad N q) (N + 1) := by
  obtain ⟨h1, h2, h3⟩ := h
  exact ⟨fun i hi => by rw [va_up_n _ _ (by omega)]; exact h1 i hi, fun e => by omega, by omega⟩
section GA
variable {Y : g_Y} {Z : g_Z} {k n pc pc' : Nat} {L : List (Option g_V)} {st : List g_V} {sh : List (Nat × Nat)} {a : Nat → Nat → Int32} {r : Nat → Nat → Option Nat} {g : Nat → Nat → Int64} {b idx c j nf : Nat} {fin : Bool} {x : Int32} {lx : Int64}
theorem Gd_newa {N' : Nat} (hn : ¬ x < 0) (hN : x.toNatClampNeg = N') (hbig : N' * 4 ≤ 536870912) (hc : k + 1 ≤ Z.2.1) (hs : n + N' ≤ Z.2.2.1) (okr : g_okR sh.length r) (okl : g_okL sh.length L) (oks : g_okS sh.length st) (hw : Cond.arrayClass .int ∈ g_T)
    (hd : g_D Y pc (.newarray .int) 2 pc') (kk : Gd Y Z (k + 1) (n + N') pc' L (vr sh.length :: st) (g_nw (sh, a, r, g) (20, N'))) : Gd Y Z k n pc L (vi x :: st) (sh, a, r, g) := by
  intro p l e R s m args below meth cc D cs aK A ad0 QS H locs ad ls C RR Wd Ad hl
  obtain ⟨hd, rfl⟩ := hd
  have hKt := C.2.2.2.2.2.2.2.2.2.1
  refine va_newa (atype := .int) (ty := .int) (a0 := (N', .inl (fun _ => 0))) C.1 C.2.1 (C.2.2.2.2.1 _ hw) rfl hKt Wd.1 Wd.2.1 Wd.2.2 C.2.2.2.2.2.2.2.1 (fun cA => by rw [vp_cell_i]; rfl) hn hN hbig (Nat.le_trans hc C.2.2.2.2.2.1.2.2.1) (Nat.le_trans hs C.2.2.2.2.2.1.2.2.2) hd (fun q cA H1 hK hP hD hS => ?_)
  have e1 : cA = cs 20 := by
    have h1 := (hK.2 3 (cA, .int) rfl).2
    have h2 := (hKt.2 0 (cs 20, .int) rfl).2
    exact Option.some.inj (h1.symm.trans h2)
  subst e1
  have hpush : g_cw cs ad (sh, a, r, g) ++ [(q, .inl (cs 20, N', .inl (fun _ => 0)))] = g_cw cs (va_up ad sh.length q) (g_nw (sh, a, r, g) (20, N')) := by
    refine g_cw_push (h := (sh, a, r, g)) (x := (20, N')) rfl ?_ (fun i hi => g_ce_up (h := (sh, a, r, g)) okr hi (va_up_n _ _ (Nat.ne_of_lt hi)) (va_up_n _ _ (Nat.ne_of_lt hi)) (va_up_n _ _ (Nat.ne_of_lt hi)))
    rw [g_ce_ia (h := g_nw (sh, a, r, g) (20, N')) (n := N') (g_sh_last _ _)]
    show Sum.inl (cs 20, N', Sum.inl (va_up a sh.length (fun _ => 0) sh.length)) = _
    rw [va_up_s]
  rw [hpush] at hP hD
  have k1 := kk p l e R s m args below meth cc D cs aK A ad0 QS H1 locs (va_up ad sh.length q) ls C RR ⟨hP, hD, hS⟩ (by have := g_A_up (q := q) Ad; simpa [g_nw] using this) (g_L_up hl okl)
  have e2 : (vr sh.length :: st).map (gc aK (va_up ad sh.length q)) = .ref q :: st.map (gc aK ad) := by
    rw [List.map_cons, gc_upS oks]
    show va_rf (some (va_up ad sh.length q sh.length)) :: _ = _
    rw [va_up_s]
    rfl
  rw [e2] at k1
  exact k1
theorem Gd_newq {N' t ci : Nat} {CC : String} (hrc : g_rc c t ci) (hCC : CC = (if c = 21 then RX4 else RX5)) (hn : ¬ x < 0) (hN : x.toNatClampNeg = N') (hbig : N' * 4 ≤ 536870912) (hc : k + 1 ≤ Z.2.1) (hs : n + N' ≤ Z.2.2.1) (okr : g_okR sh.length r) (okl : g_okL sh.length L) (oks : g_okS sh.length st) (hw : Cond.classLink Y.1.cls idx CC ∈ g_T)
    (hd : g_D Y pc (.anewarray idx) 3 pc') (kk : Gd Y Z (k + 1) (n + N') pc' L (vr sh.length :: st) (g_nw (sh, a, r, g) (c, N'))) : Gd Y Z k n pc L (vi x :: st) (sh, a, r, g) := by
  intro p l e R s m args below meth cc D cs aK A ad0 QS H locs ad ls C RR Wd Ad hl
  obtain ⟨hd, rfl⟩ := hd
  have hKt := C.2.2.2.2.2.2.2.2.2.1
  have hO : va_AO CC s := by
    rcases hrc with ⟨rfl, rfl, rfl⟩ | ⟨rfl, rfl, rfl⟩
    · rw [hCC]; exact C.2.2.2.2.2.2.2.2.1.2.2.2.2.2.2.2.1
    · rw [hCC]; exact C.2.2.2.2.2.2.2.2.1.2.2.2.2.2.2.2.2
  have h20 : 20 < c := by rcases hrc with ⟨rfl, -⟩ | ⟨rfl, -⟩ <;> decide
  refine va_newq C.1 C.2.1 C.2.2.2.1 (C.2.2.2.2.1 _ hw) hO hKt Wd.1 Wd.2.1 Wd.2.2 C.2.2.2.2.2.2.2.1 hn hN hbig (Nat.le_trans hc C.2.2.2.2.2.1.2.2.1) (Nat.le_trans hs C.2.2.2.2.2.1.2.2.2) hd (fun q cA H1 hK hP hD hS => ?_)
  have e1 : cA = cs c := by
    obtain ⟨kA, comp, k1, k2, k3, k4⟩ := (hK.2 3 (cA, .object CC) rfl).2
    rcases hrc with ⟨rfl, rfl, rfl⟩ | ⟨rfl, rfl, rfl⟩
    · obtain ⟨kA', comp', k1', k2', k3', k4'⟩ := (hKt.2 1 (cs 21, .object RX4) rfl).2
      rw [hCC] at k4
      exact Option.some.inj (k4.symm.trans k4')
    · obtain ⟨kA', comp', k1', k2', k3', k4'⟩ := (hKt.2 2 (cs 22, .object RX5) rfl).2
      rw [hCC] at k4
      exact Option.some.inj (k4.symm.trans k4')
  subst e1
  have hpush : g_cw cs ad (sh, a, r, g) ++ [(q, .inl (cs c, N', .inr (.inr (.inr (.inr (fun _ => none))))))] = g_cw cs (va_up ad sh.length q) (g_nw (sh, a, r, g) (c, N')) := by
    refine g_cw_push (h := (sh, a, r, g)) (x := (c, N')) rfl ?_ (fun i hi => g_ce_up (h := (sh, a, r, g)) okr hi (va_up_n _ _ (Nat.ne_of_lt hi)) (va_up_n _ _ (Nat.ne_of_lt hi)) (va_up_n _ _ (Nat.ne_of_lt hi)))
    rw [g_ce_ra (h := g_nw (sh, a, r, g) (c, N')) (n := N') (g_sh_last _ _) h20]
    show Sum.inl (cs c, N', Sum.inr (Sum.inr (Sum.inr (Sum.inr (fun j => (va_up r sh.length (fun _ => none) sh.length j).map (va_up ad sh.length q)))))) = _
    rw [va_up_s]
    rfl
  rw [hpush] at hP hD
  have k1 := kk p l e R s m args below meth cc D cs aK A ad0 QS H1 locs (va_up ad sh.length q) ls C RR ⟨hP, hD, hS⟩ (by have := g_A_up (q := q) Ad; simpa [g_nw] using this) (g_L_up hl okl)
  have e2 : (vr sh.length :: st).map (gc aK (va_up ad sh.length q)) = .ref q :: st.map (gc aK ad) := by
    rw [List.map_cons, gc_upS oks]
    show va_rf (some (va_up ad sh.length q sh.length)) :: _ = _
    rw [va_up_s]
    rfl
  rw [e2] at k1
  exact k1
theorem g_dflt {c j : Nat} {ad : Nat → Nat} {h : g_H} {b : Nat} (hk : g_fk c j = 0 ∨ g_fk c j = 1 ∨ g_fk c j = 2 ∨ g_fk c j = 3) (ha : h.2.1 b j = 0) (hr : h.2.2.1 b j = none) (hg : h.2.2.2 b j = 0) : defaultValue (g_ty c j) = g_fv ad h c b j := by
  rcases hk with hk | hk | hk | hk
  · rw [g_fk0 hk]; simp [g_fv, hk, ha]; rfl
  · rw [g_fk1 hk]; simp [g_fv, hk, hg]; rfl
  · simp only [g_fv, hk, hr]
    rcases g_fk2 hk with ⟨q, e⟩ | ⟨q, e⟩ <;> rw [e] <;> rfl
  · rw [g_fk3 hk]; simp [g_fv, hk, ha]; rfl
theorem Gd_new {CC : String} {T : u_T} (hcl : vwCl[c]? = some (CC, T, nf)) (hc20 : c < 20) (hfk : ∀ j, j < nf → g_fk c j = 0 ∨ g_fk c j = 1 ∨ g_fk c j = 2 ∨ g_fk c j = 3) (hc : k + 1 ≤ Z.2.1) (hs : n + nf ≤ Z.2.2.1) (okr : g_okR sh.length r) (okl : g_okL sh.length L) (oks : g_okS sh.length st) (hw1 : Cond.classLink Y.1.cls idx CC ∈ g_T) (hw2 : Cond.instantiable CC nf ∈ g_T) (hw3 : Cond.initialized CC ∈ g_T)
    (hd : g_D Y pc (.new idx) 3 pc') (kk : Gd Y Z (k + 1) (n + nf) pc' L (vr sh.length :: st) (g_nw (sh, a, r, g) (c, nf))) : Gd Y Z k n pc L st (sh, a, r, g) := by
  intro p l e R s m args below meth cc D cs aK A ad0 QS H locs ad ls C RR Wd Ad hl
  obtain ⟨hd, rfl⟩ := hd
  obtain ⟨c1, c2, c3⟩ := g_cls hcl
  refine va_new (ci := c) (C := CC) (T := T) (N := nf) (Ts := g_T) (fs := (List.range nf).map (g_fv ad (g_nw (sh, a, r, g) (c, nf)) c sh.length)) C.1 C.2.1 C.2.2.2.2.1 c1 (g_ty c) c2 C.2.2.2.1 (C.2.2.2.2.1 _ hw1) (C.2.2.2.2.1 _ hw2) (C.2.2.2.2.1 _ hw3) C.2.2.2.2.2.2.2.2.2.1 Wd.1 Wd.2.1 Wd.2.2 C.2.2.2.2.2.2.2.1 hcl (fun j hj => ?_) (Nat.le_trans hc C.2.2.2.2.2.1.2.2.1) (Nat.le_trans hs C.2.2.2.2.2.1.2.2.2) hd (fun q H1 hP hD hS => ?_)
  · rw [g_dflt (ad := ad) (h := g_nw (sh, a, r, g) (c, nf)) (b := sh.length) (hfk j hj) (by simp [g_nw, va_up]) (by simp [g_nw, va_up]) (by simp [g_nw, va_up])]
    simp [vp_V, hj]
  have hpush : g_cw cs ad (sh, a, r, g) ++ [(q, .inr (c, (List.range nf).map (g_fv ad (g_nw (sh, a, r, g) (c, nf)) c sh.length)))] = g_cw cs (va_up ad sh.length q) (g_nw (sh, a, r, g) (c, nf)) := by
    refine g_cw_push (h := (sh, a, r, g)) (x := (c, nf)) rfl ?_ (fun i hi => g_ce_up (h := (sh, a, r, g)) okr hi (va_up_n _ _ (Nat.ne_of_lt hi)) (va_up_n _ _ (Nat.ne_of_lt hi)) (va_up_n _ _ (Nat.ne_of_lt hi)))
    rw [g_ce_ob (h := g_nw (sh, a, r, g) (c, nf)) (n := nf) (g_sh_last _ _) hc20]
    congr 2
    refine List.map_congr_left fun j _ => ?_
    simp [g_fv, g_nw, va_up]
  rw [hpush] at hP hD
  have k1 := kk p l e R s m args below meth cc D cs aK A ad0 QS H1 locs (va_up ad sh.length q) ls C RR ⟨hP, hD, hS⟩ (by have := g_A_up (q := q) Ad; simpa [g_nw] using this) (g_L_up hl okl)
  have e2 : (vr sh.length :: st).map (gc aK (va_up ad sh.length q)) = .ref q :: st.map (gc aK ad) := by
    rw [List.map_cons, gc_upS oks]
    show va_rf (some (va_up ad sh.length q sh.length)) :: _ = _
    rw [va_up_s]
    rfl
  rw [e2] at k1
  exact k1
end GA
