theorem g_fk0 {c j : Nat} (h : g_fk c j = 0) : g_ty c j = .int := by
  unfold g_fk at h
  generalize g_ty c j = t at h ⊢
  cases t <;> simp [g_fkt] at h ⊢
theorem g_fk1 {c j : Nat} (h : g_fk c j = 1) : g_ty c j = .long := by
  unfold g_fk at h
  generalize g_ty c j = t at h ⊢
  cases t <;> simp [g_fkt] at h ⊢
theorem g_fk3 {c j : Nat} (h : g_fk c j = 3) : g_ty c j = .boolean := by
  unfold g_fk at h
  generalize g_ty c j = t at h ⊢
  cases t <;> simp [g_fkt] at h ⊢
theorem g_fk2 {c j : Nat} (h : g_fk c j = 2) : (∃ n, g_ty c j = .object n) ∨ ∃ t, g_ty c j = .array t := by
  unfold g_fk at h
  generalize g_ty c j = t at h ⊢
  cases t <;> simp [g_fkt] at h ⊢
theorem g_nrR {ty : FieldType} (h : (∃ n, ty = .object n) ∨ ∃ t, ty = .array t) (x : Nat) : narrow ty (.ref x) = .ref x ∧ fits ty (.ref x) = true := by
  rcases h with ⟨n, rfl⟩ | ⟨t, rfl⟩ <;> exact ⟨rfl, rfl⟩
theorem g_ce_congr {cs : Nat → ClassId} {ad ad' : Nat → Nat} {h h' : g_H} {i : Nat} (h1 : h'.1.getD i (0, 0) = h.1.getD i (0, 0)) (h2 : ∀ j, h'.2.1 i j = h.2.1 i j) (h3 : ∀ j, (h'.2.2.1 i j).map ad' = (h.2.2.1 i j).map ad) (h4 : ∀ j, h'.2.2.2 i j = h.2.2.2 i j) : g_ce cs ad' h' i = g_ce cs ad h i := by
  have e2 : h'.2.1 i = h.2.1 i := funext h2
  have e3 : (fun j => (h'.2.2.1 i j).map ad') = (fun j => (h.2.2.1 i j).map ad) := funext h3
  have e5 : ∀ c, g_fv ad' h' c i = g_fv ad h c i := fun c => funext fun j => by simp only [g_fv, h2, h3, h4]
  unfold g_ce
  rw [h1, e2, e3, e5]
section GH2
variable {Y : g_Y} {Z : g_Z} {k n pc pc' : Nat} {L : List (Option g_V)} {st : List g_V} {sh : List (Nat × Nat)} {a : Nat → Nat → Int32} {r : Nat → Nat → Option Nat} {g : Nat → Nat → Int64} {b idx c j nf : Nat} {fin : Bool} {x : Int32} {lx : Int64}
theorem Gd_putI (hf : g_F Y.1.cls idx c j nf 0 false) (hb : sh[b]? = some (c, nf)) (hd : g_D Y pc (.putfield idx) 3 pc') (kk : Gd Y Z k n pc' L st (sh, up2 a b j x, r, g)) : Gd Y Z k n pc L (vi x :: vr b :: st) (sh, a, r, g) := by
  have hk : g_fk c j = 0 := by obtain ⟨_, _, _, _, _, hk, _⟩ := hf; exact hk
  exact g_put (h' := (sh, up2 a b j x, r, g)) hf (fun q => by cases q) (fun q => by cases q) hb rfl (g_fk0 hk) (fun aK ad => ⟨vp_nar_int x, rfl⟩) (fun aK ad => by simp [g_fv, hk, gc, up2]) (fun ad i hi => by simp [g_fv, up2, hi]) (fun cs ad i hi => g_ce_congr rfl (fun j => up2_k a x hi) (fun j => rfl) (fun j => rfl)) hd kk
theorem Gd_putZ (hf : g_F Y.1.cls idx c j nf 3 false) (hx : x = 0 ∨ x = 1) (hb : sh[b]? = some (c, nf)) (hd : g_D Y pc (.putfield idx) 3 pc') (kk : Gd Y Z k n pc' L st (sh, up2 a b j x, r, g)) : Gd Y Z k n pc L (vi x :: vr b :: st) (sh, a, r, g) := by
  have hk : g_fk c j = 3 := by obtain ⟨_, _, _, _, _, hk, _⟩ := hf; exact hk
  exact g_put (h' := (sh, up2 a b j x, r, g)) hf (fun q => by cases q) (fun q => by cases q) hb rfl (g_fk3 hk) (fun aK ad => by rcases hx with rfl | rfl <;> exact ⟨rfl, rfl⟩) (fun aK ad => by simp [g_fv, hk, gc, up2]) (fun ad i hi => by simp [g_fv, up2, hi]) (fun cs ad i hi => g_ce_congr rfl (fun j => up2_k a x hi) (fun j => rfl) (fun j => rfl)) hd kk
theorem Gd_putL (hf : g_F Y.1.cls idx c j nf 1 false) (hb : sh[b]? = some (c, nf)) (hd : g_D Y pc (.putfield idx) 3 pc') (kk : Gd Y Z k n pc' L st (sh, a, r, upL g b j lx)) : Gd Y Z k n pc L (vl lx :: vr b :: st) (sh, a, r, g) := by
  have hk : g_fk c j = 1 := by obtain ⟨_, _, _, _, _, hk, _⟩ := hf; exact hk
  exact g_put (h' := (sh, a, r, upL g b j lx)) hf (fun q => by cases q) (fun q => by cases q) hb rfl (g_fk1 hk) (fun aK ad => ⟨rfl, rfl⟩) (fun aK ad => by simp [g_fv, hk, gc, upL]) (fun ad i hi => by simp [g_fv, upL, hi]) (fun cs ad i hi => g_ce_congr rfl (fun j => rfl) (fun j => rfl) (fun j => by simp [upL, hi])) hd kk
theorem Gd_putR {q : Nat} (hf : g_F Y.1.cls idx c j nf 2 true) (hin : Y.1.name = "<init>") (hdecl : ∀ (C : String) (T : u_T), vwCl[c]? = some (C, T, nf) → (T j).1 = Y.1.cls) (hb : sh[b]? = some (c, nf)) (hd : g_D Y pc (.putfield idx) 3 pc') (kk : Gd Y Z k n pc' L st (sh, a, upR r b j (some q), g)) : Gd Y Z k n pc L (vr q :: vr b :: st) (sh, a, r, g) := by
  have hk : g_fk c j = 2 := by obtain ⟨_, _, _, _, _, hk, _⟩ := hf; exact hk
  exact g_put (h' := (sh, a, upR r b j (some q), g)) hf (fun _ => hin) (fun _ => hdecl) hb rfl rfl (fun aK ad => g_nrR (g_fk2 hk) (ad q)) (fun aK ad => by simp [g_fv, hk, gc, upR]) (fun ad i hi => by simp [g_fv, upR, hi]) (fun cs ad i hi => g_ce_congr rfl (fun j => rfl) (fun j => by simp [upR, hi]) (fun j => rfl)) hd kk
theorem Gd_iald {w9 : Nat} (hb : sh[b]? = some (20, w9)) (hin : vp_in x w9) (hd : g_D Y pc .iaload 1 pc') (kk : Gd Y Z k n pc' L (vi (a b x.toNatClampNeg) :: st) (sh, a, r, g)) : Gd Y Z k n pc L (vi x :: vr b :: st) (sh, a, r, g) := by
  intro p l e R s m args below meth cc D cs aK A ad0 QS H locs ad ls C RR Wd Ad hl
  obtain ⟨hd, rfl⟩ := hd
  exact va_iald (cA := cs 20) (n := w9) (f := a b) C.1 C.2.1 C.2.2.2.2.2.2.2.2.2.1 Wd.1 b 0 (by rw [g_cw_at (g_sh_lt (h := (sh, a, r, g)) hb), g_ce_ia (h := (sh, a, r, g)) hb]) rfl hin hd (kk p l e R s m args below meth cc D cs aK A ad0 QS H locs ad ls C RR Wd Ad hl)
theorem Gd_iast {w9 : Nat} {v : Int32} (hb : sh[b]? = some (20, w9)) (hin : vp_in x w9) (hd : g_D Y pc .iastore 1 pc') (kk : Gd Y Z k n pc' L st (sh, up2 a b x.toNatClampNeg v, r, g)) : Gd Y Z k n pc L (vi v :: vi x :: vr b :: st) (sh, a, r, g) := by
  intro p l e R s m args below meth cc D cs aK A ad0 QS H locs ad ls C RR Wd Ad hl
  obtain ⟨hd, rfl⟩ := hd
  have hset : (g_cw cs ad (sh, a, r, g)).set b (ad b, .inl (cs 20, w9, .inl (upd (a b) x.toNatClampNeg v))) = g_cw cs ad (sh, up2 a b x.toNatClampNeg v, r, g) := by
    refine g_cw_set rfl ?_ (fun i hi => g_ce_congr rfl (fun j => up2_k a v hi) (fun j => rfl) (fun j => rfl))
    rw [g_ce_ia (h := (sh, up2 a b x.toNatClampNeg v, r, g)) hb]
    show _ = Sum.inl (cs 20, w9, Sum.inl (upd (a b) x.toNatClampNeg v))
    rw [← up2_row]
  refine va_iast (cA := cs 20) (n := w9) (f := a b) C.1 C.2.1 C.2.2.2.2.2.2.2.2.2.1 Wd.1 Wd.2.1 Wd.2.2 b 0 (by rw [g_cw_at (g_sh_lt (h := (sh, a, r, g)) hb), g_ce_ia (h := (sh, a, r, g)) hb]) rfl hin hd (fun H1 locs1 hP hD hS => ?_)
  rw [hset] at hP hD
  exact kk p l e R s m args below meth cc D cs aK A ad0 QS H1 locs1 ad ls C RR ⟨hP, hD, hS⟩ Ad hl
/-- the rows of references: 21 of Sheets, 22 of Texts -/
def g_rc (c : Nat) (t : Nat) (ci : Nat) : Prop := (c = 21 ∧ t = 1 ∧ ci = 4) ∨ (c = 22 ∧ t = 2 ∧ ci = 5)
theorem Gd_aald {w9 t ci : Nat} {o : Option Nat} (hc : g_rc c t ci) (hb : sh[b]? = some (c, w9)) (hin : vp_in x w9) (ho : r b x.toNatClampNeg = o) (hd : g_D Y pc .aaload 1 pc') (kk : Gd Y Z k n pc' L (vo o :: st) (sh, a, r, g)) : Gd Y Z k n pc L (vi x :: vr b :: st) (sh, a, r, g) := by
  intro p l e R s m args below meth cc D cs aK A ad0 QS H locs ad ls C RR Wd Ad hl
  obtain ⟨hd, rfl⟩ := hd
  subst ho
  have k1 := kk p l e R s m args below meth cc D cs aK A ad0 QS H locs ad ls C RR Wd Ad hl
  rcases hc with ⟨rfl, rfl, rfl⟩ | ⟨rfl, rfl, rfl⟩
  · exact va_aldq (cA := cs 21) (n := w9) (f := fun j => (r b j).map ad) (C := RX4) C.1 C.2.1 C.2.2.2.2.2.2.2.2.2.1 Wd.1 b 1 (by rw [g_cw_at (g_sh_lt (h := (sh, a, r, g)) hb), g_ce_ra (h := (sh, a, r, g)) hb (by decide)]) rfl hin hd k1
  · exact va_aldq (cA := cs 22) (n := w9) (f := fun j => (r b j).map ad) (C := RX5) C.1 C.2.1 C.2.2.2.2.2.2.2.2.2.1 Wd.1 b 2 (by rw [g_cw_at (g_sh_lt (h := (sh, a, r, g)) hb), g_ce_ra (h := (sh, a, r, g)) hb (by decide)]) rfl hin hd k1
theorem Gd_aast {w9 t ci v nv : Nat} (hc : g_rc c t ci) (hb : sh[b]? = some (c, w9)) (hv : sh[v]? = some (ci, nv)) (hin : vp_in x w9) (hd : g_D Y pc .aastore 1 pc') (kk : Gd Y Z k n pc' L st (sh, a, upR r b x.toNatClampNeg (some v), g)) : Gd Y Z k n pc L (vr v :: vi x :: vr b :: st) (sh, a, r, g) := by
  intro p l e R s m args below meth cc D cs aK A ad0 QS H locs ad ls C RR Wd Ad hl
  obtain ⟨hd, rfl⟩ := hd
  have h20 : 20 < c := by rcases hc with ⟨rfl, -⟩ | ⟨rfl, -⟩ <;> decide
  have hset : (g_cw cs ad (sh, a, r, g)).set b (ad b, .inl (cs c, w9, .inr (.inr (.inr (.inr (va_up (fun j => (r b j).map ad) x.toNatClampNeg (some (ad v)))))))) = g_cw cs ad (sh, a, upR r b x.toNatClampNeg (some v), g) := by
    refine g_cw_set rfl ?_ (fun i hi => g_ce_congr rfl (fun j => rfl) (fun j => by simp [upR, hi]) (fun j => rfl))
    rw [g_ce_ra (h := (sh, a, upR r b x.toNatClampNeg (some v), g)) hb h20]
    congr 7
    funext i
    by_cases hi : i = x.toNatClampNeg
    · simp [upR, va_up, hi]
    · simp [upR, va_up, hi]
  have fin : ∀ (H1 : Heap) (locs1 : List Loc), va_P D vwCl ((g_cw cs ad (sh, a, r, g)).set b (ad b, .inl (cs c, w9, .inr (.inr (.inr (.inr (va_up (fun j => (r b j).map ad) x.toNatClampNeg (some (ad v))))))))) H1 → va_D A ((g_cw cs ad (sh, a, r, g)).set b (ad b, .inl (cs c, w9, .inr (.inr (.inr (.inr (va_up (fun j => (r b j).map ad) x.toNatClampNeg (some (ad v))))))))) → va_S A s.heap H1 locs1 → W p l e R s m args below meth cc H1 locs1 k n QS (F0 m (pc + 1) ls (st.map (gc aK ad))) := by
    intro H1 locs1 hP hD hS
    rw [hset] at hP hD
    exact kk p l e R s m args below meth cc D cs aK A ad0 QS H1 locs1 ad ls C RR ⟨hP, hD, hS⟩ Ad hl
  rcases hc with ⟨rfl, rfl, rfl⟩ | ⟨rfl, rfl, rfl⟩
  · exact va_astq (cA := cs 21) (n := w9) (f := fun j => (r b j).map ad) (vs := (List.range nv).map (g_fv ad (sh, a, r, g) 4 v)) (r := (RX4, TX4, 3)) (ci := 4) C.1 C.2.1 C.2.2.2.2.2.2.2.2.2.1 Wd.1 Wd.2.1 Wd.2.2 b 1 v (by rw [g_cw_at (g_sh_lt (h := (sh, a, r, g)) hb), g_ce_ra (h := (sh, a, r, g)) hb (by decide)]) rfl (by rw [g_cw_at (g_sh_lt (h := (sh, a, r, g)) hv), g_ce_ob (h := (sh, a, r, g)) hv (by decide)]) rfl hin hd fin
  · exact va_astq (cA := cs 22) (n := w9) (f := fun j => (r b j).map ad) (vs := (List.range nv).map (g_fv ad (sh, a, r, g) 5 v)) (r := (RX5, TX5, 2)) (ci := 5) C.1 C.2.1 C.2.2.2.2.2.2.2.2.2.1 Wd.1 Wd.2.1 Wd.2.2 b 2 v (by rw [g_cw_at (g_sh_lt (h := (sh, a, r, g)) hb), g_ce_ra (h := (sh, a, r, g)) hb (by decide)]) rfl (by rw [g_cw_at (g_sh_lt (h := (sh, a, r, g)) hv), g_ce_ob (h := (sh, a, r, g)) hv (by decide)]) rfl hin hd fin
theorem Gd_alen {w9 : Nat} {v : Int32} (hb : sh[b]? = some (20, w9)) (hv : Int32.ofNat w9 = v) (hd : g_D Y pc .arraylength 1 pc') (kk : Gd Y Z k n pc' L (vi v :: st) (sh, a, r, g)) : Gd Y Z k n pc L (vr b :: st) (sh, a, r, g) := by
  intro p l e R s m args below meth cc D cs aK A ad0 QS H locs ad ls C RR Wd Ad hl
  obtain ⟨hd, rfl⟩ := hd
  exact va_alen (cA := cs 20) C.1 C.2.1 C.2.2.2.2.2.2.2.2.2.1 Wd.1 b 0 (x := (w9, .inl (a b))) (by rw [g_cw_at (g_sh_lt (h := (sh, a, r, g)) hb), g_ce_ia (h := (sh, a, r, g)) hb]) (ty := .int) rfl hv hd (kk p l e R s m args below meth cc D cs aK A ad0 QS H locs ad ls C RR Wd Ad hl)
end GH2
