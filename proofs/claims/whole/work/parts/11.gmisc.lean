section GM
variable {Y : g_Y} {Z : g_Z} {k n pc pc' : Nat} {L : List (Option g_V)} {st : List g_V} {sh : List (Nat × Nat)} {a : Nat → Nat → Int32} {r : Nat → Nat → Option Nat} {g : Nat → Nat → Int64} {b idx c j nf : Nat} {x : Int32} {h : g_H}
theorem Gd_objInit {v : g_V} {q : Nat} (hv : v = vr q) (hl : Cond.methodLink Y.1.cls idx Lib.objectInit ∈ g_T) (h1 : Cond.instanceMethod Lib.objectInit ∈ g_T) (h2 : Cond.code Lib.objectInit ⟨#[0xb1]⟩ 1 none ∈ g_T) (hd1 : 1 ≤ Z.1) (hw : g_wd st ≤ 8) (hd : g_D Y pc (.invokespecial idx) 3 pc') (kk : Gd Y Z k n pc' L st h) : Gd Y Z k n pc L (v :: st) h := by
  intro p l e R s m args below meth cc D cs aK A ad0 QS H locs ad ls C RR Wd Ad hl'
  obtain ⟨hd, rfl⟩ := hd
  subst hv
  have hfr := C.2.2.2.2.2.1.1
  have hlo := C.2.2.2.2.2.1.2.1
  have hsum := g_wd_eq (ad := ad) C.2.2.2.2.2.2.2.2.1.2.1 st
  exact W.objInit (idx := idx) (a := ad q) (rest := st.map (gc aK ad)) C.1 C.2.1 C.2.2.2.1 (C.2.2.2.2.1 _ hl) (C.2.2.2.2.1 _ h1) (C.2.2.2.2.1 _ h2) rfl (by rw [C.2.2.1]; exact hl'.1.1) rfl hd (Nat.le_trans hd1 hfr) (by show 2 * 0 + _ + 12 ≤ _; omega) (kk p l e R s m args below meth cc D cs aK A ad0 QS H locs ad ls C RR Wd Ad hl')
theorem Gd_copy {b0 b1 m0 m1 : Nat} {sp dp w : Int32} (hb0 : sh[b0]? = some (20, m0)) (hb1 : sh[b1]? = some (20, m1)) (h1 : ¬ sp < 0) (h2 : ¬ dp < 0) (h3 : ¬ w < 0) (h4 : sp.toNatClampNeg + w.toNatClampNeg ≤ m0) (h5 : dp.toNatClampNeg + w.toNatClampNeg ≤ m1)
    (hl : Cond.methodLink Y.1.cls idx arraycopyName ∈ g_T) (hn1 : Cond.native arraycopyName ∈ g_T) (hn2 : Cond.static arraycopyName ∈ g_T) (hn3 : Cond.initialized "java/lang/System" ∈ g_T) (hd1 : 1 ≤ Z.1) (hw : g_wd st ≤ 8) (hd : g_D Y pc (.invokestatic idx) 3 pc')
    (kk : Gd Y Z k n pc' L st (sh, va_up a b1 (va_cpy (a b0) (a b1) sp.toNatClampNeg dp.toNatClampNeg w.toNatClampNeg), r, g)) : Gd Y Z k n pc L (vi w :: vi dp :: vr b1 :: vi sp :: vr b0 :: st) (sh, a, r, g) := by
  intro p l e R s m args below meth cc D cs aK A ad0 QS H locs ad ls C RR Wd Ad hl'
  obtain ⟨hd, rfl⟩ := hd
  have hfr := C.2.2.2.2.2.1.1
  have hlo := C.2.2.2.2.2.1.2.1
  have hsum := g_wd_eq (ad := ad) C.2.2.2.2.2.2.2.2.1.2.1 st
  have hnf : nativeFrameWords "java/lang/System" "arraycopy" 5 = 7 := by decide +kernel
  have hset : (g_cw cs ad (sh, a, r, g)).set b1 (ad b1, .inl (cs 20, m1, .inl (va_cpy (a b0) (a b1) sp.toNatClampNeg dp.toNatClampNeg w.toNatClampNeg))) = g_cw cs ad (sh, va_up a b1 (va_cpy (a b0) (a b1) sp.toNatClampNeg dp.toNatClampNeg w.toNatClampNeg), r, g) := by
    refine g_cw_set rfl ?_ (fun i hi => g_ce_congr rfl (fun j => by show va_up a b1 _ i j = a i j; rw [va_up_n _ _ hi]) (fun j => rfl) (fun j => rfl))
    rw [g_ce_ia (h := (sh, va_up a b1 (va_cpy (a b0) (a b1) sp.toNatClampNeg dp.toNatClampNeg w.toNatClampNeg), r, g)) hb1]
    show Sum.inl (cs 20, m1, Sum.inl (va_up a b1 _ b1)) = _
    rw [va_up_s]
  refine va_copyi (c0 := cs 20) (c1 := cs 20) (n0 := m0) (n1 := m1) (f := a b0) (g := a b1) (ty := .int) C.1 C.2.1 (by rw [C.2.2.1]; exact hl'.1.1.symm) C.2.2.2.1 (C.2.2.2.2.1 _ hl) (C.2.2.2.2.1 _ hn1) (C.2.2.2.2.1 _ hn2) (C.2.2.2.2.1 _ hn3) C.2.2.2.2.2.2.2.2.2.1 Wd.1 Wd.2.1 Wd.2.2 b0 b1 0 0 (a0 := ad b0) (a := ad b1)
    (by rw [g_cw_at (g_sh_lt (h := (sh, a, r, g)) hb0), g_ce_ia (h := (sh, a, r, g)) hb0]) (by rw [g_cw_at (g_sh_lt (h := (sh, a, r, g)) hb1), g_ce_ia (h := (sh, a, r, g)) hb1]) rfl rfl rfl h1 h2 h3 h4 h5 (fun _ _ => rfl) (Nat.le_trans hd1 hfr) (by rw [hnf]; omega) hd (fun H1 locs1 hP hD hS => ?_)
  rw [hset] at hP hD
  exact kk p l e R s m args below meth cc D cs aK A ad0 QS H1 locs1 ad ls C RR ⟨hP, hD, hS⟩ Ad hl'
theorem g_find {s : State} {D : va_G} {cs : Nat → ClassId} (hK : va_K D vwCl (g_tys cs) s) : s.vm.findClass "[I" = some (cs 20) := (hK.2 0 (cs 20, .int) rfl).2
theorem Gd_clone {m0 : Nat} (hb : sh[b]? = some (20, m0)) (hc : k + 1 ≤ Z.2.1) (hs : n + m0 ≤ Z.2.2.1) (okr : g_okR sh.length r) (okl : g_okL sh.length L) (oks : g_okS sh.length st)
    (hl : Cond.methodLink Y.1.cls idx ⟨"[I", "clone", "()Ljava/lang/Object;"⟩ ∈ g_T) (h1 : Cond.sameMethod "[I" "java/lang/Object" "clone" "()Ljava/lang/Object;" ∈ g_T) (h2 : Cond.native ⟨"java/lang/Object", "clone", "()Ljava/lang/Object;"⟩ ∈ g_T) (h3 : Cond.instanceMethod ⟨"java/lang/Object", "clone", "()Ljava/lang/Object;"⟩ ∈ g_T) (h4 : Cond.selects "[I" ⟨"[I", "clone", "()Ljava/lang/Object;"⟩ ⟨"java/lang/Object", "clone", "()Ljava/lang/Object;"⟩ ∈ g_T) (hd1 : 1 ≤ Z.1) (hw : g_wd st ≤ 8)
    (hd : g_D Y pc (.invokevirtual idx) 3 pc') (kk : Gd Y Z (k + 1) (n + m0) pc' L (vr sh.length :: st) (sh ++ [(20, m0)], va_up a sh.length (a b), va_up r sh.length (fun _ => none), va_up g sh.length (fun _ => 0))) : Gd Y Z k n pc L (vr b :: st) (sh, a, r, g) := by
  intro p l e R s m args below meth cc D cs aK A ad0 QS H locs ad ls C RR Wd Ad hl'
  obtain ⟨hd, rfl⟩ := hd
  have hfr := C.2.2.2.2.2.1.1
  have hlo := C.2.2.2.2.2.1.2.1
  have hsum := g_wd_eq (ad := ad) C.2.2.2.2.2.2.2.2.1.2.1 st
  have hKt := C.2.2.2.2.2.2.2.2.2.1
  refine va_clone (ad := "[I") (x := (m0, .inl (a b))) (cA := cs 20) (ty := .int) C.1 C.2.1 (by rw [C.2.2.1]; exact hl'.1.1.symm) C.2.2.2.1 (C.2.2.2.2.1 _ hl) (C.2.2.2.2.1 _ h1) (C.2.2.2.2.1 _ h2) (C.2.2.2.2.1 _ h3) (C.2.2.2.2.1 _ h4) C.2.2.2.2.2.2.2.2.1.2.2.2.2.2.2.1 hKt Wd.1 Wd.2.1 Wd.2.2 C.2.2.2.2.2.2.2.1 b 0 (a := ad b)
    (by rw [g_cw_at (g_sh_lt (h := (sh, a, r, g)) hb), g_ce_ia (h := (sh, a, r, g)) hb]) rfl (g_find hKt) (fun i v hv => ?_) (Nat.le_trans hd1 hfr) (by omega) (Nat.le_trans hc C.2.2.2.2.2.1.2.2.1) (Nat.le_trans hs C.2.2.2.2.2.1.2.2.2) hd (fun q H1 hK hP hD hS => ?_)
  · rw [vp_cell_i] at hv
    have hlt := (Array.getElem?_eq_some_iff.mp hv).1
    rw [arrV_size] at hlt
    rw [arrV_read _ _ hlt] at hv
    cases hv
    rfl
  have hpush : g_cw cs ad (sh, a, r, g) ++ [(q, .inl (cs 20, m0, .inl (a b)))] = g_cw cs (va_up ad sh.length q) (sh ++ [(20, m0)], va_up a sh.length (a b), va_up r sh.length (fun _ => none), va_up g sh.length (fun _ => 0)) := by
    refine g_cw_push (h := (sh, a, r, g)) (x := (20, m0)) rfl ?_ (fun i hi => g_ce_up (h := (sh, a, r, g)) okr hi (va_up_n _ _ (Nat.ne_of_lt hi)) (va_up_n _ _ (Nat.ne_of_lt hi)) (va_up_n _ _ (Nat.ne_of_lt hi)))
    rw [g_ce_ia (h := (sh ++ [(20, m0)], va_up a sh.length (a b), va_up r sh.length (fun _ => none), va_up g sh.length (fun _ => 0))) (n := m0) (g_sh_last _ _)]
    show Sum.inl (cs 20, m0, Sum.inl (va_up a sh.length (a b) sh.length)) = _
    rw [va_up_s]
  rw [hpush] at hP hD
  have k1 := kk p l e R s m args below meth cc D cs aK A ad0 QS H1 locs (va_up ad sh.length q) ls C RR ⟨hP, hD, hS⟩ (by have := g_A_up (q := q) Ad; simpa using this) (g_L_up hl' okl)
  have e2 : (vr sh.length :: st).map (gc aK (va_up ad sh.length q)) = .ref q :: st.map (gc aK ad) := by
    rw [List.map_cons, gc_upS oks]
    show va_rf (some (va_up ad sh.length q sh.length)) :: _ = _
    rw [va_up_s]
    rfl
  rw [e2] at k1
  exact k1
theorem Gd_castI {m0 : Nat} (hb : sh[b]? = some (20, m0)) (hl : Cond.classLink Y.1.cls idx "[I" ∈ g_T) (hd : g_D Y pc (.checkcast idx) 3 pc') (kk : Gd Y Z k n pc' L (vr b :: st) (sh, a, r, g)) : Gd Y Z k n pc L (vr b :: st) (sh, a, r, g) := by
  intro p l e R s m args below meth cc D cs aK A ad0 QS H locs ad ls C RR Wd Ad hl'
  obtain ⟨hd, rfl⟩ := hd
  exact va_castA (cA := cs 20) (x := (m0, .inl (a b))) C.1 C.2.1 C.2.2.2.1 (C.2.2.2.2.1 _ hl) Wd.1 b (by rw [g_cw_at (g_sh_lt (h := (sh, a, r, g)) hb), g_ce_ia (h := (sh, a, r, g)) hb]) (g_find C.2.2.2.2.2.2.2.2.2.1) hd (kk p l e R s m args below meth cc D cs aK A ad0 QS H locs ad ls C RR Wd Ad hl')
-- statics and texts
theorem Gd_compact (hl : Cond.fieldLink Y.1.cls idx "java/lang/String" "COMPACT_STRINGS" "Z" ∈ g_T) (hd : g_D Y pc (.getstatic idx) 3 pc') (kk : Gd Y Z k n pc' L (vi 1 :: st) h) : Gd Y Z k n pc L st h := by
  intro p l e R s m args below meth cc D cs aK A ad0 QS H locs ad ls C RR Wd Ad hl'
  obtain ⟨hd, rfl⟩ := hd
  exact va_gets C.1 C.2.1 C.2.2.2.2.2.2.2.2.1.2.2.2.1 Wd.2.2 C.2.2.2.1 (C.2.2.2.2.1 _ hl) (fun _ q => q) hd (kk p l e R s m args below meth cc D cs aK A ad0 QS H locs ad ls C RR Wd Ad hl')
theorem Gd_former (hl : Cond.fieldLink Y.1.cls idx "jdk/internal/util/Preconditions" "SIOOBE_FORMATTER" "Ljava/util/function/BiFunction;" ∈ g_T) (hd : g_D Y pc (.getstatic idx) 3 pc') (kk : Gd Y Z k n pc' L (vc 200 :: st) h) : Gd Y Z k n pc L st h := by
  intro p l e R s m args below meth cc D cs aK A ad0 QS H locs ad ls C RR Wd Ad hl'
  obtain ⟨hd, rfl⟩ := hd
  exact va_gets C.1 C.2.1 C.2.2.2.2.2.2.2.2.1.2.2.2.2.1 Wd.2.2 C.2.2.2.1 (C.2.2.2.2.1 _ hl) (fun _ q => q) hd (kk p l e R s m args below meth cc D cs aK A ad0 QS H locs ad ls C RR Wd Ad hl')
theorem Gd_coder {q : Nat} (hq : q < 13) (hl : Cond.fieldLink Y.1.cls idx "java/lang/String" "coder" "B" ∈ g_T) (hd : g_D Y pc (.getfield idx) 3 pc') (kk : Gd Y Z k n pc' L (vi 0 :: st) h) : Gd Y Z k n pc L (vc q :: st) h := by
  intro p l e R s m args below meth cc D cs aK A ad0 QS H locs ad ls C RR Wd Ad hl'
  obtain ⟨hd, rfl⟩ := hd
  obtain ⟨adK, adV, hvk, hkv⟩ := C.2.2.2.2.2.2.2.2.1.1
  have e1 : (vc q :: st : List g_V).map (gc aK ad) = .ref (adK q) :: st.map (gc aK ad) := by
    show aK q :: _ = _
    rw [(hkv q hq).1]
  rw [e1]
  exact vk_getf C.1 C.2.1 (hvk.1 q hq).2.1 Wd.2.2 C.2.2.2.1 (C.2.2.2.2.1 _ hl) (fun _ q => q) hd (kk p l e R s m args below meth cc D cs aK A ad0 QS H locs ad ls C RR Wd Ad hl')
theorem Gd_svalue {q : Nat} (hq : q < 13) (hl : Cond.fieldLink Y.1.cls idx "java/lang/String" "value" "[B" ∈ g_T) (hd : g_D Y pc (.getfield idx) 3 pc') (kk : Gd Y Z k n pc' L (vc (100 + q) :: st) h) : Gd Y Z k n pc L (vc q :: st) h := by
  intro p l e R s m args below meth cc D cs aK A ad0 QS H locs ad ls C RR Wd Ad hl'
  obtain ⟨hd, rfl⟩ := hd
  obtain ⟨adK, adV, hvk, hkv⟩ := C.2.2.2.2.2.2.2.2.1.1
  have e1 : (vc q :: st : List g_V).map (gc aK ad) = .ref (adK q) :: st.map (gc aK ad) := by
    show aK q :: _ = _
    rw [(hkv q hq).1]
  have e2 : (vc (100 + q) :: st : List g_V).map (gc aK ad) = .ref (adV q) :: st.map (gc aK ad) := by
    show aK (100 + q) :: _ = _
    rw [(hkv q hq).2]
  have k1 := kk p l e R s m args below meth cc D cs aK A ad0 QS H locs ad ls C RR Wd Ad hl'
  rw [e2] at k1
  rw [e1]
  exact vk_getf C.1 C.2.1 (hvk.1 q hq).2.2.1 Wd.2.2 C.2.2.2.1 (C.2.2.2.2.1 _ hl) (fun _ q => q) hd k1
theorem Gd_blen {q : Nat} {v : Int32} (hq : q < 13) (hv : Int32.ofNat (g_slen.getD q 0) = v) (hd : g_D Y pc .arraylength 1 pc') (kk : Gd Y Z k n pc' L (vi v :: st) h) : Gd Y Z k n pc L (vc (100 + q) :: st) h := by
  intro p l e R s m args below meth cc D cs aK A ad0 QS H locs ad ls C RR Wd Ad hl'
  obtain ⟨hd, rfl⟩ := hd
  obtain ⟨adK, adV, hvk, hkv⟩ := C.2.2.2.2.2.2.2.2.1.1
  have e2 : (vc (100 + q) :: st : List g_V).map (gc aK ad) = .ref (adV q) :: st.map (gc aK ad) := by
    show aK (100 + q) :: _ = _
    rw [(hkv q hq).2]
  rw [e2]
  exact va_tlen C.1 C.2.1 (hvk.1 q hq).2.2.2 Wd.2.2 hv hd (kk p l e R s m args below meth cc D cs aK A ad0 QS H locs ad ls C RR Wd Ad hl')
theorem Gd_bald {q : Nat} (hq : q < 13) (hin : vp_in x (g_slen.getD q 0)) (hd : g_D Y pc .baload 1 pc') (kk : Gd Y Z k n pc' L (vi ((g_sbyt.getD q []).getD x.toNatClampNeg 0) :: st) h) : Gd Y Z k n pc L (vi x :: vc (100 + q) :: st) h := by
  intro p l e R s m args below meth cc D cs aK A ad0 QS H locs ad ls C RR Wd Ad hl'
  obtain ⟨hd, rfl⟩ := hd
  obtain ⟨adK, adV, hvk, hkv⟩ := C.2.2.2.2.2.2.2.2.1.1
  have e2 : (vi x :: vc (100 + q) :: st : List g_V).map (gc aK ad) = .int x :: .ref (adV q) :: st.map (gc aK ad) := by
    show Value.int x :: aK (100 + q) :: _ = _
    rw [(hkv q hq).2]
  rw [e2]
  exact va_tb C.1 C.2.1 (hvk.1 q hq).2.2.2 Wd.2.2 hin rfl hd (kk p l e R s m args below meth cc D cs aK A ad0 QS H locs ad ls C RR Wd Ad hl')
-- the law's script
theorem Gd_slen {v : Int32} (hz : Z.2.2.2.2.1.1 ≠ 0) (hv : Int32.ofNat (Z.2.2.2.2.1.1 - 1) = v) (hd : g_D Y pc .arraylength 1 pc') (kk : Gd Y Z k n pc' L (vi v :: st) h) : Gd Y Z k n pc L (vc 300 :: st) h := by
  intro p l e R s m args below meth cc D cs aK A ad0 QS H locs ad ls C RR Wd Ad hl'
  obtain ⟨hd, rfl⟩ := hd
  obtain ⟨bb, h1, h2, h3, h4⟩ := C.2.2.2.2.2.2.2.2.2.2 hz
  have e2 : (vc 300 :: st : List g_V).map (gc aK ad) = .ref bb :: st.map (gc aK ad) := by
    show aK 300 :: _ = _
    rw [h1]
  rw [e2]
  subst hv
  exact va_slen C.1 C.2.1 h2 h3 h4 Wd.2.2 hd (kk p l e R s m args below meth cc D cs aK A ad0 QS H locs ad ls C RR Wd Ad hl')
theorem Gd_sld (hz : Z.2.2.2.2.1.1 ≠ 0) (hin : vp_in x (Z.2.2.2.2.1.1 - 1)) (hd : g_D Y pc .iaload 1 pc') (kk : Gd Y Z k n pc' L (vi (Z.2.2.2.2.1.2 x.toNatClampNeg) :: st) h) : Gd Y Z k n pc L (vi x :: vc 300 :: st) h := by
  intro p l e R s m args below meth cc D cs aK A ad0 QS H locs ad ls C RR Wd Ad hl'
  obtain ⟨hd, rfl⟩ := hd
  obtain ⟨bb, h1, h2, h3, h4⟩ := C.2.2.2.2.2.2.2.2.2.2 hz
  have e2 : (vi x :: vc 300 :: st : List g_V).map (gc aK ad) = .int x :: .ref bb :: st.map (gc aK ad) := by
    show Value.int x :: aK 300 :: _ = _
    rw [h1]
  rw [e2]
  exact va_sld C.1 C.2.1 h2 h3 h4 Wd.2.2 hin hd (kk p l e R s m args below meth cc D cs aK A ad0 QS H locs ad ls C RR Wd Ad hl')
end GM
