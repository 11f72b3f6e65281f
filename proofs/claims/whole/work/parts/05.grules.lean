section GI
variable {Y : g_Y} {Z : g_Z} {k n pc pc' tgt : Nat} {L : List (Option g_V)} {st : List g_V} {h : g_H} {x y : Int32} {lx ly : Int64}
theorem Gd_iconst {i : Int} {v : Int32} (hv : Int32.ofInt i = v) (hd : g_D Y pc (.iconst i) 1 pc') (kk : Gd Y Z k n pc' L (vi v :: st) h) : Gd Y Z k n pc L (st) h := by
  intro p l e R s m args below meth c D cs aK A ad0 QS H locs ad ls C RR Wd Ad hl
  obtain ⟨hd, rfl⟩ := hd
  exact lv_iconst C.1 C.2.1 hd hv (kk p l e R s m args below meth c D cs aK A ad0 QS H locs ad ls C RR Wd Ad hl)
theorem Gd_bipush {i : Int} {v : Int32} (hv : (Int8.ofInt i).toInt32 = v) (hd : g_D Y pc (.bipush i) 2 pc') (kk : Gd Y Z k n pc' L (vi v :: st) h) : Gd Y Z k n pc L (st) h := by
  intro p l e R s m args below meth c D cs aK A ad0 QS H locs ad ls C RR Wd Ad hl
  obtain ⟨hd, rfl⟩ := hd
  exact lv_bipush C.1 C.2.1 hd hv (kk p l e R s m args below meth c D cs aK A ad0 QS H locs ad ls C RR Wd Ad hl)
theorem Gd_sipush {i : Int} {v : Int32} (hv : (Int16.ofInt i).toInt32 = v) (hd : g_D Y pc (.sipush i) 3 pc') (kk : Gd Y Z k n pc' L (vi v :: st) h) : Gd Y Z k n pc L (st) h := by
  intro p l e R s m args below meth c D cs aK A ad0 QS H locs ad ls C RR Wd Ad hl
  obtain ⟨hd, rfl⟩ := hd
  exact lv_sipush C.1 C.2.1 hd hv (kk p l e R s m args below meth c D cs aK A ad0 QS H locs ad ls C RR Wd Ad hl)
theorem Gd_lconst {i : Fin 2} {v : Int64} (hv : Int64.ofNat (i : Nat) = v) (hd : g_D Y pc (.lconst i) 1 pc') (kk : Gd Y Z k n pc' L (vl v :: st) h) : Gd Y Z k n pc L (st) h := by
  intro p l e R s m args below meth c D cs aK A ad0 QS H locs ad ls C RR Wd Ad hl
  obtain ⟨hd, rfl⟩ := hd
  exact lv_lconst C.1 C.2.1 hd hv (kk p l e R s m args below meth c D cs aK A ad0 QS H locs ad ls C RR Wd Ad hl)
theorem Gd_ldc {i : Nat} {v : Int32} (hw : Cond.constant Y.1.cls i v ∈ g_T) (hd : g_D Y pc (.ldc i) 2 pc') (kk : Gd Y Z k n pc' L (vi v :: st) h) : Gd Y Z k n pc L (st) h := by
  intro p l e R s m args below meth c D cs aK A ad0 QS H locs ad ls C RR Wd Ad hl
  obtain ⟨hd, rfl⟩ := hd
  exact lv_ldc C.1 C.2.1 C.2.2.2.1 (C.2.2.2.2.1 _ hw) hd (kk p l e R s m args below meth c D cs aK A ad0 QS H locs ad ls C RR Wd Ad hl)
theorem Gd_ldcw {i : Nat} {v : Int32} (hw : Cond.constant Y.1.cls i v ∈ g_T) (hd : g_D Y pc (.ldc_w i) 3 pc') (kk : Gd Y Z k n pc' L (vi v :: st) h) : Gd Y Z k n pc L (st) h := by
  intro p l e R s m args below meth c D cs aK A ad0 QS H locs ad ls C RR Wd Ad hl
  obtain ⟨hd, rfl⟩ := hd
  exact lv_ldcw C.1 C.2.1 C.2.2.2.1 (C.2.2.2.2.1 _ hw) hd (kk p l e R s m args below meth c D cs aK A ad0 QS H locs ad ls C RR Wd Ad hl)
theorem Gd_ldc2 {i : Nat} {v : Int64} (hw : Cond.constantLong Y.1.cls i v ∈ g_T) (hd : g_D Y pc (.ldc2_w i) 3 pc') (kk : Gd Y Z k n pc' L (vl v :: st) h) : Gd Y Z k n pc L (st) h := by
  intro p l e R s m args below meth c D cs aK A ad0 QS H locs ad ls C RR Wd Ad hl
  obtain ⟨hd, rfl⟩ := hd
  exact lv_ldc2 C.1 C.2.1 C.2.2.2.1 (C.2.2.2.2.1 _ hw) hd (kk p l e R s m args below meth c D cs aK A ad0 QS H locs ad ls C RR Wd Ad hl)
theorem Gd_ldcS {i q : Nat} {tx : String} (hq : (q, Y.1.cls, i, tx) ∈ g_strs) (hd : g_D Y pc (.ldc i) 2 pc') (kk : Gd Y Z k n pc' L (vc q :: st) h) : Gd Y Z k n pc L st h := by
  intro p l e R s m args below meth c D cs aK A ad0 QS H locs ad ls C RR Wd Ad hl
  obtain ⟨hd, rfl⟩ := hd
  obtain ⟨a, e1, e2⟩ := C.2.2.2.2.2.2.2.2.1.2.2.1 _ hq
  refine va_ldcS C.1 C.2.1 C.2.2.2.1 e2 hd ?_
  have k1 := kk p l e R s m args below meth c D cs aK A ad0 QS H locs ad ls C RR Wd Ad hl
  have e3 : (vc q :: st).map (gc aK ad) = .ref a :: st.map (gc aK ad) := by show gc aK ad (vc q) :: _ = _; rw [show gc aK ad (vc q) = aK q from rfl, e1]
  rw [e3] at k1
  exact k1
theorem Gd_iload_n {i : Fin 4} (hv : L[(i : Nat)]? = some (some (vi x))) (hd : g_D Y pc (.iload_n i) 1 pc') (kk : Gd Y Z k n pc' L (vi x :: st) h) : Gd Y Z k n pc L (st) h := by
  intro p l e R s m args below meth c D cs aK A ad0 QS H locs ad ls C RR Wd Ad hl
  obtain ⟨hd, rfl⟩ := hd
  exact lv_iload_n C.1 C.2.1 hd rfl (g_L_at hl hv) (kk p l e R s m args below meth c D cs aK A ad0 QS H locs ad ls C RR Wd Ad hl)
theorem Gd_iload {i : Nat} (hv : L[i]? = some (some (vi x))) (hd : g_D Y pc (.iload i) 2 pc') (kk : Gd Y Z k n pc' L (vi x :: st) h) : Gd Y Z k n pc L (st) h := by
  intro p l e R s m args below meth c D cs aK A ad0 QS H locs ad ls C RR Wd Ad hl
  obtain ⟨hd, rfl⟩ := hd
  exact lv_iload C.1 C.2.1 hd (g_L_at hl hv) (kk p l e R s m args below meth c D cs aK A ad0 QS H locs ad ls C RR Wd Ad hl)
theorem Gd_lload_n {i : Fin 4} (hv : L[(i : Nat)]? = some (some (vl lx))) (hd : g_D Y pc (.lload_n i) 1 pc') (kk : Gd Y Z k n pc' L (vl lx :: st) h) : Gd Y Z k n pc L (st) h := by
  intro p l e R s m args below meth c D cs aK A ad0 QS H locs ad ls C RR Wd Ad hl
  obtain ⟨hd, rfl⟩ := hd
  exact lv_lload_n C.1 C.2.1 hd rfl (g_L_at hl hv) (kk p l e R s m args below meth c D cs aK A ad0 QS H locs ad ls C RR Wd Ad hl)
theorem Gd_lload {i : Nat} (hv : L[i]? = some (some (vl lx))) (hd : g_D Y pc (.lload i) 2 pc') (kk : Gd Y Z k n pc' L (vl lx :: st) h) : Gd Y Z k n pc L (st) h := by
  intro p l e R s m args below meth c D cs aK A ad0 QS H locs ad ls C RR Wd Ad hl
  obtain ⟨hd, rfl⟩ := hd
  exact lv_lload C.1 C.2.1 hd (g_L_at hl hv) (kk p l e R s m args below meth c D cs aK A ad0 QS H locs ad ls C RR Wd Ad hl)
theorem Gd_aload_n {i : Fin 4} {u : Option Nat ⊕ Nat} (hv : L[(i : Nat)]? = some (some (.inr (.inr u)))) (hd : g_D Y pc (.aload_n i) 1 pc') (kk : Gd Y Z k n pc' L (.inr (.inr u) :: st) h) : Gd Y Z k n pc L st h := by
  intro p l e R s m args below meth c D cs aK A ad0 QS H locs ad ls C RR Wd Ad hl
  obtain ⟨hd, rfl⟩ := hd
  have k1 := kk p l e R s m args below meth c D cs aK A ad0 QS H locs ad ls C RR Wd Ad hl
  have h1 := g_L_at hl hv
  obtain ⟨r, hr⟩ : ∃ r : Option Nat, gc aK ad (.inr (.inr u)) = va_rf r := by
    rcases u with r | q
    · exact ⟨r.map ad, rfl⟩
    · exact C.2.2.2.2.2.2.2.2.1.2.1 q
  have e3 : (Sum.inr (Sum.inr u) :: st : List g_V).map (gc aK ad) = va_rf r :: st.map (gc aK ad) := by rw [List.map_cons, hr]
  rw [hr] at h1
  rw [e3] at k1
  cases r with
  | none => exact lv_aload_nN C.1 C.2.1 hd rfl h1 k1
  | some a => exact lv_aload_n C.1 C.2.1 hd rfl h1 k1
theorem Gd_aload {i : Nat} {u : Option Nat ⊕ Nat} (hv : L[i]? = some (some (.inr (.inr u)))) (hd : g_D Y pc (.aload i) 2 pc') (kk : Gd Y Z k n pc' L (.inr (.inr u) :: st) h) : Gd Y Z k n pc L st h := by
  intro p l e R s m args below meth c D cs aK A ad0 QS H locs ad ls C RR Wd Ad hl
  obtain ⟨hd, rfl⟩ := hd
  have k1 := kk p l e R s m args below meth c D cs aK A ad0 QS H locs ad ls C RR Wd Ad hl
  have h1 := g_L_at hl hv
  obtain ⟨r, hr⟩ : ∃ r : Option Nat, gc aK ad (.inr (.inr u)) = va_rf r := by
    rcases u with r | q
    · exact ⟨r.map ad, rfl⟩
    · exact C.2.2.2.2.2.2.2.2.1.2.1 q
  have e3 : (Sum.inr (Sum.inr u) :: st : List g_V).map (gc aK ad) = va_rf r :: st.map (gc aK ad) := by rw [List.map_cons, hr]
  rw [hr] at h1
  rw [e3] at k1
  cases r with
  | none => exact lv_aloadN C.1 C.2.1 hd h1 k1
  | some a => exact lv_aload C.1 C.2.1 hd h1 k1
theorem Gd_istore_nG {i : Fin 4} {a : Nat} (hi : (i : Nat) < L.length) (hd : g_D Y pc (.istore_n i) 1 pc') (kk : Gd Y Z k n pc' (g_st1 L (i : Nat) (vi x)) st h) : Gd Y Z k n pc L (vi x :: st) h := by
  intro p l e R s m args below meth c D cs aK A ad0 QS H locs ad ls C RR Wd Ad hl
  obtain ⟨hd, rfl⟩ := hd
  have hi := Nat.lt_of_lt_of_le hi hl.2
  exact lv_istore_n C.1 C.2.1 hd rfl hl.1 hi rfl (fun ls' h' => kk p l e R s m args below meth c D cs aK A ad0 QS H locs ad ls' C RR Wd Ad (g_L_st1 (v := vi x) C.2.2.2.2.2.2.2.2.1.2.1 hl h'))
theorem Gd_istoreG {i : Nat} {a : Nat} (hi : i < L.length) (hd : g_D Y pc (.istore i) 2 pc') (kk : Gd Y Z k n pc' (g_st1 L i (vi x)) st h) : Gd Y Z k n pc L (vi x :: st) h := by
  intro p l e R s m args below meth c D cs aK A ad0 QS H locs ad ls C RR Wd Ad hl
  obtain ⟨hd, rfl⟩ := hd
  have hi := Nat.lt_of_lt_of_le hi hl.2
  exact lv_istore C.1 C.2.1 hd hl.1 hi rfl (fun ls' h' => kk p l e R s m args below meth c D cs aK A ad0 QS H locs ad ls' C RR Wd Ad (g_L_st1 (v := vi x) C.2.2.2.2.2.2.2.2.1.2.1 hl h'))
theorem Gd_lstore_nG {i : Fin 4} {a : Nat} (hi : (i : Nat) + 1 < L.length) (hd : g_D Y pc (.lstore_n i) 1 pc') (kk : Gd Y Z k n pc' (g_st2 L (i : Nat) (vl lx)) st h) : Gd Y Z k n pc L (vl lx :: st) h := by
  intro p l e R s m args below meth c D cs aK A ad0 QS H locs ad ls C RR Wd Ad hl
  obtain ⟨hd, rfl⟩ := hd
  have hi := Nat.lt_of_lt_of_le hi hl.2
  exact lv_lstore_n C.1 C.2.1 hd rfl hl.1 hi rfl (fun ls' h' => kk p l e R s m args below meth c D cs aK A ad0 QS H locs ad ls' C RR Wd Ad (g_L_st2 (v := vl lx) C.2.2.2.2.2.2.2.2.1.2.1 hl h'))
theorem Gd_lstoreG {i : Nat} {a : Nat} (hi : i + 1 < L.length) (hd : g_D Y pc (.lstore i) 2 pc') (kk : Gd Y Z k n pc' (g_st2 L i (vl lx)) st h) : Gd Y Z k n pc L (vl lx :: st) h := by
  intro p l e R s m args below meth c D cs aK A ad0 QS H locs ad ls C RR Wd Ad hl
  obtain ⟨hd, rfl⟩ := hd
  have hi := Nat.lt_of_lt_of_le hi hl.2
  exact lv_lstore C.1 C.2.1 hd hl.1 hi rfl (fun ls' h' => kk p l e R s m args below meth c D cs aK A ad0 QS H locs ad ls' C RR Wd Ad (g_L_st2 (v := vl lx) C.2.2.2.2.2.2.2.2.1.2.1 hl h'))
theorem Gd_astore_nG {i : Fin 4} {a : Nat} (hi : (i : Nat) < L.length) (hd : g_D Y pc (.astore_n i) 1 pc') (kk : Gd Y Z k n pc' (g_st1 L (i : Nat) (vr a)) st h) : Gd Y Z k n pc L (vr a :: st) h := by
  intro p l e R s m args below meth c D cs aK A ad0 QS H locs ad ls C RR Wd Ad hl
  obtain ⟨hd, rfl⟩ := hd
  have hi := Nat.lt_of_lt_of_le hi hl.2
  exact lv_astore_n C.1 C.2.1 hd rfl hl.1 hi rfl (fun ls' h' => kk p l e R s m args below meth c D cs aK A ad0 QS H locs ad ls' C RR Wd Ad (g_L_st1 (v := vr a) C.2.2.2.2.2.2.2.2.1.2.1 hl h'))
theorem Gd_astoreG {i : Nat} {a : Nat} (hi : i < L.length) (hd : g_D Y pc (.astore i) 2 pc') (kk : Gd Y Z k n pc' (g_st1 L i (vr a)) st h) : Gd Y Z k n pc L (vr a :: st) h := by
  intro p l e R s m args below meth c D cs aK A ad0 QS H locs ad ls C RR Wd Ad hl
  obtain ⟨hd, rfl⟩ := hd
  have hi := Nat.lt_of_lt_of_le hi hl.2
  exact lv_astore C.1 C.2.1 hd hl.1 hi rfl (fun ls' h' => kk p l e R s m args below meth c D cs aK A ad0 QS H locs ad ls' C RR Wd Ad (g_L_st1 (v := vr a) C.2.2.2.2.2.2.2.2.1.2.1 hl h'))
theorem Gd_iincG {i : Nat} {z : Int} {v : Int32} (hv : L[i]? = some (some (vi x))) (he : x + Int32.ofInt z = v) (hd : g_D Y pc (.iinc i z) 3 pc') (kk : Gd Y Z k n pc' (g_st1 L i (vi v)) st h) : Gd Y Z k n pc L st h := by
  intro p l e R s m args below meth c D cs aK A ad0 QS H locs ad ls C RR Wd Ad hl
  obtain ⟨hd, rfl⟩ := hd
  have hi : i < Y.2.2.1 := Nat.lt_of_lt_of_le (List.getElem?_eq_some_iff.mp hv).1 hl.2
  obtain ⟨q, hq⟩ := List.getElem?_of_mem ((g_ll_mem L 0 (i, Value.int x)).mpr ⟨i, vi x, hv, by simp [gc]⟩)
  exact lv_iinc C.1 C.2.1 hd hl.1 hq he hi rfl (fun ls' h' => kk p l e R s m args below meth c D cs aK A ad0 QS H locs ad ls' C RR Wd Ad (g_L_st1 (v := vi v) C.2.2.2.2.2.2.2.2.1.2.1 hl h'))
theorem Gd_iadd (hd : g_D Y pc .iadd 1 pc') (kk : Gd Y Z k n pc' L (vi (x + y) :: st) h) : Gd Y Z k n pc L (vi y :: vi x :: st) h := by
  intro p l e R s m args below meth c D cs aK A ad0 QS H locs ad ls C RR Wd Ad hl
  obtain ⟨hd, rfl⟩ := hd
  exact lv_iadd C.1 C.2.1 hd (kk p l e R s m args below meth c D cs aK A ad0 QS H locs ad ls C RR Wd Ad hl)
theorem Gd_isub (hd : g_D Y pc .isub 1 pc') (kk : Gd Y Z k n pc' L (vi (x - y) :: st) h) : Gd Y Z k n pc L (vi y :: vi x :: st) h := by
  intro p l e R s m args below meth c D cs aK A ad0 QS H locs ad ls C RR Wd Ad hl
  obtain ⟨hd, rfl⟩ := hd
  exact lv_isub C.1 C.2.1 hd (kk p l e R s m args below meth c D cs aK A ad0 QS H locs ad ls C RR Wd Ad hl)
theorem Gd_imul (hd : g_D Y pc .imul 1 pc') (kk : Gd Y Z k n pc' L (vi (x * y) :: st) h) : Gd Y Z k n pc L (vi y :: vi x :: st) h := by
  intro p l e R s m args below meth c D cs aK A ad0 QS H locs ad ls C RR Wd Ad hl
  obtain ⟨hd, rfl⟩ := hd
  exact lv_imul C.1 C.2.1 hd (kk p l e R s m args below meth c D cs aK A ad0 QS H locs ad ls C RR Wd Ad hl)
theorem Gd_iand (hd : g_D Y pc .iand 1 pc') (kk : Gd Y Z k n pc' L (vi (x &&& y) :: st) h) : Gd Y Z k n pc L (vi y :: vi x :: st) h := by
  intro p l e R s m args below meth c D cs aK A ad0 QS H locs ad ls C RR Wd Ad hl
  obtain ⟨hd, rfl⟩ := hd
  exact lv_iand C.1 C.2.1 hd (kk p l e R s m args below meth c D cs aK A ad0 QS H locs ad ls C RR Wd Ad hl)
theorem Gd_ior (hd : g_D Y pc .ior 1 pc') (kk : Gd Y Z k n pc' L (vi (x ||| y) :: st) h) : Gd Y Z k n pc L (vi y :: vi x :: st) h := by
  intro p l e R s m args below meth c D cs aK A ad0 QS H locs ad ls C RR Wd Ad hl
  obtain ⟨hd, rfl⟩ := hd
  exact lv_ior C.1 C.2.1 hd (kk p l e R s m args below meth c D cs aK A ad0 QS H locs ad ls C RR Wd Ad hl)
theorem Gd_ixor (hd : g_D Y pc .ixor 1 pc') (kk : Gd Y Z k n pc' L (vi (x ^^^ y) :: st) h) : Gd Y Z k n pc L (vi y :: vi x :: st) h := by
  intro p l e R s m args below meth c D cs aK A ad0 QS H locs ad ls C RR Wd Ad hl
  obtain ⟨hd, rfl⟩ := hd
  exact lv_ixor C.1 C.2.1 hd (kk p l e R s m args below meth c D cs aK A ad0 QS H locs ad ls C RR Wd Ad hl)
theorem Gd_ishl (hd : g_D Y pc .ishl 1 pc') (kk : Gd Y Z k n pc' L (vi (x <<< (y &&& 31)) :: st) h) : Gd Y Z k n pc L (vi y :: vi x :: st) h := by
  intro p l e R s m args below meth c D cs aK A ad0 QS H locs ad ls C RR Wd Ad hl
  obtain ⟨hd, rfl⟩ := hd
  exact lv_ishl C.1 C.2.1 hd (kk p l e R s m args below meth c D cs aK A ad0 QS H locs ad ls C RR Wd Ad hl)
theorem Gd_ishr (hd : g_D Y pc .ishr 1 pc') (kk : Gd Y Z k n pc' L (vi (x >>> (y &&& 31)) :: st) h) : Gd Y Z k n pc L (vi y :: vi x :: st) h := by
  intro p l e R s m args below meth c D cs aK A ad0 QS H locs ad ls C RR Wd Ad hl
  obtain ⟨hd, rfl⟩ := hd
  exact lv_ishr C.1 C.2.1 hd (kk p l e R s m args below meth c D cs aK A ad0 QS H locs ad ls C RR Wd Ad hl)
theorem Gd_iushr (hd : g_D Y pc .iushr 1 pc') (kk : Gd Y Z k n pc' L (vi ((x.toUInt32 >>> (y.toUInt32 &&& Int32.toUInt32 31)).toInt32) :: st) h) : Gd Y Z k n pc L (vi y :: vi x :: st) h := by
  intro p l e R s m args below meth c D cs aK A ad0 QS H locs ad ls C RR Wd Ad hl
  obtain ⟨hd, rfl⟩ := hd
  exact lv_iushr C.1 C.2.1 hd rfl (kk p l e R s m args below meth c D cs aK A ad0 QS H locs ad ls C RR Wd Ad hl)
theorem Gd_idiv (hne : ¬ y = 0) (hd : g_D Y pc .idiv 1 pc') (kk : Gd Y Z k n pc' L (vi (x / y) :: st) h) : Gd Y Z k n pc L (vi y :: vi x :: st) h := by
  intro p l e R s m args below meth c D cs aK A ad0 QS H locs ad ls C RR Wd Ad hl
  obtain ⟨hd, rfl⟩ := hd
  exact lv_idiv C.1 C.2.1 hd hne (kk p l e R s m args below meth c D cs aK A ad0 QS H locs ad ls C RR Wd Ad hl)
theorem Gd_irem (hne : ¬ y = 0) (hd : g_D Y pc .irem 1 pc') (kk : Gd Y Z k n pc' L (vi (x - x / y * y) :: st) h) : Gd Y Z k n pc L (vi y :: vi x :: st) h := by
  intro p l e R s m args below meth c D cs aK A ad0 QS H locs ad ls C RR Wd Ad hl
  obtain ⟨hd, rfl⟩ := hd
  exact lv_irem C.1 C.2.1 hd hne (kk p l e R s m args below meth c D cs aK A ad0 QS H locs ad ls C RR Wd Ad hl)
theorem Gd_ineg (hd : g_D Y pc .ineg 1 pc') (kk : Gd Y Z k n pc' L (vi (-x) :: st) h) : Gd Y Z k n pc L (vi x :: st) h := by
  intro p l e R s m args below meth c D cs aK A ad0 QS H locs ad ls C RR Wd Ad hl
  obtain ⟨hd, rfl⟩ := hd
  exact lv_ineg C.1 C.2.1 hd (kk p l e R s m args below meth c D cs aK A ad0 QS H locs ad ls C RR Wd Ad hl)
theorem Gd_ladd (hd : g_D Y pc .ladd 1 pc') (kk : Gd Y Z k n pc' L (vl (lx + ly) :: st) h) : Gd Y Z k n pc L (vl ly :: vl lx :: st) h := by
  intro p l e R s m args below meth c D cs aK A ad0 QS H locs ad ls C RR Wd Ad hl
  obtain ⟨hd, rfl⟩ := hd
  exact lv_ladd C.1 C.2.1 hd (kk p l e R s m args below meth c D cs aK A ad0 QS H locs ad ls C RR Wd Ad hl)
theorem Gd_lmul (hd : g_D Y pc .lmul 1 pc') (kk : Gd Y Z k n pc' L (vl (lx * ly) :: st) h) : Gd Y Z k n pc L (vl ly :: vl lx :: st) h := by
  intro p l e R s m args below meth c D cs aK A ad0 QS H locs ad ls C RR Wd Ad hl
  obtain ⟨hd, rfl⟩ := hd
  exact lv_lmul C.1 C.2.1 hd (kk p l e R s m args below meth c D cs aK A ad0 QS H locs ad ls C RR Wd Ad hl)
theorem Gd_ldiv (hne : ¬ ly = 0) (hd : g_D Y pc .ldiv 1 pc') (kk : Gd Y Z k n pc' L (vl (lx / ly) :: st) h) : Gd Y Z k n pc L (vl ly :: vl lx :: st) h := by
  intro p l e R s m args below meth c D cs aK A ad0 QS H locs ad ls C RR Wd Ad hl
  obtain ⟨hd, rfl⟩ := hd
  exact lv_ldiv C.1 C.2.1 hd hne (kk p l e R s m args below meth c D cs aK A ad0 QS H locs ad ls C RR Wd Ad hl)
theorem Gd_lrem (hne : ¬ ly = 0) (hd : g_D Y pc .lrem 1 pc') (kk : Gd Y Z k n pc' L (vl (lx - lx / ly * ly) :: st) h) : Gd Y Z k n pc L (vl ly :: vl lx :: st) h := by
  intro p l e R s m args below meth c D cs aK A ad0 QS H locs ad ls C RR Wd Ad hl
  obtain ⟨hd, rfl⟩ := hd
  exact lv_lrem C.1 C.2.1 hd hne (kk p l e R s m args below meth c D cs aK A ad0 QS H locs ad ls C RR Wd Ad hl)
theorem Gd_lcmp (hd : g_D Y pc .lcmp 1 pc') (kk : Gd Y Z k n pc' L (vi (lg_cmp lx ly) :: st) h) : Gd Y Z k n pc L (vl ly :: vl lx :: st) h := by
  intro p l e R s m args below meth c D cs aK A ad0 QS H locs ad ls C RR Wd Ad hl
  obtain ⟨hd, rfl⟩ := hd
  exact W.lcmp C.1 C.2.1 hd (kk p l e R s m args below meth c D cs aK A ad0 QS H locs ad ls C RR Wd Ad hl)
theorem Gd_i2l (hd : g_D Y pc .i2l 1 pc') (kk : Gd Y Z k n pc' L (vl x.toInt64 :: st) h) : Gd Y Z k n pc L (vi x :: st) h := by
  intro p l e R s m args below meth c D cs aK A ad0 QS H locs ad ls C RR Wd Ad hl
  obtain ⟨hd, rfl⟩ := hd
  exact lv_i2l C.1 C.2.1 hd rfl (kk p l e R s m args below meth c D cs aK A ad0 QS H locs ad ls C RR Wd Ad hl)
theorem Gd_l2i (hd : g_D Y pc .l2i 1 pc') (kk : Gd Y Z k n pc' L (vi lx.toInt32 :: st) h) : Gd Y Z k n pc L (vl lx :: st) h := by
  intro p l e R s m args below meth c D cs aK A ad0 QS H locs ad ls C RR Wd Ad hl
  obtain ⟨hd, rfl⟩ := hd
  exact lv_l2i C.1 C.2.1 hd rfl (kk p l e R s m args below meth c D cs aK A ad0 QS H locs ad ls C RR Wd Ad hl)
theorem Gd_i2b (hd : g_D Y pc .i2b 1 pc') (kk : Gd Y Z k n pc' L (vi x.toInt8.toInt32 :: st) h) : Gd Y Z k n pc L (vi x :: st) h := by
  intro p l e R s m args below meth c D cs aK A ad0 QS H locs ad ls C RR Wd Ad hl
  obtain ⟨hd, rfl⟩ := hd
  exact lv_i2b C.1 C.2.1 hd rfl (kk p l e R s m args below meth c D cs aK A ad0 QS H locs ad ls C RR Wd Ad hl)
theorem Gd_i2s (hd : g_D Y pc .i2s 1 pc') (kk : Gd Y Z k n pc' L (vi x.toInt16.toInt32 :: st) h) : Gd Y Z k n pc L (vi x :: st) h := by
  intro p l e R s m args below meth c D cs aK A ad0 QS H locs ad ls C RR Wd Ad hl
  obtain ⟨hd, rfl⟩ := hd
  exact lv_i2s C.1 C.2.1 hd rfl (kk p l e R s m args below meth c D cs aK A ad0 QS H locs ad ls C RR Wd Ad hl)
theorem Gd_i2c (hd : g_D Y pc .i2c 1 pc') (kk : Gd Y Z k n pc' L (vi ((x.toUInt32 % 65536).toInt32) :: st) h) : Gd Y Z k n pc L (vi x :: st) h := by
  intro p l e R s m args below meth c D cs aK A ad0 QS H locs ad ls C RR Wd Ad hl
  obtain ⟨hd, rfl⟩ := hd
  exact lv_i2c C.1 C.2.1 hd rfl (kk p l e R s m args below meth c D cs aK A ad0 QS H locs ad ls C RR Wd Ad hl)
theorem Gd_dup {v : g_V} (hv : g_isl (some v) = false) (hd : g_D Y pc .dup 1 pc') (kk : Gd Y Z k n pc' L (v :: v :: st) h) : Gd Y Z k n pc L (v :: st) h := by
  intro p l e R s m args below meth c D cs aK A ad0 QS H locs ad ls C RR Wd Ad hl
  obtain ⟨hd, rfl⟩ := hd
  exact lv_dup C.1 C.2.1 hd (by rw [gc_cat C.2.2.2.2.2.2.2.2.1.2.1, hv]; rfl) (kk p l e R s m args below meth c D cs aK A ad0 QS H locs ad ls C RR Wd Ad hl)
theorem Gd_pop {v : g_V} (hv : g_isl (some v) = false) (hd : g_D Y pc .pop 1 pc') (kk : Gd Y Z k n pc' L (st) h) : Gd Y Z k n pc L (v :: st) h := by
  intro p l e R s m args below meth c D cs aK A ad0 QS H locs ad ls C RR Wd Ad hl
  obtain ⟨hd, rfl⟩ := hd
  exact lv_pop C.1 C.2.1 hd (by rw [gc_cat C.2.2.2.2.2.2.2.2.1.2.1, hv]; rfl) (kk p l e R s m args below meth c D cs aK A ad0 QS H locs ad ls C RR Wd Ad hl)
theorem Gd_dup2 {v w : g_V} (hv : g_isl (some v) = false) (hw : g_isl (some w) = false) (hd : g_D Y pc .dup2 1 pc') (kk : Gd Y Z k n pc' L (v :: w :: v :: w :: st) h) : Gd Y Z k n pc L (v :: w :: st) h := by
  intro p l e R s m args below meth c D cs aK A ad0 QS H locs ad ls C RR Wd Ad hl
  obtain ⟨hd, rfl⟩ := hd
  exact lv_dup2_11 C.1 C.2.1 hd (by rw [gc_cat C.2.2.2.2.2.2.2.2.1.2.1, hv]; rfl) (by rw [gc_cat C.2.2.2.2.2.2.2.2.1.2.1, hw]; rfl) (kk p l e R s m args below meth c D cs aK A ad0 QS H locs ad ls C RR Wd Ad hl)
theorem Gd_if_eq (hd : g_J Y pc (.ifCond .eq) tgt pc') (kt : x = 0 → Gd Y Z k n tgt L st h) (kf : ¬ x = 0 → Gd Y Z k n pc' L st h) : Gd Y Z k n pc L (vi x :: st) h := by
  intro p l e R s m args below meth c D cs aK A ad0 QS H locs ad ls C RR Wd Ad hl
  obtain ⟨off, hd, ht, rfl⟩ := hd
  exact lv_if_eq C.1 C.2.1 hd ht (fun q => kt q p l e R s m args below meth c D cs aK A ad0 QS H locs ad ls C RR Wd Ad hl) (fun q => kf q p l e R s m args below meth c D cs aK A ad0 QS H locs ad ls C RR Wd Ad hl)
theorem Gd_icmp_eq (hd : g_J Y pc (.if_icmp .eq) tgt pc') (kt : x = y → Gd Y Z k n tgt L st h) (kf : ¬ x = y → Gd Y Z k n pc' L st h) : Gd Y Z k n pc L (vi y :: vi x :: st) h := by
  intro p l e R s m args below meth c D cs aK A ad0 QS H locs ad ls C RR Wd Ad hl
  obtain ⟨off, hd, ht, rfl⟩ := hd
  exact lv_icmp_eq C.1 C.2.1 hd ht (fun q => kt q p l e R s m args below meth c D cs aK A ad0 QS H locs ad ls C RR Wd Ad hl) (fun q => kf q p l e R s m args below meth c D cs aK A ad0 QS H locs ad ls C RR Wd Ad hl)
theorem Gd_if_ne (hd : g_J Y pc (.ifCond .ne) tgt pc') (kt : ¬ x = 0 → Gd Y Z k n tgt L st h) (kf : x = 0 → Gd Y Z k n pc' L st h) : Gd Y Z k n pc L (vi x :: st) h := by
  intro p l e R s m args below meth c D cs aK A ad0 QS H locs ad ls C RR Wd Ad hl
  obtain ⟨off, hd, ht, rfl⟩ := hd
  exact lv_if_ne C.1 C.2.1 hd ht (fun q => kt q p l e R s m args below meth c D cs aK A ad0 QS H locs ad ls C RR Wd Ad hl) (fun q => kf q p l e R s m args below meth c D cs aK A ad0 QS H locs ad ls C RR Wd Ad hl)
theorem Gd_icmp_ne (hd : g_J Y pc (.if_icmp .ne) tgt pc') (kt : ¬ x = y → Gd Y Z k n tgt L st h) (kf : x = y → Gd Y Z k n pc' L st h) : Gd Y Z k n pc L (vi y :: vi x :: st) h := by
  intro p l e R s m args below meth c D cs aK A ad0 QS H locs ad ls C RR Wd Ad hl
  obtain ⟨off, hd, ht, rfl⟩ := hd
  exact lv_icmp_ne C.1 C.2.1 hd ht (fun q => kt q p l e R s m args below meth c D cs aK A ad0 QS H locs ad ls C RR Wd Ad hl) (fun q => kf q p l e R s m args below meth c D cs aK A ad0 QS H locs ad ls C RR Wd Ad hl)
theorem Gd_if_lt (hd : g_J Y pc (.ifCond .lt) tgt pc') (kt : x < 0 → Gd Y Z k n tgt L st h) (kf : ¬ x < 0 → Gd Y Z k n pc' L st h) : Gd Y Z k n pc L (vi x :: st) h := by
  intro p l e R s m args below meth c D cs aK A ad0 QS H locs ad ls C RR Wd Ad hl
  obtain ⟨off, hd, ht, rfl⟩ := hd
  exact lv_if_lt C.1 C.2.1 hd ht (fun q => kt q p l e R s m args below meth c D cs aK A ad0 QS H locs ad ls C RR Wd Ad hl) (fun q => kf q p l e R s m args below meth c D cs aK A ad0 QS H locs ad ls C RR Wd Ad hl)
theorem Gd_icmp_lt (hd : g_J Y pc (.if_icmp .lt) tgt pc') (kt : x < y → Gd Y Z k n tgt L st h) (kf : ¬ x < y → Gd Y Z k n pc' L st h) : Gd Y Z k n pc L (vi y :: vi x :: st) h := by
  intro p l e R s m args below meth c D cs aK A ad0 QS H locs ad ls C RR Wd Ad hl
  obtain ⟨off, hd, ht, rfl⟩ := hd
  exact lv_icmp_lt C.1 C.2.1 hd ht (fun q => kt q p l e R s m args below meth c D cs aK A ad0 QS H locs ad ls C RR Wd Ad hl) (fun q => kf q p l e R s m args below meth c D cs aK A ad0 QS H locs ad ls C RR Wd Ad hl)
theorem Gd_if_ge (hd : g_J Y pc (.ifCond .ge) tgt pc') (kt : 0 ≤ x → Gd Y Z k n tgt L st h) (kf : ¬ 0 ≤ x → Gd Y Z k n pc' L st h) : Gd Y Z k n pc L (vi x :: st) h := by
  intro p l e R s m args below meth c D cs aK A ad0 QS H locs ad ls C RR Wd Ad hl
  obtain ⟨off, hd, ht, rfl⟩ := hd
  exact lv_if_ge C.1 C.2.1 hd ht (fun q => kt q p l e R s m args below meth c D cs aK A ad0 QS H locs ad ls C RR Wd Ad hl) (fun q => kf q p l e R s m args below meth c D cs aK A ad0 QS H locs ad ls C RR Wd Ad hl)
theorem Gd_icmp_ge (hd : g_J Y pc (.if_icmp .ge) tgt pc') (kt : y ≤ x → Gd Y Z k n tgt L st h) (kf : ¬ y ≤ x → Gd Y Z k n pc' L st h) : Gd Y Z k n pc L (vi y :: vi x :: st) h := by
  intro p l e R s m args below meth c D cs aK A ad0 QS H locs ad ls C RR Wd Ad hl
  obtain ⟨off, hd, ht, rfl⟩ := hd
  exact lv_icmp_ge C.1 C.2.1 hd ht (fun q => kt q p l e R s m args below meth c D cs aK A ad0 QS H locs ad ls C RR Wd Ad hl) (fun q => kf q p l e R s m args below meth c D cs aK A ad0 QS H locs ad ls C RR Wd Ad hl)
theorem Gd_if_gt (hd : g_J Y pc (.ifCond .gt) tgt pc') (kt : 0 < x → Gd Y Z k n tgt L st h) (kf : ¬ 0 < x → Gd Y Z k n pc' L st h) : Gd Y Z k n pc L (vi x :: st) h := by
  intro p l e R s m args below meth c D cs aK A ad0 QS H locs ad ls C RR Wd Ad hl
  obtain ⟨off, hd, ht, rfl⟩ := hd
  exact lv_if_gt C.1 C.2.1 hd ht (fun q => kt q p l e R s m args below meth c D cs aK A ad0 QS H locs ad ls C RR Wd Ad hl) (fun q => kf q p l e R s m args below meth c D cs aK A ad0 QS H locs ad ls C RR Wd Ad hl)
theorem Gd_icmp_gt (hd : g_J Y pc (.if_icmp .gt) tgt pc') (kt : y < x → Gd Y Z k n tgt L st h) (kf : ¬ y < x → Gd Y Z k n pc' L st h) : Gd Y Z k n pc L (vi y :: vi x :: st) h := by
  intro p l e R s m args below meth c D cs aK A ad0 QS H locs ad ls C RR Wd Ad hl
  obtain ⟨off, hd, ht, rfl⟩ := hd
  exact lv_icmp_gt C.1 C.2.1 hd ht (fun q => kt q p l e R s m args below meth c D cs aK A ad0 QS H locs ad ls C RR Wd Ad hl) (fun q => kf q p l e R s m args below meth c D cs aK A ad0 QS H locs ad ls C RR Wd Ad hl)
theorem Gd_if_le (hd : g_J Y pc (.ifCond .le) tgt pc') (kt : x ≤ 0 → Gd Y Z k n tgt L st h) (kf : ¬ x ≤ 0 → Gd Y Z k n pc' L st h) : Gd Y Z k n pc L (vi x :: st) h := by
  intro p l e R s m args below meth c D cs aK A ad0 QS H locs ad ls C RR Wd Ad hl
  obtain ⟨off, hd, ht, rfl⟩ := hd
  exact lv_if_le C.1 C.2.1 hd ht (fun q => kt q p l e R s m args below meth c D cs aK A ad0 QS H locs ad ls C RR Wd Ad hl) (fun q => kf q p l e R s m args below meth c D cs aK A ad0 QS H locs ad ls C RR Wd Ad hl)
theorem Gd_icmp_le (hd : g_J Y pc (.if_icmp .le) tgt pc') (kt : x ≤ y → Gd Y Z k n tgt L st h) (kf : ¬ x ≤ y → Gd Y Z k n pc' L st h) : Gd Y Z k n pc L (vi y :: vi x :: st) h := by
  intro p l e R s m args below meth c D cs aK A ad0 QS H locs ad ls C RR Wd Ad hl
  obtain ⟨off, hd, ht, rfl⟩ := hd
  exact lv_icmp_le C.1 C.2.1 hd ht (fun q => kt q p l e R s m args below meth c D cs aK A ad0 QS H locs ad ls C RR Wd Ad hl) (fun q => kf q p l e R s m args below meth c D cs aK A ad0 QS H locs ad ls C RR Wd Ad hl)
theorem Gd_goto (hd : g_J Y pc .goto tgt pc') (kk : Gd Y Z k n tgt L st h) : Gd Y Z k n pc L st h := by
  intro p l e R s m args below meth c D cs aK A ad0 QS H locs ad ls C RR Wd Ad hl
  obtain ⟨off, hd, ht, rfl⟩ := hd
  exact lv_goto C.1 C.2.1 hd ht (kk p l e R s m args below meth c D cs aK A ad0 QS H locs ad ls C RR Wd Ad hl)
theorem Gd_ifnonnull {a : Nat} (hd : g_J Y pc .ifnonnull tgt pc') (kk : Gd Y Z k n tgt L st h) : Gd Y Z k n pc L (vr a :: st) h := by
  intro p l e R s m args below meth c D cs aK A ad0 QS H locs ad ls C RR Wd Ad hl
  obtain ⟨off, hd, ht, rfl⟩ := hd
  exact lv_ifnonnull C.1 C.2.1 hd ht (kk p l e R s m args below meth c D cs aK A ad0 QS H locs ad ls C RR Wd Ad hl)
theorem Gd_lookup {dflt off : Int} {ps : Array (Int × Int)} {len : Nat} (hd : decode Y.2.1 pc = .ok (.lookupswitch dflt ps, len)) (hp : (ps.toList.zip (ps.toList.drop 1)).all (fun (a, next) => a.1 < next.1) = true) (ho : Op.lookupswitch.offset ps.toList dflt x.toInt = off) (ht : (pc : Int) + off = (tgt : Int))
    (kk : Gd Y Z k n tgt L st h) : Gd Y Z k n pc L (vi x :: st) h := by
  intro p l e R s m args below meth c D cs aK A ad0 QS H locs ad ls C RR Wd Ad hl
  exact lv_lookup C.1 C.2.1 hd hp ho ht (kk p l e R s m args below meth c D cs aK A ad0 QS H locs ad ls C RR Wd Ad hl)
theorem Gd_tabOut {dflt lo hi : Int} {offs : Array Int} {len : Nat} (hd : decode Y.2.1 pc = .ok (.tableswitch dflt lo hi offs, len)) (hh : x.toInt < lo ∨ hi < x.toInt) (ht : (pc : Int) + dflt = (tgt : Int))
    (kk : Gd Y Z k n tgt L st h) : Gd Y Z k n pc L (vi x :: st) h := by
  intro p l e R s m args below meth c D cs aK A ad0 QS H locs ad ls C RR Wd Ad hl
  exact lv_tableOut C.1 C.2.1 hd hh ht (kk p l e R s m args below meth c D cs aK A ad0 QS H locs ad ls C RR Wd Ad hl)
theorem Gd_tabIn {dflt lo hi off : Int} {offs : Array Int} {len : Nat} (hd : decode Y.2.1 pc = .ok (.tableswitch dflt lo hi offs, len)) (h1 : ¬ x.toInt < lo) (h2 : ¬ hi < x.toInt) (ho : offs[(x.toInt - lo).toNat]? = some off) (ht : (pc : Int) + off = (tgt : Int))
    (kk : Gd Y Z k n tgt L st h) : Gd Y Z k n pc L (vi x :: st) h := by
  intro p l e R s m args below meth c D cs aK A ad0 QS H locs ad ls C RR Wd Ad hl
  exact lv_tableIn C.1 C.2.1 hd h1 h2 ho ht (kk p l e R s m args below meth c D cs aK A ad0 QS H locs ad ls C RR Wd Ad hl)
end GI
section GS
variable {Y : g_Y} {Z : g_Z} {k n pc pc' : Nat} {L : List (Option g_V)} {st : List g_V} {h : g_H} {x : Int32} {lx : Int64}
theorem Gd_istore_n0 {o0 : Option g_V} (hd : g_D Y pc (.istore_n 0) 1 pc') (kk : Gd Y Z k n pc' (some (vi x) :: L) st h) : Gd Y Z k n pc (o0 :: L) (vi x :: st) h := by
  refine Gd_istore_nG (i := 0) (a := 0) (by show 0 < _; simp only [List.length_cons]; omega) hd ?_
  have e : g_st1 (o0 :: L) 0 (vi x) = some (vi x) :: L := by rfl
  exact e ▸ kk
theorem Gd_astore_n0 {o0 : Option g_V} {a : Nat} (hd : g_D Y pc (.astore_n 0) 1 pc') (kk : Gd Y Z k n pc' (some (vr a) :: L) st h) : Gd Y Z k n pc (o0 :: L) (vr a :: st) h := by
  refine Gd_astore_nG (i := 0) (by show 0 < _; simp only [List.length_cons]; omega) hd ?_
  have e : g_st1 (o0 :: L) 0 (vr a) = some (vr a) :: L := by rfl
  exact e ▸ kk
theorem Gd_lstore_n0 {o0 o1 : Option g_V} (hd : g_D Y pc (.lstore_n 0) 1 pc') (kk : Gd Y Z k n pc' (some (vl lx) :: none :: L) st h) : Gd Y Z k n pc (o0 :: o1 :: L) (vl lx :: st) h := by
  refine Gd_lstore_nG (i := 0) (a := 0) (by show 0 + 1 < _; simp only [List.length_cons]; omega) hd ?_
  have e : g_st2 (o0 :: o1 :: L) 0 (vl lx) = some (vl lx) :: none :: L := by simp [g_st2, g_clp, g_clr]
  exact e ▸ kk
theorem Gd_iinc0 {o0 : Option g_V} {z : Int} {v : Int32} (he : x + Int32.ofInt z = v) (hd : g_D Y pc (.iinc 0 z) 3 pc') (kk : Gd Y Z k n pc' (some (vi v) :: L) st h) : Gd Y Z k n pc (some (vi x) :: L) st h := by
  refine Gd_iincG (i := 0) (x := x) (by simp) he hd ?_
  have e : g_st1 (some (vi x) :: L) 0 (vi v) = some (vi v) :: L := by rfl
  exact e ▸ kk
theorem Gd_istore_n1 {o0 o1 : Option g_V} (ho : g_isl o0 = false) (hd : g_D Y pc (.istore_n 1) 1 pc') (kk : Gd Y Z k n pc' (o0 :: some (vi x) :: L) st h) : Gd Y Z k n pc (o0 :: o1 :: L) (vi x :: st) h := by
  refine Gd_istore_nG (i := 1) (a := 0) (by show 1 < _; simp only [List.length_cons]; omega) hd ?_
  have e : g_st1 (o0 :: o1 :: L) 1 (vi x) = o0 :: some (vi x) :: L := by simp [g_st1, g_clp, g_clr, ho]
  exact e ▸ kk
theorem Gd_astore_n1 {o0 o1 : Option g_V} {a : Nat} (ho : g_isl o0 = false) (hd : g_D Y pc (.astore_n 1) 1 pc') (kk : Gd Y Z k n pc' (o0 :: some (vr a) :: L) st h) : Gd Y Z k n pc (o0 :: o1 :: L) (vr a :: st) h := by
  refine Gd_astore_nG (i := 1) (by show 1 < _; simp only [List.length_cons]; omega) hd ?_
  have e : g_st1 (o0 :: o1 :: L) 1 (vr a) = o0 :: some (vr a) :: L := by simp [g_st1, g_clp, g_clr, ho]
  exact e ▸ kk
theorem Gd_lstore_n1 {o0 o1 o2 : Option g_V} (ho : g_isl o0 = false) (hd : g_D Y pc (.lstore_n 1) 1 pc') (kk : Gd Y Z k n pc' (o0 :: some (vl lx) :: none :: L) st h) : Gd Y Z k n pc (o0 :: o1 :: o2 :: L) (vl lx :: st) h := by
  refine Gd_lstore_nG (i := 1) (a := 0) (by show 1 + 1 < _; simp only [List.length_cons]; omega) hd ?_
  have e : g_st2 (o0 :: o1 :: o2 :: L) 1 (vl lx) = o0 :: some (vl lx) :: none :: L := by simp [g_st2, g_clp, g_clr, ho]
  exact e ▸ kk
theorem Gd_iinc1 {o0 : Option g_V} {z : Int} {v : Int32} (ho : g_isl o0 = false) (he : x + Int32.ofInt z = v) (hd : g_D Y pc (.iinc 1 z) 3 pc') (kk : Gd Y Z k n pc' (o0 :: some (vi v) :: L) st h) : Gd Y Z k n pc (o0 :: some (vi x) :: L) st h := by
  refine Gd_iincG (i := 1) (x := x) (by simp) he hd ?_
  have e : g_st1 (o0 :: some (vi x) :: L) 1 (vi v) = o0 :: some (vi v) :: L := by simp [g_st1, g_clp, g_clr, ho]
  exact e ▸ kk
theorem Gd_istore_n2 {o0 o1 o2 : Option g_V} (ho : g_isl o1 = false) (hd : g_D Y pc (.istore_n 2) 1 pc') (kk : Gd Y Z k n pc' (o0 :: o1 :: some (vi x) :: L) st h) : Gd Y Z k n pc (o0 :: o1 :: o2 :: L) (vi x :: st) h := by
  refine Gd_istore_nG (i := 2) (a := 0) (by show 2 < _; simp only [List.length_cons]; omega) hd ?_
  have e : g_st1 (o0 :: o1 :: o2 :: L) 2 (vi x) = o0 :: o1 :: some (vi x) :: L := by simp [g_st1, g_clp, g_clr, ho]
  exact e ▸ kk
theorem Gd_astore_n2 {o0 o1 o2 : Option g_V} {a : Nat} (ho : g_isl o1 = false) (hd : g_D Y pc (.astore_n 2) 1 pc') (kk : Gd Y Z k n pc' (o0 :: o1 :: some (vr a) :: L) st h) : Gd Y Z k n pc (o0 :: o1 :: o2 :: L) (vr a :: st) h := by
  refine Gd_astore_nG (i := 2) (by show 2 < _; simp only [List.length_cons]; omega) hd ?_
  have e : g_st1 (o0 :: o1 :: o2 :: L) 2 (vr a) = o0 :: o1 :: some (vr a) :: L := by simp [g_st1, g_clp, g_clr, ho]
  exact e ▸ kk
theorem Gd_lstore_n2 {o0 o1 o2 o3 : Option g_V} (ho : g_isl o1 = false) (hd : g_D Y pc (.lstore_n 2) 1 pc') (kk : Gd Y Z k n pc' (o0 :: o1 :: some (vl lx) :: none :: L) st h) : Gd Y Z k n pc (o0 :: o1 :: o2 :: o3 :: L) (vl lx :: st) h := by
  refine Gd_lstore_nG (i := 2) (a := 0) (by show 2 + 1 < _; simp only [List.length_cons]; omega) hd ?_
  have e : g_st2 (o0 :: o1 :: o2 :: o3 :: L) 2 (vl lx) = o0 :: o1 :: some (vl lx) :: none :: L := by simp [g_st2, g_clp, g_clr, ho]
  exact e ▸ kk
theorem Gd_iinc2 {o0 o1 : Option g_V} {z : Int} {v : Int32} (ho : g_isl o1 = false) (he : x + Int32.ofInt z = v) (hd : g_D Y pc (.iinc 2 z) 3 pc') (kk : Gd Y Z k n pc' (o0 :: o1 :: some (vi v) :: L) st h) : Gd Y Z k n pc (o0 :: o1 :: some (vi x) :: L) st h := by
  refine Gd_iincG (i := 2) (x := x) (by simp) he hd ?_
  have e : g_st1 (o0 :: o1 :: some (vi x) :: L) 2 (vi v) = o0 :: o1 :: some (vi v) :: L := by simp [g_st1, g_clp, g_clr, ho]
  exact e ▸ kk
theorem Gd_istore_n3 {o0 o1 o2 o3 : Option g_V} (ho : g_isl o2 = false) (hd : g_D Y pc (.istore_n 3) 1 pc') (kk : Gd Y Z k n pc' (o0 :: o1 :: o2 :: some (vi x) :: L) st h) : Gd Y Z k n pc (o0 :: o1 :: o2 :: o3 :: L) (vi x :: st) h := by
  refine Gd_istore_nG (i := 3) (a := 0) (by show 3 < _; simp only [List.length_cons]; omega) hd ?_
  have e : g_st1 (o0 :: o1 :: o2 :: o3 :: L) 3 (vi x) = o0 :: o1 :: o2 :: some (vi x) :: L := by simp [g_st1, g_clp, g_clr, ho]
  exact e ▸ kk
theorem Gd_astore_n3 {o0 o1 o2 o3 : Option g_V} {a : Nat} (ho : g_isl o2 = false) (hd : g_D Y pc (.astore_n 3) 1 pc') (kk : Gd Y Z k n pc' (o0 :: o1 :: o2 :: some (vr a) :: L) st h) : Gd Y Z k n pc (o0 :: o1 :: o2 :: o3 :: L) (vr a :: st) h := by
  refine Gd_astore_nG (i := 3) (by show 3 < _; simp only [List.length_cons]; omega) hd ?_
  have e : g_st1 (o0 :: o1 :: o2 :: o3 :: L) 3 (vr a) = o0 :: o1 :: o2 :: some (vr a) :: L := by simp [g_st1, g_clp, g_clr, ho]
  exact e ▸ kk
theorem Gd_lstore_n3 {o0 o1 o2 o3 o4 : Option g_V} (ho : g_isl o2 = false) (hd : g_D Y pc (.lstore_n 3) 1 pc') (kk : Gd Y Z k n pc' (o0 :: o1 :: o2 :: some (vl lx) :: none :: L) st h) : Gd Y Z k n pc (o0 :: o1 :: o2 :: o3 :: o4 :: L) (vl lx :: st) h := by
  refine Gd_lstore_nG (i := 3) (a := 0) (by show 3 + 1 < _; simp only [List.length_cons]; omega) hd ?_
  have e : g_st2 (o0 :: o1 :: o2 :: o3 :: o4 :: L) 3 (vl lx) = o0 :: o1 :: o2 :: some (vl lx) :: none :: L := by simp [g_st2, g_clp, g_clr, ho]
  exact e ▸ kk
theorem Gd_iinc3 {o0 o1 o2 : Option g_V} {z : Int} {v : Int32} (ho : g_isl o2 = false) (he : x + Int32.ofInt z = v) (hd : g_D Y pc (.iinc 3 z) 3 pc') (kk : Gd Y Z k n pc' (o0 :: o1 :: o2 :: some (vi v) :: L) st h) : Gd Y Z k n pc (o0 :: o1 :: o2 :: some (vi x) :: L) st h := by
  refine Gd_iincG (i := 3) (x := x) (by simp) he hd ?_
  have e : g_st1 (o0 :: o1 :: o2 :: some (vi x) :: L) 3 (vi v) = o0 :: o1 :: o2 :: some (vi v) :: L := by simp [g_st1, g_clp, g_clr, ho]
  exact e ▸ kk
theorem Gd_istore4 {o0 o1 o2 o3 o4 : Option g_V} (ho : g_isl o3 = false) (hd : g_D Y pc (.istore 4) 2 pc') (kk : Gd Y Z k n pc' (o0 :: o1 :: o2 :: o3 :: some (vi x) :: L) st h) : Gd Y Z k n pc (o0 :: o1 :: o2 :: o3 :: o4 :: L) (vi x :: st) h := by
  refine Gd_istoreG (i := 4) (a := 0) (by show 4 < _; simp only [List.length_cons]; omega) hd ?_
  have e : g_st1 (o0 :: o1 :: o2 :: o3 :: o4 :: L) 4 (vi x) = o0 :: o1 :: o2 :: o3 :: some (vi x) :: L := by simp [g_st1, g_clp, g_clr, ho]
  exact e ▸ kk
theorem Gd_astore4 {o0 o1 o2 o3 o4 : Option g_V} {a : Nat} (ho : g_isl o3 = false) (hd : g_D Y pc (.astore 4) 2 pc') (kk : Gd Y Z k n pc' (o0 :: o1 :: o2 :: o3 :: some (vr a) :: L) st h) : Gd Y Z k n pc (o0 :: o1 :: o2 :: o3 :: o4 :: L) (vr a :: st) h := by
  refine Gd_astoreG (i := 4) (by show 4 < _; simp only [List.length_cons]; omega) hd ?_
  have e : g_st1 (o0 :: o1 :: o2 :: o3 :: o4 :: L) 4 (vr a) = o0 :: o1 :: o2 :: o3 :: some (vr a) :: L := by simp [g_st1, g_clp, g_clr, ho]
  exact e ▸ kk
theorem Gd_lstore4 {o0 o1 o2 o3 o4 o5 : Option g_V} (ho : g_isl o3 = false) (hd : g_D Y pc (.lstore 4) 2 pc') (kk : Gd Y Z k n pc' (o0 :: o1 :: o2 :: o3 :: some (vl lx) :: none :: L) st h) : Gd Y Z k n pc (o0 :: o1 :: o2 :: o3 :: o4 :: o5 :: L) (vl lx :: st) h := by
  refine Gd_lstoreG (i := 4) (a := 0) (by show 4 + 1 < _; simp only [List.length_cons]; omega) hd ?_
  have e : g_st2 (o0 :: o1 :: o2 :: o3 :: o4 :: o5 :: L) 4 (vl lx) = o0 :: o1 :: o2 :: o3 :: some (vl lx) :: none :: L := by simp [g_st2, g_clp, g_clr, ho]
  exact e ▸ kk
theorem Gd_iinc4 {o0 o1 o2 o3 : Option g_V} {z : Int} {v : Int32} (ho : g_isl o3 = false) (he : x + Int32.ofInt z = v) (hd : g_D Y pc (.iinc 4 z) 3 pc') (kk : Gd Y Z k n pc' (o0 :: o1 :: o2 :: o3 :: some (vi v) :: L) st h) : Gd Y Z k n pc (o0 :: o1 :: o2 :: o3 :: some (vi x) :: L) st h := by
  refine Gd_iincG (i := 4) (x := x) (by simp) he hd ?_
  have e : g_st1 (o0 :: o1 :: o2 :: o3 :: some (vi x) :: L) 4 (vi v) = o0 :: o1 :: o2 :: o3 :: some (vi v) :: L := by simp [g_st1, g_clp, g_clr, ho]
  exact e ▸ kk
theorem Gd_istore5 {o0 o1 o2 o3 o4 o5 : Option g_V} (ho : g_isl o4 = false) (hd : g_D Y pc (.istore 5) 2 pc') (kk : Gd Y Z k n pc' (o0 :: o1 :: o2 :: o3 :: o4 :: some (vi x) :: L) st h) : Gd Y Z k n pc (o0 :: o1 :: o2 :: o3 :: o4 :: o5 :: L) (vi x :: st) h := by
  refine Gd_istoreG (i := 5) (a := 0) (by show 5 < _; simp only [List.length_cons]; omega) hd ?_
  have e : g_st1 (o0 :: o1 :: o2 :: o3 :: o4 :: o5 :: L) 5 (vi x) = o0 :: o1 :: o2 :: o3 :: o4 :: some (vi x) :: L := by simp [g_st1, g_clp, g_clr, ho]
  exact e ▸ kk
theorem Gd_astore5 {o0 o1 o2 o3 o4 o5 : Option g_V} {a : Nat} (ho : g_isl o4 = false) (hd : g_D Y pc (.astore 5) 2 pc') (kk : Gd Y Z k n pc' (o0 :: o1 :: o2 :: o3 :: o4 :: some (vr a) :: L) st h) : Gd Y Z k n pc (o0 :: o1 :: o2 :: o3 :: o4 :: o5 :: L) (vr a :: st) h := by
  refine Gd_astoreG (i := 5) (by show 5 < _; simp only [List.length_cons]; omega) hd ?_
  have e : g_st1 (o0 :: o1 :: o2 :: o3 :: o4 :: o5 :: L) 5 (vr a) = o0 :: o1 :: o2 :: o3 :: o4 :: some (vr a) :: L := by simp [g_st1, g_clp, g_clr, ho]
  exact e ▸ kk
theorem Gd_lstore5 {o0 o1 o2 o3 o4 o5 o6 : Option g_V} (ho : g_isl o4 = false) (hd : g_D Y pc (.lstore 5) 2 pc') (kk : Gd Y Z k n pc' (o0 :: o1 :: o2 :: o3 :: o4 :: some (vl lx) :: none :: L) st h) : Gd Y Z k n pc (o0 :: o1 :: o2 :: o3 :: o4 :: o5 :: o6 :: L) (vl lx :: st) h := by
  refine Gd_lstoreG (i := 5) (a := 0) (by show 5 + 1 < _; simp only [List.length_cons]; omega) hd ?_
  have e : g_st2 (o0 :: o1 :: o2 :: o3 :: o4 :: o5 :: o6 :: L) 5 (vl lx) = o0 :: o1 :: o2 :: o3 :: o4 :: some (vl lx) :: none :: L := by simp [g_st2, g_clp, g_clr, ho]
  exact e ▸ kk
theorem Gd_iinc5 {o0 o1 o2 o3 o4 : Option g_V} {z : Int} {v : Int32} (ho : g_isl o4 = false) (he : x + Int32.ofInt z = v) (hd : g_D Y pc (.iinc 5 z) 3 pc') (kk : Gd Y Z k n pc' (o0 :: o1 :: o2 :: o3 :: o4 :: some (vi v) :: L) st h) : Gd Y Z k n pc (o0 :: o1 :: o2 :: o3 :: o4 :: some (vi x) :: L) st h := by
  refine Gd_iincG (i := 5) (x := x) (by simp) he hd ?_
  have e : g_st1 (o0 :: o1 :: o2 :: o3 :: o4 :: some (vi x) :: L) 5 (vi v) = o0 :: o1 :: o2 :: o3 :: o4 :: some (vi v) :: L := by simp [g_st1, g_clp, g_clr, ho]
  exact e ▸ kk
theorem Gd_istore6 {o0 o1 o2 o3 o4 o5 o6 : Option g_V} (ho : g_isl o5 = false) (hd : g_D Y pc (.istore 6) 2 pc') (kk : Gd Y Z k n pc' (o0 :: o1 :: o2 :: o3 :: o4 :: o5 :: some (vi x) :: L) st h) : Gd Y Z k n pc (o0 :: o1 :: o2 :: o3 :: o4 :: o5 :: o6 :: L) (vi x :: st) h := by
  refine Gd_istoreG (i := 6) (a := 0) (by show 6 < _; simp only [List.length_cons]; omega) hd ?_
  have e : g_st1 (o0 :: o1 :: o2 :: o3 :: o4 :: o5 :: o6 :: L) 6 (vi x) = o0 :: o1 :: o2 :: o3 :: o4 :: o5 :: some (vi x) :: L := by simp [g_st1, g_clp, g_clr, ho]
  exact e ▸ kk
theorem Gd_astore6 {o0 o1 o2 o3 o4 o5 o6 : Option g_V} {a : Nat} (ho : g_isl o5 = false) (hd : g_D Y pc (.astore 6) 2 pc') (kk : Gd Y Z k n pc' (o0 :: o1 :: o2 :: o3 :: o4 :: o5 :: some (vr a) :: L) st h) : Gd Y Z k n pc (o0 :: o1 :: o2 :: o3 :: o4 :: o5 :: o6 :: L) (vr a :: st) h := by
  refine Gd_astoreG (i := 6) (by show 6 < _; simp only [List.length_cons]; omega) hd ?_
  have e : g_st1 (o0 :: o1 :: o2 :: o3 :: o4 :: o5 :: o6 :: L) 6 (vr a) = o0 :: o1 :: o2 :: o3 :: o4 :: o5 :: some (vr a) :: L := by simp [g_st1, g_clp, g_clr, ho]
  exact e ▸ kk
theorem Gd_lstore6 {o0 o1 o2 o3 o4 o5 o6 o7 : Option g_V} (ho : g_isl o5 = false) (hd : g_D Y pc (.lstore 6) 2 pc') (kk : Gd Y Z k n pc' (o0 :: o1 :: o2 :: o3 :: o4 :: o5 :: some (vl lx) :: none :: L) st h) : Gd Y Z k n pc (o0 :: o1 :: o2 :: o3 :: o4 :: o5 :: o6 :: o7 :: L) (vl lx :: st) h := by
  refine Gd_lstoreG (i := 6) (a := 0) (by show 6 + 1 < _; simp only [List.length_cons]; omega) hd ?_
  have e : g_st2 (o0 :: o1 :: o2 :: o3 :: o4 :: o5 :: o6 :: o7 :: L) 6 (vl lx) = o0 :: o1 :: o2 :: o3 :: o4 :: o5 :: some (vl lx) :: none :: L := by simp [g_st2, g_clp, g_clr, ho]
  exact e ▸ kk
theorem Gd_iinc6 {o0 o1 o2 o3 o4 o5 : Option g_V} {z : Int} {v : Int32} (ho : g_isl o5 = false) (he : x + Int32.ofInt z = v) (hd : g_D Y pc (.iinc 6 z) 3 pc') (kk : Gd Y Z k n pc' (o0 :: o1 :: o2 :: o3 :: o4 :: o5 :: some (vi v) :: L) st h) : Gd Y Z k n pc (o0 :: o1 :: o2 :: o3 :: o4 :: o5 :: some (vi x) :: L) st h := by
  refine Gd_iincG (i := 6) (x := x) (by simp) he hd ?_
  have e : g_st1 (o0 :: o1 :: o2 :: o3 :: o4 :: o5 :: some (vi x) :: L) 6 (vi v) = o0 :: o1 :: o2 :: o3 :: o4 :: o5 :: some (vi v) :: L := by simp [g_st1, g_clp, g_clr, ho]
  exact e ▸ kk
theorem Gd_istore7 {o0 o1 o2 o3 o4 o5 o6 o7 : Option g_V} (ho : g_isl o6 = false) (hd : g_D Y pc (.istore 7) 2 pc') (kk : Gd Y Z k n pc' (o0 :: o1 :: o2 :: o3 :: o4 :: o5 :: o6 :: some (vi x) :: L) st h) : Gd Y Z k n pc (o0 :: o1 :: o2 :: o3 :: o4 :: o5 :: o6 :: o7 :: L) (vi x :: st) h := by
  refine Gd_istoreG (i := 7) (a := 0) (by show 7 < _; simp only [List.length_cons]; omega) hd ?_
  have e : g_st1 (o0 :: o1 :: o2 :: o3 :: o4 :: o5 :: o6 :: o7 :: L) 7 (vi x) = o0 :: o1 :: o2 :: o3 :: o4 :: o5 :: o6 :: some (vi x) :: L := by simp [g_st1, g_clp, g_clr, ho]
  exact e ▸ kk
theorem Gd_astore7 {o0 o1 o2 o3 o4 o5 o6 o7 : Option g_V} {a : Nat} (ho : g_isl o6 = false) (hd : g_D Y pc (.astore 7) 2 pc') (kk : Gd Y Z k n pc' (o0 :: o1 :: o2 :: o3 :: o4 :: o5 :: o6 :: some (vr a) :: L) st h) : Gd Y Z k n pc (o0 :: o1 :: o2 :: o3 :: o4 :: o5 :: o6 :: o7 :: L) (vr a :: st) h := by
  refine Gd_astoreG (i := 7) (by show 7 < _; simp only [List.length_cons]; omega) hd ?_
  have e : g_st1 (o0 :: o1 :: o2 :: o3 :: o4 :: o5 :: o6 :: o7 :: L) 7 (vr a) = o0 :: o1 :: o2 :: o3 :: o4 :: o5 :: o6 :: some (vr a) :: L := by simp [g_st1, g_clp, g_clr, ho]
  exact e ▸ kk
theorem Gd_lstore7 {o0 o1 o2 o3 o4 o5 o6 o7 o8 : Option g_V} (ho : g_isl o6 = false) (hd : g_D Y pc (.lstore 7) 2 pc') (kk : Gd Y Z k n pc' (o0 :: o1 :: o2 :: o3 :: o4 :: o5 :: o6 :: some (vl lx) :: none :: L) st h) : Gd Y Z k n pc (o0 :: o1 :: o2 :: o3 :: o4 :: o5 :: o6 :: o7 :: o8 :: L) (vl lx :: st) h := by
  refine Gd_lstoreG (i := 7) (a := 0) (by show 7 + 1 < _; simp only [List.length_cons]; omega) hd ?_
  have e : g_st2 (o0 :: o1 :: o2 :: o3 :: o4 :: o5 :: o6 :: o7 :: o8 :: L) 7 (vl lx) = o0 :: o1 :: o2 :: o3 :: o4 :: o5 :: o6 :: some (vl lx) :: none :: L := by simp [g_st2, g_clp, g_clr, ho]
  exact e ▸ kk
theorem Gd_iinc7 {o0 o1 o2 o3 o4 o5 o6 : Option g_V} {z : Int} {v : Int32} (ho : g_isl o6 = false) (he : x + Int32.ofInt z = v) (hd : g_D Y pc (.iinc 7 z) 3 pc') (kk : Gd Y Z k n pc' (o0 :: o1 :: o2 :: o3 :: o4 :: o5 :: o6 :: some (vi v) :: L) st h) : Gd Y Z k n pc (o0 :: o1 :: o2 :: o3 :: o4 :: o5 :: o6 :: some (vi x) :: L) st h := by
  refine Gd_iincG (i := 7) (x := x) (by simp) he hd ?_
  have e : g_st1 (o0 :: o1 :: o2 :: o3 :: o4 :: o5 :: o6 :: some (vi x) :: L) 7 (vi v) = o0 :: o1 :: o2 :: o3 :: o4 :: o5 :: o6 :: some (vi v) :: L := by simp [g_st1, g_clp, g_clr, ho]
  exact e ▸ kk
theorem Gd_istore8 {o0 o1 o2 o3 o4 o5 o6 o7 o8 : Option g_V} (ho : g_isl o7 = false) (hd : g_D Y pc (.istore 8) 2 pc') (kk : Gd Y Z k n pc' (o0 :: o1 :: o2 :: o3 :: o4 :: o5 :: o6 :: o7 :: some (vi x) :: L) st h) : Gd Y Z k n pc (o0 :: o1 :: o2 :: o3 :: o4 :: o5 :: o6 :: o7 :: o8 :: L) (vi x :: st) h := by
  refine Gd_istoreG (i := 8) (a := 0) (by show 8 < _; simp only [List.length_cons]; omega) hd ?_
  have e : g_st1 (o0 :: o1 :: o2 :: o3 :: o4 :: o5 :: o6 :: o7 :: o8 :: L) 8 (vi x) = o0 :: o1 :: o2 :: o3 :: o4 :: o5 :: o6 :: o7 :: some (vi x) :: L := by simp [g_st1, g_clp, g_clr, ho]
  exact e ▸ kk
theorem Gd_astore8 {o0 o1 o2 o3 o4 o5 o6 o7 o8 : Option g_V} {a : Nat} (ho : g_isl o7 = false) (hd : g_D Y pc (.astore 8) 2 pc') (kk : Gd Y Z k n pc' (o0 :: o1 :: o2 :: o3 :: o4 :: o5 :: o6 :: o7 :: some (vr a) :: L) st h) : Gd Y Z k n pc (o0 :: o1 :: o2 :: o3 :: o4 :: o5 :: o6 :: o7 :: o8 :: L) (vr a :: st) h := by
  refine Gd_astoreG (i := 8) (by show 8 < _; simp only [List.length_cons]; omega) hd ?_
  have e : g_st1 (o0 :: o1 :: o2 :: o3 :: o4 :: o5 :: o6 :: o7 :: o8 :: L) 8 (vr a) = o0 :: o1 :: o2 :: o3 :: o4 :: o5 :: o6 :: o7 :: some (vr a) :: L := by simp [g_st1, g_clp, g_clr, ho]
  exact e ▸ kk
theorem Gd_lstore8 {o0 o1 o2 o3 o4 o5 o6 o7 o8 o9 : Option g_V} (ho : g_isl o7 = false) (hd : g_D Y pc (.lstore 8) 2 pc') (kk : Gd Y Z k n pc' (o0 :: o1 :: o2 :: o3 :: o4 :: o5 :: o6 :: o7 :: some (vl lx) :: none :: L) st h) : Gd Y Z k n pc (o0 :: o1 :: o2 :: o3 :: o4 :: o5 :: o6 :: o7 :: o8 :: o9 :: L) (vl lx :: st) h := by
  refine Gd_lstoreG (i := 8) (a := 0) (by show 8 + 1 < _; simp only [List.length_cons]; omega) hd ?_
  have e : g_st2 (o0 :: o1 :: o2 :: o3 :: o4 :: o5 :: o6 :: o7 :: o8 :: o9 :: L) 8 (vl lx) = o0 :: o1 :: o2 :: o3 :: o4 :: o5 :: o6 :: o7 :: some (vl lx) :: none :: L := by simp [g_st2, g_clp, g_clr, ho]
  exact e ▸ kk
theorem Gd_iinc8 {o0 o1 o2 o3 o4 o5 o6 o7 : Option g_V} {z : Int} {v : Int32} (ho : g_isl o7 = false) (he : x + Int32.ofInt z = v) (hd : g_D Y pc (.iinc 8 z) 3 pc') (kk : Gd Y Z k n pc' (o0 :: o1 :: o2 :: o3 :: o4 :: o5 :: o6 :: o7 :: some (vi v) :: L) st h) : Gd Y Z k n pc (o0 :: o1 :: o2 :: o3 :: o4 :: o5 :: o6 :: o7 :: some (vi x) :: L) st h := by
  refine Gd_iincG (i := 8) (x := x) (by simp) he hd ?_
  have e : g_st1 (o0 :: o1 :: o2 :: o3 :: o4 :: o5 :: o6 :: o7 :: some (vi x) :: L) 8 (vi v) = o0 :: o1 :: o2 :: o3 :: o4 :: o5 :: o6 :: o7 :: some (vi v) :: L := by simp [g_st1, g_clp, g_clr, ho]
  exact e ▸ kk
theorem Gd_istore9 {o0 o1 o2 o3 o4 o5 o6 o7 o8 o9 : Option g_V} (ho : g_isl o8 = false) (hd : g_D Y pc (.istore 9) 2 pc') (kk : Gd Y Z k n pc' (o0 :: o1 :: o2 :: o3 :: o4 :: o5 :: o6 :: o7 :: o8 :: some (vi x) :: L) st h) : Gd Y Z k n pc (o0 :: o1 :: o2 :: o3 :: o4 :: o5 :: o6 :: o7 :: o8 :: o9 :: L) (vi x :: st) h := by
  refine Gd_istoreG (i := 9) (a := 0) (by show 9 < _; simp only [List.length_cons]; omega) hd ?_
  have e : g_st1 (o0 :: o1 :: o2 :: o3 :: o4 :: o5 :: o6 :: o7 :: o8 :: o9 :: L) 9 (vi x) = o0 :: o1 :: o2 :: o3 :: o4 :: o5 :: o6 :: o7 :: o8 :: some (vi x) :: L := by simp [g_st1, g_clp, g_clr, ho]
  exact e ▸ kk
theorem Gd_astore9 {o0 o1 o2 o3 o4 o5 o6 o7 o8 o9 : Option g_V} {a : Nat} (ho : g_isl o8 = false) (hd : g_D Y pc (.astore 9) 2 pc') (kk : Gd Y Z k n pc' (o0 :: o1 :: o2 :: o3 :: o4 :: o5 :: o6 :: o7 :: o8 :: some (vr a) :: L) st h) : Gd Y Z k n pc (o0 :: o1 :: o2 :: o3 :: o4 :: o5 :: o6 :: o7 :: o8 :: o9 :: L) (vr a :: st) h := by
  refine Gd_astoreG (i := 9) (by show 9 < _; simp only [List.length_cons]; omega) hd ?_
  have e : g_st1 (o0 :: o1 :: o2 :: o3 :: o4 :: o5 :: o6 :: o7 :: o8 :: o9 :: L) 9 (vr a) = o0 :: o1 :: o2 :: o3 :: o4 :: o5 :: o6 :: o7 :: o8 :: some (vr a) :: L := by simp [g_st1, g_clp, g_clr, ho]
  exact e ▸ kk
theorem Gd_lstore9 {o0 o1 o2 o3 o4 o5 o6 o7 o8 o9 o10 : Option g_V} (ho : g_isl o8 = false) (hd : g_D Y pc (.lstore 9) 2 pc') (kk : Gd Y Z k n pc' (o0 :: o1 :: o2 :: o3 :: o4 :: o5 :: o6 :: o7 :: o8 :: some (vl lx) :: none :: L) st h) : Gd Y Z k n pc (o0 :: o1 :: o2 :: o3 :: o4 :: o5 :: o6 :: o7 :: o8 :: o9 :: o10 :: L) (vl lx :: st) h := by
  refine Gd_lstoreG (i := 9) (a := 0) (by show 9 + 1 < _; simp only [List.length_cons]; omega) hd ?_
  have e : g_st2 (o0 :: o1 :: o2 :: o3 :: o4 :: o5 :: o6 :: o7 :: o8 :: o9 :: o10 :: L) 9 (vl lx) = o0 :: o1 :: o2 :: o3 :: o4 :: o5 :: o6 :: o7 :: o8 :: some (vl lx) :: none :: L := by simp [g_st2, g_clp, g_clr, ho]
  exact e ▸ kk
theorem Gd_iinc9 {o0 o1 o2 o3 o4 o5 o6 o7 o8 : Option g_V} {z : Int} {v : Int32} (ho : g_isl o8 = false) (he : x + Int32.ofInt z = v) (hd : g_D Y pc (.iinc 9 z) 3 pc') (kk : Gd Y Z k n pc' (o0 :: o1 :: o2 :: o3 :: o4 :: o5 :: o6 :: o7 :: o8 :: some (vi v) :: L) st h) : Gd Y Z k n pc (o0 :: o1 :: o2 :: o3 :: o4 :: o5 :: o6 :: o7 :: o8 :: some (vi x) :: L) st h := by
  refine Gd_iincG (i := 9) (x := x) (by simp) he hd ?_
  have e : g_st1 (o0 :: o1 :: o2 :: o3 :: o4 :: o5 :: o6 :: o7 :: o8 :: some (vi x) :: L) 9 (vi v) = o0 :: o1 :: o2 :: o3 :: o4 :: o5 :: o6 :: o7 :: o8 :: some (vi v) :: L := by simp [g_st1, g_clp, g_clr, ho]
  exact e ▸ kk
theorem Gd_istore10 {o0 o1 o2 o3 o4 o5 o6 o7 o8 o9 o10 : Option g_V} (ho : g_isl o9 = false) (hd : g_D Y pc (.istore 10) 2 pc') (kk : Gd Y Z k n pc' (o0 :: o1 :: o2 :: o3 :: o4 :: o5 :: o6 :: o7 :: o8 :: o9 :: some (vi x) :: L) st h) : Gd Y Z k n pc (o0 :: o1 :: o2 :: o3 :: o4 :: o5 :: o6 :: o7 :: o8 :: o9 :: o10 :: L) (vi x :: st) h := by
  refine Gd_istoreG (i := 10) (a := 0) (by show 10 < _; simp only [List.length_cons]; omega) hd ?_
  have e : g_st1 (o0 :: o1 :: o2 :: o3 :: o4 :: o5 :: o6 :: o7 :: o8 :: o9 :: o10 :: L) 10 (vi x) = o0 :: o1 :: o2 :: o3 :: o4 :: o5 :: o6 :: o7 :: o8 :: o9 :: some (vi x) :: L := by simp [g_st1, g_clp, g_clr, ho]
  exact e ▸ kk
theorem Gd_astore10 {o0 o1 o2 o3 o4 o5 o6 o7 o8 o9 o10 : Option g_V} {a : Nat} (ho : g_isl o9 = false) (hd : g_D Y pc (.astore 10) 2 pc') (kk : Gd Y Z k n pc' (o0 :: o1 :: o2 :: o3 :: o4 :: o5 :: o6 :: o7 :: o8 :: o9 :: some (vr a) :: L) st h) : Gd Y Z k n pc (o0 :: o1 :: o2 :: o3 :: o4 :: o5 :: o6 :: o7 :: o8 :: o9 :: o10 :: L) (vr a :: st) h := by
  refine Gd_astoreG (i := 10) (by show 10 < _; simp only [List.length_cons]; omega) hd ?_
  have e : g_st1 (o0 :: o1 :: o2 :: o3 :: o4 :: o5 :: o6 :: o7 :: o8 :: o9 :: o10 :: L) 10 (vr a) = o0 :: o1 :: o2 :: o3 :: o4 :: o5 :: o6 :: o7 :: o8 :: o9 :: some (vr a) :: L := by simp [g_st1, g_clp, g_clr, ho]
  exact e ▸ kk
theorem Gd_lstore10 {o0 o1 o2 o3 o4 o5 o6 o7 o8 o9 o10 o11 : Option g_V} (ho : g_isl o9 = false) (hd : g_D Y pc (.lstore 10) 2 pc') (kk : Gd Y Z k n pc' (o0 :: o1 :: o2 :: o3 :: o4 :: o5 :: o6 :: o7 :: o8 :: o9 :: some (vl lx) :: none :: L) st h) : Gd Y Z k n pc (o0 :: o1 :: o2 :: o3 :: o4 :: o5 :: o6 :: o7 :: o8 :: o9 :: o10 :: o11 :: L) (vl lx :: st) h := by
  refine Gd_lstoreG (i := 10) (a := 0) (by show 10 + 1 < _; simp only [List.length_cons]; omega) hd ?_
  have e : g_st2 (o0 :: o1 :: o2 :: o3 :: o4 :: o5 :: o6 :: o7 :: o8 :: o9 :: o10 :: o11 :: L) 10 (vl lx) = o0 :: o1 :: o2 :: o3 :: o4 :: o5 :: o6 :: o7 :: o8 :: o9 :: some (vl lx) :: none :: L := by simp [g_st2, g_clp, g_clr, ho]
  exact e ▸ kk
theorem Gd_iinc10 {o0 o1 o2 o3 o4 o5 o6 o7 o8 o9 : Option g_V} {z : Int} {v : Int32} (ho : g_isl o9 = false) (he : x + Int32.ofInt z = v) (hd : g_D Y pc (.iinc 10 z) 3 pc') (kk : Gd Y Z k n pc' (o0 :: o1 :: o2 :: o3 :: o4 :: o5 :: o6 :: o7 :: o8 :: o9 :: some (vi v) :: L) st h) : Gd Y Z k n pc (o0 :: o1 :: o2 :: o3 :: o4 :: o5 :: o6 :: o7 :: o8 :: o9 :: some (vi x) :: L) st h := by
  refine Gd_iincG (i := 10) (x := x) (by simp) he hd ?_
  have e : g_st1 (o0 :: o1 :: o2 :: o3 :: o4 :: o5 :: o6 :: o7 :: o8 :: o9 :: some (vi x) :: L) 10 (vi v) = o0 :: o1 :: o2 :: o3 :: o4 :: o5 :: o6 :: o7 :: o8 :: o9 :: some (vi v) :: L := by simp [g_st1, g_clp, g_clr, ho]
  exact e ▸ kk
theorem Gd_istore11 {o0 o1 o2 o3 o4 o5 o6 o7 o8 o9 o10 o11 : Option g_V} (ho : g_isl o10 = false) (hd : g_D Y pc (.istore 11) 2 pc') (kk : Gd Y Z k n pc' (o0 :: o1 :: o2 :: o3 :: o4 :: o5 :: o6 :: o7 :: o8 :: o9 :: o10 :: some (vi x) :: L) st h) : Gd Y Z k n pc (o0 :: o1 :: o2 :: o3 :: o4 :: o5 :: o6 :: o7 :: o8 :: o9 :: o10 :: o11 :: L) (vi x :: st) h := by
  refine Gd_istoreG (i := 11) (a := 0) (by show 11 < _; simp only [List.length_cons]; omega) hd ?_
  have e : g_st1 (o0 :: o1 :: o2 :: o3 :: o4 :: o5 :: o6 :: o7 :: o8 :: o9 :: o10 :: o11 :: L) 11 (vi x) = o0 :: o1 :: o2 :: o3 :: o4 :: o5 :: o6 :: o7 :: o8 :: o9 :: o10 :: some (vi x) :: L := by simp [g_st1, g_clp, g_clr, ho]
  exact e ▸ kk
theorem Gd_astore11 {o0 o1 o2 o3 o4 o5 o6 o7 o8 o9 o10 o11 : Option g_V} {a : Nat} (ho : g_isl o10 = false) (hd : g_D Y pc (.astore 11) 2 pc') (kk : Gd Y Z k n pc' (o0 :: o1 :: o2 :: o3 :: o4 :: o5 :: o6 :: o7 :: o8 :: o9 :: o10 :: some (vr a) :: L) st h) : Gd Y Z k n pc (o0 :: o1 :: o2 :: o3 :: o4 :: o5 :: o6 :: o7 :: o8 :: o9 :: o10 :: o11 :: L) (vr a :: st) h := by
  refine Gd_astoreG (i := 11) (by show 11 < _; simp only [List.length_cons]; omega) hd ?_
  have e : g_st1 (o0 :: o1 :: o2 :: o3 :: o4 :: o5 :: o6 :: o7 :: o8 :: o9 :: o10 :: o11 :: L) 11 (vr a) = o0 :: o1 :: o2 :: o3 :: o4 :: o5 :: o6 :: o7 :: o8 :: o9 :: o10 :: some (vr a) :: L := by simp [g_st1, g_clp, g_clr, ho]
  exact e ▸ kk
theorem Gd_lstore11 {o0 o1 o2 o3 o4 o5 o6 o7 o8 o9 o10 o11 o12 : Option g_V} (ho : g_isl o10 = false) (hd : g_D Y pc (.lstore 11) 2 pc') (kk : Gd Y Z k n pc' (o0 :: o1 :: o2 :: o3 :: o4 :: o5 :: o6 :: o7 :: o8 :: o9 :: o10 :: some (vl lx) :: none :: L) st h) : Gd Y Z k n pc (o0 :: o1 :: o2 :: o3 :: o4 :: o5 :: o6 :: o7 :: o8 :: o9 :: o10 :: o11 :: o12 :: L) (vl lx :: st) h := by
  refine Gd_lstoreG (i := 11) (a := 0) (by show 11 + 1 < _; simp only [List.length_cons]; omega) hd ?_
  have e : g_st2 (o0 :: o1 :: o2 :: o3 :: o4 :: o5 :: o6 :: o7 :: o8 :: o9 :: o10 :: o11 :: o12 :: L) 11 (vl lx) = o0 :: o1 :: o2 :: o3 :: o4 :: o5 :: o6 :: o7 :: o8 :: o9 :: o10 :: some (vl lx) :: none :: L := by simp [g_st2, g_clp, g_clr, ho]
  exact e ▸ kk
theorem Gd_iinc11 {o0 o1 o2 o3 o4 o5 o6 o7 o8 o9 o10 : Option g_V} {z : Int} {v : Int32} (ho : g_isl o10 = false) (he : x + Int32.ofInt z = v) (hd : g_D Y pc (.iinc 11 z) 3 pc') (kk : Gd Y Z k n pc' (o0 :: o1 :: o2 :: o3 :: o4 :: o5 :: o6 :: o7 :: o8 :: o9 :: o10 :: some (vi v) :: L) st h) : Gd Y Z k n pc (o0 :: o1 :: o2 :: o3 :: o4 :: o5 :: o6 :: o7 :: o8 :: o9 :: o10 :: some (vi x) :: L) st h := by
  refine Gd_iincG (i := 11) (x := x) (by simp) he hd ?_
  have e : g_st1 (o0 :: o1 :: o2 :: o3 :: o4 :: o5 :: o6 :: o7 :: o8 :: o9 :: o10 :: some (vi x) :: L) 11 (vi v) = o0 :: o1 :: o2 :: o3 :: o4 :: o5 :: o6 :: o7 :: o8 :: o9 :: o10 :: some (vi v) :: L := by simp [g_st1, g_clp, g_clr, ho]
  exact e ▸ kk
theorem Gd_istore12 {o0 o1 o2 o3 o4 o5 o6 o7 o8 o9 o10 o11 o12 : Option g_V} (ho : g_isl o11 = false) (hd : g_D Y pc (.istore 12) 2 pc') (kk : Gd Y Z k n pc' (o0 :: o1 :: o2 :: o3 :: o4 :: o5 :: o6 :: o7 :: o8 :: o9 :: o10 :: o11 :: some (vi x) :: L) st h) : Gd Y Z k n pc (o0 :: o1 :: o2 :: o3 :: o4 :: o5 :: o6 :: o7 :: o8 :: o9 :: o10 :: o11 :: o12 :: L) (vi x :: st) h := by
  refine Gd_istoreG (i := 12) (a := 0) (by show 12 < _; simp only [List.length_cons]; omega) hd ?_
  have e : g_st1 (o0 :: o1 :: o2 :: o3 :: o4 :: o5 :: o6 :: o7 :: o8 :: o9 :: o10 :: o11 :: o12 :: L) 12 (vi x) = o0 :: o1 :: o2 :: o3 :: o4 :: o5 :: o6 :: o7 :: o8 :: o9 :: o10 :: o11 :: some (vi x) :: L := by simp [g_st1, g_clp, g_clr, ho]
  exact e ▸ kk
theorem Gd_astore12 {o0 o1 o2 o3 o4 o5 o6 o7 o8 o9 o10 o11 o12 : Option g_V} {a : Nat} (ho : g_isl o11 = false) (hd : g_D Y pc (.astore 12) 2 pc') (kk : Gd Y Z k n pc' (o0 :: o1 :: o2 :: o3 :: o4 :: o5 :: o6 :: o7 :: o8 :: o9 :: o10 :: o11 :: some (vr a) :: L) st h) : Gd Y Z k n pc (o0 :: o1 :: o2 :: o3 :: o4 :: o5 :: o6 :: o7 :: o8 :: o9 :: o10 :: o11 :: o12 :: L) (vr a :: st) h := by
  refine Gd_astoreG (i := 12) (by show 12 < _; simp only [List.length_cons]; omega) hd ?_
  have e : g_st1 (o0 :: o1 :: o2 :: o3 :: o4 :: o5 :: o6 :: o7 :: o8 :: o9 :: o10 :: o11 :: o12 :: L) 12 (vr a) = o0 :: o1 :: o2 :: o3 :: o4 :: o5 :: o6 :: o7 :: o8 :: o9 :: o10 :: o11 :: some (vr a) :: L := by simp [g_st1, g_clp, g_clr, ho]
  exact e ▸ kk
theorem Gd_lstore12 {o0 o1 o2 o3 o4 o5 o6 o7 o8 o9 o10 o11 o12 o13 : Option g_V} (ho : g_isl o11 = false) (hd : g_D Y pc (.lstore 12) 2 pc') (kk : Gd Y Z k n pc' (o0 :: o1 :: o2 :: o3 :: o4 :: o5 :: o6 :: o7 :: o8 :: o9 :: o10 :: o11 :: some (vl lx) :: none :: L) st h) : Gd Y Z k n pc (o0 :: o1 :: o2 :: o3 :: o4 :: o5 :: o6 :: o7 :: o8 :: o9 :: o10 :: o11 :: o12 :: o13 :: L) (vl lx :: st) h := by
  refine Gd_lstoreG (i := 12) (a := 0) (by show 12 + 1 < _; simp only [List.length_cons]; omega) hd ?_
  have e : g_st2 (o0 :: o1 :: o2 :: o3 :: o4 :: o5 :: o6 :: o7 :: o8 :: o9 :: o10 :: o11 :: o12 :: o13 :: L) 12 (vl lx) = o0 :: o1 :: o2 :: o3 :: o4 :: o5 :: o6 :: o7 :: o8 :: o9 :: o10 :: o11 :: some (vl lx) :: none :: L := by simp [g_st2, g_clp, g_clr, ho]
  exact e ▸ kk
theorem Gd_iinc12 {o0 o1 o2 o3 o4 o5 o6 o7 o8 o9 o10 o11 : Option g_V} {z : Int} {v : Int32} (ho : g_isl o11 = false) (he : x + Int32.ofInt z = v) (hd : g_D Y pc (.iinc 12 z) 3 pc') (kk : Gd Y Z k n pc' (o0 :: o1 :: o2 :: o3 :: o4 :: o5 :: o6 :: o7 :: o8 :: o9 :: o10 :: o11 :: some (vi v) :: L) st h) : Gd Y Z k n pc (o0 :: o1 :: o2 :: o3 :: o4 :: o5 :: o6 :: o7 :: o8 :: o9 :: o10 :: o11 :: some (vi x) :: L) st h := by
  refine Gd_iincG (i := 12) (x := x) (by simp) he hd ?_
  have e : g_st1 (o0 :: o1 :: o2 :: o3 :: o4 :: o5 :: o6 :: o7 :: o8 :: o9 :: o10 :: o11 :: some (vi x) :: L) 12 (vi v) = o0 :: o1 :: o2 :: o3 :: o4 :: o5 :: o6 :: o7 :: o8 :: o9 :: o10 :: o11 :: some (vi v) :: L := by simp [g_st1, g_clp, g_clr, ho]
  exact e ▸ kk
theorem Gd_istore13 {o0 o1 o2 o3 o4 o5 o6 o7 o8 o9 o10 o11 o12 o13 : Option g_V} (ho : g_isl o12 = false) (hd : g_D Y pc (.istore 13) 2 pc') (kk : Gd Y Z k n pc' (o0 :: o1 :: o2 :: o3 :: o4 :: o5 :: o6 :: o7 :: o8 :: o9 :: o10 :: o11 :: o12 :: some (vi x) :: L) st h) : Gd Y Z k n pc (o0 :: o1 :: o2 :: o3 :: o4 :: o5 :: o6 :: o7 :: o8 :: o9 :: o10 :: o11 :: o12 :: o13 :: L) (vi x :: st) h := by
  refine Gd_istoreG (i := 13) (a := 0) (by show 13 < _; simp only [List.length_cons]; omega) hd ?_
  have e : g_st1 (o0 :: o1 :: o2 :: o3 :: o4 :: o5 :: o6 :: o7 :: o8 :: o9 :: o10 :: o11 :: o12 :: o13 :: L) 13 (vi x) = o0 :: o1 :: o2 :: o3 :: o4 :: o5 :: o6 :: o7 :: o8 :: o9 :: o10 :: o11 :: o12 :: some (vi x) :: L := by simp [g_st1, g_clp, g_clr, ho]
  exact e ▸ kk
theorem Gd_astore13 {o0 o1 o2 o3 o4 o5 o6 o7 o8 o9 o10 o11 o12 o13 : Option g_V} {a : Nat} (ho : g_isl o12 = false) (hd : g_D Y pc (.astore 13) 2 pc') (kk : Gd Y Z k n pc' (o0 :: o1 :: o2 :: o3 :: o4 :: o5 :: o6 :: o7 :: o8 :: o9 :: o10 :: o11 :: o12 :: some (vr a) :: L) st h) : Gd Y Z k n pc (o0 :: o1 :: o2 :: o3 :: o4 :: o5 :: o6 :: o7 :: o8 :: o9 :: o10 :: o11 :: o12 :: o13 :: L) (vr a :: st) h := by
  refine Gd_astoreG (i := 13) (by show 13 < _; simp only [List.length_cons]; omega) hd ?_
  have e : g_st1 (o0 :: o1 :: o2 :: o3 :: o4 :: o5 :: o6 :: o7 :: o8 :: o9 :: o10 :: o11 :: o12 :: o13 :: L) 13 (vr a) = o0 :: o1 :: o2 :: o3 :: o4 :: o5 :: o6 :: o7 :: o8 :: o9 :: o10 :: o11 :: o12 :: some (vr a) :: L := by simp [g_st1, g_clp, g_clr, ho]
  exact e ▸ kk
theorem Gd_lstore13 {o0 o1 o2 o3 o4 o5 o6 o7 o8 o9 o10 o11 o12 o13 o14 : Option g_V} (ho : g_isl o12 = false) (hd : g_D Y pc (.lstore 13) 2 pc') (kk : Gd Y Z k n pc' (o0 :: o1 :: o2 :: o3 :: o4 :: o5 :: o6 :: o7 :: o8 :: o9 :: o10 :: o11 :: o12 :: some (vl lx) :: none :: L) st h) : Gd Y Z k n pc (o0 :: o1 :: o2 :: o3 :: o4 :: o5 :: o6 :: o7 :: o8 :: o9 :: o10 :: o11 :: o12 :: o13 :: o14 :: L) (vl lx :: st) h := by
  refine Gd_lstoreG (i := 13) (a := 0) (by show 13 + 1 < _; simp only [List.length_cons]; omega) hd ?_
  have e : g_st2 (o0 :: o1 :: o2 :: o3 :: o4 :: o5 :: o6 :: o7 :: o8 :: o9 :: o10 :: o11 :: o12 :: o13 :: o14 :: L) 13 (vl lx) = o0 :: o1 :: o2 :: o3 :: o4 :: o5 :: o6 :: o7 :: o8 :: o9 :: o10 :: o11 :: o12 :: some (vl lx) :: none :: L := by simp [g_st2, g_clp, g_clr, ho]
  exact e ▸ kk
theorem Gd_iinc13 {o0 o1 o2 o3 o4 o5 o6 o7 o8 o9 o10 o11 o12 : Option g_V} {z : Int} {v : Int32} (ho : g_isl o12 = false) (he : x + Int32.ofInt z = v) (hd : g_D Y pc (.iinc 13 z) 3 pc') (kk : Gd Y Z k n pc' (o0 :: o1 :: o2 :: o3 :: o4 :: o5 :: o6 :: o7 :: o8 :: o9 :: o10 :: o11 :: o12 :: some (vi v) :: L) st h) : Gd Y Z k n pc (o0 :: o1 :: o2 :: o3 :: o4 :: o5 :: o6 :: o7 :: o8 :: o9 :: o10 :: o11 :: o12 :: some (vi x) :: L) st h := by
  refine Gd_iincG (i := 13) (x := x) (by simp) he hd ?_
  have e : g_st1 (o0 :: o1 :: o2 :: o3 :: o4 :: o5 :: o6 :: o7 :: o8 :: o9 :: o10 :: o11 :: o12 :: some (vi x) :: L) 13 (vi v) = o0 :: o1 :: o2 :: o3 :: o4 :: o5 :: o6 :: o7 :: o8 :: o9 :: o10 :: o11 :: o12 :: some (vi v) :: L := by simp [g_st1, g_clp, g_clr, ho]
  exact e ▸ kk
end GS
