section GC
variable {Y : g_Y} {Z : g_Z} {k n pc pc' : Nat} {L : List (Option g_V)} {st : List g_V} {sh : List (Nat × Nat)} {a : Nat → Nat → Int32} {r : Nat → Nat → Option Nat} {g : Nat → Nat → Int64} {b idx c j nf : Nat} {fin : Bool} {x : Int32} {lx : Int64} {h : g_H}
-- answers
theorem Gd_ret {v : Option g_V} {i : Instr} (hd : g_D Y pc i 1 pc') (hi : g_ri Y.2.2.2 v i) (hk : k ≤ Z.2.1) (hn : n ≤ Z.2.2.1) (hq : Z.2.2.2.2.2 v h) : Gd Y Z k n pc L v.toList h := by
  intro p l e R s m args below meth cc D cs aK A ad0 QS H locs ad ls C RR Wd Ad hl
  exact RR H locs k n pc pc' ls v h ad i hd hi hk hn Wd Ad hq
theorem Gd_ireturn (hd : g_D Y pc .ireturn 1 pc') (ht : Y.2.2.2 = some .int) (hk : k ≤ Z.2.1) (hn : n ≤ Z.2.2.1) (hq : Z.2.2.2.2.2 (some (vi x)) h) : Gd Y Z k n pc L [vi x] h :=
  Gd_ret (v := some (vi x)) hd ⟨rfl, _, ht, vp_nar_int x⟩ hk hn hq
theorem Gd_zreturn (hd : g_D Y pc .ireturn 1 pc') (ht : Y.2.2.2 = some .boolean) (hx : x = 0 ∨ x = 1) (hk : k ≤ Z.2.1) (hn : n ≤ Z.2.2.1) (hq : Z.2.2.2.2.2 (some (vi x)) h) : Gd Y Z k n pc L [vi x] h :=
  Gd_ret (v := some (vi x)) hd ⟨rfl, _, ht, by rcases hx with rfl | rfl <;> rfl⟩ hk hn hq
theorem Gd_nreturn {ty : FieldType} (hd : g_D Y pc .ireturn 1 pc') (ht : Y.2.2.2 = some ty) (hx : narrow ty (.int x) = .int x) (hk : k ≤ Z.2.1) (hn : n ≤ Z.2.2.1) (hq : Z.2.2.2.2.2 (some (vi x)) h) : Gd Y Z k n pc L [vi x] h :=
  Gd_ret (v := some (vi x)) hd ⟨rfl, _, ht, hx⟩ hk hn hq
theorem Gd_lreturn (hd : g_D Y pc .lreturn 1 pc') (ht : Y.2.2.2 = some .long) (hk : k ≤ Z.2.1) (hn : n ≤ Z.2.2.1) (hq : Z.2.2.2.2.2 (some (vl lx)) h) : Gd Y Z k n pc L [vl lx] h :=
  Gd_ret (v := some (vl lx)) hd ⟨rfl, ht⟩ hk hn hq
theorem Gd_return (hd : g_D Y pc .return_ 1 pc') (ht : Y.2.2.2 = none) (hk : k ≤ Z.2.1) (hn : n ≤ Z.2.2.1) (hq : Z.2.2.2.2.2 none h) : Gd Y Z k n pc L [] h :=
  Gd_ret (v := none) hd ⟨ht, rfl⟩ hk hn hq
theorem Gd_areturn {C : String} (hd : g_D Y pc .areturn 1 pc') (ht : Y.2.2.2 = some (.object C)) (hk : k ≤ Z.2.1) (hn : n ≤ Z.2.2.1) (hq : Z.2.2.2.2.2 (some (vr b)) h) : Gd Y Z k n pc L [vr b] h :=
  Gd_ret (v := some (vr b)) hd ⟨rfl, _, ht, Or.inl ⟨_, rfl⟩⟩ hk hn hq
-- a contract out of a walk
/-- the locals with which a method begins -/
def g_en : List g_V → List (Option g_V)
  | [] => []
  | .inr (.inl x) :: as => some (vl x) :: none :: g_en as
  | v :: as => some v :: g_en as
theorem g_en_mem {aK : Nat → Value} {ad : Nat → Nat} (hK : ∀ k : Nat, ∃ r : Option Nat, aK k = va_rf r) : ∀ (as : List g_V) (i j : Nat) (w : g_V), (g_en as)[j]? = some (some w) → (i + j, gc aK ad w) ∈ lv_args i (as.map (gc aK ad))
  | [], i, j, w, h => by simp [g_en] at h
  | .inr (.inl x) :: as, i, 0, w, h => by
    simp [g_en] at h
    subst h
    exact List.mem_cons_self
  | .inr (.inl x) :: as, i, 1, w, h => by simp [g_en] at h
  | .inr (.inl x) :: as, i, j + 2, w, h => by
    have h1 : (g_en as)[j]? = some (some w) := by simpa [g_en] using h
    have := g_en_mem (ad := ad) hK as (i + 2) j w h1
    refine List.mem_cons_of_mem _ ?_
    rw [gc_cat hK]
    rw [show i + (j + 2) = i + 2 + j by omega]
    exact this
  | .inl x :: as, i, 0, w, h => by
    simp [g_en] at h
    subst h
    exact List.mem_cons_self
  | .inl x :: as, i, j + 1, w, h => by
    have h1 : (g_en as)[j]? = some (some w) := by simpa [g_en] using h
    have := g_en_mem (ad := ad) hK as (i + 1) j w h1
    refine List.mem_cons_of_mem _ ?_
    rw [gc_cat hK]
    rw [show i + (j + 1) = i + 1 + j by omega]
    exact this
  | .inr (.inr u) :: as, i, 0, w, h => by
    simp [g_en] at h
    subst h
    exact List.mem_cons_self
  | .inr (.inr u) :: as, i, j + 1, w, h => by
    have h1 : (g_en as)[j]? = some (some w) := by simpa [g_en] using h
    have := g_en_mem (ad := ad) hK as (i + 1) j w h1
    refine List.mem_cons_of_mem _ ?_
    rw [gc_cat hK]
    rw [show i + (j + 1) = i + 1 + j by omega]
    exact this
theorem g_en_len {aK : Nat → Value} {ad : Nat → Nat} (hK : ∀ k : Nat, ∃ r : Option Nat, aK k = va_rf r) : ∀ as : List g_V, (lg_sl (as.map (gc aK ad))).length = (g_en as).length
  | [] => rfl
  | .inr (.inl x) :: as => by
    have := g_en_len (ad := ad) hK as
    simp [lg_sl, g_en, gc, Value.category] at this ⊢
    exact this
  | .inl x :: as => by
    have := g_en_len (ad := ad) hK as
    simp [lg_sl, g_en, gc, Value.category] at this ⊢
    exact this
  | .inr (.inr u) :: as => by
    have := g_en_len (ad := ad) hK as
    have hc := gc_cat (ad := ad) hK (.inr (.inr u))
    have hc : (gc aK ad (.inr (.inr u))).category = 1 := by rw [hc]; rcases u with r | k <;> rfl
    simp [lg_sl, g_en, hc] at this ⊢
    exact this
theorem Mt_of {d mc ms : Nat} {as : List g_V} {Q : Option g_V → g_H → Prop} {L0 : List (Option g_V)} (hy : plainName Y.1.cls = true) (hlen : (g_en as).length ≤ Y.2.2.1) (hL0 : g_en as ++ List.replicate (Y.2.2.1 - (g_en as).length) none = L0)
    (kk : Gd Y (d, mc, ms, h.1.length, (0, fun _ => 0), Q) 0 0 0 L0 [] h) : Mt Y d mc ms as h Q := by
  intro l D cs aK ad sz
  refine Met.ofW (cc := Y.2.1) (maxL := Y.2.2.1) (ret := Y.2.2.2) hy rfl ?_
  intro p e s m args below meth c s₁ B hml hv
  obtain ⟨rfl, hsz, hP, hK, hD0, hSS⟩ := hv
  have hts := atoms_spec (ws := g_ws Y) B.pre
  have hown : s.vm.findClass Y.1.cls = some m.cls := findClass_of_methodNamed B.named
  subst hsz
  have hD := hD0.self (sz := s.heap.size)
  have hAK := hSS.2.1
  have hl := lv_entry (as.map (gc aK ad)) (n := Y.2.2.1) (by rw [g_en_len hAK]; exact hlen)
  rw [lg_entry_eq]
  generalize (lg_sl (as.map (gc aK ad)) ++ List.replicate (Y.2.2.1 - (lg_sl (as.map (gc aK ad))).length) Slot.unset).toArray = ls at hl ⊢
  have hgl : g_L aK ad ls Y.2.2.1 L0 := by
    subst hL0
    refine g_L_sub hl (by simp; omega) (fun j w hj => ?_)
    by_cases q : j < (g_en as).length
    · rw [List.getElem?_append_left q] at hj
      have := g_en_mem (ad := ad) hAK as 0 j w hj
      simpa using this
    · rw [List.getElem?_append_right (by omega), List.getElem?_replicate] at hj
      split at hj <;> simp at hj
  refine kk p l e _ s m _ below meth c D cs aK (va_A (g_cw cs ad h) s.heap.size) ad _ s.heap [] ad ls ⟨B.exec, B.bytes, hml, hown, fun w hw => hts w (List.mem_cons_of_mem _ hw), ⟨Nat.le_refl _, Nat.le_refl _, Nat.le_refl _, Nat.le_refl _⟩, (name_of_methodNamed B.named B.method).1, fun q hq => Or.inr hq, hSS, hK, fun q => absurd rfl q⟩ ?_ ⟨hP, hD, va_S.rf⟩ ⟨fun _ _ => rfl, fun _ => rfl, Nat.le_refl _⟩ hgl
  intro H locs k n pc pc' ls v h' ad' i hd hi hk hn Wd Ad hq
  refine W.widen hk hn ?_
  obtain ⟨hd, -⟩ := hd
  have post : ∀ t : State, t.heap = H → s.WarmedH t.vm → g_QC D cs aK ad h.1.length Q (va_A (g_cw cs ad h) s.heap.size) (as.map (gc aK ad)).toArray s (.returned (v.map (gc aK ad'))) t := fun t ht hW =>
    ⟨⟨v, h', ad', rfl, hq, Ad, by rw [ht]; exact Wd.1, Wd.2.1⟩, Wd.2.2.F ht⟩
  rcases v with _ | x | x | u
  · obtain ⟨e1, rfl⟩ := hi
    exact W.vret B.exec B.bytes (by rw [B.returns]; exact e1) post Wd.2.2.2.2 hd B.notSynchronized
  · obtain ⟨rfl, ty, e1, e2⟩ := hi
    exact W.zret B.exec B.bytes (by rw [B.returns]; exact e1) e2 post Wd.2.2.2.2 hd B.notSynchronized
  · obtain ⟨rfl, e1⟩ := hi
    exact W.lret B.exec B.bytes (by rw [B.returns]; exact e1) post Wd.2.2.2.2 hd B.notSynchronized
  · obtain ⟨rfl, ty, e1, e2⟩ := hi
    refine W.aret B.exec B.bytes (by rw [B.returns]; exact e1) e2 ?_ post Wd.2.2.2.2 hd B.notSynchronized
    obtain ⟨r, hr⟩ : ∃ r : Option Nat, gc aK ad' (.inr (.inr u)) = va_rf r := by
      rcases u with r | q
      · exact ⟨r.map ad', rfl⟩
      · exact hAK q
    rw [hr]
    cases r with
    | none => exact Or.inl rfl
    | some q => exact Or.inr ⟨q, rfl⟩
end GC
