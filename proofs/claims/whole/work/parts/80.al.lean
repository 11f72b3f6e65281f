/-! an object is laid down: its rows W (field, kind, length) behind it, its numbers F -/
def AL (o N0 : Nat) (W : List (Nat × Nat × Nat)) (F : Nat → Int32) (K : Nat → Nat → Int32) (sh0 : List (Nat × Nat)) (a0 : Nat → Nat → Int32) (r0 : Nat → Nat → Option Nat) (sh : List (Nat × Nat)) (a : Nat → Nat → Int32) (r : Nat → Nat → Option Nat) : Prop :=
  sh = sh0 ++ W.map (fun w => w.2) ∧ sh0.length = N0 ∧ o < N0 ∧ (∀ k, k < N0 → k ≠ o → a k = a0 k) ∧ (∀ k, k < N0 → k ≠ o → r k = r0 k) ∧ a o = F ∧ (∀ i w, W[i]? = some w → r o w.1 = some (N0 + i) ∧ (∀ j, a (N0 + i) j = K i j) ∧ ∀ j, r (N0 + i) j = none) ∧ g_okR sh.length r
section AL
variable {o N0 : Nat} {W : List (Nat × Nat × Nat)} {F : Nat → Int32} {K : Nat → Nat → Int32} {sh0 : List (Nat × Nat)} {a0 : Nat → Nat → Int32} {r0 : Nat → Nat → Option Nat} {sh : List (Nat × Nat)} {a : Nat → Nat → Int32} {r : Nat → Nat → Option Nat} {g : Nat → Nat → Int64}
theorem AL_0 (ho : o < sh.length) (okr : g_okR sh.length r) : AL o sh.length [] (a o) K sh a r sh a r := ⟨by simp, rfl, ho, fun _ _ _ => rfl, fun _ _ _ => rfl, rfl, fun i w h => by simp at h, okr⟩
theorem AL_len (h : AL o N0 W F K sh0 a0 r0 sh a r) : sh.length = N0 + W.length := by rw [h.1]; simp [h.2.1]
theorem AL_ob {c nf : Nat} (h : AL o N0 W F K sh0 a0 r0 sh a r) (hob : sh0[o]? = some (c, nf)) : sh[o]? = some (c, nf) := by
  rw [h.1]; exact sh_app hob
theorem AL_al {j c n : Nat} {f : Nat → Int32} (h : AL o N0 W F K sh0 a0 r0 sh a r) (hK : ∀ y, K W.length y = f y) (hfr : ∀ w ∈ W, w.1 ≠ j) : AL o N0 (W ++ [(j, c, n)]) F K sh0 a0 r0 (sh ++ [(c, n)]) (va_up a sh.length f) (upR (va_up r sh.length (fun _ => none)) o j (some sh.length)) := by
  have hl := AL_len h
  obtain ⟨h1, h2, h3, h4, h5, h6, h7, h8⟩ := h
  refine ⟨by rw [h1]; simp, h2, h3, fun k hk ho => ?_, fun k hk ho => ?_, ?_, fun i w hw => ?_, ?_⟩
  · rw [va_up_n _ _ (by omega)]; exact h4 k hk ho
  · funext y
    simp only [upR, if_neg ho]
    rw [va_up_n _ _ (by omega), h5 k hk ho]
  · rw [va_up_n _ _ (by omega)]; exact h6
  · by_cases e : i = W.length
    · subst e
      rw [List.getElem?_append_right (Nat.le_refl _), Nat.sub_self] at hw
      cases hw
      refine ⟨by simp [upR, hl], fun y => by rw [← hl, va_up_s, hK], fun y => ?_⟩
      rw [← hl]
      simp only [upR]
      rw [if_neg (by omega), va_up_s]
    · have hi : i < W.length := by
        rcases Nat.lt_or_ge i W.length with q | q
        · exact q
        · rw [List.getElem?_append_right q] at hw
          have : i - W.length ≠ 0 := by omega
          obtain ⟨m, hm⟩ := Nat.exists_eq_succ_of_ne_zero this
          rw [hm] at hw
          simp at hw
      rw [List.getElem?_append_left hi] at hw
      obtain ⟨q1, q2, q3⟩ := h7 i w hw
      have hm := hfr w (List.mem_of_getElem? hw)
      refine ⟨?_, fun y => ?_, fun y => ?_⟩
      · simp only [upR, if_true]
        rw [if_neg hm, va_up_n _ _ (by omega)]; exact q1
      · rw [va_up_n _ _ (by omega)]; exact q2 y
      · simp only [upR]
        rw [if_neg (by omega), va_up_n _ _ (by omega)]; exact q3 y
  · rw [List.length_append]
    show g_okR (sh.length + 1) _
    exact okR_up (okR_nw h8) (by omega)
theorem AL_pu {j : Nat} {v : Int32} (h : AL o N0 W F K sh0 a0 r0 sh a r) : AL o N0 W (upd F j v) K sh0 a0 r0 sh (up2 a o j v) r := by
  obtain ⟨h1, h2, h3, h4, h5, h6, h7, h8⟩ := h
  refine ⟨h1, h2, h3, fun k hk ho => ?_, h5, ?_, fun i w hw => ?_, h8⟩
  · rw [up2_rowne _ _ _ ho]; exact h4 k hk ho
  · rw [up2_row, h6]
  · obtain ⟨q1, q2, q3⟩ := h7 i w hw
    exact ⟨q1, fun y => by rw [up2_k _ _ (by omega)]; exact q2 y, q3⟩
variable {Y : g_Y} {Z : g_Z} {k n p1 p2 p3 p4 p5 j m idx cc nf : Nat} {L : List (Option g_V)}
theorem Gd_AA (hA : AL o N0 W F K sh0 a0 r0 sh a r) (hob : sh0[o]? = some (cc, nf)) (hL : L[0]? = some (some (vr o))) (okl : ∀ M, o < M → g_okL M L) (hk : k + 1 ≤ Z.2.1) (hn : n + m ≤ Z.2.2.1) (hm : m ≤ 2000) (hK : ∀ y, K W.length y = 0) (hfr : ∀ w ∈ W, w.1 ≠ j) (hfl : g_F Y.1.cls idx cc j nf 2 true) (hin : Y.1.name = "<init>") (hdecl : ∀ (C : String) (T : u_T), vwCl[cc]? = some (C, T, nf) → (T j).1 = Y.1.cls)
    (d1 : g_D Y p1 (.aload_n 0) 1 p2) (c : ∀ (st : List g_V) (h : g_H), Gd Y Z k n p3 L (vi (nI m) :: st) h → Gd Y Z k n p2 L st h) (d3 : g_D Y p3 (.newarray .int) 2 p4) (d4 : g_D Y p4 (.putfield idx) 3 p5)
    (kk : ∀ (a' : Nat → Nat → Int32) (r' : Nat → Nat → Option Nat) (g' : Nat → Nat → Int64), AL o N0 (W ++ [(j, 20, m)]) F K sh0 a0 r0 (sh ++ [(20, m)]) a' r' → Gd Y Z (k + 1) (n + m) p5 L [] (sh ++ [(20, m)], a', r', g')) : Gd Y Z k n p1 L [] (sh, a, r, g) := by
  have hl := AL_len hA
  have ho : o < sh.length := by have := hA.2.2.1; omega
  refine Gd_aload_n (i := 0) hL d1 (c _ _ ?_)
  refine Gd_newa (N' := m) (nI_lt0 (by omega)) (nI_clamp (by omega)) (by omega) hk hn hA.2.2.2.2.2.2.2 (okl _ ho) (fun v hv => by rw [List.mem_singleton.mp hv]; exact ho) wy_1 d3 ?_
  exact Gd_putR hfl hin hdecl (sh_app (AL_ob hA hob)) d4 (kk _ _ _ (AL_al hA hK hfr))
theorem Gd_AQ {c2 t ci i2 : Nat} {CC : String} (hrc : g_rc c2 t ci) (hCC : CC = (if c2 = 21 then RX4 else RX5)) (hw : Cond.classLink Y.1.cls i2 CC ∈ g_T) (hA : AL o N0 W F K sh0 a0 r0 sh a r) (hob : sh0[o]? = some (cc, nf)) (hL : L[0]? = some (some (vr o))) (okl : ∀ M, o < M → g_okL M L) (hk : k + 1 ≤ Z.2.1) (hn : n + m ≤ Z.2.2.1) (hm : m ≤ 2000) (hK : ∀ y, K W.length y = 0) (hfr : ∀ w ∈ W, w.1 ≠ j) (hfl : g_F Y.1.cls idx cc j nf 2 true) (hin : Y.1.name = "<init>") (hdecl : ∀ (C : String) (T : u_T), vwCl[cc]? = some (C, T, nf) → (T j).1 = Y.1.cls)
    (d1 : g_D Y p1 (.aload_n 0) 1 p2) (c : ∀ (st : List g_V) (h : g_H), Gd Y Z k n p3 L (vi (nI m) :: st) h → Gd Y Z k n p2 L st h) (d3 : g_D Y p3 (.anewarray i2) 3 p4) (d4 : g_D Y p4 (.putfield idx) 3 p5)
    (kk : ∀ (a' : Nat → Nat → Int32) (r' : Nat → Nat → Option Nat) (g' : Nat → Nat → Int64), AL o N0 (W ++ [(j, c2, m)]) F K sh0 a0 r0 (sh ++ [(c2, m)]) a' r' → Gd Y Z (k + 1) (n + m) p5 L [] (sh ++ [(c2, m)], a', r', g')) : Gd Y Z k n p1 L [] (sh, a, r, g) := by
  have hl := AL_len hA
  have ho : o < sh.length := by have := hA.2.2.1; omega
  refine Gd_aload_n (i := 0) hL d1 (c _ _ ?_)
  refine Gd_newq (N' := m) hrc hCC (nI_lt0 (by omega)) (nI_clamp (by omega)) (by omega) hk hn hA.2.2.2.2.2.2.2 (okl _ ho) (fun v hv => by rw [List.mem_singleton.mp hv]; exact ho) hw d3 ?_
  exact Gd_putR hfl hin hdecl (sh_app (AL_ob hA hob)) d4 (kk _ _ _ (AL_al hA hK hfr))
theorem Gd_AP {v : Int32} (hA : AL o N0 W F K sh0 a0 r0 sh a r) (hob : sh0[o]? = some (cc, nf)) (hL : L[0]? = some (some (vr o))) (hfl : g_F Y.1.cls idx cc j nf 0 false) (d1 : g_D Y p1 (.aload_n 0) 1 p2) (c : ∀ (st : List g_V) (h : g_H), Gd Y Z k n p3 L (vi v :: st) h → Gd Y Z k n p2 L st h) (d4 : g_D Y p3 (.putfield idx) 3 p5)
    (kk : ∀ (a' : Nat → Nat → Int32), AL o N0 W (upd F j v) K sh0 a0 r0 sh a' r → Gd Y Z k n p5 L [] (sh, a', r, g)) : Gd Y Z k n p1 L [] (sh, a, r, g) := by
  refine Gd_aload_n (i := 0) hL d1 (c _ _ ?_)
  exact Gd_putI hfl (AL_ob hA hob) d4 (kk _ (AL_pu hA))
/-- a row half filled -/
def fil (a : Nat → Nat → Int32) (N : Nat) (f : Nat → Int32) (j : Nat) : Nat → Nat → Int32 := va_up a N (fun i => if i < j then f i else 0)
theorem fil_0 (a : Nat → Nat → Int32) (N : Nat) (f : Nat → Int32) : va_up a N (fun _ => 0) = fil a N f 0 := rfl
theorem fil_s (a : Nat → Nat → Int32) (N : Nat) (f : Nat → Int32) (j : Nat) : up2 (fil a N f j) N j (f j) = fil a N f (j + 1) := by
  funext x y
  by_cases e : x = N
  · subst e
    rw [fil, fil, va_up_s]
    by_cases e2 : y = j
    · subst e2; rw [up2_s, if_pos (by omega)]
    · rw [up2_j _ _ e2, va_up_s]
      by_cases e3 : y < j
      · rw [if_pos e3, if_pos (by omega)]
      · rw [if_neg e3, if_neg (by omega)]
  · rw [up2_k _ _ e, fil, fil, va_up_n _ _ e, va_up_n _ _ e]
theorem Gd_AFs {f : Nat → Int32} (hA : AL o N0 W F K sh0 a0 r0 sh a r) (hL : L[0]? = some (some (vr o))) (okl : ∀ M, o < M → g_okL M L) (hk : k + 1 ≤ Z.2.1) (hn : n + m ≤ Z.2.2.1) (hm : m ≤ 2000)
    (d1 : g_D Y p1 (.aload_n 0) 1 p2) (c : ∀ (st : List g_V) (h : g_H), Gd Y Z k n p3 L (vi (nI m) :: st) h → Gd Y Z k n p2 L st h) (d3 : g_D Y p3 (.newarray .int) 2 p4)
    (kk : ∀ (g' : Nat → Nat → Int64), Gd Y Z (k + 1) (n + m) p4 L [vr sh.length, vr o] (sh ++ [(20, m)], fil a sh.length f 0, va_up r sh.length (fun _ => none), g')) : Gd Y Z k n p1 L [] (sh, a, r, g) := by
  have hl := AL_len hA
  have ho : o < sh.length := by have := hA.2.2.1; omega
  refine Gd_aload_n (i := 0) hL d1 (c _ _ ?_)
  exact Gd_newa (N' := m) (nI_lt0 (by omega)) (nI_clamp (by omega)) (by omega) hk hn hA.2.2.2.2.2.2.2 (okl _ ho) (fun v hv => by rw [List.mem_singleton.mp hv]; exact ho) wy_1 d3 (kk _)
theorem Gd_AFi {f : Nat → Int32} {N : Nat} {v : Int32} {st : List g_V} (hb : sh[N]? = some (20, m)) (hj : j < m ∧ m < 2147483648) (hv : v = f j) (d1 : g_D Y p1 .dup 1 p2) (c1 : ∀ (st : List g_V) (h : g_H), Gd Y Z k n p3 L (vi (nI j) :: st) h → Gd Y Z k n p2 L st h) (c2 : ∀ (st : List g_V) (h : g_H), Gd Y Z k n p4 L (vi v :: st) h → Gd Y Z k n p3 L st h) (d4 : g_D Y p4 .iastore 1 p5)
    (kk : Gd Y Z k n p5 L (vr N :: st) (sh, fil a N f (j + 1), r, g)) : Gd Y Z k n p1 L (vr N :: st) (sh, fil a N f j, r, g) := by
  subst hv
  refine Gd_dup rfl d1 (c1 _ _ (c2 _ _ ?_))
  refine Gd_iastN hb hj d4 ?_
  rw [fil_s]; exact kk
theorem Gd_AFe {f : Nat → Int32} (hA : AL o N0 W F K sh0 a0 r0 sh a r) (hob : sh0[o]? = some (cc, nf)) (hK : ∀ y, K W.length y = if y < m then f y else 0) (hfr : ∀ w ∈ W, w.1 ≠ j) (hfl : g_F Y.1.cls idx cc j nf 2 true) (hin : Y.1.name = "<init>") (hdecl : ∀ (C : String) (T : u_T), vwCl[cc]? = some (C, T, nf) → (T j).1 = Y.1.cls) (d4 : g_D Y p4 (.putfield idx) 3 p5)
    (kk : ∀ (a' : Nat → Nat → Int32) (r' : Nat → Nat → Option Nat) (g' : Nat → Nat → Int64), AL o N0 (W ++ [(j, 20, m)]) F K sh0 a0 r0 (sh ++ [(20, m)]) a' r' → Gd Y Z k n p5 L [] (sh ++ [(20, m)], a', r', g')) : Gd Y Z k n p4 L [vr sh.length, vr o] (sh ++ [(20, m)], fil a sh.length f m, va_up r sh.length (fun _ => none), g) :=
  Gd_putR hfl hin hdecl (sh_app (AL_ob hA hob)) d4 (kk _ _ _ (AL_al hA hK hfr))
end AL
