/-! the class's constructor: an object of the class's own laid down into a field of 0 -/
def BK (N j : Nat) (W : List (Nat × Nat × Nat)) (F : Nat → Int32) (a : Nat → Nat → Int32) (r : Nat → Nat → Option Nat) (a' : Nat → Nat → Int32) (r' : Nat → Nat → Option Nat) : Prop :=
  (∀ k, k < N → a' k = a k) ∧ (∀ k, 0 < k → k < N → r' k = r k) ∧ (∀ y, r' 0 y = if y = j then some N else r 0 y) ∧ a' N = F ∧ (∀ i w, W[i]? = some w → r' N w.1 = some (N + 1 + i) ∧ (∀ y, a' (N + 1 + i) y = 0) ∧ ∀ y, r' (N + 1 + i) y = none) ∧ g_okR (N + 1 + W.length) r'
theorem Gd_sh {Y : g_Y} {Z : g_Z} {k n pc : Nat} {L : List (Option g_V)} {st : List g_V} {sh sh' : List (Nat × Nat)} {a : Nat → Nat → Int32} {r : Nat → Nat → Option Nat} {g : Nat → Nat → Int64} (h : sh = sh') (kk : Gd Y Z k n pc L st (sh', a, r, g)) : Gd Y Z k n pc L st (sh, a, r, g) := by rw [h]; exact kk
theorem Gd_blk {Y : g_Y} {Z : g_Z} {k n p0 p1 p2 p3 p4 p5 : Nat} {L : List (Option g_V)} {sh : List (Nat × Nat)} {a : Nat → Nat → Int32} {r : Nat → Nat → Option Nat} {g : Nat → Nat → Int64} {N c nf j idx iN iI mc ms : Nat} {CC : String} {T : u_T} {Yi : g_Y} {W : List (Nat × Nat × Nat)} {F : Nat → Int32}
    (hlen : sh.length = N) (hN : 0 < N) (h0 : sh[0]? = some (7, 9)) (okr : g_okR N r) (okl : ∀ M, 0 < M → g_okL M L) (hL : L[0]? = some (some (vr 0)))
    (hcl : vwCl[c]? = some (CC, T, nf)) (hc20 : c < 20) (hfk : ∀ j, j < nf → g_fk c j = 0 ∨ g_fk c j = 1 ∨ g_fk c j = 2 ∨ g_fk c j = 3) (hw1 : Cond.classLink Y.1.cls iN CC ∈ g_T) (hw2 : Cond.instantiable CC nf ∈ g_T) (hw3 : Cond.initialized CC ∈ g_T)
    (hI : ∀ (sh : List (Nat × Nat)) (a : Nat → Nat → Int32) (r : Nat → Nat → Option Nat) (g : Nat → Nat → Int64), sh[N]? = some (c, nf) → a N = (fun _ => 0) → g_okR sh.length r → Mt Yi 1 mc ms [vr N] (sh, a, r, g) (fun v h' => v = none ∧ ∃ (sh' : List (Nat × Nat)) (a' : Nat → Nat → Int32) (r' : Nat → Nat → Option Nat) (g' : Nat → Nat → Int64), h' = (sh', a', r', g') ∧ AL N sh.length W F (fun _ _ => 0) sh a r sh' a' r'))
    (hoki : g_okI Yi 0) (hli : (Y.1.cls, iI, Yi.1) ∈ g_nests) (hk : k + 1 + mc ≤ Z.2.1) (hn : n + nf + ms ≤ Z.2.2.1) (hd : 2 ≤ Z.1)
    (hfl : g_F Y.1.cls idx 7 j 9 2 true) (hin : Y.1.name = "<init>") (hdecl : ∀ (C : String) (T : u_T), vwCl[7]? = some (C, T, 9) → (T j).1 = Y.1.cls)
    (d0 : g_D Y p0 (.aload_n 0) 1 p1) (d1 : g_D Y p1 (.new iN) 3 p2) (d2 : g_D Y p2 .dup 1 p3) (d3 : g_D Y p3 (.invokespecial iI) 3 p4) (d4 : g_D Y p4 (.putfield idx) 3 p5)
    (kk : ∀ (a' : Nat → Nat → Int32) (r' : Nat → Nat → Option Nat) (g' : Nat → Nat → Int64), BK N j W F a r a' r' → Gd Y Z (k + 1 + mc) (n + nf + ms) p5 L [] (sh ++ [(c, nf)] ++ W.map (fun w => w.2), a', r', g')) : Gd Y Z k n p0 L [] (sh, a, r, g) := by
  subst hlen
  have hl : (sh ++ [(c, nf)]).length = sh.length + 1 := by simp
  refine Gd_aload_n (i := 0) hL d0 ?_
  refine Gd_new hcl hc20 hfk (by omega) (by omega) okr (okl _ hN) (fun v hv => by rw [List.mem_singleton.mp hv]; exact hN) hw1 hw2 hw3 d1 ?_
  refine Gd_dup rfl d2 ?_
  refine g_call1 (g_cIN (hI (sh ++ [(c, nf)]) (va_up a sh.length (fun _ => 0)) (va_up r sh.length (fun _ => none)) (va_up g sh.length (fun _ => 0)) (g_sh_last _ _) (va_up_s _ _ _) (by rw [hl]; exact okR_nw okr)) hoki hli rfl rfl (Nat.le_of_ble_eq_true rfl) hd hk hn d3) (okl _ (by show 0 < (sh ++ [(c, nf)]).length; omega)) (fun v hv => ?_) (fun v h' hq => ?_)
  · rcases List.mem_cons.mp hv with rfl | hv
    · show sh.length < (sh ++ [(c, nf)]).length; omega
    · rw [List.mem_singleton.mp hv]; show 0 < (sh ++ [(c, nf)]).length; omega
  obtain ⟨rfl, sh', a', r', g', rfl, e1, e2, e3, e4, e5, e6, e7, e8⟩ := hq
  subst e1
  rw [hl] at e4 e5 e7
  refine Gd_putR hfl hin hdecl (sh_app (sh_app h0)) d4 (kk _ _ _ ⟨fun k hk => ?_, fun k h1 hk => ?_, fun y => ?_, e6, fun i w hw => ?_, ?_⟩)
  · rw [e4 k (by omega) (by omega), va_up_n _ _ (by omega)]
  · funext y
    simp only [upR]
    rw [if_neg (by omega), e5 k (by omega) (by omega), va_up_n _ _ (by omega)]
  · simp only [upR, if_true]
    rw [e5 0 (by omega) (by omega), va_up_n _ _ (by omega)]
  · obtain ⟨q1, q2, q3⟩ := e7 i w hw
    refine ⟨?_, q2, fun y => ?_⟩
    · simp only [upR]; rw [if_neg (by omega)]; exact q1
    · simp only [upR]; rw [if_neg (by omega)]; exact q3 y
  · have e9 : (sh ++ [(c, nf)] ++ W.map (fun w => w.2)).length = sh.length + 1 + W.length := by simp; omega
    rw [e9] at e8
    exact okR_up e8 (by omega)
/-- the first forest's numbers -/
def φ0 : g_Fo := fun i j => if i = 7 then (if j = 0 then 1023 else 0) else 0
/-- what is laid down below N -/
def CX (N : Nat) (a : Nat → Nat → Int32) (r : Nat → Nat → Option Nat) : Prop := (∀ q ∈ RTL, q.2.2 < N → r q.1 q.2.1 = some q.2.2) ∧ g_okR N r ∧ (8 < N → FA 1 φ0 a) ∧ (25 < N → a 25 1 = nI 0) ∧ (31 < N → a 31 1 = nI 0)
theorem FA_fr {f : Nat} {φ : g_Fo} {a a' : Nat → Nat → Int32} (h : FA f φ a) (hc : ∀ k, f ≤ k → k ≤ f + 7 → a' k = a k) : FA f φ a' := FA_ch (S := fun k _ => !(decide (f ≤ k ∧ k ≤ f + 7))) h (fun k j hk => by rw [hc k (by simp at hk; omega) (by simp at hk; omega)]) (fun i j hi => by simp; omega)
theorem CX_bk {N j : Nat} {W : List (Nat × Nat × Nat)} {F : Nat → Int32} {a a' : Nat → Nat → Int32} {r r' : Nat → Nat → Option Nat} (h : CX N a r) (hb : BK N j W F a r a' r') (hd : ∀ q ∈ RTL, q.2.2 < N + 1 + W.length → (q.2.2 < N ∧ q.1 < N ∧ (q.1 = 0 → q.2.1 ≠ j)) ∨ q = (0, j, N) ∨ (q.1 = N ∧ N + 1 ≤ q.2.2 ∧ (W[q.2.2 - (N + 1)]?).map (fun w => w.1) = some q.2.1)) (hF : N ≤ 8 → FA 1 φ0 a') (h25 : N ≤ 25 → 25 < N + 1 + W.length → a' 25 1 = nI 0) (h31 : N ≤ 31 → 31 < N + 1 + W.length → a' 31 1 = nI 0) : CX (N + 1 + W.length) a' r' := by
  obtain ⟨c1, c2, c3, c4, c5⟩ := h
  obtain ⟨b1, b2, b3, b4, b5, b6⟩ := hb
  refine ⟨fun q hq hlt => ?_, b6, fun z => ?_, fun z => ?_, fun z => ?_⟩
  · rcases hd q hq hlt with ⟨h1, h2, h3⟩ | h1 | ⟨h1, h2, h3⟩
    · have := c1 q hq h1
      rcases Nat.eq_zero_or_pos q.1 with z | z
      · rw [z, b3, if_neg (h3 z)]; rw [z] at this; exact this
      · rw [b2 _ z h2]; exact this
    · rw [h1, b3, if_pos rfl]
    · cases hw : W[q.2.2 - (N + 1)]? with
      | none => rw [hw] at h3; cases h3
      | some w =>
        rw [hw] at h3
        have e : w.1 = q.2.1 := by simpa using h3
        have := (b5 _ w hw).1
        rw [h1, ← e, this]
        congr 1; omega
  · rcases Nat.lt_or_ge 8 N with z2 | z2
    · exact FA_fr (c3 z2) (fun k h1 h2 => b1 k (by omega))
    · exact hF z2
  · rcases Nat.lt_or_ge 25 N with z2 | z2
    · rw [b1 25 z2]; exact c4 z2
    · exact h25 z2 z
  · rcases Nat.lt_or_ge 31 N with z2 | z2
    · rw [b1 31 z2]; exact c5 z2
    · exact h31 z2 z
theorem FA_0 {F : Nat → Int32} {a a' : Nat → Nat → Int32} {r r' : Nat → Nat → Option Nat} {j : Nat} (hb : BK 1 j [(0, 20, 10), (5, 20, 6), (6, 20, 6), (7, 20, 6), (8, 20, 6), (9, 20, 6), (10, 20, 6)] F a r a' r') (h1 : F 1 = nI 1023) (h2 : F 2 = nI 0) (h3 : F 3 = nI 0) (h4 : F 4 = nI 0) : FA 1 φ0 a' := by
  obtain ⟨b1, b2, b3, b4, b5, b6⟩ := hb
  have z0 : (0 : Int32) = nI 0 := by decide
  refine ⟨by rw [b4]; exact h1, by rw [b4]; exact h2, by rw [b4]; exact h3, by rw [b4]; exact h4, fun d hd => ?_, fun d hd => ?_, fun d hd => ?_, fun d hd => ?_, fun d hd => ?_, fun d hd => ?_, fun d hd => ?_⟩
  · exact ((b5 0 _ rfl).2.1 d).trans z0
  all_goals first | exact ((b5 1 _ rfl).2.1 d).trans z0 | exact ((b5 2 _ rfl).2.1 d).trans z0 | exact ((b5 3 _ rfl).2.1 d).trans z0 | exact ((b5 4 _ rfl).2.1 d).trans z0 | exact ((b5 5 _ rfl).2.1 d).trans z0 | exact ((b5 6 _ rfl).2.1 d).trans z0
