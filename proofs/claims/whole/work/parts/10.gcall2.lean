def g_ok (Y : g_Y) (np : Nat) : Prop := Cond.code Y.1 Y.2.1 Y.2.2.1 Y.2.2.2 ∈ g_T ∧ Cond.initialized Y.1.cls ∈ g_T ∧ (Y.1.cls ≠ "java/lang/invoke/MethodHandle" ∧ Y.1.cls ≠ "java/lang/invoke/VarHandle" ∧ (parseMethodDescriptor Y.1.desc).map (fun d => d.parameters.length) = some np) ∧ Y.2.2.1 ≤ 45
def g_okV (Y : g_Y) (np : Nat) : Prop := g_ok Y np ∧ Cond.instanceMethod Y.1 ∈ g_T ∧ Cond.selects Y.1.cls Y.1 Y.1 ∈ g_T
def g_okT (Y : g_Y) (np : Nat) : Prop := g_ok Y np ∧ Cond.static Y.1 ∈ g_T
def g_okI (Y : g_Y) (np : Nat) : Prop := g_ok Y np ∧ Cond.instanceMethod Y.1 ∈ g_T ∧ Y.1.name = "<init>" ∧ Y.2.2.2 = none
def g_wd (st : List g_V) : Nat := (st.map fun v => if g_isl (some v) then 2 else 1).sum
theorem g_wd_eq {aK : Nat → Value} {ad : Nat → Nat} (hK : ∀ k : Nat, ∃ r : Option Nat, aK k = va_rf r) (st : List g_V) : ((st.map (gc aK ad)).map fun v => v.category).sum = g_wd st := by
  unfold g_wd
  rw [List.map_map]
  congr 1
  exact List.map_congr_left fun v _ => gc_cat hK v
theorem gc_ag {aK : Nat → Value} {ad ad' : Nat → Nat} {N : Nat} {v : g_V} (h : ∀ q, q < N → ad' q = ad q) (hv : g_okv N v) : gc aK ad' v = gc aK ad v := by
  rcases v with x | x | r | k
  · rfl
  · rfl
  · cases r with
    | none => rfl
    | some p =>
      show va_rf (some (ad' p)) = va_rf (some (ad p))
      rw [h p hv]
  · rfl
section GCC
variable {p : Program} {l : Launch} {e : Env} {R : Room} {s : State} {m : MethodId} {args : Array Value} {below : List Frame} {meth : Method} {c : Code} {D : va_G} {cs : Nat → ClassId} {aK : Nat → Value} {A : Nat → Prop} {ad : Nat → Nat} {QS : State → Prop} {H : Heap} {locs : List Loc} {ls : Array Slot} {h : g_H} {k n pc mc ms d N : Nat} {st0 rest : List Value} {Qc : Option g_V → g_H → Prop} {arr : Array Value}
theorem g_callC (hr : va_Run p l e R s m args below meth c H locs k n mc ms (F0 m pc ls st0) rest (g_QC D cs aK ad N Qc (va_A (g_cw cs ad h) H.size) arr) (va_A (g_cw cs ad h) H.size)) (hS : va_S A s.heap H locs) (hA : ∀ q, va_A (g_cw cs ad h) H.size q → A q)
    (kk : ∀ (r : Option g_V) (h' : g_H) (ad' : Nat → Nat) (H1 : Heap) (locs1 : List Loc), Qc r h' → g_A N ad ad' h'.1.length → g_W D cs ad' h' A s H1 locs1 → W p l e R s m args below meth c H1 locs1 (k + mc) (n + ms) QS (F0 m (pc + 3) ls ((r.map (gc aK ad')).toList ++ rest))) : W p l e R s m args below meth c H locs k n QS (F0 m pc ls st0) := by
  intro T hT X
  obtain ⟨v, st₀, t, T', Lc, h0, X', hL, e1, e2, ⟨⟨r, h', ad', hv, hq, hg, hP, hD⟩, hz, hk⟩, st⟩ := hr T hT X
  cases hv
  rw [h0] at hz hk
  have hS1 : va_S A s.heap T'.heap (locs ++ Lc) := ⟨Nat.le_trans hS.1 (by rw [e1]; exact hz), fun q h1 h2 => by rw [e1, hk q (Nat.lt_of_lt_of_le h1 hS.1) (fun z => h2 (hA q z))]; exact hS.2.1 q h1 h2, fun q hq => by
      rcases List.mem_append.mp hq with h | h
      · exact hS.2.2 q h
      · exact hA _ (hL q h)⟩
  obtain ⟨t2, a1, b1⟩ := kk r h' ad' T'.heap (locs ++ Lc) hq hg ⟨by rw [e1]; exact hP, hD.weaken (fun _ q _ z => hA q.1 z), hS1⟩ T' rfl X'
  exact ⟨t2, st t2 a1, b1⟩
theorem g_Pre_ok {sz : Nat} {as : List g_V} {Av : List Value} (hAv : Av = as.map (gc aK ad)) (hsz : H.size = sz) (hP : va_P D vwCl (g_cw cs ad h) H) (hD : va_D A (g_cw cs ad h)) (hK : va_K D vwCl (g_tys cs) s) (hSS : g_S aK A s s.heap) (hS : va_S A s.heap H locs) (hA : ∀ q, va_A (g_cw cs ad h) sz q → A q) : ∀ U : State, U.heap = H → s.WarmedH U.vm → g_Pre D cs aK ad h sz as Av.toArray U := by
  intro U hU hW
  subst hAv
  exact ⟨rfl, by rw [hU]; exact hsz, by rw [hU]; exact hP, va_K.moved hW.alike hK, hD.weaken (fun _ _ _ _ => trivial), g_S_go hSS hS hW hU hA⟩
end GCC
section GCD
variable {Y Y' : g_Y} {Z : g_Z} {k n pc pc' d mc ms np : Nat} {L : List (Option g_V)} {st rest as : List g_V} {h : g_H} {b idx c nf : Nat} {Qc : Option g_V → g_H → Prop}
theorem g_A_of {D : va_G} {cs : Nat → ClassId} {ad : Nat → Nat} {A : Nat → Prop} {s : State} {H : Heap} {locs : List Loc} (Wd : g_W D cs ad h A s H locs) (hA : ∀ q, s.heap.size ≤ q → A q) : ∀ q, va_A (g_cw cs ad h) H.size q → A q := by
  intro q hq
  rcases hq with ⟨k, e, hk⟩ | hq
  · exact Wd.2.1.2 k (q, e) hk
  · exact hA q (Nat.le_trans Wd.2.2.1 hq)
theorem g_rooms {R : Room} (hd1 : Z.1 ≤ R.frames) (hd2 : 64 * Z.1 ≤ R.locals) (hd : d + 1 ≤ Z.1) (hL : Y'.2.2.1 ≤ 45) : (g_rm d mc ms).frames + 1 ≤ R.frames ∧ 8 + (Y'.2.2.1 + 11) + (g_rm d mc ms).locals ≤ R.locals := by
  refine ⟨Nat.le_trans hd hd1, ?_⟩
  show 8 + (Y'.2.2.1 + 11) + 64 * d ≤ R.locals
  omega
/-- what a call's run is: the callee's contract used, its frame, receiver, link -/
def g_Call (Y : g_Y) (Z : g_Z) (k n pc : Nat) (L : List (Option g_V)) (st rest : List g_V) (h : g_H) (mc ms : Nat) (Qc : Option g_V → g_H → Prop) (pc' : Nat) : Prop :=
  pc + 3 = pc' ∧ ∀ (p : Program) (l : Launch) (e : Env) (R : Room) (s : State) (m : MethodId) (args : Array Value) (below : List Frame) (meth : Method) (c : Code) (D : va_G) (cs : Nat → ClassId) (aK : Nat → Value) (A : Nat → Prop) (H : Heap) (locs : List Loc) (ad : Nat → Nat) (ls : Array Slot),
    g_Cx Y Z p R s m args meth c D cs aK A → g_W D cs ad h A s H locs → g_L aK ad ls Y.2.2.1 L →
    ∃ arr : Array Value, va_Run p l e R s m args below meth c H locs k n mc ms (F0 m pc ls (st.map (gc aK ad))) (rest.map (gc aK ad)) (g_QC D cs aK ad h.1.length Qc (va_A (g_cw cs ad h) H.size) arr) (va_A (g_cw cs ad h) H.size)
theorem g_call0 (hc : g_Call Y Z k n pc L st rest h 0 0 Qc pc') (kk : ∀ r h', Qc r h' → h'.1 = h.1 ∧ Gd Y Z k n pc' L (r.toList ++ rest) h') : Gd Y Z k n pc L st h := by
  intro p l e R s m args below meth cc D cs aK A ad0 QS H locs ad ls C RR Wd Ad hl
  obtain ⟨rfl, hc⟩ := hc
  obtain ⟨arr, hr⟩ := hc p l e R s m args below meth cc D cs aK A H locs ad ls C Wd hl
  refine g_callC hr Wd.2.2 (g_A_of Wd C.2.2.2.2.2.2.2.1) (fun r h' ad' H1 locs1 hq hg hW1 => ?_)
  obtain ⟨e1, kk1⟩ := kk r h' hq
  have e2 : ad' = ad := hg.2.1 (by rw [e1])
  subst e2
  have k1 := kk1 p l e R s m args below meth cc D cs aK A ad0 QS H1 locs1 ad' ls C RR hW1 (by rw [e1]; exact Ad) hl
  have e3 : (r.toList ++ rest).map (gc aK ad') = (r.map (gc aK ad')).toList ++ rest.map (gc aK ad') := by
    cases r <;> simp
  rw [e3] at k1
  exact k1
theorem g_call1 (hc : g_Call Y Z k n pc L st rest h mc ms Qc pc') (okl : g_okL h.1.length L) (oks : g_okS h.1.length rest) (kk : ∀ r h', Qc r h' → Gd Y Z (k + mc) (n + ms) pc' L (r.toList ++ rest) h') : Gd Y Z k n pc L st h := by
  intro p l e R s m args below meth cc D cs aK A ad0 QS H locs ad ls C RR Wd Ad hl
  obtain ⟨rfl, hc⟩ := hc
  obtain ⟨arr, hr⟩ := hc p l e R s m args below meth cc D cs aK A H locs ad ls C Wd hl
  refine g_callC hr Wd.2.2 (g_A_of Wd C.2.2.2.2.2.2.2.1) (fun r h' ad' H1 locs1 hq hg hW1 => ?_)
  have Ad' : g_A Z.2.2.2.1 ad0 ad' h'.1.length := by
    obtain ⟨q1, q2, q3⟩ := hg
    obtain ⟨w1, w2, w3⟩ := Ad
    refine ⟨fun q hq => ?_, fun hq => ?_, Nat.le_trans w3 q3⟩
    · rw [q1 q (Nat.lt_of_lt_of_le hq w3), w1 q hq]
    · have e1 : h.1.length = Z.2.2.2.1 := by omega
      rw [q2 (by omega), w2 e1]
  have hl' : g_L aK ad' ls Y.2.2.1 L := g_L_sub hl.1 hl.2 (fun j w hj => (g_ll_mem L 0 _).mpr ⟨j, w, hj, by rw [gc_ag hg.1 (okl w (List.mem_of_getElem? hj))]; simp⟩)
  have k1 := kk r h' hq p l e R s m args below meth cc D cs aK A ad0 QS H1 locs1 ad' ls C RR hW1 Ad' hl'
  have e3 : (r.toList ++ rest).map (gc aK ad') = (r.map (gc aK ad')).toList ++ rest.map (gc aK ad) := by
    have e4 : rest.map (gc aK ad') = rest.map (gc aK ad) := List.map_congr_left fun v hv => gc_ag hg.1 (oks v hv)
    cases r <;> simp [e4]
  rw [e3] at k1
  exact k1
theorem g_cV (hM : Mt Y' d mc ms (vr b :: as) h Qc) (hk : g_okV Y' np) (hl : Cond.methodLink Y.1.cls idx Y'.1 ∈ g_T) (hb : h.1[b]? = some (c, nf)) (hcl : ∃ T N, vwCl[c]? = some (Y'.1.cls, T, N)) (hst : st = as.reverse ++ vr b :: rest) (hn : as.length = np) (hw : g_wd rest ≤ 8) (hd : d + 1 ≤ Z.1) (hmc : k + mc ≤ Z.2.1) (hms : n + ms ≤ Z.2.2.1) (hdg : g_D Y pc (.invokevirtual idx) 3 pc') : g_Call Y Z k n pc L st rest h mc ms Qc pc' := by
  refine ⟨hdg.2, fun p l e R s m args below meth cc D cs aK A H locs ad ls C Wd hl' => ⟨(Value.ref (ad b) :: as.map (gc aK ad)).toArray, ?_⟩⟩
  obtain ⟨⟨k1, k2, k3, k4⟩, k5, k6⟩ := hk
  obtain ⟨T, N, hcl⟩ := hcl
  have hc20 : c < 20 := by
    have := (List.getElem?_eq_some_iff.mp hcl).1
    simp [vwCl] at this
    omega
  have hAA := g_A_of Wd C.2.2.2.2.2.2.2.1
  have hAK := C.2.2.2.2.2.2.2.2.1.2.1
  have hK := C.2.2.2.2.2.2.2.2.2.1
  exact va_runV (As := as.map (gc aK ad)) (rest := rest.map (gc aK ad)) (b := ad b) (C := Y'.1.cls) (nL := Y.2.2.1) ⟨C.1, C.2.1, C.2.2.1, C.2.2.2.1, C.2.2.2.2.1⟩ (hM l D cs aK ad H.size)
    (cwV (ws' := g_T) np C.2.2.2.2.1 (g_good1 (fun w hw => by
      simp only [wsV, List.mem_append, List.mem_cons, List.not_mem_nil, or_false] at hw
      rcases hw with (rfl | rfl | rfl | rfl) | hw
      · exact hl
      · exact k5
      · exact k6
      · exact k2
      · rcases List.mem_cons.mp hw with rfl | hw
        · exact k1
        · exact hw)) rfl rfl rfl ⟨rfl, k3⟩ (g_rooms C.2.2.2.2.2.1.1 C.2.2.2.2.2.1.2.1 hd k4))
    ⟨g_Pre_blind, va_recv hK Wd.1 (ci := c) (q0 := b) hcl (by rw [g_cw_at (g_sh_lt hb), g_ce_ob hb hc20]), g_Pre_ok (as := vr b :: as) rfl rfl Wd.1 Wd.2.1 hK C.2.2.2.2.2.2.2.2.1 Wd.2.2 hAA⟩ rfl (by rw [List.length_map]; exact hn) hl'.1.1 (by subst hst; simp [gc]; rfl) (lv_room (by rw [g_wd_eq hAK]; exact hw)) hdg.1 ⟨Nat.le_trans hmc C.2.2.2.2.2.1.2.2.1, Nat.le_trans hms C.2.2.2.2.2.1.2.2.2⟩
theorem g_cS (hM : Mt Y' d mc ms as h Qc) (hk : g_okT Y' np) (hl : Cond.methodLink Y.1.cls idx Y'.1 ∈ g_T) (hst : st = as.reverse ++ rest) (hn : as.length = np) (hw : g_wd rest ≤ 8) (hd : d + 1 ≤ Z.1) (hmc : k + mc ≤ Z.2.1) (hms : n + ms ≤ Z.2.2.1) (hdg : g_D Y pc (.invokestatic idx) 3 pc') : g_Call Y Z k n pc L st rest h mc ms Qc pc' := by
  refine ⟨hdg.2, fun p l e R s m args below meth cc D cs aK A H locs ad ls C Wd hl' => ⟨(as.map (gc aK ad)).toArray, ?_⟩⟩
  obtain ⟨⟨k1, k2, k3, k4⟩, k5⟩ := hk
  have hAA := g_A_of Wd C.2.2.2.2.2.2.2.1
  have hAK := C.2.2.2.2.2.2.2.2.1.2.1
  have hK := C.2.2.2.2.2.2.2.2.2.1
  exact va_runS (As := as.map (gc aK ad)) (rest := rest.map (gc aK ad)) (nL := Y.2.2.1) ⟨C.1, C.2.1, C.2.2.1, C.2.2.2.1, C.2.2.2.2.1⟩ (hM l D cs aK ad H.size)
    (va_cwS (ws' := g_T) np C.2.2.2.2.1 (g_good1 (fun w hw => by
      simp only [va_wsS, List.mem_append, List.mem_cons, List.not_mem_nil, or_false] at hw
      rcases hw with (rfl | rfl | rfl) | hw
      · exact hl
      · exact k5
      · exact k2
      · rcases List.mem_cons.mp hw with rfl | hw
        · exact k1
        · exact hw)) rfl rfl rfl k3 (g_rooms C.2.2.2.2.2.1.1 C.2.2.2.2.2.1.2.1 hd k4))
    ⟨g_Pre_blind, g_Pre_ok (as := as) rfl rfl Wd.1 Wd.2.1 hK C.2.2.2.2.2.2.2.2.1 Wd.2.2 hAA⟩ rfl (by rw [List.length_map]; exact hn) hl'.1.1 (by subst hst; simp) (lv_room (by rw [g_wd_eq hAK]; exact hw)) hdg.1 ⟨Nat.le_trans hmc C.2.2.2.2.2.1.2.2.1, Nat.le_trans hms C.2.2.2.2.2.1.2.2.2⟩
theorem g_wsGood {Y' : g_Y} (k1 : Cond.code Y'.1 Y'.2.1 Y'.2.2.1 Y'.2.2.2 ∈ g_T) : GoodIn g_T (g_ws Y') := g_good1 (fun w hw => by
  rcases List.mem_cons.mp hw with rfl | hw
  · exact k1
  · exact hw)
theorem g_cI (hM : Mt Y' d mc ms (vr b :: as) h Qc) (hk : g_okI Y' np) (hl : Cond.methodLink Y.1.cls idx Y'.1 ∈ g_T) (hst : st = as.reverse ++ vr b :: rest) (hn : as.length = np) (hw : g_wd rest ≤ 8) (hd : d + 1 ≤ Z.1) (hmc : k + mc ≤ Z.2.1) (hms : n + ms ≤ Z.2.2.1) (hdg : g_D Y pc (.invokespecial idx) 3 pc') : g_Call Y Z k n pc L st rest h mc ms Qc pc' := by
  refine ⟨hdg.2, fun p l e R s m args below meth cc D cs aK A H locs ad ls C Wd hl' => ⟨(Value.ref (ad b) :: as.map (gc aK ad)).toArray, ?_⟩⟩
  obtain ⟨⟨k1, k2, k3, k4⟩, k5, k6, k7⟩ := hk
  have hAA := g_A_of Wd C.2.2.2.2.2.2.2.1
  have hAK := C.2.2.2.2.2.2.2.2.1.2.1
  have hK := C.2.2.2.2.2.2.2.2.2.1
  exact va_runI (As := as.map (gc aK ad)) (rest := rest.map (gc aK ad)) (b := ad b) (nL := Y.2.2.1) ⟨C.1, C.2.1, C.2.2.1, C.2.2.2.1, C.2.2.2.2.1⟩ (hM l D cs aK ad H.size)
    (cwI (ws' := g_T) np C.2.2.2.2.1 (g_wsGood k1) (by rw [← k7]; rfl) rfl rfl (C.2.2.2.2.1 _ k2) (C.2.2.2.2.1 _ hl) (C.2.2.2.2.1 _ k5) k6 k3 (g_rooms C.2.2.2.2.2.1.1 C.2.2.2.2.2.1.2.1 hd k4))
    ⟨g_Pre_blind, g_Pre_ok (as := vr b :: as) rfl rfl Wd.1 Wd.2.1 hK C.2.2.2.2.2.2.2.2.1 Wd.2.2 hAA⟩ rfl (by rw [List.length_map]; exact hn) hl'.1.1 (by subst hst; simp [gc]; rfl) (lv_room (by rw [g_wd_eq hAK]; exact hw)) hdg.1 ⟨Nat.le_trans hmc C.2.2.2.2.2.1.2.2.1, Nat.le_trans hms C.2.2.2.2.2.1.2.2.2⟩
theorem g_cIN (hM : Mt Y' d mc ms (vr b :: as) h Qc) (hk : g_okI Y' np) (hl : (Y.1.cls, idx, Y'.1) ∈ g_nests) (hst : st = as.reverse ++ vr b :: rest) (hn : as.length = np) (hw : g_wd rest ≤ 8) (hd : d + 1 ≤ Z.1) (hmc : k + mc ≤ Z.2.1) (hms : n + ms ≤ Z.2.2.1) (hdg : g_D Y pc (.invokespecial idx) 3 pc') : g_Call Y Z k n pc L st rest h mc ms Qc pc' := by
  refine ⟨hdg.2, fun p l e R s m args below meth cc D cs aK A H locs ad ls C Wd hl' => ⟨(Value.ref (ad b) :: as.map (gc aK ad)).toArray, ?_⟩⟩
  obtain ⟨⟨k1, k2, k3, k4⟩, k5, k6, k7⟩ := hk
  have hAA := g_A_of Wd C.2.2.2.2.2.2.2.1
  have hAK := C.2.2.2.2.2.2.2.2.1.2.1
  have hK := C.2.2.2.2.2.2.2.2.2.1
  exact va_runIN (host := RX7) (bytes := Y'.2.1) (maxL := Y'.2.2.1) (As := as.map (gc aK ad)) (rest := rest.map (gc aK ad)) (b := ad b) (nL := Y.2.2.1) ⟨C.1, C.2.1, C.2.2.1, C.2.2.2.1, C.2.2.2.2.1⟩ (hM l D cs aK ad H.size)
    ⟨va_cnB (ws' := g_T) np C.2.2.2.2.1 (g_wsGood k1) (by rw [← k7]; rfl) rfl rfl (C.2.2.2.2.2.2.2.2.1.2.2.2.2.2.1 _ hl) (C.2.2.2.2.1 _ k2) k3 (g_rooms C.2.2.2.2.2.1.1 C.2.2.2.2.2.1.2.1 hd k4), k6, C.2.2.2.2.1 _ k5⟩
    ⟨g_Pre_blind, g_Pre_ok (as := vr b :: as) rfl rfl Wd.1 Wd.2.1 hK C.2.2.2.2.2.2.2.2.1 Wd.2.2 hAA⟩ rfl (by rw [List.length_map]; exact hn) hl'.1.1 (by subst hst; simp [gc]; rfl) (lv_room (by rw [g_wd_eq hAK]; exact hw)) hdg.1 ⟨Nat.le_trans hmc C.2.2.2.2.2.1.2.2.1, Nat.le_trans hms C.2.2.2.2.2.1.2.2.2⟩
theorem g_cSN (hM : Mt Y' d mc ms as h Qc) (hk : g_okT Y' np) (hl : (Y.1.cls, idx, Y'.1) ∈ g_nests) (hst : st = as.reverse ++ rest) (hn : as.length = np) (hw : g_wd rest ≤ 8) (hd : d + 1 ≤ Z.1) (hmc : k + mc ≤ Z.2.1) (hms : n + ms ≤ Z.2.2.1) (hdg : g_D Y pc (.invokestatic idx) 3 pc') : g_Call Y Z k n pc L st rest h mc ms Qc pc' := by
  refine ⟨hdg.2, fun p l e R s m args below meth cc D cs aK A H locs ad ls C Wd hl' => ⟨(as.map (gc aK ad)).toArray, ?_⟩⟩
  obtain ⟨⟨k1, k2, k3, k4⟩, k5⟩ := hk
  have hAA := g_A_of Wd C.2.2.2.2.2.2.2.1
  have hAK := C.2.2.2.2.2.2.2.2.1.2.1
  have hK := C.2.2.2.2.2.2.2.2.2.1
  exact va_runSN (host := RX7) (bytes := Y'.2.1) (maxL := Y'.2.2.1) (ret := Y'.2.2.2) (As := as.map (gc aK ad)) (rest := rest.map (gc aK ad)) (nL := Y.2.2.1) ⟨C.1, C.2.1, C.2.2.1, C.2.2.2.1, C.2.2.2.2.1⟩ (hM l D cs aK ad H.size)
    ⟨va_cnB (ws' := g_T) np C.2.2.2.2.1 (g_wsGood k1) rfl rfl rfl (C.2.2.2.2.2.2.2.2.1.2.2.2.2.2.1 _ hl) (C.2.2.2.2.1 _ k2) k3 (g_rooms C.2.2.2.2.2.1.1 C.2.2.2.2.2.1.2.1 hd k4), C.2.2.2.2.1 _ k5, trivial⟩
    ⟨g_Pre_blind, g_Pre_ok (as := as) rfl rfl Wd.1 Wd.2.1 hK C.2.2.2.2.2.2.2.2.1 Wd.2.2 hAA⟩ rfl (by rw [List.length_map]; exact hn) hl'.1.1 (by subst hst; simp) (lv_room (by rw [g_wd_eq hAK]; exact hw)) hdg.1 ⟨Nat.le_trans hmc C.2.2.2.2.2.1.2.2.1, Nat.le_trans hms C.2.2.2.2.2.1.2.2.2⟩
/-- a call on a text -/
theorem g_cVt {q : Nat} (hq : q < 13) (hM : Mt Y' d mc ms (vc q :: as) h Qc) (hk : g_okV Y' np) (hcl : Y'.1.cls = "java/lang/String") (hl : Cond.methodLink Y.1.cls idx Y'.1 ∈ g_T) (hst : st = as.reverse ++ vc q :: rest) (hn : as.length = np) (hw : g_wd rest ≤ 8) (hd : d + 1 ≤ Z.1) (hmc : k + mc ≤ Z.2.1) (hms : n + ms ≤ Z.2.2.1) (hdg : g_D Y pc (.invokevirtual idx) 3 pc') : g_Call Y Z k n pc L st rest h mc ms Qc pc' := by
  refine ⟨hdg.2, fun p l e R s m args below meth cc D cs aK A H locs ad ls C Wd hl' => ?_⟩
  obtain ⟨⟨k1, k2, k3, k4⟩, k5, k6⟩ := hk
  have hAA := g_A_of Wd C.2.2.2.2.2.2.2.1
  have hAK := C.2.2.2.2.2.2.2.2.1.2.1
  have hK := C.2.2.2.2.2.2.2.2.2.1
  obtain ⟨adK, adV, hvk, hkv⟩ := C.2.2.2.2.2.2.2.2.1.1
  have e1 : gc aK ad (vc q) = .ref (adK q) := (hkv q hq).1
  refine ⟨(Value.ref (adK q) :: as.map (gc aK ad)).toArray, ?_⟩
  exact va_runV (As := as.map (gc aK ad)) (rest := rest.map (gc aK ad)) (b := adK q) (C := Y'.1.cls) (nL := Y.2.2.1) ⟨C.1, C.2.1, C.2.2.1, C.2.2.2.1, C.2.2.2.2.1⟩ (hM l D cs aK ad H.size)
    (cwV (ws' := g_T) np C.2.2.2.2.1 (g_good1 (fun w hw => by
      simp only [wsV, List.mem_append, List.mem_cons, List.not_mem_nil, or_false] at hw
      rcases hw with (rfl | rfl | rfl | rfl) | hw
      · exact hl
      · exact k5
      · exact k6
      · exact k2
      · rcases List.mem_cons.mp hw with rfl | hw
        · exact k1
        · exact hw)) rfl rfl rfl ⟨rfl, k3⟩ (g_rooms C.2.2.2.2.2.1.1 C.2.2.2.2.2.1.2.1 hd k4))
    ⟨g_Pre_blind, by rw [hcl]; exact vk_recv hvk hq Wd.2.2, g_Pre_ok (as := vc q :: as) (by rw [List.map_cons, e1]) rfl Wd.1 Wd.2.1 hK C.2.2.2.2.2.2.2.2.1 Wd.2.2 hAA⟩ rfl (by rw [List.length_map]; exact hn) hl'.1.1 (by subst hst; simp [e1]) (lv_room (by rw [g_wd_eq hAK]; exact hw)) hdg.1 ⟨Nat.le_trans hmc C.2.2.2.2.2.1.2.2.1, Nat.le_trans hms C.2.2.2.2.2.1.2.2.2⟩
end GCD
