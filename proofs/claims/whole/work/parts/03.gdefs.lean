/-! LAYER G: an abstract heap (shapes, whole numbers, references, longs, all by place), abstract values, one predicate for a method's state -/
abbrev g_V : Type := Int32 ⊕ (Int64 ⊕ (Option Nat ⊕ Nat))
abbrev vi (x : Int32) : g_V := .inl x
abbrev vl (x : Int64) : g_V := .inr (.inl x)
abbrev vr (x : Nat) : g_V := .inr (.inr (.inl (some x)))
abbrev vz : g_V := .inr (.inr (.inl none))
abbrev vo (r : Option Nat) : g_V := .inr (.inr (.inl r))
abbrev vc (k : Nat) : g_V := .inr (.inr (.inr k))
abbrev g_H : Type := List (Nat × Nat) × (Nat → Nat → Int32) × (Nat → Nat → Option Nat) × (Nat → Nat → Int64)
abbrev g_Y : Type := MethodName × ByteArray × Nat × Option FieldType
abbrev g_Z : Type := Nat × Nat × Nat × Nat × (Nat × (Nat → Int32)) × (Option g_V → g_H → Prop)
def gc (aK : Nat → Value) (ad : Nat → Nat) : g_V → Value
  | .inl x => .int x
  | .inr (.inl x) => .long x
  | .inr (.inr (.inl r)) => va_rf (r.map ad)
  | .inr (.inr (.inr k)) => aK k
def g_fkt : FieldType → Nat
  | .int => 0
  | .long => 1
  | .boolean => 3
  | .object _ => 2
  | .array _ => 2
  | _ => 4
def g_ty : Nat → Nat → FieldType
  | 0 => tyX0 | 1 => tyX1 | 2 => tyX2 | 3 => tyX3 | 4 => tyX4 | 5 => tyX5 | 6 => tyX6 | 7 => tyX7 | _ => tyX8
def g_fk (c j : Nat) : Nat := g_fkt (g_ty c j)
def g_fv (ad : Nat → Nat) (h : g_H) (c k j : Nat) : Value := if g_fk c j = 1 then .long (h.2.2.2 k j) else if g_fk c j = 2 then va_rf ((h.2.2.1 k j).map ad) else .int (h.2.1 k j)
def g_ce (cs : Nat → ClassId) (ad : Nat → Nat) (h : g_H) (k : Nat) : va_E :=
  if (h.1.getD k (0, 0)).1 < 20 then .inr ((h.1.getD k (0, 0)).1, (List.range (h.1.getD k (0, 0)).2).map (g_fv ad h (h.1.getD k (0, 0)).1 k))
  else if (h.1.getD k (0, 0)).1 = 20 then .inl (cs 20, (h.1.getD k (0, 0)).2, .inl (h.2.1 k))
  else .inl (cs (h.1.getD k (0, 0)).1, (h.1.getD k (0, 0)).2, .inr (.inr (.inr (.inr (fun j => (h.2.2.1 k j).map ad)))))
def g_cw (cs : Nat → ClassId) (ad : Nat → Nat) (h : g_H) : va_W := (List.range h.1.length).map (fun k => (ad k, g_ce cs ad h k))
abbrev g_tys (cs : Nat → ClassId) : List (ClassId × FieldType) := [(cs 20, .int), (cs 21, .object RX4), (cs 22, .object RX5)]
/-- the tables' words that a callee may use, too -/
def g_T : List Cond := lw_tbl.filter goodWord
theorem g_in {w : Cond} (i : Nat) (h : tables_1[i]? = some w) (hg : goodWord w = true) : w ∈ g_T := List.mem_filter.mpr ⟨List.mem_append_right _ (List.mem_of_getElem? h), hg⟩
theorem g_inS {w : Cond} (h : w ∈ k2_sels lw_privs) (hg : goodWord w = true) : w ∈ g_T := List.mem_filter.mpr ⟨List.mem_append_left _ h, hg⟩
theorem g_good : GoodIn g_T g_T := fun w h => ⟨h, good_of_word (List.mem_filter.mp h).2⟩
theorem g_good1 {ws : List Cond} (h : ∀ w ∈ ws, w ∈ g_T) : GoodIn g_T ws := fun w hw => g_good w (h w hw)
-- locals by slots
def g_ll (aK : Nat → Value) (ad : Nat → Nat) : Nat → List (Option g_V) → List (Nat × Value)
  | _, [] => []
  | i, none :: L => g_ll aK ad (i + 1) L
  | i, some v :: L => (i, gc aK ad v) :: g_ll aK ad (i + 1) L
def g_L (aK : Nat → Value) (ad : Nat → Nat) (ls : Array Slot) (nL : Nat) (L : List (Option g_V)) : Prop := lv_has ls nL (g_ll aK ad 0 L) ∧ L.length ≤ nL
def g_isl : Option g_V → Bool
  | some (.inr (.inl _)) => true
  | _ => false
def g_clr (L : List (Option g_V)) (i : Nat) : List (Option g_V) := if g_isl (L.getD i none) then L.set i none else L
def g_clp (L : List (Option g_V)) : Nat → List (Option g_V)
  | 0 => L
  | i + 1 => g_clr L i
def g_st1 (L : List (Option g_V)) (i : Nat) (v : g_V) : List (Option g_V) := (g_clp L i).set i (some v)
def g_st2 (L : List (Option g_V)) (i : Nat) (v : g_V) : List (Option g_V) := ((g_clp L i).set (i + 1) none).set i (some v)
-- strings: their texts
def g_strs : List (Nat × String × Nat × String) := [(0, RX7, 61, "honours 3 ; hits honour ; wills 1 ;"), (1, RX2, 83, "honours"), (2, RX2, 89, "hits"), (3, RX2, 91, "wills"), (4, RX2, 93, "or"), (5, RX2, 95, "and"), (6, RX2, 97, "not"), (7, RX2, 99, "honour"), (8, RX2, 101, "shy"), (9, RX2, 103, "met"), (10, RX2, 105, "cards"), (11, RX2, 107, "day"), (12, RX2, 109, "more")]
def g_slen : List Nat := [35, 7, 4, 5, 2, 3, 3, 6, 3, 3, 5, 3, 4]
def g_sbyt : List (List Int32) := [[104, 111, 110, 111, 117, 114, 115, 32, 51, 32, 59, 32, 104, 105, 116, 115, 32, 104, 111, 110, 111, 117, 114, 32, 59, 32, 119, 105, 108, 108, 115, 32, 49, 32, 59], [104, 111, 110, 111, 117, 114, 115], [104, 105, 116, 115], [119, 105, 108, 108, 115], [111, 114], [97, 110, 100], [110, 111, 116], [104, 111, 110, 111, 117, 114], [115, 104, 121], [109, 101, 116], [99, 97, 114, 100, 115], [100, 97, 121], [109, 111, 114, 101]]
def g_nests : List (String × Nat × MethodName) := [(RX7, 9, yX0_init), (RX7, 28, yX2_init), (RX7, 35, yX3_init), (RX7, 42, yX6_init), (RX7, 49, yX1_init), (RX7, 60, yX4_init), (RX4, 22, yX7_isDeer)]
/-- the constants: texts 0 .. 12, their bytes 100 .. 112, the formatter 200, the law's script 300 -/
def g_S (aK : Nat → Value) (A : Nat → Prop) (U : State) (H : Heap) : Prop :=
  (∃ adK adV : Nat → Nat, vk_S 13 g_slen g_sbyt adK adV A U H ∧ ∀ k : Nat, k < 13 → aK k = .ref (adK k) ∧ aK (100 + k) = .ref (adV k)) ∧
  (∀ k : Nat, ∃ r : Option Nat, aK k = va_rf r) ∧
  (∀ q ∈ g_strs, ∃ a : Nat, aK q.1 = .ref a ∧ vk_R q.2.1 q.2.2.1 q.2.2.2 a U) ∧
  va_Z "java/lang/String" "COMPACT_STRINGS" "Z" (.int 1) A U H ∧
  va_Z "jdk/internal/util/Preconditions" "SIOOBE_FORMATTER" "Ljava/util/function/BiFunction;" (aK 200) A U H ∧
  (∀ q ∈ g_nests, va_Nw (.methodLinkNest q.1 q.2.1 q.2.2 RX7) U) ∧ va_Nw (.castable "[I" "java/lang/Cloneable") U ∧ va_AO RX4 U ∧ va_AO RX5 U
theorem g_S_go {aK : Nat → Value} {A B : Nat → Prop} {s U : State} {H : Heap} {locs : List Loc} (h : g_S aK A s s.heap) (hS : va_S A s.heap H locs) (hW : s.WarmedH U.vm) (hU : U.heap = H) (hAB : ∀ q, B q → A q) : g_S aK B U U.heap := by
  obtain ⟨⟨adK, adV, h1, h2⟩, h3, h4, h5, h6, h7, h8, h9, h10⟩ := h
  rw [hU]
  exact ⟨⟨adK, adV, ((h1.kept hS.2.1).moved hW.alike).narrow hAB, h2⟩, h3, fun q hq => by
    obtain ⟨a, e1, e2⟩ := h4 q hq
    exact ⟨a, e1, e2.warm hW⟩, ((h5.kept hS.2.1).moved hW.alike).narrow hAB, ((h6.kept hS.2.1).moved hW.alike).narrow hAB, fun q hq => (h7 q hq).warmM hW, h8.warmC hW, h9.moved hW.alike, h10.moved hW.alike⟩
theorem g_S_blind {aK : Nat → Value} {A : Nat → Prop} {U : State} {g : JFrame} {mk : MethodId} {a : Array Value} (h : g_S aK A U U.heap) : g_S aK A (U.calling g mk a) (U.calling g mk a).heap := by
  obtain ⟨⟨adK, adV, h1, h2⟩, h3, h4, h5, h6, h7, h8, h9, h10⟩ := h
  refine ⟨⟨adK, adV, vk_S.moved (u := U) (U := U.calling g mk a) (Vm.Alike.refl U.vm) h1, h2⟩, h3, fun q hq => ?_, va_Z.moved (u := U) (U := U.calling g mk a) (Vm.Alike.refl U.vm) h5, va_Z.moved (u := U) (U := U.calling g mk a) (Vm.Alike.refl U.vm) h6, fun q hq => va_Nw.same rfl (u := U) (U := U.calling g mk a) rfl (h7 q hq), va_Nw.same rfl (u := U) (U := U.calling g mk a) rfl h8, va_AO.moved (u := U) (U := U.calling g mk a) (Vm.Alike.refl U.vm) h9, va_AO.moved (u := U) (U := U.calling g mk a) (Vm.Alike.refl U.vm) h10⟩
  obtain ⟨a, e1, e2⟩ := h4 q hq
  exact ⟨a, e1, e2.same rfl⟩
-- the judgement
def g_D (Y : g_Y) (pc : Nat) (i : Instr) (w pc' : Nat) : Prop := decode Y.2.1 pc = .ok (i, w) ∧ pc + w = pc'
def g_J (Y : g_Y) (pc : Nat) (i : Int → Instr) (tgt pc' : Nat) : Prop := ∃ off : Int, decode Y.2.1 pc = .ok (i off, 3) ∧ (pc : Int) + off = (tgt : Int) ∧ pc + 3 = pc'
def g_Cx (Y : g_Y) (Z : g_Z) (p : Program) (R : Room) (s : State) (m : MethodId) (args : Array Value) (meth : Method) (c : Code) (D : va_G) (cs : Nat → ClassId) (aK : Nat → Value) (A : Nat → Prop) : Prop :=
  p.tables.exec = Jvm.exec ∧ c.code = Y.2.1 ∧ c.maxLocals = Y.2.2.1 ∧ s.vm.findClass Y.1.cls = some m.cls ∧ (∀ w ∈ g_T, w.before args s = true) ∧
  (Z.1 ≤ R.frames ∧ 64 * Z.1 ≤ R.locals ∧ Z.2.1 ≤ R.cells ∧ Z.2.2.1 ≤ R.slots) ∧ meth.name = Y.1.name ∧ (∀ q, s.heap.size ≤ q → A q) ∧ g_S aK A s s.heap ∧ va_K D vwCl (g_tys cs) s ∧
  (Z.2.2.2.2.1.1 ≠ 0 → ∃ b : Nat, aK 300 = .ref b ∧ va_X b (Z.2.2.2.2.1.1 - 1) Z.2.2.2.2.1.2 s s.heap ∧ b < s.heap.size ∧ ¬ A b)
def g_W (D : va_G) (cs : Nat → ClassId) (ad : Nat → Nat) (h : g_H) (A : Nat → Prop) (s : State) (H : Heap) (locs : List Loc) : Prop := va_P D vwCl (g_cw cs ad h) H ∧ va_D A (g_cw cs ad h) ∧ va_S A s.heap H locs
def g_A (N0 : Nat) (ad0 ad : Nat → Nat) (n : Nat) : Prop := (∀ q, q < N0 → ad q = ad0 q) ∧ (n = N0 → ad = ad0) ∧ N0 ≤ n
def g_ri (rt : Option FieldType) : Option g_V → Instr → Prop
  | none, i => rt = none ∧ i = .return_
  | some (.inl x), i => i = .ireturn ∧ ∃ ty, rt = some ty ∧ narrow ty (.int x) = .int x
  | some (.inr (.inl _)), i => i = .lreturn ∧ rt = some .long
  | some (.inr (.inr _)), i => i = .areturn ∧ ∃ ty, rt = some ty ∧ ((∃ n, ty = .object n) ∨ ∃ t, ty = .array t)
def g_R (Y : g_Y) (Z : g_Z) (p : Program) (l : Launch) (e : Env) (R : Room) (s : State) (m : MethodId) (args : Array Value) (below : List Frame) (meth : Method) (c : Code) (D : va_G) (cs : Nat → ClassId) (aK : Nat → Value) (A : Nat → Prop) (ad0 : Nat → Nat) (QS : State → Prop) : Prop :=
  ∀ (H : Heap) (locs : List Loc) (k n pc pc' : Nat) (ls : Array Slot) (v : Option g_V) (h : g_H) (ad : Nat → Nat) (i : Instr), g_D Y pc i 1 pc' → g_ri Y.2.2.2 v i → k ≤ Z.2.1 → n ≤ Z.2.2.1 → g_W D cs ad h A s H locs → g_A Z.2.2.2.1 ad0 ad h.1.length → Z.2.2.2.2.2 v h →
    W p l e R s m args below meth c H locs k n QS (F0 m pc ls (v.toList.map (gc aK ad)))
def Gd (Y : g_Y) (Z : g_Z) (k n pc : Nat) (L : List (Option g_V)) (st : List g_V) (h : g_H) : Prop :=
  ∀ (p : Program) (l : Launch) (e : Env) (R : Room) (s : State) (m : MethodId) (args : Array Value) (below : List Frame) (meth : Method) (c : Code) (D : va_G) (cs : Nat → ClassId) (aK : Nat → Value) (A : Nat → Prop) (ad0 : Nat → Nat) (QS : State → Prop) (H : Heap) (locs : List Loc) (ad : Nat → Nat) (ls : Array Slot),
    g_Cx Y Z p R s m args meth c D cs aK A → g_R Y Z p l e R s m args below meth c D cs aK A ad0 QS → g_W D cs ad h A s H locs → g_A Z.2.2.2.1 ad0 ad h.1.length → g_L aK ad ls Y.2.2.1 L →
    W p l e R s m args below meth c H locs k n QS (F0 m pc ls (st.map (gc aK ad)))
/-- a method's contract: from the heap h and these arguments it comes to an answer and a heap of which Q holds; mc cells of ms slots may come; d frames deep -/
def g_QC (D : va_G) (cs : Nat → ClassId) (aK : Nat → Value) (ad0 : Nat → Nat) (N0 : Nat) (Q : Option g_V → g_H → Prop) (A : Nat → Prop) : Array Value → State → Outcome → State → Prop := fun _ st o t =>
  (∃ (r : Option g_V) (h' : g_H) (ad' : Nat → Nat), o = .returned (r.map (gc aK ad')) ∧ Q r h' ∧ g_A N0 ad0 ad' h'.1.length ∧ va_P D vwCl (g_cw cs ad' h') t.heap ∧ va_D A (g_cw cs ad' h')) ∧ va_F A st t
def g_Pre (D : va_G) (cs : Nat → ClassId) (aK : Nat → Value) (ad : Nat → Nat) (h : g_H) (sz : Nat) (as : List g_V) : Array Value → State → Prop :=
  va_Pc (as.map (gc aK ad)) (fun U => U.heap.size = sz ∧ va_P D vwCl (g_cw cs ad h) U.heap ∧ va_K D vwCl (g_tys cs) U ∧ va_D (fun _ => True) (g_cw cs ad h) ∧ g_S aK (va_A (g_cw cs ad h) sz) U U.heap)
def g_ws (Y : g_Y) : List Cond := Cond.code Y.1 Y.2.1 Y.2.2.1 Y.2.2.2 :: g_T
def g_rm (d mc ms : Nat) : Room := { frames := d, cells := mc, slots := ms, locals := 64 * d }
def Mt (Y : g_Y) (d mc ms : Nat) (as : List g_V) (h : g_H) (Q : Option g_V → g_H → Prop) : Prop :=
  ∀ (l : Launch) (D : va_G) (cs : Nat → ClassId) (aK : Nat → Value) (ad : Nat → Nat) (sz : Nat),
    Met l Y.1 (g_ws Y) (g_rm d mc ms) (g_Pre D cs aK ad h sz as) (g_QC D cs aK ad h.1.length Q (va_A (g_cw cs ad h) sz)) mc ms (va_A (g_cw cs ad h) sz)
theorem g_Pre_blind {D : va_G} {cs : Nat → ClassId} {aK : Nat → Value} {ad : Nat → Nat} {h : g_H} {sz : Nat} {as : List g_V} : FrameBlind (g_Pre D cs aK ad h sz as) := by
  intro a U g mk q
  obtain ⟨q0, q1, q2, q3, q4, q5⟩ := q
  exact ⟨q0, q1, q2, va_K.moved (u := U) (U := U.calling g mk a) (Vm.Alike.refl U.vm) q3, q4, g_S_blind q5⟩
