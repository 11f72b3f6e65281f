-- a text is laid down: its codes copied, its starts cloned
theorem g_okL_of {N : Nat} {L : List (Option g_V)} (h : L.all (fun v => match v with
    | some (.inr (.inr (.inl (some p)))) => decide (p < N)
    | _ => true) = true) : g_okL N L := by
  intro v hv
  have h1 := List.all_eq_true.mp h _ hv
  rcases v with x | x | x | x
  · trivial
  · trivial
  · cases x with
    | none => trivial
    | some p => exact (of_decide_eq_true h1 : p < N)
  · trivial
theorem sh_app {sh t : List (Nat × Nat)} {k : Nat} {x : Nat × Nat} (h : sh[k]? = some x) : (sh ++ t)[k]? = some x := by
  rw [List.getElem?_append_left (List.getElem?_eq_some_iff.mp h).1]; exact h
theorem sh_lt {sh : List (Nat × Nat)} {k : Nat} {x : Nat × Nat} (h : sh[k]? = some x) : k < sh.length := (List.getElem?_eq_some_iff.mp h).1
theorem okR_nw {N : Nat} {r : Nat → Nat → Option Nat} (h : g_okR N r) : g_okR (N + 1) (va_up r N (fun _ => none)) := fun x y p q => by
  simp only [va_up] at q
  split at q
  · cases q
  · exact Nat.lt_succ_of_lt (h x y p q)
theorem okR_up {N b j v : Nat} {r : Nat → Nat → Option Nat} (h : g_okR N r) (hv : v < N) : g_okR N (upR r b j (some v)) := fun x y p q => by
  simp only [upR] at q
  split at q
  · split at q
    · cases q; exact hv
    · exact h x y p q
  · exact h x y p q
/-- what a text's laying down leaves: rows N and N + 1 new, o's two references -/
def TNw (o n : Nat) (sh : List (Nat × Nat)) (a : Nat → Nat → Int32) (r : Nat → Nat → Option Nat) (g : Nat → Nat → Int64) (h' : g_H) : Prop :=
  ∃ (a' : Nat → Nat → Int32) (r' : Nat → Nat → Option Nat) (g' : Nat → Nat → Int64), h' = (sh ++ [(20, n)] ++ [(20, 4)], a', r', g') ∧ (∀ k, k < sh.length → a' k = a k) ∧ (∀ k, k < sh.length → k ≠ o → r' k = r k) ∧ (∀ k, k < sh.length → g' k = g k) ∧ r' o 0 = some sh.length ∧ r' o 1 = some (sh.length + 1) ∧ (∀ i, i < n → a' sh.length i = a 29 i) ∧ a' (sh.length + 1) = a 30 ∧ g_okR (sh.length + 2) r'
theorem x_tinit {sh : List (Nat × Nat)} {a : Nat → Nat → Int32} {r : Nat → Nat → Option Nat} {g : Nat → Nat → Int64} {o n : Nat} (ho : sh[o]? = some (5, 2)) (h29 : sh[29]? = some (20, 160)) (h30 : sh[30]? = some (20, 4)) (hn : n ≤ 160) (okr : g_okR sh.length r) : Mt YX5_init 1 2 (n + 4) [vr o, vr 29, vi (nI n), vr 30] (sh, a, r, g) (fun v h' => v = none ∧ TNw o n sh a r g h') := by
  have lo := sh_lt ho
  have l29 := sh_lt h29
  have l30 := sh_lt h30
  have okl : ∀ M, sh.length ≤ M → g_okL M [some (vr o), some (vr 29), some (vi (nI n)), some (vr 30)] := fun M hM => g_okL_of (by simp; omega)
  have oks : ∀ M, sh.length ≤ M → g_okS M [vr o] := fun M hM v hv => by
    rw [List.mem_singleton.mp hv]; show o < M; omega
  refine Mt_of rfl (Nat.le_of_ble_eq_true rfl) rfl ?_
  refine Gd_aload_n (i := 0) rfl eX5_init_0 ?_
  refine Gd_objInit (q := o) rfl lk_RX5_1 wo_1 wo_2 (Nat.le_of_ble_eq_true rfl) (Nat.le_of_ble_eq_true rfl) eX5_init_1 ?_
  refine Gd_aload_n (i := 0) rfl eX5_init_4 ?_
  refine Gd_iload_n (i := 2) rfl eX5_init_5 ?_
  refine Gd_newa (N' := n) (nI_lt0 (by omega)) (nI_clamp (by omega)) (by omega) (Nat.le_of_ble_eq_true rfl) (by show 0 + n ≤ n + 4; omega) okr (okl _ (Nat.le_refl _)) (oks _ (Nat.le_refl _)) wy_1 eX5_init_6 ?_
  rw [show g_nw (sh, a, r, g) (20, n) = (sh ++ [(20, n)], va_up a sh.length (fun _ => 0), va_up r sh.length (fun _ => none), va_up g sh.length (fun _ => 0)) from rfl]
  refine Gd_putR fl_RX5_7 rfl (fun C T q => by cases q; rfl) (sh_app ho) eX5_init_8 ?_
  refine Gd_aload_n (i := 1) rfl eX5_init_11 ?_
  refine Gd_iconst ki_0 eX5_init_12 ?_
  refine Gd_aload_n (i := 0) rfl eX5_init_13 ?_
  refine Gd_getR fl_RX5_7 (sh_app ho) (show upR (va_up r sh.length (fun _ => none)) o 0 (some sh.length) o 0 = some sh.length by simp [upR]) eX5_init_14 ?_
  refine Gd_iconst ki_0 eX5_init_17 ?_
  refine Gd_iload_n (i := 2) rfl eX5_init_18 ?_
  refine Gd_copy (m0 := 160) (m1 := n) (sh_app h29) (g_sh_last _ _) (by decide) (by decide) (nI_lt0 (by omega)) (by rw [nI_clamp (by omega), nI_clamp (by omega)]; omega) (by rw [nI_clamp (by omega), nI_clamp (by omega)]; omega) lk_RX5_13 wa_1 wa_2 wa_3 (Nat.le_of_ble_eq_true rfl) (Nat.le_of_ble_eq_true rfl) eX5_init_19 ?_
  refine Gd_aload_n (i := 0) rfl eX5_init_22 ?_
  refine Gd_aload_n (i := 3) rfl eX5_init_23 ?_
  have hl1 : (sh ++ [(20, n)]).length = sh.length + 1 := by simp
  have okr1 : g_okR (sh.length + 1) (upR (va_up r sh.length (fun _ => none)) o 0 (some sh.length)) := okR_up (okR_nw okr) (by omega)
  refine Gd_clone (m0 := 4) (sh_app h30) (Nat.le_of_ble_eq_true rfl) (by show 0 + n + 4 ≤ n + 4; omega) (by rw [hl1]; exact okr1) (by rw [hl1]; exact okl _ (by omega)) (by rw [hl1]; exact oks _ (by omega)) lk_RX5_19 wc_1 wc_2 wc_3 wc_4 (Nat.le_of_ble_eq_true rfl) (Nat.le_of_ble_eq_true rfl) eX5_init_24 ?_
  rw [hl1]
  refine Gd_castI (m0 := 4) (by rw [← hl1]; exact g_sh_last _ _) lc_RX5_20 eX5_init_27 ?_
  refine Gd_putR fl_RX5_24 rfl (fun C T q => by cases q; rfl) (sh_app (sh_app ho)) eX5_init_30 ?_
  refine Gd_return eX5_init_33 rfl (Nat.le_refl _) (by show 0 + n + 4 ≤ n + 4; omega) ⟨rfl, _, _, _, rfl, fun k hk => ?_, fun k hk hko => ?_, fun k hk => ?_, ?_, ?_, fun i hi => ?_, ?_, ?_⟩
  · rw [va_up_n _ _ (by omega), va_up_n _ _ (by omega), va_up_n _ _ (by omega)]
  · funext j
    simp only [upR, if_neg hko]
    rw [va_up_n _ _ (by omega)]
    simp only [upR, if_neg hko]
    rw [va_up_n _ _ (by omega)]
  · rw [va_up_n _ _ (by omega), va_up_n _ _ (by omega)]
  · simp only [upR, if_true]
    rw [if_neg (by decide), va_up_n _ _ (by omega)]
    simp [upR]
  · simp [upR]
  · rw [va_up_n _ _ (by omega), va_up_s]
    rw [va_cpy, if_pos ⟨Nat.zero_le _, by show i < 0 + (nI n).toNatClampNeg; rw [nI_clamp (by omega)]; omega⟩, va_up_n _ _ (by omega)]
    show a 29 (0 + (i - 0)) = _
    rw [Nat.sub_zero, Nat.zero_add]
  · rw [va_up_s, va_up_n _ _ (by omega), va_up_n _ _ (by omega)]
  · exact okR_up (okR_nw okr1) (by omega)
