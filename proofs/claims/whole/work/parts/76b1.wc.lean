/-! the class alone, while the reference is not yet there: places 0 .. 46 -/
def WC (sh : List (Nat × Nat)) (r : Nat → Nat → Option Nat) : Prop := (∀ (k : Nat) (x : Nat × Nat), k < 47 → SHW[k]? = some x → sh[k]? = some x) ∧ ∀ q ∈ RTL, q.1 < 47 → r q.1 q.2.1 = some q.2.2
section WC
variable {sh : List (Nat × Nat)} {r : Nat → Nat → Option Nat}
theorem WC_of (h : WD sh r) : WC sh r := ⟨fun k x _ hx => h.1 k x hx, fun q hq _ => h.2 q hq⟩
theorem V_s25 (hW : WC sh r) : sh[25]? = some (2, 11) := hW.1 25 _ (by decide) rfl
theorem V_s26 (hW : WC sh r) : sh[26]? = some (20, 160) := hW.1 26 _ (by decide) rfl
theorem V_s27 (hW : WC sh r) : sh[27]? = some (20, 161) := hW.1 27 _ (by decide) rfl
theorem V_s28 (hW : WC sh r) : sh[28]? = some (20, 161) := hW.1 28 _ (by decide) rfl
theorem V_s29 (hW : WC sh r) : sh[29]? = some (20, 160) := hW.1 29 _ (by decide) rfl
theorem V_s30 (hW : WC sh r) : sh[30]? = some (20, 4) := hW.1 30 _ (by decide) rfl
theorem V_s46 (hW : WC sh r) : sh[46]? = some (20, 40) := hW.1 46 _ (by decide) rfl
theorem V_r25_0 (hW : WC sh r) : r 25 0 = some 26 := hW.2 _ (List.mem_of_getElem? (i := 29) rfl) (by decide)
theorem V_r25_2 (hW : WC sh r) : r 25 2 = some 27 := hW.2 _ (List.mem_of_getElem? (i := 30) rfl) (by decide)
theorem V_r25_3 (hW : WC sh r) : r 25 3 = some 28 := hW.2 _ (List.mem_of_getElem? (i := 31) rfl) (by decide)
theorem V_r25_8 (hW : WC sh r) : r 25 8 = some 29 := hW.2 _ (List.mem_of_getElem? (i := 32) rfl) (by decide)
theorem V_r25_10 (hW : WC sh r) : r 25 10 = some 30 := hW.2 _ (List.mem_of_getElem? (i := 33) rfl) (by decide)
theorem WC_nw {x : Nat × Nat} (hW : WC sh r) : WC (sh ++ [x]) (va_up r sh.length (fun _ => none)) := by
  have h46 := (List.getElem?_eq_some_iff.mp (V_s46 hW)).1
  refine ⟨fun k y hk hy => ?_, fun q hq hk => ?_⟩
  · rw [List.getElem?_append_left (by omega)]; exact hW.1 k y hk hy
  · rw [va_up_n _ _ (by omega)]
    exact hW.2 q hq hk
end WC
theorem y_radd {sh : List (Nat × Nat)} {a : Nat → Nat → Int32} {r : Nat → Nat → Option Nat} {g : Nat → Nat → Int64} (hW : WC sh r) {m v : Nat} (h8 : a 25 1 = nI m) (hm : m < 160) : Mt YX2_add 0 0 0 [vr 25, vi (nI v)] (sh, a, r, g) (g_P none (sh, up2 (up2 a 26 m (nI v)) 25 1 (nI (m + 1)), r, g)) := by
  refine Mt_of rfl (Nat.le_of_ble_eq_true rfl) rfl ?_
  refine Gd_aload_n (i := 0) rfl eX2_add_0 ?_
  refine Gd_getIe (v := nI (m)) fl_RX2_15 (V_s25 hW) (h8 :) eX2_add_1 ?_
  refine Gd_sipush ks_160 eX2_add_4 ?_
  refine Gd_icmp_geN (by first | omega | decide) (by first | omega | decide) eX2_add_7 (fun c7 => ?_) (fun c7 => ?_)
  · exact absurd c7 (by omega)
  · refine Gd_aload_n (i := 0) rfl eX2_add_10 ?_
    refine Gd_getR fl_RX2_9 (V_s25 hW) (V_r25_0 hW) eX2_add_11 ?_
    refine Gd_aload_n (i := 0) rfl eX2_add_14 ?_
    refine Gd_getIe (v := nI (m)) fl_RX2_15 (V_s25 hW) (h8 :) eX2_add_15 ?_
    refine Gd_iload_n (i := 1) rfl eX2_add_18 ?_
    refine Gd_iastN (V_s26 hW) (by first | omega | decide) eX2_add_19 ?_
    refine Gd_aload_n (i := 0) rfl eX2_add_20 ?_
    refine Gd_dup rfl eX2_add_21 ?_
    refine Gd_getIe (v := nI (m)) fl_RX2_15 (V_s25 hW) (h8 :) eX2_add_22 ?_
    refine Gd_iconst ki_1 eX2_add_25 ?_
    refine Gd_iaddN eX2_add_26 ?_
    refine Gd_putI fl_RX2_15 (V_s25 hW) eX2_add_27 ?_
    exact Gd_return eX2_add_30 rfl (Nat.le_refl _) (Nat.le_refl _) ⟨rfl, rfl⟩
