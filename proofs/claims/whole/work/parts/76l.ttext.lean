-- the class's new text
/-- what a new text leaves -/
def TAt (n : Nat) (sh : List (Nat × Nat)) (a : Nat → Nat → Int32) (r : Nat → Nat → Option Nat) (g : Nat → Nat → Int64) (h' : g_H) : Prop :=
  ∃ (a' : Nat → Nat → Int32) (r' : Nat → Nat → Option Nat) (g' : Nat → Nat → Int64), h' = (sh ++ [(5, 2)] ++ [(20, n)] ++ [(20, 4)], a', r', g') ∧ (∀ k, k < sh.length → a' k = a k) ∧ (∀ k, k < sh.length → r' k = r k) ∧ (∀ k, k < sh.length → g' k = g k) ∧ r' sh.length 0 = some (sh.length + 1) ∧ r' sh.length 1 = some (sh.length + 2) ∧ (∀ i, i < n → a' (sh.length + 1) i = a 29 i) ∧ a' (sh.length + 2) = a 30 ∧ g_okR (sh.length + 3) r'
theorem x_asText {sh : List (Nat × Nat)} {a : Nat → Nat → Int32} {r : Nat → Nat → Option Nat} {g : Nat → Nat → Int64} {n : Nat} (hW : WC sh r) (h9 : a 25 9 = nI n) (hn : n ≤ 160) (okr : g_okR sh.length r) : Mt YX2_asText 2 3 (n + 6) [vr 25] (sh, a, r, g) (fun v h' => v = some (vr sh.length) ∧ TAt n sh a r g h') := by
  have h70 := sh_lt (V_s46 hW)
  have hl1 : (sh ++ [(5, 2)]).length = sh.length + 1 := by simp
  have okl : ∀ N, 25 < N → g_okL N [some (vr 25)] := fun N hN => g_okL_of (by simp; omega)
  have hW1 : WC (sh ++ [(5, 2)]) (va_up r sh.length (fun _ => none)) := WC_nw hW
  refine Mt_of rfl (Nat.le_of_ble_eq_true rfl) rfl ?_
  refine Gd_new (c := 5) (nf := 2) (CC := RX5) (T := TX5) rfl (by decide) (by decide) (Nat.le_of_ble_eq_true rfl) (by show 0 + 2 ≤ n + 6; omega) okr (okl _ (by omega)) (fun v hv => by cases hv) lc_RX2_57 wm_RX5 wi_RX5 eX2_asText_0 ?_
  rw [show g_nw (sh, a, r, g) (5, 2) = (sh ++ [(5, 2)], va_up a sh.length (fun _ => 0), va_up r sh.length (fun _ => none), va_up g sh.length (fun _ => 0)) from rfl]
  refine Gd_dup rfl eX2_asText_3 ?_
  refine Gd_aload_n (i := 0) rfl eX2_asText_4 ?_
  refine Gd_getR fl_RX2_37 (V_s25 hW1) (V_r25_8 hW1) eX2_asText_5 ?_
  refine Gd_aload_n (i := 0) rfl eX2_asText_8 ?_
  refine Gd_getIe (v := nI n) fl_RX2_40 (V_s25 hW1) (by rw [va_up_n _ _ (by omega)]; exact h9) eX2_asText_9 ?_
  refine Gd_aload_n (i := 0) rfl eX2_asText_12 ?_
  refine Gd_getR fl_RX2_43 (V_s25 hW1) (V_r25_10 hW1) eX2_asText_13 ?_
  refine g_call1 (g_cI (x_tinit (o := sh.length) (n := n) (g_sh_last _ _) (V_s29 hW1) (V_s30 hW1) hn (by rw [hl1]; exact okR_nw okr)) ok_X5_init lk_RX2_59 rfl rfl (Nat.le_of_ble_eq_true rfl) (Nat.le_of_ble_eq_true rfl) (Nat.le_of_ble_eq_true rfl) (by show 0 + 2 + (n + 4) ≤ n + 6; omega) eX2_asText_16) (okl _ (by show 25 < (sh ++ [(5, 2)]).length; omega)) (fun v hv => by rw [List.mem_singleton.mp hv]; show _ < _; simp) (fun v h' hq => ?_)
  obtain ⟨rfl, a', r', g', rfl, q1, q2, q3, q4, q5, q6, q7, q8⟩ := hq
  rw [hl1] at q1 q2 q3 q4 q5 q6 q7 q8
  refine Gd_areturn eX2_asText_19 rfl (Nat.le_refl _) (by show 0 + 2 + (n + 4) ≤ n + 6; omega) ⟨rfl, a', r', g', rfl, fun k hk => ?_, fun k hk => ?_, fun k hk => ?_, q4, q5, fun i hi => ?_, ?_, q8⟩
  · rw [q1 k (by omega), va_up_n _ _ (by omega)]
  · rw [q2 k (by omega) (by omega), va_up_n _ _ (by omega)]
  · rw [q3 k (by omega), va_up_n _ _ (by omega)]
  · rw [q6 i hi, va_up_n _ _ (by omega)]
  · rw [q7, va_up_n _ _ (by omega)]
theorem x_tadd {sh : List (Nat × Nat)} {a : Nat → Nat → Int32} {r : Nat → Nat → Option Nat} {g : Nat → Nat → Int64} {o nt : Nat} (h31 : sh[31]? = some (3, 4)) (h32 : sh[32]? = some (22, 6)) (hr : r 31 0 = some 32) (ho : sh[o]? = some (5, 2)) (hnt : a 31 1 = nI nt) (hn : nt < 6) : Mt YX3_add 0 0 0 [vr 31, vr o] (sh, a, r, g) (g_P (some (vi (nI nt))) (sh, up2 a 31 1 (nI (nt + 1)), upR r 32 nt (some o), g)) := by
  refine Mt_of rfl (Nat.le_of_ble_eq_true rfl) rfl ?_
  refine Gd_aload_n (i := 0) rfl eX3_add_0 ?_
  refine Gd_getR fl_RX3_11 h31 hr eX3_add_1 ?_
  refine Gd_aload_n (i := 0) rfl eX3_add_4 ?_
  refine Gd_getIe (v := nI nt) fl_RX3_17 h31 hnt eX3_add_5 ?_
  refine Gd_aload_n (i := 1) rfl eX3_add_8 ?_
  refine Gd_aast (t := 2) (ci := 5) (Or.inr ⟨rfl, rfl, rfl⟩) h32 ho (vp_in_nI hn (by decide)) eX3_add_9 ?_
  rw [nI_clamp (by omega)]
  refine Gd_aload_n (i := 0) rfl eX3_add_10 ?_
  refine Gd_dup rfl eX3_add_11 ?_
  refine Gd_getIe (v := nI nt) fl_RX3_17 h31 hnt eX3_add_12 ?_
  refine Gd_iconst ki_1 eX3_add_15 ?_
  refine Gd_iaddN eX3_add_16 ?_
  refine Gd_putI fl_RX3_17 h31 eX3_add_17 ?_
  refine Gd_aload_n (i := 0) rfl eX3_add_20 ?_
  refine Gd_getIe (v := nI (nt + 1)) fl_RX3_17 h31 (up2_s _ _ _ _) eX3_add_21 ?_
  refine Gd_iconst ki_1 eX3_add_24 ?_
  refine Gd_isubN (by omega) eX3_add_25 ?_
  exact Gd_ireturn eX3_add_26 rfl (Nat.le_refl _) (Nat.le_refl _) ⟨rfl, rfl⟩
