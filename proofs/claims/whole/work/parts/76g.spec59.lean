/-- the class's reader stands so -/
def PSx (tq pl : Nat → Nat) (M : Nat) (s : g_Ps) (a : Nat → Nat → Int32) : Prop := PT tq pl M a ∧ a 25 5 = nI s.1 ∧ a 25 6 = nI (ptk tq s) ∧ a 25 7 = (if s.2.1 = 0 then -1 else nI (s.2.1 - 1)) ∧ a 25 9 = nI s.2.2.1 ∧ (∀ i, i < s.2.2.1 → a 29 i = xcd (s.2.2.2 i)) ∧ s.1 ≤ M ∧ s.2.2.1 ≤ 160
def scJ (k j : Nat) : Bool := decide (k = 29) || (decide (k = 25) && decide (j = 5 ∨ j = 6 ∨ j = 7 ∨ j = 9))
theorem PT_J {S : Nat → Nat → Bool} {tq pl : Nat → Nat} {M : Nat} {a a' : Nat → Nat → Int32} (h : PT tq pl M a) (hc : chg S a a') (h4 : S 25 4 = false) (h7 : ∀ j, S 27 j = false) (h8 : ∀ j, S 28 j = false) : PT tq pl M a' := ⟨(hc _ _ h4).trans h.1, fun j hj => ⟨(hc _ _ (h7 j)).trans (h.2 j hj).1, (hc _ _ (h8 j)).trans (h.2 j hj).2⟩⟩
theorem PT_u {tq pl : Nat → Nat} {M : Nat} {a a' : Nat → Nat → Int32} (h : PT tq pl M a) (hc : chg scJ a a') : PT tq pl M a' := PT_J h hc rfl (fun _ => rfl) (fun _ => rfl)
theorem xcd_opc {t : Nat} (h : 100 ≤ t) (h2 : t < 10106) : xcd (opc t) = nI (t - 100) := by
  by_cases e : t < 10100
  · rw [opc, if_pos e, xcd_no (by omega)]
    rw [show 100000 + (t - 100) - 100000 = t - 100 by omega]
  · rw [opc, if_neg e, xcd_nm (by omega)]
    rw [show 10000 + (t - 10100) = t - 100 by omega]
theorem xcd_sg {t : Nat} (h : rkx t ≠ 9) : xcd (sgc t) = -(nI t) := by
  rcases rkx_c h with rfl | rfl | rfl | rfl | rfl | rfl | rfl <;> decide
def rki (t : Nat) : Int32 := if rkx t = 9 then -1 else nI (rkx t)
theorem rki_eq {t r : Nat} (hr : r ≤ 4) : rki t = nI r ↔ rkx t = r := by
  have hl : rkx t ≤ 9 := by simp only [rkx]; repeat' split
                            all_goals decide
  rw [rki]
  split
  · next h => rw [h]; exact ⟨fun z => absurd z.symm (nI_nem1 (by omega)), fun z => by omega⟩
  · exact ⟨fun z => nI_inj (by omega) (by omega) z, fun z => by rw [z]⟩
theorem x_advance {sh : List (Nat × Nat)} {a : Nat → Nat → Int32} {r : Nat → Nat → Option Nat} {g : Nat → Nat → Int64} {tq pl : Nat → Nat} {M : Nat} (hW : WC sh r) (hM : M ≤ 160) (htq : ∀ j, tq j < 10106) (hpl : ∀ j, pl j ≤ 160) {k n : Nat} {c : Nat → Nat} (hS : PSx tq pl M (k, 0, n, c) a) : Mt YX2_advance 0 0 0 [vr 25] (sh, a, r, g) (g_E0 sh r g (fun a' => PSx tq pl M (pav M (k, 0, n, c)) a' ∧ chg scJ a a')) := by
  refine Mt_of rfl (Nat.le_of_ble_eq_true rfl) rfl ?_
  have hkM : k ≤ M := hS.2.2.2.2.2.2.1
  refine Gd_aload_n (i := 0) rfl eX2_advance_0 ?_
  refine Gd_getIe (v := nI (k)) fl_RX2_28 (V_s25 hW) (hS.2.1 :) eX2_advance_1 ?_
  refine Gd_aload_n (i := 0) rfl eX2_advance_4 ?_
  refine Gd_getIe (v := nI (M + 1)) fl_RX2_25 (V_s25 hW) (hS.1.1 :) eX2_advance_5 ?_
  refine Gd_iconst ki_1 eX2_advance_8 ?_
  refine Gd_isubN (by first | omega | decide) eX2_advance_9 ?_
  refine Gd_icmp_geN (by first | omega | decide) (by first | omega | decide) eX2_advance_10 (fun c10 => ?_) (fun c10 => ?_)
  · refine Gd_aload_n (i := 0) rfl eX2_advance_23 ?_
    refine Gd_aload_n (i := 0) rfl eX2_advance_24 ?_
    refine Gd_getR fl_RX2_19 (V_s25 hW) (V_r25_2 hW) eX2_advance_25 ?_
    refine Gd_aload_n (i := 0) rfl eX2_advance_28 ?_
    refine Gd_getIe (v := nI (k)) fl_RX2_28 (V_s25 hW) (hS.2.1 :) eX2_advance_29 ?_
    refine Gd_ialdE (v := nI (tq k)) (V_s27 hW) (by first | omega | decide) ((hS.1.2 k (by omega)).1 :) eX2_advance_32 ?_
    refine Gd_putI fl_RX2_31 (V_s25 hW) eX2_advance_33 ?_
    exact Gd_return eX2_advance_36 rfl (Nat.le_refl _) (Nat.le_refl _) ⟨_, rfl, rfl, by rw [pav, if_neg (by omega)]; exact ⟨PT_u hS.1 (chg_up chg_rf rfl), hS.2.1, by rw [ptk_0]; exact up2_s _ _ _ _, hS.2.2.2.1, hS.2.2.2.2.1, hS.2.2.2.2.2.1, hS.2.2.2.2.2.2.1, hS.2.2.2.2.2.2.2⟩, chg_up chg_rf rfl⟩
  · refine Gd_aload_n (i := 0) rfl eX2_advance_13 ?_
    refine Gd_dup rfl eX2_advance_14 ?_
    refine Gd_getIe (v := nI (k)) fl_RX2_28 (V_s25 hW) (hS.2.1 :) eX2_advance_15 ?_
    refine Gd_iconst ki_1 eX2_advance_18 ?_
    refine Gd_iaddN eX2_advance_19 ?_
    refine Gd_putI fl_RX2_28 (V_s25 hW) eX2_advance_20 ?_
    refine Gd_aload_n (i := 0) rfl eX2_advance_23 ?_
    refine Gd_aload_n (i := 0) rfl eX2_advance_24 ?_
    refine Gd_getR fl_RX2_19 (V_s25 hW) (V_r25_2 hW) eX2_advance_25 ?_
    refine Gd_aload_n (i := 0) rfl eX2_advance_28 ?_
    refine Gd_getIe (v := nI (k + 1)) fl_RX2_28 (V_s25 hW) (up2_s _ _ _ _ :) eX2_advance_29 ?_
    refine Gd_ialdE (v := nI (tq (k + 1))) (V_s27 hW) (by first | omega | decide) ((hS.1.2 (k + 1) (by omega)).1 :) eX2_advance_32 ?_
    refine Gd_putI fl_RX2_31 (V_s25 hW) eX2_advance_33 ?_
    exact Gd_return eX2_advance_36 rfl (Nat.le_refl _) (Nat.le_refl _) ⟨_, rfl, rfl, by rw [pav, if_pos (by show k < M; omega)]; exact ⟨PT_u hS.1 (chg_up (chg_up chg_rf rfl) rfl), by simp [up2], by rw [ptk_0]; exact up2_s _ _ _ _, hS.2.2.2.1, hS.2.2.2.2.1, hS.2.2.2.2.2.1, by show k + 1 ≤ M; omega, hS.2.2.2.2.2.2.2⟩, chg_up (chg_up chg_rf rfl) rfl⟩
theorem x_fail0 {sh : List (Nat × Nat)} {a : Nat → Nat → Int32} {r : Nat → Nat → Option Nat} {g : Nat → Nat → Int64} {tq pl : Nat → Nat} {M : Nat} (hW : WC sh r) (hM : M ≤ 160) (htq : ∀ j, tq j < 10106) (hpl : ∀ j, pl j ≤ 160) {k n : Nat} {c : Nat → Nat} (hS : PSx tq pl M (k, 0, n, c) a) : Mt YX2_fail 0 0 0 [vr 25] (sh, a, r, g) (g_E0 sh r g (fun a' => PSx tq pl M (pfl pl (k, 0, n, c)) a' ∧ chg scJ a a')) := by
  refine Mt_of rfl (Nat.le_of_ble_eq_true rfl) rfl ?_
  have hkM : k ≤ M := hS.2.2.2.2.2.2.1
  have h7 : a 25 7 = -1 := hS.2.2.2.1
  refine Gd_aload_n (i := 0) rfl eX2_fail_0 ?_
  refine Gd_getIe fl_RX2_34 (V_s25 hW) (h7 :) eX2_fail_1 ?_
  refine Gd_iconst ki_m1 eX2_fail_4 ?_
  refine Gd_icmp_ne eX2_fail_5 (fun q => by first | exact absurd q (by decide) | exact absurd (by decide) q) (fun _ => ?_)
  refine Gd_aload_n (i := 0) rfl eX2_fail_8 ?_
  refine Gd_aload_n (i := 0) rfl eX2_fail_9 ?_
  refine Gd_getR fl_RX2_22 (V_s25 hW) (V_r25_3 hW) eX2_fail_10 ?_
  refine Gd_aload_n (i := 0) rfl eX2_fail_13 ?_
  refine Gd_getIe (v := nI (k)) fl_RX2_28 (V_s25 hW) (hS.2.1 :) eX2_fail_14 ?_
  refine Gd_ialdE (v := nI (pl k)) (V_s28 hW) (by first | omega | decide) ((hS.1.2 k (by omega)).2 :) eX2_fail_17 ?_
  refine Gd_putI fl_RX2_34 (V_s25 hW) eX2_fail_18 ?_
  refine Gd_aload_n (i := 0) rfl eX2_fail_21 ?_
  refine Gd_iconst ki_1 eX2_fail_22 ?_
  refine Gd_putI fl_RX2_31 (V_s25 hW) eX2_fail_23 ?_
  exact Gd_return eX2_fail_26 rfl (Nat.le_refl _) (Nat.le_refl _) ⟨_, rfl, rfl, by rw [pfl_0]; exact ⟨PT_u hS.1 (chg_up (chg_up chg_rf rfl) rfl), hS.2.1, by rw [ptk_f (by show pl k + 1 ≠ 0; omega)]; exact up2_s _ _ _ _, by show _ = (if pl k + 1 = 0 then -1 else nI (pl k + 1 - 1)); rw [if_neg (by omega), Nat.add_sub_cancel]; simp [up2], hS.2.2.2.2.1, hS.2.2.2.2.2.1, hkM, hS.2.2.2.2.2.2.2⟩, chg_up (chg_up chg_rf rfl) rfl⟩
theorem PS_same {tq pl : Nat → Nat} {M : Nat} {s : g_Ps} {a : Nat → Nat → Int32} (hS : PSx tq pl M s a) (hf : s.2.1 ≠ 0) : PSx tq pl M s (up2 a 25 6 (nI 1)) := by
  refine ⟨PT_u hS.1 (chg_up chg_rf rfl), hS.2.1, ?_, hS.2.2.2.1, hS.2.2.2.2.1, hS.2.2.2.2.2.1, hS.2.2.2.2.2.2.1, hS.2.2.2.2.2.2.2⟩
  rw [ptk_f hf]; exact up2_s _ _ _ _
theorem x_failf {sh : List (Nat × Nat)} {a : Nat → Nat → Int32} {r : Nat → Nat → Option Nat} {g : Nat → Nat → Int64} {tq pl : Nat → Nat} {M : Nat} (hW : WC sh r) (hM : M ≤ 160) (htq : ∀ j, tq j < 10106) (hpl : ∀ j, pl j ≤ 160) {s : g_Ps} (hf : s.2.1 ≠ 0) (hf2 : s.2.1 ≤ 161) (hS : PSx tq pl M s a) : Mt YX2_fail 0 0 0 [vr 25] (sh, a, r, g) (g_E0 sh r g (fun a' => PSx tq pl M (pfl pl s) a' ∧ chg scJ a a')) := by
  refine Mt_of rfl (Nat.le_of_ble_eq_true rfl) rfl ?_
  have h7 : a 25 7 = nI (s.2.1 - 1) := hS.2.2.2.1.trans (if_neg hf)
  refine Gd_aload_n (i := 0) rfl eX2_fail_0 ?_
  refine Gd_getIe fl_RX2_34 (V_s25 hW) (h7 :) eX2_fail_1 ?_
  refine Gd_iconst ki_m1 eX2_fail_4 ?_
  refine Gd_icmp_ne eX2_fail_5 (fun c5 => ?_) (fun c5 => ?_)
  · refine Gd_aload_n (i := 0) rfl eX2_fail_21 ?_
    refine Gd_iconst ki_1 eX2_fail_22 ?_
    refine Gd_putI fl_RX2_31 (V_s25 hW) eX2_fail_23 ?_
    exact Gd_return eX2_fail_26 rfl (Nat.le_refl _) (Nat.le_refl _) ⟨_, rfl, rfl, by rw [pfl_f hf]; exact PS_same hS hf, chg_up chg_rf rfl⟩
  · exact absurd c5 (nI_nem1 (by omega))
theorem x_emit {sh : List (Nat × Nat)} {a : Nat → Nat → Int32} {r : Nat → Nat → Option Nat} {g : Nat → Nat → Int64} {tq pl : Nat → Nat} {M : Nat} (hW : WC sh r) (hM : M ≤ 160) (htq : ∀ j, tq j < 10106) (hpl : ∀ j, pl j ≤ 160) {s : g_Ps} {v : Nat} {vv : Int32} (hv : vv = xcd v) (hS : PSx tq pl M s a) : Mt YX2_emit 0 0 0 [vr 25, vi vv] (sh, a, r, g) (g_E0 sh r g (fun a' => PSx tq pl M (pem v s) a' ∧ chg scJ a a')) := by
  refine Mt_of rfl (Nat.le_of_ble_eq_true rfl) rfl ?_
  have hn : s.2.2.1 ≤ 160 := hS.2.2.2.2.2.2.2
  refine Gd_aload_n (i := 0) rfl eX2_emit_0 ?_
  refine Gd_getIe (v := nI (s.2.2.1)) fl_RX2_40 (V_s25 hW) (hS.2.2.2.2.1 :) eX2_emit_1 ?_
  refine Gd_sipush ks_160 eX2_emit_4 ?_
  refine Gd_icmp_geN (by first | omega | decide) (by first | omega | decide) eX2_emit_7 (fun c7 => ?_) (fun c7 => ?_)
  · exact Gd_return eX2_emit_30 rfl (Nat.le_refl _) (Nat.le_refl _) ⟨a, rfl, rfl, by rw [pem, if_neg (by show ¬ s.2.2.1 < 160; omega)]; exact hS, chg_rf⟩
  · refine Gd_aload_n (i := 0) rfl eX2_emit_10 ?_
    refine Gd_getR fl_RX2_37 (V_s25 hW) (V_r25_8 hW) eX2_emit_11 ?_
    refine Gd_aload_n (i := 0) rfl eX2_emit_14 ?_
    refine Gd_getIe (v := nI (s.2.2.1)) fl_RX2_40 (V_s25 hW) (hS.2.2.2.2.1 :) eX2_emit_15 ?_
    refine Gd_iload_n (i := 1) rfl eX2_emit_18 ?_
    refine Gd_iastN (V_s29 hW) (by first | omega | decide) eX2_emit_19 ?_
    refine Gd_aload_n (i := 0) rfl eX2_emit_20 ?_
    refine Gd_dup rfl eX2_emit_21 ?_
    refine Gd_getIe (v := nI (s.2.2.1)) fl_RX2_40 (V_s25 hW) (hS.2.2.2.2.1 :) eX2_emit_22 ?_
    refine Gd_iconst ki_1 eX2_emit_25 ?_
    refine Gd_iaddN eX2_emit_26 ?_
    refine Gd_putI fl_RX2_40 (V_s25 hW) eX2_emit_27 ?_
    exact Gd_return eX2_emit_30 rfl (Nat.le_refl _) (Nat.le_refl _) ⟨_, rfl, rfl, by rw [pem, if_pos (by show s.2.2.1 < 160; omega)]; exact ⟨PT_u hS.1 (chg_up (chg_up chg_rf rfl) rfl), hS.2.1, hS.2.2.1, hS.2.2.2.1, up2_s _ _ _ _, fun i hi => (by show (if i = s.2.2.1 then vv else a 29 i) = xcd (va_up s.2.2.2 s.2.2.1 v i); by_cases e : i = s.2.2.1; exact (if_pos e).trans (by rw [e, va_up_s]; exact hv); exact (if_neg e).trans (by rw [va_up_n _ _ e]; exact hS.2.2.2.2.2.1 i (by have : i < s.2.2.1 + 1 := hi; omega))), hS.2.2.2.2.2.2.1, by show s.2.2.1 + 1 ≤ 160; omega⟩, chg_up (chg_up chg_rf rfl) rfl⟩
theorem ps0 {tq pl : Nat → Nat} {M : Nat} {s : g_Ps} {a : Nat → Nat → Int32} (h : s.2.1 = 0) (hS : PSx tq pl M s a) : PSx tq pl M (s.1, 0, s.2.2.1, s.2.2.2) a := by
  obtain ⟨k, f, n, c⟩ := s
  simp only at h
  subst h
  exact hS
theorem ps0e {s : g_Ps} (h : s.2.1 = 0) : (s.1, 0, s.2.2.1, s.2.2.2) = s := by
  obtain ⟨k, f, n, c⟩ := s
  simp only at h
  subst h
  rfl
theorem x_expect {sh : List (Nat × Nat)} {a : Nat → Nat → Int32} {r : Nat → Nat → Option Nat} {g : Nat → Nat → Int64} {tq pl : Nat → Nat} {M : Nat} (hW : WC sh r) (hM : M ≤ 160) (htq : ∀ j, tq j < 10106) (hpl : ∀ j, pl j ≤ 160) {s : g_Ps} {t : Nat} (ht : ¬ 1 = t) (ht2 : t < 10106) (hf2 : s.2.1 ≤ 161) (hS : PSx tq pl M s a) : Mt YX2_expect 2 0 0 [vr 25, vi (nI t)] (sh, a, r, g) (g_E0 sh r g (fun a' => PSx tq pl M (pex tq pl M t s) a' ∧ chg scJ a a')) := by
  refine Mt_of rfl (Nat.le_of_ble_eq_true rfl) rfl ?_
  have hpt : ptk tq s < 10106 := by rw [ptk]; split; exact htq _; decide
  refine Gd_aload_n (i := 0) rfl eX2_expect_0 ?_
  refine Gd_getIe (v := nI (ptk tq s)) fl_RX2_31 (V_s25 hW) (hS.2.2.1 :) eX2_expect_1 ?_
  refine Gd_iload_n (i := 1) rfl eX2_expect_4 ?_
  refine Gd_icmp_neN (by first | omega | decide) (by first | omega | decide) eX2_expect_5 (fun c5 => ?_) (fun c5 => ?_)
  · rcases Nat.eq_zero_or_pos s.2.1 with hf | hf
    · have hS0 := ps0 hf hS
      refine Gd_aload_n (i := 0) rfl eX2_expect_15 ?_
      refine Gd_callE0 (g_cV (x_fail0 hW hM htq hpl hS0) ok_X2_fail lk_RX2_123 (V_s25 hW) ⟨_, _, rfl⟩ rfl rfl (Nat.le_of_ble_eq_true rfl) (Nat.le_of_ble_eq_true rfl) (Nat.le_refl _) (Nat.le_refl _) eX2_expect_16) (fun a2 hq => ?_)
      obtain ⟨hS2, hq⟩ := hq
      exact Gd_return eX2_expect_19 rfl (Nat.le_refl _) (Nat.le_refl _) ⟨a2, rfl, rfl, by rw [pex, if_neg c5]; rw [ps0e hf] at hS2; exact hS2, hq⟩
    · have hf1 : s.2.1 ≠ 0 := by omega
      refine Gd_aload_n (i := 0) rfl eX2_expect_15 ?_
      refine Gd_callE0 (g_cV (x_failf hW hM htq hpl hf1 hf2 hS) ok_X2_fail lk_RX2_123 (V_s25 hW) ⟨_, _, rfl⟩ rfl rfl (Nat.le_of_ble_eq_true rfl) (Nat.le_of_ble_eq_true rfl) (Nat.le_refl _) (Nat.le_refl _) eX2_expect_16) (fun a2 hq => ?_)
      obtain ⟨hS2, hq⟩ := hq
      exact Gd_return eX2_expect_19 rfl (Nat.le_refl _) (Nat.le_refl _) ⟨a2, rfl, rfl, by rw [pex, if_neg c5]; exact hS2, hq⟩
  · have hf : s.2.1 = 0 := by rcases Nat.eq_zero_or_pos s.2.1 with z | z; exact z; exact absurd (by rw [ptk_f (by omega)] at c5; exact c5) ht
    have hS0 := ps0 hf hS
    refine Gd_aload_n (i := 0) rfl eX2_expect_8 ?_
    refine Gd_callE0 (g_cV (x_advance hW hM htq hpl hS0) ok_X2_advance lk_RX2_120 (V_s25 hW) ⟨_, _, rfl⟩ rfl rfl (Nat.le_of_ble_eq_true rfl) (Nat.le_of_ble_eq_true rfl) (Nat.le_refl _) (Nat.le_refl _) eX2_expect_9) (fun a2 hq => ?_)
    obtain ⟨hS2, hq⟩ := hq
    refine Gd_goto eX2_expect_12 ?_
    exact Gd_return eX2_expect_19 rfl (Nat.le_refl _) (Nat.le_refl _) ⟨a2, rfl, rfl, by rw [pex, if_pos c5]; rw [ps0e hf] at hS2; exact hS2, hq⟩
theorem x_opens {sh : List (Nat × Nat)} {a : Nat → Nat → Int32} {r : Nat → Nat → Option Nat} {g : Nat → Nat → Int64} {tq pl : Nat → Nat} {M : Nat} (hW : WC sh r) (hM : M ≤ 160) (htq : ∀ j, tq j < 10106) (hpl : ∀ j, pl j ≤ 160) {o k n : Nat} {c : Nat → Nat} (ho : o ≤ 5) (hS0 : PSx tq pl M (k, 0, n, c) a) : Mt YX2_opens 1 0 0 [vr 25, vi (nI o)] (sh, a, r, g) (g_EV sh r g (vi (bI (!(decide (5 ≤ o))))) (fun a' => PSx tq pl M (if 5 ≤ o then pfl pl (k, 0, n, c) else pav M (k, 0, n, c)) a' ∧ chg scJ a a')) := by
  refine Mt_of rfl (Nat.le_of_ble_eq_true rfl) rfl ?_
  refine Gd_iload_n (i := 1) rfl eX2_opens_0 ?_
  refine Gd_iconst ki_5 eX2_opens_1 ?_
  refine Gd_icmp_ltN (by first | omega | decide) (by first | omega | decide) eX2_opens_2 (fun c2 => ?_) (fun c2 => ?_)
  · refine Gd_aload_n (i := 0) rfl eX2_opens_11 ?_
    refine Gd_callE0 (g_cV (x_advance hW hM htq hpl hS0) ok_X2_advance lk_RX2_120 (V_s25 hW) ⟨_, _, rfl⟩ rfl rfl (Nat.le_of_ble_eq_true rfl) (Nat.le_of_ble_eq_true rfl) (Nat.le_refl _) (Nat.le_refl _) eX2_opens_12) (fun a2 hq => ?_)
    obtain ⟨hS2, hq⟩ := hq
    refine Gd_iconst ki_1 eX2_opens_15 ?_
    exact Gd_zreturn eX2_opens_16 rfl (by decide) (Nat.le_refl _) (Nat.le_refl _) ⟨a2, by rw [show decide (5 ≤ o) = false from decide_eq_false (by omega)]; rfl, rfl, by rw [if_neg (by omega)]; exact hS2, hq⟩
  · refine Gd_aload_n (i := 0) rfl eX2_opens_5 ?_
    refine Gd_callE0 (g_cV (x_fail0 hW hM htq hpl hS0) ok_X2_fail lk_RX2_123 (V_s25 hW) ⟨_, _, rfl⟩ rfl rfl (Nat.le_of_ble_eq_true rfl) (Nat.le_of_ble_eq_true rfl) (Nat.le_refl _) (Nat.le_refl _) eX2_opens_6) (fun a2 hq => ?_)
    obtain ⟨hS2, hq⟩ := hq
    refine Gd_iconst ki_0 eX2_opens_9 ?_
    exact Gd_zreturn eX2_opens_10 rfl (by decide) (Nat.le_refl _) (Nat.le_refl _) ⟨a2, by rw [show decide (5 ≤ o) = true from decide_eq_true (by omega)]; rfl, rfl, by rw [if_pos (by omega)]; exact hS2, hq⟩
theorem lk_rank {t : Nat} (h : t < 10106) (h9 : rkx t = 9) : Op.lookupswitch.offset [(5, 67), (6, 69), (42, 75), (43, 73), (45, 73), (60, 71), (61, 71)] 77 (nI t).toInt = 77 := by
  have hi : (nI t).toInt = (t : Int) := nI_toInt (by omega)
  have e1 : t ≠ 5 := fun e => by rw [e] at h9; exact absurd h9 (by decide)
  have e2 : t ≠ 6 := fun e => by rw [e] at h9; exact absurd h9 (by decide)
  have e3 : t ≠ 42 := fun e => by rw [e] at h9; exact absurd h9 (by decide)
  have e4 : t ≠ 43 := fun e => by rw [e] at h9; exact absurd h9 (by decide)
  have e5 : t ≠ 45 := fun e => by rw [e] at h9; exact absurd h9 (by decide)
  have e6 : t ≠ 60 := fun e => by rw [e] at h9; exact absurd h9 (by decide)
  have e7 : t ≠ 61 := fun e => by rw [e] at h9; exact absurd h9 (by decide)
  rw [hi]
  simp only [Op.lookupswitch.offset]
  rw [if_neg (by omega), if_neg (by omega), if_neg (by omega), if_neg (by omega), if_neg (by omega), if_neg (by omega), if_neg (by omega)]
theorem x_rankOf {h : g_H} {t : Nat} (ht : t < 10106) : Mt YX2_rankOf 0 0 0 [vi (nI t)] h (g_P (some (vi (rki t))) h) := by
  refine Mt_of rfl (Nat.le_of_ble_eq_true rfl) rfl ?_
  refine Gd_iload_n (i := 0) rfl eX2_rankOf_0 ?_
  rcases (show t = 5 ∨ t = 6 ∨ t = 60 ∨ t = 61 ∨ t = 43 ∨ t = 45 ∨ t = 42 ∨ rkx t = 9 from by by_cases h : rkx t = 9; exact Or.inr (Or.inr (Or.inr (Or.inr (Or.inr (Or.inr (Or.inr h)))))); have := rkx_c h; omega) with rfl | rfl | rfl | rfl | rfl | rfl | rfl | h9
  · refine Gd_lookup (off := 67) (tgt := 68) eX2_rankOf_1 (by decide) (by decide +kernel) (by decide) ?_
    refine Gd_iconst ki_0 eX2_rankOf_68 ?_
    exact Gd_ireturn eX2_rankOf_69 rfl (Nat.le_refl _) (Nat.le_refl _) ⟨rfl, rfl⟩
  · refine Gd_lookup (off := 69) (tgt := 70) eX2_rankOf_1 (by decide) (by decide +kernel) (by decide) ?_
    refine Gd_iconst ki_1 eX2_rankOf_70 ?_
    exact Gd_ireturn eX2_rankOf_71 rfl (Nat.le_refl _) (Nat.le_refl _) ⟨rfl, rfl⟩
  · refine Gd_lookup (off := 71) (tgt := 72) eX2_rankOf_1 (by decide) (by decide +kernel) (by decide) ?_
    refine Gd_iconst ki_2 eX2_rankOf_72 ?_
    exact Gd_ireturn eX2_rankOf_73 rfl (Nat.le_refl _) (Nat.le_refl _) ⟨rfl, rfl⟩
  · refine Gd_lookup (off := 71) (tgt := 72) eX2_rankOf_1 (by decide) (by decide +kernel) (by decide) ?_
    refine Gd_iconst ki_2 eX2_rankOf_72 ?_
    exact Gd_ireturn eX2_rankOf_73 rfl (Nat.le_refl _) (Nat.le_refl _) ⟨rfl, rfl⟩
  · refine Gd_lookup (off := 73) (tgt := 74) eX2_rankOf_1 (by decide) (by decide +kernel) (by decide) ?_
    refine Gd_iconst ki_3 eX2_rankOf_74 ?_
    exact Gd_ireturn eX2_rankOf_75 rfl (Nat.le_refl _) (Nat.le_refl _) ⟨rfl, rfl⟩
  · refine Gd_lookup (off := 73) (tgt := 74) eX2_rankOf_1 (by decide) (by decide +kernel) (by decide) ?_
    refine Gd_iconst ki_3 eX2_rankOf_74 ?_
    exact Gd_ireturn eX2_rankOf_75 rfl (Nat.le_refl _) (Nat.le_refl _) ⟨rfl, rfl⟩
  · refine Gd_lookup (off := 75) (tgt := 76) eX2_rankOf_1 (by decide) (by decide +kernel) (by decide) ?_
    refine Gd_iconst ki_4 eX2_rankOf_76 ?_
    exact Gd_ireturn eX2_rankOf_77 rfl (Nat.le_refl _) (Nat.le_refl _) ⟨rfl, rfl⟩
  · refine Gd_lookup (off := 77) (tgt := 78) eX2_rankOf_1 (by decide) (lk_rank ht h9) (by decide) ?_
    refine Gd_iconst ki_m1 eX2_rankOf_78 ?_
    exact Gd_ireturn eX2_rankOf_79 rfl (Nat.le_refl _) (Nat.le_refl _) ⟨by rw [rki, if_pos h9], rfl⟩
