theorem x_setMet0 {sh : List (Nat × Nat)} {a : Nat → Nat → Int32} {r : Nat → Nat → Option Nat} {g : Nat → Nat → Int64} {φ : Nat → Nat → Nat} {f : Nat} (hF : isF sh r f) (hA : FA f φ a) (hI : FI φ) {p q : Nat} (hp : p < 6) (hq : q < 6) (hne : p ≠ q) : Mt YX0_setMet 0 0 0 [vr f, vi (nI p), vi (nI q), vi (nI 0)] (sh, a, r, g) (g_E0 sh r g (fun a' => FA f (mee0 φ p q) a' ∧ chg (sR (f + 5)) a a')) := by
  refine Mt_of rfl (Nat.le_of_ble_eq_true rfl) rfl ?_
  have hm1 := FI_me hI hp
  have hm2 := FI_me hI hq
  refine Gd_aload_n (i := 0) rfl eX0_setMet_0 ?_
  refine Gd_getR fl_RX0_37 (F_s0 hF) (F_r8 hF) eX0_setMet_1 ?_
  refine Gd_iload_n (i := 1) rfl eX0_setMet_4 ?_
  refine Gd_iload_n (i := 3) rfl eX0_setMet_5 ?_
  refine Gd_if_eq eX0_setMet_6 (fun _ => ?_) (fun q => by first | exact absurd q (by decide) | exact absurd (by decide) q)
  refine Gd_aload_n (i := 0) rfl eX0_setMet_22 ?_
  refine Gd_getR fl_RX0_37 (F_s0 hF) (F_r8 hF) eX0_setMet_23 ?_
  refine Gd_iload_n (i := 1) rfl eX0_setMet_26 ?_
  refine Gd_ialdE (v := nI (φ 4 p)) (F_s5 hF) (by first | omega | decide) (FA_me hA (p := p) (by first | omega | decide) :) eX0_setMet_27 ?_
  refine Gd_iconst ki_1 eX0_setMet_28 ?_
  refine Gd_iload_n (i := 2) rfl eX0_setMet_29 ?_
  refine Gd_ishl1 (by first | omega | decide) eX0_setMet_30 ?_
  refine Gd_iconst ki_m1 eX0_setMet_31 ?_
  refine Gd_ixorM eX0_setMet_32 ?_
  refine Gd_iandN eX0_setMet_33 ?_
  refine Gd_iastN (F_s5 hF) (by first | omega | decide) eX0_setMet_34 ?_
  refine Gd_aload_n (i := 0) rfl eX0_setMet_35 ?_
  refine Gd_getR fl_RX0_37 (F_s0 hF) (F_r8 hF) eX0_setMet_36 ?_
  refine Gd_iload_n (i := 2) rfl eX0_setMet_39 ?_
  refine Gd_iload_n (i := 3) rfl eX0_setMet_40 ?_
  refine Gd_if_eq eX0_setMet_41 (fun _ => ?_) (fun q => by first | exact absurd q (by decide) | exact absurd (by decide) q)
  refine Gd_aload_n (i := 0) rfl eX0_setMet_57 ?_
  refine Gd_getR fl_RX0_37 (F_s0 hF) (F_r8 hF) eX0_setMet_58 ?_
  refine Gd_iload_n (i := 2) rfl eX0_setMet_61 ?_
  refine Gd_ialdE (v := nI (φ 4 q)) (F_s5 hF) (by first | omega | decide) (by rw [up2_j _ _ (by omega)]; exact FA_me hA hq) eX0_setMet_62 ?_
  refine Gd_iconst ki_1 eX0_setMet_63 ?_
  refine Gd_iload_n (i := 1) rfl eX0_setMet_64 ?_
  refine Gd_ishl1 (by first | omega | decide) eX0_setMet_65 ?_
  refine Gd_iconst ki_m1 eX0_setMet_66 ?_
  refine Gd_ixorM eX0_setMet_67 ?_
  refine Gd_iandN eX0_setMet_68 ?_
  refine Gd_iastN (F_s5 hF) (by first | omega | decide) eX0_setMet_69 ?_
  exact Gd_return eX0_setMet_70 rfl (Nat.le_refl _) (Nat.le_refl _) ⟨_, rfl, rfl, FA_setme (v := clr (φ 4 q) p) (FA_setme (v := clr (φ 4 p) q) hA), chg_up (chg_up chg_rf (by simp [sR])) (by simp [sR])⟩
theorem x_setMet1 {sh : List (Nat × Nat)} {a : Nat → Nat → Int32} {r : Nat → Nat → Option Nat} {g : Nat → Nat → Int64} {φ : Nat → Nat → Nat} {f : Nat} (hF : isF sh r f) (hA : FA f φ a) (hI : FI φ) {p q : Nat} (hp : p < 6) (hq : q < 6) (hne : p ≠ q) : Mt YX0_setMet 0 0 0 [vr f, vi (nI p), vi (nI q), vi (nI 1)] (sh, a, r, g) (g_E0 sh r g (fun a' => FA f (mee1 φ p q) a' ∧ chg (sR (f + 5)) a a')) := by
  refine Mt_of rfl (Nat.le_of_ble_eq_true rfl) rfl ?_
  have hm1 := FI_me hI hp
  have hm2 := FI_me hI hq
  refine Gd_aload_n (i := 0) rfl eX0_setMet_0 ?_
  refine Gd_getR fl_RX0_37 (F_s0 hF) (F_r8 hF) eX0_setMet_1 ?_
  refine Gd_iload_n (i := 1) rfl eX0_setMet_4 ?_
  refine Gd_iload_n (i := 3) rfl eX0_setMet_5 ?_
  refine Gd_if_eq eX0_setMet_6 (fun q => by first | exact absurd q (by decide) | exact absurd (by decide) q) (fun _ => ?_)
  refine Gd_aload_n (i := 0) rfl eX0_setMet_9 ?_
  refine Gd_getR fl_RX0_37 (F_s0 hF) (F_r8 hF) eX0_setMet_10 ?_
  refine Gd_iload_n (i := 1) rfl eX0_setMet_13 ?_
  refine Gd_ialdE (v := nI (φ 4 p)) (F_s5 hF) (by first | omega | decide) (FA_me hA (p := p) (by first | omega | decide) :) eX0_setMet_14 ?_
  refine Gd_iconst ki_1 eX0_setMet_15 ?_
  refine Gd_iload_n (i := 2) rfl eX0_setMet_16 ?_
  refine Gd_ishl1 (by first | omega | decide) eX0_setMet_17 ?_
  refine Gd_iorN eX0_setMet_18 ?_
  refine Gd_goto eX0_setMet_19 ?_
  refine Gd_iastN (F_s5 hF) (by first | omega | decide) eX0_setMet_34 ?_
  refine Gd_aload_n (i := 0) rfl eX0_setMet_35 ?_
  refine Gd_getR fl_RX0_37 (F_s0 hF) (F_r8 hF) eX0_setMet_36 ?_
  refine Gd_iload_n (i := 2) rfl eX0_setMet_39 ?_
  refine Gd_iload_n (i := 3) rfl eX0_setMet_40 ?_
  refine Gd_if_eq eX0_setMet_41 (fun q => by first | exact absurd q (by decide) | exact absurd (by decide) q) (fun _ => ?_)
  refine Gd_aload_n (i := 0) rfl eX0_setMet_44 ?_
  refine Gd_getR fl_RX0_37 (F_s0 hF) (F_r8 hF) eX0_setMet_45 ?_
  refine Gd_iload_n (i := 2) rfl eX0_setMet_48 ?_
  refine Gd_ialdE (v := nI (φ 4 q)) (F_s5 hF) (by first | omega | decide) (by rw [up2_j _ _ (by omega)]; exact FA_me hA hq) eX0_setMet_49 ?_
  refine Gd_iconst ki_1 eX0_setMet_50 ?_
  refine Gd_iload_n (i := 1) rfl eX0_setMet_51 ?_
  refine Gd_ishl1 (by first | omega | decide) eX0_setMet_52 ?_
  refine Gd_iorN eX0_setMet_53 ?_
  refine Gd_goto eX0_setMet_54 ?_
  refine Gd_iastN (F_s5 hF) (by first | omega | decide) eX0_setMet_69 ?_
  exact Gd_return eX0_setMet_70 rfl (Nat.le_refl _) (Nat.le_refl _) ⟨_, rfl, rfl, FA_setme (FA_setme hA), chg_up (chg_up chg_rf (by simp [sR])) (by simp [sR])⟩
theorem x_isMissing {sh : List (Nat × Nat)} {a : Nat → Nat → Int32} {r : Nat → Nat → Option Nat} {g : Nat → Nat → Int64} {so sz : Nat → Nat} {cl : Nat → Nat → Int32} (hW : WD sh r) (hS : SX so sz cl a) (hSI : SI so sz) {j : Nat} (hj : j < 4) : Mt YX4_isMissing 0 0 0 [vr (39 + 2 * j)] (sh, a, r, g) (g_P (some (vi (bI (decide (so j = 4294967295))))) (sh, a, r, g)) := by
  refine Mt_of rfl (Nat.le_of_ble_eq_true rfl) rfl ?_
  have hso := hSI.1 j hj
  refine Gd_aload_n (i := 0) rfl eX4_isMissing_0 ?_
  refine Gd_getIe fl_RX4_9 (W_Sj hW (j := j) (by first | omega | decide)).1 (hS.1 j (by first | omega | decide) :) eX4_isMissing_1 ?_
  refine Gd_iconst ki_m1 eX4_isMissing_4 ?_
  refine Gd_icmp_ne eX4_isMissing_5 (fun c5 => ?_) (fun c5 => ?_)
  · refine Gd_iconst ki_0 eX4_isMissing_12 ?_
    exact Gd_zreturn eX4_isMissing_13 rfl (by decide) (Nat.le_refl _) (Nat.le_refl _) ⟨by rw [show decide (so j = 4294967295) = false from decide_eq_false (fun q => c5 (by rw [q]; decide))]; rfl, rfl⟩
  · refine Gd_iconst ki_1 eX4_isMissing_8 ?_
    refine Gd_goto eX4_isMissing_9 ?_
    exact Gd_zreturn eX4_isMissing_13 rfl (by decide) (Nat.le_refl _) (Nat.le_refl _) ⟨by rw [show decide (so j = 4294967295) = true from decide_eq_true ((nI_m1_iff (by omega)).mp c5)]; rfl, rfl⟩
theorem x_tellsDeer_L {sh : List (Nat × Nat)} {a : Nat → Nat → Int32} {r : Nat → Nat → Option Nat} {g : Nat → Nat → Int64} {so sz : Nat → Nat} {cl : Nat → Nat → Int32} (hW : WD sh r) (hS : SX so sz cl a) (hSI : SI so sz) {j : Nat} (hj : j < 4) {Q : Option g_V → g_H → Prop} {N0 : Nat} (kq : Q (some (vi (bI (allD (cl j) (sz j))))) (sh, a, r, g)) : ∀ (n i : Nat), i + n = sz j → allD (cl j) i = true → Gd YX4_tellsDeer (z0 1 N0 Q) 0 0 2 [some (vr (39 + 2 * j)), some (vi (nI i))] [] (sh, a, r, g)
  | 0, i, hn, hal => by
    have hz := hSI.2 j hj
    refine Gd_iload_n (i := 1) rfl eX4_tellsDeer_2 ?_
    refine Gd_aload_n (i := 0) rfl eX4_tellsDeer_3 ?_
    refine Gd_getIe (v := nI (sz j)) fl_RX4_15 (W_Sj hW (j := j) (by first | omega | decide)).1 (hS.2.1 j (by first | omega | decide) :) eX4_tellsDeer_4 ?_
    refine Gd_icmp_geN (by first | omega | decide) (by first | omega | decide) eX4_tellsDeer_7 (fun c7 => ?_) (fun c7 => ?_)
    · refine Gd_iconst ki_1 eX4_tellsDeer_30 ?_
      exact Gd_zreturn eX4_tellsDeer_31 rfl (by decide) (Nat.le_refl _) (Nat.le_refl _) (by rw [show sz j = i by omega, hal] at kq; exact kq)
    · exact absurd c7 (by omega)
  | n + 1, i, hn, hal => by
    have hz := hSI.2 j hj
    refine Gd_iload_n (i := 1) rfl eX4_tellsDeer_2 ?_
    refine Gd_aload_n (i := 0) rfl eX4_tellsDeer_3 ?_
    refine Gd_getIe (v := nI (sz j)) fl_RX4_15 (W_Sj hW (j := j) (by first | omega | decide)).1 (hS.2.1 j (by first | omega | decide) :) eX4_tellsDeer_4 ?_
    refine Gd_icmp_geN (by first | omega | decide) (by first | omega | decide) eX4_tellsDeer_7 (fun c7 => ?_) (fun c7 => ?_)
    · exact absurd c7 (by omega)
    · refine Gd_aload_n (i := 0) rfl eX4_tellsDeer_10 ?_
      refine Gd_getR fl_RX4_18 (W_Sj hW (j := j) (by first | omega | decide)).1 (W_Sj hW (j := j) (by first | omega | decide)).2.2 eX4_tellsDeer_11 ?_
      refine Gd_iload_n (i := 1) rfl eX4_tellsDeer_14 ?_
      refine Gd_ialdE (W_Sj hW (j := j) (by first | omega | decide)).2.1 (by first | omega | decide) (hS.2.2 j (by first | omega | decide) i (by first | omega | decide) :) eX4_tellsDeer_15 ?_
      refine Gd_callP (g_cSN (x_isDeer _) ok_X7_isDeer ln_RX4_22 rfl rfl (Nat.le_of_ble_eq_true rfl) (Nat.le_of_ble_eq_true rfl) (Nat.le_refl _) (Nat.le_refl _) eX4_tellsDeer_16) ?_
      refine Gd_if_neB eX4_tellsDeer_19 (fun c19 => ?_) (fun c19 => ?_)
      · refine Gd_iinc1 (ho := rfl) (he := nI_inc _) eX4_tellsDeer_24 ?_
        refine Gd_goto eX4_tellsDeer_27 ?_
        exact x_tellsDeer_L hW hS hSI hj kq n (i + 1) (by omega) (by rw [allD, hal, c19]; rfl)
      · refine Gd_iconst ki_0 eX4_tellsDeer_22 ?_
        exact Gd_zreturn eX4_tellsDeer_23 rfl (by decide) (Nat.le_refl _) (Nat.le_refl _) (by rw [show allD (cl j) (sz j) = false from allD_f (i := i) c19 (by omega)] at kq; exact kq)
theorem x_tellsDeer {sh : List (Nat × Nat)} {a : Nat → Nat → Int32} {r : Nat → Nat → Option Nat} {g : Nat → Nat → Int64} {so sz : Nat → Nat} {cl : Nat → Nat → Int32} (hW : WD sh r) (hS : SX so sz cl a) (hSI : SI so sz) {j : Nat} (hj : j < 4) : Mt YX4_tellsDeer 1 0 0 [vr (39 + 2 * j)] (sh, a, r, g) (g_P (some (vi (bI (allD (cl j) (sz j))))) (sh, a, r, g)) := by
  refine Mt_of rfl (Nat.le_of_ble_eq_true rfl) rfl ?_
  refine Gd_iconst ki_0 eX4_tellsDeer_0 ?_
  refine Gd_istore_n1 rfl eX4_tellsDeer_1 ?_
  exact x_tellsDeer_L hW hS hSI hj ⟨rfl, rfl⟩ (sz j) 0 (by omega) rfl
theorem x_seasonRefusal {sh : List (Nat × Nat)} {a : Nat → Nat → Int32} {r : Nat → Nat → Option Nat} {g : Nat → Nat → Int64} {so sz : Nat → Nat} {cl : Nat → Nat → Int32} (hW : WD sh r) (hS : SX so sz cl a) (hSI : SI so sz) (s : Int32) : Mt YX7_seasonRefusal 2 0 0 [vr 0, vi s] (sh, a, r, g) (g_P (some (vi (swr so sz cl s))) (sh, a, r, g)) := by
  refine Mt_of rfl (Nat.le_of_ble_eq_true rfl) rfl ?_
  refine Gd_iload_n (i := 1) rfl eX7_seasonRefusal_0 ?_
  refine Gd_callP (g_cS (x_isSheet _) ok_X7_isSheet lk_RX7_264 rfl rfl (Nat.le_of_ble_eq_true rfl) (Nat.le_of_ble_eq_true rfl) (Nat.le_refl _) (Nat.le_refl _) eX7_seasonRefusal_1) ?_
  refine Gd_if_neB eX7_seasonRefusal_4 (fun c4 => ?_) (fun c4 => ?_)
  · obtain ⟨j, hj, rfl⟩ := inr_t c4 (by decide)
    refine Gd_aload_n (i := 0) rfl eX7_seasonRefusal_10 ?_
    refine Gd_getR fl_RX7_56 (W_s0 hW) (W_r0_8 hW) eX7_seasonRefusal_11 ?_
    refine Gd_iload_n (i := 1) rfl eX7_seasonRefusal_14 ?_
    refine Gd_aaldN (Or.inl ⟨rfl, rfl, rfl⟩ : g_rc 21 1 4) (W_s38 hW) (by first | omega | decide) (W_r38 hW (j := j) (by first | omega | decide)) eX7_seasonRefusal_15 ?_
    refine Gd_callP (g_cV (x_isMissing hW hS hSI (by first | omega | decide)) ok_X4_isMissing lk_RX7_280 (W_Sj hW (j := j) (by first | omega | decide)).1 ⟨_, _, rfl⟩ rfl rfl (Nat.le_of_ble_eq_true rfl) (Nat.le_of_ble_eq_true rfl) (Nat.le_refl _) (Nat.le_refl _) eX7_seasonRefusal_16) ?_
    refine Gd_if_eqB eX7_seasonRefusal_19 (fun c19 => ?_) (fun c19 => ?_)
    · refine Gd_aload_n (i := 0) rfl eX7_seasonRefusal_25 ?_
      refine Gd_getR fl_RX7_56 (W_s0 hW) (W_r0_8 hW) eX7_seasonRefusal_26 ?_
      refine Gd_iload_n (i := 1) rfl eX7_seasonRefusal_29 ?_
      refine Gd_aaldN (Or.inl ⟨rfl, rfl, rfl⟩ : g_rc 21 1 4) (W_s38 hW) (by first | omega | decide) (W_r38 hW (j := j) (by first | omega | decide)) eX7_seasonRefusal_30 ?_
      refine Gd_callP (g_cV (x_tellsDeer hW hS hSI (by first | omega | decide)) ok_X4_tellsDeer lk_RX7_302 (W_Sj hW (j := j) (by first | omega | decide)).1 ⟨_, _, rfl⟩ rfl rfl (Nat.le_of_ble_eq_true rfl) (Nat.le_of_ble_eq_true rfl) (Nat.le_refl _) (Nat.le_refl _) eX7_seasonRefusal_31) ?_
      refine Gd_if_eqB eX7_seasonRefusal_34 (fun c34 => ?_) (fun c34 => ?_)
      · refine Gd_bipush kb_m2 eX7_seasonRefusal_41 ?_
        exact Gd_ireturn eX7_seasonRefusal_43 rfl (Nat.le_refl _) (Nat.le_refl _) ⟨by rw [swr, nI_clamp (by omega), if_neg (by rw [c4]; decide), if_neg (of_decide_eq_false c19), if_neg (by rw [c34]; decide)], rfl⟩
      · refine Gd_iconst ki_0 eX7_seasonRefusal_37 ?_
        refine Gd_goto eX7_seasonRefusal_38 ?_
        exact Gd_ireturn eX7_seasonRefusal_43 rfl (Nat.le_refl _) (Nat.le_refl _) ⟨by rw [swr, nI_clamp (by omega), if_neg (by rw [c4]; decide), if_neg (of_decide_eq_false c19), if_pos c34], rfl⟩
    · refine Gd_bipush kb_m11 eX7_seasonRefusal_22 ?_
      exact Gd_ireturn eX7_seasonRefusal_24 rfl (Nat.le_refl _) (Nat.le_refl _) ⟨by rw [swr, nI_clamp (by omega), if_neg (by rw [c4]; decide), if_pos (of_decide_eq_true c19)], rfl⟩
  · refine Gd_bipush kb_m2 eX7_seasonRefusal_7 ?_
    exact Gd_ireturn eX7_seasonRefusal_9 rfl (Nat.le_refl _) (Nat.le_refl _) ⟨by rw [swr, if_pos c4], rfl⟩
theorem x_tellingRefusal {sh : List (Nat × Nat)} {a : Nat → Nat → Int32} {r : Nat → Nat → Option Nat} {g : Nat → Nat → Int64} {so sz : Nat → Nat} {cl : Nat → Nat → Int32} (hW : WD sh r) (hS : SX so sz cl a) (hSI : SI so sz) (s t : Int32) : Mt YX7_tellingRefusal 3 0 0 [vr 0, vi s, vi t] (sh, a, r, g) (g_P (some (vi (twr so sz cl s t))) (sh, a, r, g)) := by
  refine Mt_of rfl (Nat.le_of_ble_eq_true rfl) rfl ?_
  refine Gd_iload_n (i := 2) rfl eX7_tellingRefusal_0 ?_
  refine Gd_callP (g_cS (x_isSheet _) ok_X7_isSheet lk_RX7_264 rfl rfl (Nat.le_of_ble_eq_true rfl) (Nat.le_of_ble_eq_true rfl) (Nat.le_refl _) (Nat.le_refl _) eX7_tellingRefusal_1) ?_
  refine Gd_if_neB eX7_tellingRefusal_4 (fun c4 => ?_) (fun c4 => ?_)
  · obtain ⟨j, hj, rfl⟩ := inr_t c4 (by decide)
    have hszj := hSI.2 j hj
    refine Gd_aload_n (i := 0) rfl eX7_tellingRefusal_10 ?_
    refine Gd_iload_n (i := 1) rfl eX7_tellingRefusal_11 ?_
    refine Gd_callP (g_cV (x_seasonRefusal hW hS hSI _) ok_X7_seasonRefusal lk_RX7_229 (W_s0 hW) ⟨_, _, rfl⟩ rfl rfl (Nat.le_of_ble_eq_true rfl) (Nat.le_of_ble_eq_true rfl) (Nat.le_refl _) (Nat.le_refl _) eX7_tellingRefusal_12) ?_
    refine Gd_istore_n3 rfl eX7_tellingRefusal_15 ?_
    refine Gd_iload_n (i := 3) rfl eX7_tellingRefusal_16 ?_
    refine Gd_if_eq eX7_tellingRefusal_17 (fun c17 => ?_) (fun c17 => ?_)
    · obtain ⟨i, hi, rfl⟩ := swr_in c17
      have hszi := hSI.2 i hi
      refine Gd_aload_n (i := 0) rfl eX7_tellingRefusal_22 ?_
      refine Gd_getR fl_RX7_56 (W_s0 hW) (W_r0_8 hW) eX7_tellingRefusal_23 ?_
      refine Gd_iload_n (i := 2) rfl eX7_tellingRefusal_26 ?_
      refine Gd_aaldN (Or.inl ⟨rfl, rfl, rfl⟩ : g_rc 21 1 4) (W_s38 hW) (by first | omega | decide) (W_r38 hW (j := j) (by first | omega | decide)) eX7_tellingRefusal_27 ?_
      refine Gd_callP (g_cV (x_isMissing hW hS hSI (by first | omega | decide)) ok_X4_isMissing lk_RX7_280 (W_Sj hW (j := j) (by first | omega | decide)).1 ⟨_, _, rfl⟩ rfl rfl (Nat.le_of_ble_eq_true rfl) (Nat.le_of_ble_eq_true rfl) (Nat.le_refl _) (Nat.le_refl _) eX7_tellingRefusal_28) ?_
      refine Gd_if_eqB eX7_tellingRefusal_31 (fun c31 => ?_) (fun c31 => ?_)
      · refine Gd_aload_n (i := 0) rfl eX7_tellingRefusal_37 ?_
        refine Gd_getR fl_RX7_56 (W_s0 hW) (W_r0_8 hW) eX7_tellingRefusal_38 ?_
        refine Gd_iload_n (i := 2) rfl eX7_tellingRefusal_41 ?_
        refine Gd_aaldN (Or.inl ⟨rfl, rfl, rfl⟩ : g_rc 21 1 4) (W_s38 hW) (by first | omega | decide) (W_r38 hW (j := j) (by first | omega | decide)) eX7_tellingRefusal_42 ?_
        refine Gd_getIe (v := nI (sz j)) fl_RX7_267 (W_Sj hW (j := j) (by first | omega | decide)).1 (hS.2.1 j (by first | omega | decide) :) eX7_tellingRefusal_43 ?_
        refine Gd_aload_n (i := 0) rfl eX7_tellingRefusal_46 ?_
        refine Gd_getR fl_RX7_56 (W_s0 hW) (W_r0_8 hW) eX7_tellingRefusal_47 ?_
        refine Gd_iload_n (i := 1) rfl eX7_tellingRefusal_50 ?_
        refine Gd_aaldN (Or.inl ⟨rfl, rfl, rfl⟩ : g_rc 21 1 4) (W_s38 hW) (by first | omega | decide) (W_r38 hW (j := i) (by first | omega | decide)) eX7_tellingRefusal_51 ?_
        refine Gd_getIe (v := nI (sz i)) fl_RX7_267 (W_Sj hW (j := i) (by first | omega | decide)).1 (hS.2.1 i (by first | omega | decide) :) eX7_tellingRefusal_52 ?_
        refine Gd_icmp_leN (by first | omega | decide) (by first | omega | decide) eX7_tellingRefusal_55 (fun c55 => ?_) (fun c55 => ?_)
        · refine Gd_iconst ki_0 eX7_tellingRefusal_63 ?_
          exact Gd_ireturn eX7_tellingRefusal_64 rfl (Nat.le_refl _) (Nat.le_refl _) ⟨by rw [twr, if_neg (by rw [c4]; decide), if_pos c17, nI_clamp (by omega), nI_clamp (by omega), if_neg (of_decide_eq_false c31), if_pos c55], rfl⟩
        · refine Gd_bipush kb_m2 eX7_tellingRefusal_58 ?_
          refine Gd_goto eX7_tellingRefusal_60 ?_
          exact Gd_ireturn eX7_tellingRefusal_64 rfl (Nat.le_refl _) (Nat.le_refl _) ⟨by rw [twr, if_neg (by rw [c4]; decide), if_pos c17, nI_clamp (by omega), nI_clamp (by omega), if_neg (of_decide_eq_false c31), if_neg (by omega)], rfl⟩
      · refine Gd_bipush kb_m11 eX7_tellingRefusal_34 ?_
        exact Gd_ireturn eX7_tellingRefusal_36 rfl (Nat.le_refl _) (Nat.le_refl _) ⟨by rw [twr, if_neg (by rw [c4]; decide), if_pos c17, nI_clamp (by omega), if_pos (of_decide_eq_true c31)], rfl⟩
    · refine Gd_iload_n (i := 3) rfl eX7_tellingRefusal_20 ?_
      exact Gd_ireturn eX7_tellingRefusal_21 rfl (Nat.le_refl _) (Nat.le_refl _) ⟨by rw [twr, if_neg (by rw [c4]; decide), if_neg c17], rfl⟩
  · refine Gd_bipush kb_m2 eX7_tellingRefusal_7 ?_
    exact Gd_ireturn eX7_tellingRefusal_9 rfl (Nat.le_refl _) (Nat.le_refl _) ⟨by rw [twr, if_pos c4], rfl⟩
theorem x_judgeRefusal {sh : List (Nat × Nat)} {a : Nat → Nat → Int32} {r : Nat → Nat → Option Nat} {g : Nat → Nat → Int64} {so sz : Nat → Nat} {cl : Nat → Nat → Int32} (hW : WD sh r) (hS : SX so sz cl a) (hSI : SI so sz) {φ : Nat → Nat → Nat} (hA : FA 1 φ a) (hI : FI φ) (s t p : Int32) : Mt YX7_judgeRefusal 4 0 0 [vr 0, vi s, vi t, vi p] (sh, a, r, g) (g_P (some (vi (tlw so sz cl (φ 7 3) s t p))) (sh, a, r, g)) := by
  refine Mt_of rfl (Nat.le_of_ble_eq_true rfl) rfl ?_
  refine Gd_aload_n (i := 0) rfl eX7_judgeRefusal_0 ?_
  refine Gd_iload_n (i := 1) rfl eX7_judgeRefusal_1 ?_
  refine Gd_iload_n (i := 2) rfl eX7_judgeRefusal_2 ?_
  refine Gd_callP (g_cV (x_tellingRefusal hW hS hSI _ _) ok_X7_tellingRefusal lk_RX7_261 (W_s0 hW) ⟨_, _, rfl⟩ rfl rfl (Nat.le_of_ble_eq_true rfl) (Nat.le_of_ble_eq_true rfl) (Nat.le_refl _) (Nat.le_refl _) eX7_judgeRefusal_3) ?_
  refine Gd_istore4 rfl eX7_judgeRefusal_6 ?_
  refine Gd_iload (i := 4) rfl eX7_judgeRefusal_8 ?_
  refine Gd_if_eq eX7_judgeRefusal_10 (fun c10 => ?_) (fun c10 => ?_)
  · refine Gd_aload_n (i := 0) rfl eX7_judgeRefusal_16 ?_
    refine Gd_iload_n (i := 3) rfl eX7_judgeRefusal_17 ?_
    refine Gd_callP (g_cV (x_isHunter hW hA hI _) ok_X7_isHunter lk_RX7_140 (W_s0 hW) ⟨_, _, rfl⟩ rfl rfl (Nat.le_of_ble_eq_true rfl) (Nat.le_of_ble_eq_true rfl) (Nat.le_refl _) (Nat.le_refl _) eX7_judgeRefusal_18) ?_
    refine Gd_if_eqB eX7_judgeRefusal_21 (fun c21 => ?_) (fun c21 => ?_)
    · refine Gd_bipush kb_m5 eX7_judgeRefusal_28 ?_
      exact Gd_ireturn eX7_judgeRefusal_30 rfl (Nat.le_refl _) (Nat.le_refl _) ⟨by rw [tlw, if_pos c10, if_neg (by rw [c21]; decide)], rfl⟩
    · refine Gd_iconst ki_0 eX7_judgeRefusal_24 ?_
      refine Gd_goto eX7_judgeRefusal_25 ?_
      exact Gd_ireturn eX7_judgeRefusal_30 rfl (Nat.le_refl _) (Nat.le_refl _) ⟨by rw [tlw, if_pos c10, if_pos c21], rfl⟩
  · refine Gd_iload (i := 4) rfl eX7_judgeRefusal_13 ?_
    exact Gd_ireturn eX7_judgeRefusal_15 rfl (Nat.le_refl _) (Nat.le_refl _) ⟨by rw [tlw, if_neg c10], rfl⟩
