theorem m_keeps_L2 {sh : List (Nat × Nat)} {a : Nat → Nat → Int32} {r : Nat → Nat → Option Nat} {g : Nat → Nat → Int64} {Q : Option g_V → g_H → Prop} {N0 : Nat} (hW : WD sh r) (hq : ∀ a', (∀ j, j < 24 → a' 69 j = a 53 j) → (∀ j, j < 10 → a' 69 (24 + j) = a 54 j) → a' 69 34 = a 50 5 → chg s69 a a' → Q none (sh, a', r, g)) : ∀ (fu i : Nat) (a' : Nat → Nat → Int32), 10 < fu + i → i ≤ 10 → (∀ j, j < 24 → a' 69 j = a 53 j) → (∀ j, j < i → a' 69 (24 + j) = a 54 j) → chg s69 a a' → Gd YX8_keeps (z0 0 N0 Q) 0 0 28 [some (vr 50), some (vi (nI i))] [] (sh, a', r, g)
  | 0, i, a', h5, h6, h1, h2, hc => absurd h5 (by omega)
  | fu + 1, i, a', h5, h6, h1, h2, hc => by
    have h53 : ∀ j, a' 53 j = a 53 j := fun j => hc 53 j rfl
    have h54 : ∀ j, a' 54 j = a 54 j := fun j => hc 54 j rfl
    have h505 : a' 50 5 = a 50 5 := hc 50 5 rfl
    refine Gd_iload_n (i := 1) rfl eX8_keeps_28 ?_
    refine Gd_bipush kb_10 eX8_keeps_29 ?_
    refine Gd_icmp_geN (by first | omega | decide) (by first | omega | decide) eX8_keeps_31 (fun c31 => ?_) (fun c31 => ?_)
    · refine Gd_aload_n (i := 0) rfl eX8_keeps_55 ?_
      refine Gd_getR fl_RX8_68 (W_s50 hW) (W_r50_33 hW) eX8_keeps_56 ?_
      refine Gd_bipush kb_34 eX8_keeps_59 ?_
      refine Gd_aload_n (i := 0) rfl eX8_keeps_61 ?_
      refine Gd_getI fl_RX8_22 (W_s50 hW) eX8_keeps_62 ?_
      refine Gd_iastN (W_s69 hW) (by first | omega | decide) eX8_keeps_65 ?_
      exact Gd_return eX8_keeps_66 rfl (Nat.le_refl _) (Nat.le_refl _) (hq _ (fun j hj => by rw [up2_j _ _ (by omega)]; exact h1 j hj) (fun j hj => by rw [up2_j _ _ (by omega)]; exact h2 j (by omega)) (by rw [up2_s]; exact h505) (chg_up hc rfl))
    · refine Gd_aload_n (i := 0) rfl eX8_keeps_34 ?_
      refine Gd_getR fl_RX8_68 (W_s50 hW) (W_r50_33 hW) eX8_keeps_35 ?_
      refine Gd_bipush kb_24 eX8_keeps_38 ?_
      refine Gd_iload_n (i := 1) rfl eX8_keeps_40 ?_
      refine Gd_iaddN eX8_keeps_41 ?_
      refine Gd_aload_n (i := 0) rfl eX8_keeps_42 ?_
      refine Gd_getR fl_RX8_19 (W_s50 hW) (W_r50_4 hW) eX8_keeps_43 ?_
      refine Gd_iload_n (i := 1) rfl eX8_keeps_46 ?_
      refine Gd_ialdN (W_s54 hW) (by first | omega | decide) eX8_keeps_47 ?_
      refine Gd_iastN (W_s69 hW) (by first | omega | decide) eX8_keeps_48 ?_
      refine Gd_iinc1 (ho := rfl) (he := nI_inc _) eX8_keeps_49 ?_
      refine Gd_goto eX8_keeps_52 ?_
      exact m_keeps_L2 hW hq fu (i + 1) (up2 a' 69 (24 + i) (a' 54 i)) (by omega) (by omega) (fun j hj => by rw [up2_j _ _ (by omega)]; exact h1 j hj) (up_ext 24 h2 (h54 i)) (chg_up hc rfl)
theorem m_keeps_L1 {sh : List (Nat × Nat)} {a : Nat → Nat → Int32} {r : Nat → Nat → Option Nat} {g : Nat → Nat → Int64} {Q : Option g_V → g_H → Prop} {N0 : Nat} (hW : WD sh r) (hq : ∀ a', (∀ j, j < 24 → a' 69 j = a 53 j) → (∀ j, j < 10 → a' 69 (24 + j) = a 54 j) → a' 69 34 = a 50 5 → chg s69 a a' → Q none (sh, a', r, g)) : ∀ (fu i : Nat) (a' : Nat → Nat → Int32), 24 < fu + i → i ≤ 24 → (∀ j, j < i → a' 69 j = a 53 j) → chg s69 a a' → Gd YX8_keeps (z0 0 N0 Q) 0 0 2 [some (vr 50), some (vi (nI i))] [] (sh, a', r, g)
  | 0, i, a', h5, h6, h1, hc => absurd h5 (by omega)
  | fu + 1, i, a', h5, h6, h1, hc => by
    have h53 : ∀ j, a' 53 j = a 53 j := fun j => hc 53 j rfl
    have h54 : ∀ j, a' 54 j = a 54 j := fun j => hc 54 j rfl
    have h505 : a' 50 5 = a 50 5 := hc 50 5 rfl
    refine Gd_iload_n (i := 1) rfl eX8_keeps_2 ?_
    refine Gd_bipush kb_24 eX8_keeps_3 ?_
    refine Gd_icmp_geN (by first | omega | decide) (by first | omega | decide) eX8_keeps_5 (fun c5 => ?_) (fun c5 => ?_)
    · refine Gd_iconst ki_0 eX8_keeps_26 ?_
      refine Gd_istore_n1 rfl eX8_keeps_27 ?_
      exact m_keeps_L2 hW hq 11 0 a' (by omega) (by omega) (fun j hj => h1 j (by omega)) (fun j hj => by omega) hc
    · refine Gd_aload_n (i := 0) rfl eX8_keeps_8 ?_
      refine Gd_getR fl_RX8_68 (W_s50 hW) (W_r50_33 hW) eX8_keeps_9 ?_
      refine Gd_iload_n (i := 1) rfl eX8_keeps_12 ?_
      refine Gd_aload_n (i := 0) rfl eX8_keeps_13 ?_
      refine Gd_getR fl_RX8_16 (W_s50 hW) (W_r50_3 hW) eX8_keeps_14 ?_
      refine Gd_iload_n (i := 1) rfl eX8_keeps_17 ?_
      refine Gd_ialdN (W_s53 hW) (by first | omega | decide) eX8_keeps_18 ?_
      refine Gd_iastN (W_s69 hW) (by first | omega | decide) eX8_keeps_19 ?_
      refine Gd_iinc1 (ho := rfl) (he := nI_inc _) eX8_keeps_20 ?_
      refine Gd_goto eX8_keeps_23 ?_
      exact m_keeps_L1 hW hq fu (i + 1) (up2 a' 69 i (a' 53 i)) (by omega) (by omega) (up_ext0 h1 (h53 i)) (chg_up hc rfl)
theorem m_keeps {sh : List (Nat × Nat)} {a : Nat → Nat → Int32} {r : Nat → Nat → Option Nat} {g : Nat → Nat → Int64} (hW : WD sh r) {φ : Nat → Nat → Nat} (hM : MA φ a) : Mt YX8_keeps 0 0 0 [vr 50] (sh, a, r, g) (g_E0 sh r g (fun a' => KA φ a' ∧ chg s69 a a')) := by
  refine Mt_of rfl (Nat.le_of_ble_eq_true rfl) rfl ?_
  refine Gd_iconst ki_0 eX8_keeps_0 ?_
  refine Gd_istore_n1 rfl eX8_keeps_1 ?_
  exact m_keeps_L1 hW (fun a' q1 q2 q3 q4 => ⟨a', rfl, rfl, ⟨fun p hp => by rw [q1 _ (by omega)]; exact MA_ho hM hp, fun p hp => by rw [q1 _ (by omega)]; exact MA_ca hM hp, fun p hp => by rw [q1 _ (by omega)]; exact MA_me hM hp, fun p hp => by rw [q1 _ (by omega)]; exact MA_by hM hp, fun d hd => by rw [q2 _ hd]; exact MA_sh hM hd, by rw [q3]; exact MA_al hM⟩, q4⟩) 25 0 a (by omega) (by omega) (fun j hj => by omega) chg_rf
theorem m_lays_L2 {sh : List (Nat × Nat)} {a : Nat → Nat → Int32} {r : Nat → Nat → Option Nat} {g : Nat → Nat → Int64} {Q : Option g_V → g_H → Prop} {N0 : Nat} (hW : WD sh r) (hq : ∀ a', (∀ j, j < 24 → a' 53 j = a 69 j) → (∀ j, j < 10 → a' 54 j = a 69 (24 + j)) → a' 50 5 = a 69 34 → chg scL a a' → Q none (sh, a', r, g)) : ∀ (fu i : Nat) (a' : Nat → Nat → Int32), 10 < fu + i → i ≤ 10 → (∀ j, j < 24 → a' 53 j = a 69 j) → (∀ j, j < i → a' 54 j = a 69 (24 + j)) → chg scL a a' → Gd YX8_lays (z0 0 N0 Q) 0 0 28 [some (vr 50), some (vi (nI i))] [] (sh, a', r, g)
  | 0, i, a', h5, h6, h1, h2, hc => absurd h5 (by omega)
  | fu + 1, i, a', h5, h6, h1, h2, hc => by
    have h69 : ∀ j, a' 69 j = a 69 j := fun j => hc 69 j rfl
    refine Gd_iload_n (i := 1) rfl eX8_lays_28 ?_
    refine Gd_bipush kb_10 eX8_lays_29 ?_
    refine Gd_icmp_geN (by first | omega | decide) (by first | omega | decide) eX8_lays_31 (fun c31 => ?_) (fun c31 => ?_)
    · refine Gd_aload_n (i := 0) rfl eX8_lays_55 ?_
      refine Gd_aload_n (i := 0) rfl eX8_lays_56 ?_
      refine Gd_getR fl_RX8_68 (W_s50 hW) (W_r50_33 hW) eX8_lays_57 ?_
      refine Gd_bipush kb_34 eX8_lays_60 ?_
      refine Gd_ialdN (W_s69 hW) (by first | omega | decide) eX8_lays_62 ?_
      refine Gd_putI fl_RX8_22 (W_s50 hW) eX8_lays_63 ?_
      exact Gd_return eX8_lays_66 rfl (Nat.le_refl _) (Nat.le_refl _) (hq _ (fun j hj => by rw [up2_k _ _ (by decide)]; exact h1 j hj) (fun j hj => by rw [up2_k _ _ (by decide)]; exact h2 j (by omega)) (by rw [up2_s]; exact h69 _) (chg_up hc rfl))
    · refine Gd_aload_n (i := 0) rfl eX8_lays_34 ?_
      refine Gd_getR fl_RX8_19 (W_s50 hW) (W_r50_4 hW) eX8_lays_35 ?_
      refine Gd_iload_n (i := 1) rfl eX8_lays_38 ?_
      refine Gd_aload_n (i := 0) rfl eX8_lays_39 ?_
      refine Gd_getR fl_RX8_68 (W_s50 hW) (W_r50_33 hW) eX8_lays_40 ?_
      refine Gd_bipush kb_24 eX8_lays_43 ?_
      refine Gd_iload_n (i := 1) rfl eX8_lays_45 ?_
      refine Gd_iaddN eX8_lays_46 ?_
      refine Gd_ialdN (W_s69 hW) (by first | omega | decide) eX8_lays_47 ?_
      refine Gd_iastN (W_s54 hW) (by first | omega | decide) eX8_lays_48 ?_
      refine Gd_iinc1 (ho := rfl) (he := nI_inc _) eX8_lays_49 ?_
      refine Gd_goto eX8_lays_52 ?_
      exact m_lays_L2 hW hq fu (i + 1) (up2 a' 54 i (a' 69 (24 + i))) (by omega) (by omega) (fun j hj => by rw [up2_k _ _ (by decide)]; exact h1 j hj) (up_ext0 h2 (h69 _)) (chg_up hc rfl)
theorem m_lays_L1 {sh : List (Nat × Nat)} {a : Nat → Nat → Int32} {r : Nat → Nat → Option Nat} {g : Nat → Nat → Int64} {Q : Option g_V → g_H → Prop} {N0 : Nat} (hW : WD sh r) (hq : ∀ a', (∀ j, j < 24 → a' 53 j = a 69 j) → (∀ j, j < 10 → a' 54 j = a 69 (24 + j)) → a' 50 5 = a 69 34 → chg scL a a' → Q none (sh, a', r, g)) : ∀ (fu i : Nat) (a' : Nat → Nat → Int32), 24 < fu + i → i ≤ 24 → (∀ j, j < i → a' 53 j = a 69 j) → chg scL a a' → Gd YX8_lays (z0 0 N0 Q) 0 0 2 [some (vr 50), some (vi (nI i))] [] (sh, a', r, g)
  | 0, i, a', h5, h6, h1, hc => absurd h5 (by omega)
  | fu + 1, i, a', h5, h6, h1, hc => by
    have h69 : ∀ j, a' 69 j = a 69 j := fun j => hc 69 j rfl
    refine Gd_iload_n (i := 1) rfl eX8_lays_2 ?_
    refine Gd_bipush kb_24 eX8_lays_3 ?_
    refine Gd_icmp_geN (by first | omega | decide) (by first | omega | decide) eX8_lays_5 (fun c5 => ?_) (fun c5 => ?_)
    · refine Gd_iconst ki_0 eX8_lays_26 ?_
      refine Gd_istore_n1 rfl eX8_lays_27 ?_
      exact m_lays_L2 hW hq 11 0 a' (by omega) (by omega) (fun j hj => h1 j (by omega)) (fun j hj => by omega) hc
    · refine Gd_aload_n (i := 0) rfl eX8_lays_8 ?_
      refine Gd_getR fl_RX8_16 (W_s50 hW) (W_r50_3 hW) eX8_lays_9 ?_
      refine Gd_iload_n (i := 1) rfl eX8_lays_12 ?_
      refine Gd_aload_n (i := 0) rfl eX8_lays_13 ?_
      refine Gd_getR fl_RX8_68 (W_s50 hW) (W_r50_33 hW) eX8_lays_14 ?_
      refine Gd_iload_n (i := 1) rfl eX8_lays_17 ?_
      refine Gd_ialdN (W_s69 hW) (by first | omega | decide) eX8_lays_18 ?_
      refine Gd_iastN (W_s53 hW) (by first | omega | decide) eX8_lays_19 ?_
      refine Gd_iinc1 (ho := rfl) (he := nI_inc _) eX8_lays_20 ?_
      refine Gd_goto eX8_lays_23 ?_
      exact m_lays_L1 hW hq fu (i + 1) (up2 a' 53 i (a' 69 i)) (by omega) (by omega) (up_ext0 h1 (h69 i)) (chg_up hc rfl)
theorem MA_lay {φ ψ : Nat → Nat → Nat} {a a' : Nat → Nat → Int32} (hM : MA φ a) (hK : KA ψ a) (q1 : ∀ j, j < 24 → a' 53 j = a 69 j) (q2 : ∀ j, j < 10 → a' 54 j = a 69 (24 + j)) (q3 : a' 50 5 = a 69 34) (hc : chg scL a a') : MA (lay φ ψ) a' := by
  obtain ⟨h1, h2, h3, h4, h5, h6, h7, h8, h9, h10, h11⟩ := hM
  obtain ⟨k1, k2, k3, k4, k5, k6⟩ := hK
  exact ⟨(hc _ _ rfl).trans h1, q3.trans k6, (hc _ _ rfl).trans h3, (hc _ _ rfl).trans h4, fun d hd => (q2 d hd).trans (k5 d hd), fun p hp => (q1 _ (by omega)).trans (k1 p hp), fun p hp => (q1 _ (by omega)).trans (k2 p hp), fun p hp => (q1 _ (by omega)).trans (k3 p hp), fun p hp => (q1 _ (by omega)).trans (k4 p hp), fun p hp => (hc _ _ rfl).trans (h10 p hp), fun p hp => (hc _ _ rfl).trans (h11 p hp)⟩
theorem m_lays {sh : List (Nat × Nat)} {a : Nat → Nat → Int32} {r : Nat → Nat → Option Nat} {g : Nat → Nat → Int64} (hW : WD sh r) {φ ψ : Nat → Nat → Nat} (hM : MA φ a) (hK : KA ψ a) : Mt YX8_lays 0 0 0 [vr 50] (sh, a, r, g) (g_E0 sh r g (fun a' => MA (lay φ ψ) a' ∧ chg scL a a')) := by
  refine Mt_of rfl (Nat.le_of_ble_eq_true rfl) rfl ?_
  refine Gd_iconst ki_0 eX8_lays_0 ?_
  refine Gd_istore_n1 rfl eX8_lays_1 ?_
  exact m_lays_L1 hW (fun a' q1 q2 q3 q4 => ⟨a', rfl, rfl, MA_lay hM hK q1 q2 q3 q4, q4⟩) 25 0 a (by omega) (by omega) (fun j hj => by omega) chg_rf
theorem m_gainsBy {sh : List (Nat × Nat)} {a : Nat → Nat → Int32} {r : Nat → Nat → Option Nat} {g : Nat → Nat → Int64} {φ ts cd : Nat → Nat → Nat} {nt : Nat} (hW : WD sh r) (hM : MA φ a) (hI : FI φ) (hT : TM nt ts cd a) (hTI : TI nt ts cd) (hlt : φ 7 2 < nt) {p : Nat} (hpn : p < φ 7 3) : Mt YX8_gainsBy 4 0 0 [vr 50, vi (nI p)] (sh, a, r, g) (g_EV sh r g (vi (nI (rewN φ ts cd p))) (fun a' => MA (fu φ 3 p (rewN φ ts cd p)) a' ∧ chg scS a a')) := by
  refine Mt_of rfl (Nat.le_of_ble_eq_true rfl) rfl ?_
  have hch : chg scM a a := chg_rf
  have hp6 : p < 6 := by have := FI_hu hI; omega
  have hki := FI_ki hI hp6
  refine Gd_aload_n (i := 0) rfl eX8_gainsBy_0 ?_
  refine Gd_getR fl_RX8_16 (W_s50 hW) (W_r50_3 hW) eX8_gainsBy_1 ?_
  refine Gd_iconst ki_4 eX8_gainsBy_4 ?_
  refine Gd_iload_n (i := 1) rfl eX8_gainsBy_5 ?_
  refine Gd_imulN eX8_gainsBy_6 ?_
  refine Gd_aload_n (i := 0) rfl eX8_gainsBy_7 ?_
  refine Gd_getR fl_RX8_16 (W_s50 hW) (W_r50_3 hW) eX8_gainsBy_8 ?_
  refine Gd_iconst ki_4 eX8_gainsBy_11 ?_
  refine Gd_iload_n (i := 1) rfl eX8_gainsBy_12 ?_
  refine Gd_imulN eX8_gainsBy_13 ?_
  refine Gd_ialdE (v := nI (φ 3 p)) (W_s53 hW) (by first | omega | decide) (MA_ho hM (p := p) (by first | omega | decide) :) eX8_gainsBy_14 ?_
  refine Gd_aload_n (i := 0) rfl eX8_gainsBy_15 ?_
  refine Gd_iload_n (i := 1) rfl eX8_gainsBy_16 ?_
  refine Gd_callEV (g_cV (m_gainsOf hW hM hI hT hTI hlt (by first | omega | decide)) ok_X8_gainsOf lk_RX8_220 (W_s50 hW) ⟨_, _, rfl⟩ rfl rfl (Nat.le_of_ble_eq_true rfl) (Nat.le_of_ble_eq_true rfl) (Nat.le_refl _) (Nat.le_refl _) eX8_gainsBy_17) (fun a hq => ?_)
  have hM := MA_sc hM hq
  have hT := TM_sc hT hq
  have hch := chg_tr hch hq
  refine Gd_iadd eX8_gainsBy_20 ?_
  refine Gd_iconst ki_0 eX8_gainsBy_21 ?_
  refine Gd_bipush kb_99 eX8_gainsBy_22 ?_
  refine Gd_callP (g_cS (m_within _ _ _) ok_X8_within lk_RX8_183 rfl rfl (Nat.le_of_ble_eq_true rfl) (Nat.le_of_ble_eq_true rfl) (Nat.le_refl _) (Nat.le_refl _) eX8_gainsBy_24) ?_
  have e0 : wth (nI (φ 3 p) + gains φ ts cd p) (nI 0) (nI 99) = nI (rewN φ ts cd p) := rewI_eq φ ts cd p
  rw [e0]
  have hM2 := MA_setho (p := p) (v := rewN φ ts cd p) hM
  refine Gd_iastN (W_s53 hW) (by first | omega | decide) eX8_gainsBy_27 ?_
  refine Gd_aload_n (i := 0) rfl eX8_gainsBy_28 ?_
  refine Gd_getR fl_RX8_16 (W_s50 hW) (W_r50_3 hW) eX8_gainsBy_29 ?_
  refine Gd_iconst ki_4 eX8_gainsBy_32 ?_
  refine Gd_iload_n (i := 1) rfl eX8_gainsBy_33 ?_
  refine Gd_imulN eX8_gainsBy_34 ?_
  refine Gd_ialdE (v := nI (rewN φ ts cd p)) (W_s53 hW) (by first | omega | decide) (up2_s _ _ _ _) eX8_gainsBy_35 ?_
  exact Gd_ireturn eX8_gainsBy_36 rfl (Nat.le_refl _) (Nat.le_refl _) ⟨_, rfl, rfl, hM2, chg_up (chg_mono hch (fun k j => scS_M)) rfl⟩
theorem m_seasonWrong_L {sh : List (Nat × Nat)} {a : Nat → Nat → Int32} {r : Nat → Nat → Option Nat} {g : Nat → Nat → Int64} {so sz : Nat → Nat} {cl : Nat → Nat → Int32} (hW : WD sh r) (hS : MS so sz cl a) (hSI : SI so sz) {j : Nat} (hj : j < 4) (hso : so j ≠ 4294967295) : ∀ (fu i : Nat), 40 < fu + i → i ≤ sz j → allD (cl j) i = true → Gd YX8_seasonWrong (z0 2 sh.length (g_P (some (vi (if so j = 4294967295 then -11 else if allD (cl j) (sz j) = true then nI 0 else -2))) (sh, a, r, g))) 0 0 27 [some (vr 50), some (vi (nI j)), some (vi (nI i))] [] (sh, a, r, g)
  | 0, i, h5, h6, hal => absurd h5 (by have := hSI.2 j hj; omega)
  | fu + 1, i, h5, h6, hal => by
    have hz := hSI.2 j hj
    refine Gd_iload_n (i := 2) rfl eX8_seasonWrong_27 ?_
    refine Gd_aload_n (i := 0) rfl eX8_seasonWrong_28 ?_
    refine Gd_getR fl_RX8_44 (W_s50 hW) (W_r50_17 hW) eX8_seasonWrong_29 ?_
    refine Gd_iload_n (i := 1) rfl eX8_seasonWrong_32 ?_
    refine Gd_ialdE (v := nI (sz j)) (W_s61 hW) (by first | omega | decide) (hS.2.1 j (by first | omega | decide) :) eX8_seasonWrong_33 ?_
    refine Gd_icmp_geN (by first | omega | decide) (by first | omega | decide) eX8_seasonWrong_34 (fun c34 => ?_) (fun c34 => ?_)
    · refine Gd_iconst ki_0 eX8_seasonWrong_63 ?_
      exact Gd_ireturn eX8_seasonWrong_64 rfl (Nat.le_refl _) (Nat.le_refl _) ⟨(by have e : i = sz j := (by omega); rw [if_neg hso, if_pos (by rw [← e]; exact hal)]), rfl⟩
    · refine Gd_aload_n (i := 0) rfl eX8_seasonWrong_37 ?_
      refine Gd_getR fl_RX8_47 (W_s50 hW) (W_r50_18 hW) eX8_seasonWrong_38 ?_
      refine Gd_bipush kb_40 eX8_seasonWrong_41 ?_
      refine Gd_iload_n (i := 1) rfl eX8_seasonWrong_43 ?_
      refine Gd_imulN eX8_seasonWrong_44 ?_
      refine Gd_iload_n (i := 2) rfl eX8_seasonWrong_45 ?_
      refine Gd_iaddN eX8_seasonWrong_46 ?_
      refine Gd_ialdE (W_s62 hW) (by first | omega | decide) (hS.2.2 j (by first | omega | decide) i (by first | omega | decide) :) eX8_seasonWrong_47 ?_
      refine Gd_callP (g_cS (m_isDeer _) ok_X8_isDeer lk_RX8_105 rfl rfl (Nat.le_of_ble_eq_true rfl) (Nat.le_of_ble_eq_true rfl) (Nat.le_refl _) (Nat.le_refl _) eX8_seasonWrong_48) ?_
      refine Gd_if_neB eX8_seasonWrong_51 (fun c51 => ?_) (fun c51 => ?_)
      · refine Gd_iinc2 (ho := rfl) (he := nI_inc _) eX8_seasonWrong_57 ?_
        refine Gd_goto eX8_seasonWrong_60 ?_
        exact m_seasonWrong_L hW hS hSI hj hso fu (i + 1) (by omega) (by omega) (by rw [allD, hal, c51]; rfl)
      · refine Gd_bipush kb_m2 eX8_seasonWrong_54 ?_
        exact Gd_ireturn eX8_seasonWrong_56 rfl (Nat.le_refl _) (Nat.le_refl _) ⟨(by rw [if_neg hso, if_neg (by intro q; obtain ⟨d, h1, h2⟩ := allD_at q i (by omega); rw [h2, inr_nI (by omega)] at c51; simp at c51; omega)]), rfl⟩
theorem m_seasonWrong {sh : List (Nat × Nat)} {a : Nat → Nat → Int32} {r : Nat → Nat → Option Nat} {g : Nat → Nat → Int64} {so sz : Nat → Nat} {cl : Nat → Nat → Int32} (hW : WD sh r) (hS : MS so sz cl a) (hSI : SI so sz) (s : Int32) : Mt YX8_seasonWrong 2 0 0 [vr 50, vi s] (sh, a, r, g) (g_P (some (vi (swr so sz cl s))) (sh, a, r, g)) := by
  refine Mt_of rfl (Nat.le_of_ble_eq_true rfl) rfl ?_
  refine Gd_iload_n (i := 1) rfl eX8_seasonWrong_0 ?_
  refine Gd_iconst ki_0 eX8_seasonWrong_1 ?_
  refine Gd_iconst ki_3 eX8_seasonWrong_2 ?_
  refine Gd_callP (g_cS (m_in _ _ _) ok_X8_in lk_RX8_84 rfl rfl (Nat.le_of_ble_eq_true rfl) (Nat.le_of_ble_eq_true rfl) (Nat.le_refl _) (Nat.le_refl _) eX8_seasonWrong_3) ?_
  refine Gd_if_neB eX8_seasonWrong_6 (fun c6 => ?_) (fun c6 => ?_)
  · rw [inb0 (by decide)] at c6
    obtain ⟨j, hj, rfl⟩ := inr_t c6 (by decide)
    have hso := hSI.1 j hj
    rw [show swr so sz cl (nI j) = (if so j = 4294967295 then -11 else if allD (cl j) (sz j) = true then nI 0 else -2) by rw [swr, nI_clamp (by omega), if_neg (by rw [c6]; decide)]]
    refine Gd_aload_n (i := 0) rfl eX8_seasonWrong_12 ?_
    refine Gd_getR fl_RX8_41 (W_s50 hW) (W_r50_16 hW) eX8_seasonWrong_13 ?_
    refine Gd_iload_n (i := 1) rfl eX8_seasonWrong_16 ?_
    refine Gd_ialdE (W_s60 hW) (by first | omega | decide) (hS.1 j (by first | omega | decide) :) eX8_seasonWrong_17 ?_
    refine Gd_iconst ki_m1 eX8_seasonWrong_18 ?_
    refine Gd_icmp_ne eX8_seasonWrong_19 (fun c19 => ?_) (fun c19 => ?_)
    · refine Gd_iconst ki_0 eX8_seasonWrong_25 ?_
      refine Gd_istore_n2 rfl eX8_seasonWrong_26 ?_
      exact m_seasonWrong_L hW hS hSI hj (fun q => c19 (by rw [q]; decide)) 41 0 (by omega) (by omega) rfl
    · refine Gd_bipush kb_m11 eX8_seasonWrong_22 ?_
      exact Gd_ireturn eX8_seasonWrong_24 rfl (Nat.le_refl _) (Nat.le_refl _) ⟨by rw [if_pos ((nI_m1_iff (by omega)).mp c19)], rfl⟩
  · refine Gd_bipush kb_m2 eX8_seasonWrong_9 ?_
    exact Gd_ireturn eX8_seasonWrong_11 rfl (Nat.le_refl _) (Nat.le_refl _) ⟨by rw [swr, if_pos (by rw [← inb0 (by decide)]; exact c6)], rfl⟩
