theorem x_ask0 {sh : List (Nat × Nat)} {a : Nat → Nat → Int32} {r : Nat → Nat → Option Nat} {g : Nat → Nat → Int64} {φ ts cd : Nat → Nat → Nat} {nt f : Nat} (hW : WD sh r) (hF : isF sh r f) (hf : f ≤ 17) (hA : FA f φ a) (hI : FI φ) (hT : TX nt ts cd sh a r) (hTI : TI nt ts cd) (hlt : φ 7 2 < nt) {part p : Nat} (hp : part < 3) (hpn : p < φ 7 3) : Mt YX3_says 2 0 0 [vr 31, vr f, vi (nI part), vi (nI p), vi (-1)] (sh, a, r, g) (g_EV sh r g (vi (ask φ ts cd part p 0)) (fun a' => chg scR a a')) := by
  refine Mt_of rfl (Nat.le_of_ble_eq_true rfl) rfl ?_
  obtain ⟨hq1, hq2, hq3⟩ := TI_q hTI hlt hp
  have hnt := hTI.2.1
  have hp6 : p < 6 := by have := FI_hu hI; omega
  have hb1 := FI_me hI hp6
  have hb2 := FI_ca hI hp6
  have hla := FI_la hI
  have hpt := pT_ne (φ 7 2)
  obtain ⟨ht1, ht2, ht3⟩ := hT.2 _ hlt
  have hv : rv ((up2 (up2 (up2 (up2 (up2 (up2 a 33 0 (nI (φ 3 p))) 33 1 (nI (0))) 33 2 (nI (pops (φ 4 p) 10))) 33 3 (nI (pops (φ 5 p) 10))) 33 4 (nI (φ 7 1))) 33 5 (nI (φ 2 p))) 33) (cd (φ 7 2)) (ts (φ 7 2) part) (ts (φ 7 2) (part + 1) - ts (φ 7 2) part) = rv (nmf φ p (0)) (cd (φ 7 2)) (ts (φ 7 2) part) (ts (φ 7 2) (part + 1) - ts (φ 7 2) part) := rv_nm (fun i hi => by rcases (by omega : i = 0 ∨ i = 1 ∨ i = 2 ∨ i = 3 ∨ i = 4 ∨ i = 5) with rfl | rfl | rfl | rfl | rfl | rfl <;> rfl) ((hTI.2.2 _ hlt).2 part hp)
  have hc1 : chg scR a (up2 (up2 (up2 (up2 (up2 (up2 a 33 0 (nI (φ 3 p))) 33 1 (nI (0))) 33 2 (nI (pops (φ 4 p) 10))) 33 3 (nI (pops (φ 5 p) 10))) 33 4 (nI (φ 7 1))) 33 5 (nI (φ 2 p))) := chg_up (chg_up (chg_up (chg_up (chg_up (chg_up (chg_rf) rfl) rfl) rfl) rfl) rfl) rfl
  have hne : ∀ {k j : Nat}, k ≠ 33 → k ≠ 34 → (up2 (up2 (up2 (up2 (up2 (up2 a 33 0 (nI (φ 3 p))) 33 1 (nI (0))) 33 2 (nI (pops (φ 4 p) 10))) 33 3 (nI (pops (φ 5 p) 10))) 33 4 (nI (φ 7 1))) 33 5 (nI (φ 2 p))) k j = a k j := fun h1 h2 => hc1 _ _ (scR_ne h1 h2)
  have hne : ∀ {k : Nat} (j : Nat), k ≠ 33 → k ≠ 34 → (up2 (up2 (up2 (up2 (up2 (up2 a 33 0 (nI (φ 3 p))) 33 1 (nI (0))) 33 2 (nI (pops (φ 4 p) 10))) 33 3 (nI (pops (φ 5 p) 10))) 33 4 (nI (φ 7 1))) 33 5 (nI (φ 2 p))) k j = a k j := fun j h1 h2 => hc1 _ _ (scR_ne h1 h2)
  have fin : ∀ {a2 : Nat → Nat → Int32}, chg s34 (up2 (up2 (up2 (up2 (up2 (up2 a 33 0 (nI (φ 3 p))) 33 1 (nI (0))) 33 2 (nI (pops (φ 4 p) 10))) 33 3 (nI (pops (φ 5 p) 10))) 33 4 (nI (φ 7 1))) 33 5 (nI (φ 2 p))) a2 → chg scR a a2 := fun q => chg_tr hc1 (chg_mono q (fun k j hk => by simp [scR] at hk; simp [s34, hk]))
  refine Gd_aload_n (i := 0) rfl eX3_says_0 ?_
  refine Gd_getR fl_RX3_21 (W_s31 hW) (W_r31_2 hW) eX3_says_1 ?_
  refine Gd_iconst ki_0 eX3_says_4 ?_
  refine Gd_aload_n (i := 1) rfl eX3_says_5 ?_
  refine Gd_getR fl_RX3_28 (F_s0 hF) (F_r7 hF) eX3_says_6 ?_
  refine Gd_iload_n (i := 3) rfl eX3_says_9 ?_
  refine Gd_ialdE (v := nI (φ 3 p)) (F_s4 hF) (by first | omega | decide) (by simp [up2, show ¬ f + 4 = 33 by omega, FA_ho hA (p := p) (by omega)]) eX3_says_10 ?_
  refine Gd_iastN (W_s33 hW) (by first | omega | decide) eX3_says_11 ?_
  refine Gd_aload_n (i := 0) rfl eX3_says_12 ?_
  refine Gd_getR fl_RX3_21 (W_s31 hW) (W_r31_2 hW) eX3_says_13 ?_
  refine Gd_iconst ki_1 eX3_says_16 ?_
  refine Gd_iload (i := 4) rfl eX3_says_17 ?_
  refine Gd_if_ge eX3_says_19 (fun q => by first | exact absurd q (by decide) | exact absurd (by decide) q) (fun _ => ?_)
  refine Gd_iconst ki_0 eX3_says_22 ?_
  refine Gd_goto eX3_says_23 ?_
  refine Gd_iastN (W_s33 hW) (by first | omega | decide) eX3_says_33 ?_
  refine Gd_aload_n (i := 0) rfl eX3_says_34 ?_
  refine Gd_getR fl_RX3_21 (W_s31 hW) (W_r31_2 hW) eX3_says_35 ?_
  refine Gd_iconst ki_2 eX3_says_38 ?_
  refine Gd_aload_n (i := 1) rfl eX3_says_39 ?_
  refine Gd_getR fl_RX3_36 (F_s0 hF) (F_r8 hF) eX3_says_40 ?_
  refine Gd_iload_n (i := 3) rfl eX3_says_43 ?_
  refine Gd_ialdE (v := nI (φ 4 p)) (F_s5 hF) (by first | omega | decide) (by simp [up2, show ¬ f + 5 = 33 by omega, FA_me hA (p := p) (by omega)]) eX3_says_44 ?_
  refine Gd_callP (g_cS (x_bitCount (by first | omega | decide)) ok_J6_bitCount_0f7a4 lk_RX3_39 rfl rfl (Nat.le_of_ble_eq_true rfl) (Nat.le_of_ble_eq_true rfl) (Nat.le_refl _) (Nat.le_refl _) eX3_says_45) ?_
  refine Gd_iastN (W_s33 hW) (by first | omega | decide) eX3_says_48 ?_
  refine Gd_aload_n (i := 0) rfl eX3_says_49 ?_
  refine Gd_getR fl_RX3_21 (W_s31 hW) (W_r31_2 hW) eX3_says_50 ?_
  refine Gd_iconst ki_3 eX3_says_53 ?_
  refine Gd_aload_n (i := 1) rfl eX3_says_54 ?_
  refine Gd_getR fl_RX3_45 (F_s0 hF) (F_r9 hF) eX3_says_55 ?_
  refine Gd_iload_n (i := 3) rfl eX3_says_58 ?_
  refine Gd_ialdE (v := nI (φ 5 p)) (F_s6 hF) (by first | omega | decide) (by simp [up2, show ¬ f + 6 = 33 by omega, FA_ca hA (p := p) (by omega)]) eX3_says_59 ?_
  refine Gd_callP (g_cS (x_bitCount (by first | omega | decide)) ok_J6_bitCount_0f7a4 lk_RX3_39 rfl rfl (Nat.le_of_ble_eq_true rfl) (Nat.le_of_ble_eq_true rfl) (Nat.le_refl _) (Nat.le_refl _) eX3_says_60) ?_
  refine Gd_iastN (W_s33 hW) (by first | omega | decide) eX3_says_63 ?_
  refine Gd_aload_n (i := 0) rfl eX3_says_64 ?_
  refine Gd_getR fl_RX3_21 (W_s31 hW) (W_r31_2 hW) eX3_says_65 ?_
  refine Gd_iconst ki_4 eX3_says_68 ?_
  refine Gd_aload_n (i := 1) rfl eX3_says_69 ?_
  refine Gd_getIe (v := nI (φ 7 1)) fl_RX3_48 (F_s0 hF) (by simp [up2, show ¬ f = 33 by omega, FA_da hA]) eX3_says_70 ?_
  refine Gd_iastN (W_s33 hW) (by first | omega | decide) eX3_says_73 ?_
  refine Gd_aload_n (i := 0) rfl eX3_says_74 ?_
  refine Gd_getR fl_RX3_21 (W_s31 hW) (W_r31_2 hW) eX3_says_75 ?_
  refine Gd_iconst ki_5 eX3_says_78 ?_
  refine Gd_aload_n (i := 1) rfl eX3_says_79 ?_
  refine Gd_getR fl_RX3_51 (F_s0 hF) (F_r6 hF) eX3_says_80 ?_
  refine Gd_iload_n (i := 3) rfl eX3_says_83 ?_
  refine Gd_ialdE (v := nI (φ 2 p)) (F_s3 hF) (by first | omega | decide) (by simp [up2, show ¬ f + 3 = 33 by omega, FA_mo hA (p := p) (by omega)]) eX3_says_84 ?_
  refine Gd_iastN (W_s33 hW) (by first | omega | decide) eX3_says_85 ?_
  refine Gd_aload_n (i := 0) rfl eX3_says_86 ?_
  refine Gd_getR fl_RX3_11 (W_s31 hW) (W_r31_0 hW) eX3_says_87 ?_
  refine Gd_aload_n (i := 1) rfl eX3_says_90 ?_
  refine Gd_getIe (v := nI (φ 7 2)) fl_RX3_54 (F_s0 hF) (by simp [up2, show ¬ f = 33 by omega, FA_la hA]) eX3_says_91 ?_
  refine Gd_aaldN (Or.inr ⟨rfl, rfl, rfl⟩ : g_rc 22 2 5) (W_s32 hW) (by first | omega | decide) ht1.1 eX3_says_94 ?_
  refine Gd_astore5 rfl eX3_says_95 ?_
  refine Gd_aload (i := 5) rfl eX3_says_97 ?_
  refine Gd_ifnonnull eX3_says_99 ?_
  refine Gd_aload (i := 5) rfl eX3_says_106 ?_
  refine Gd_iload_n (i := 2) rfl eX3_says_108 ?_
  refine Gd_aload_n (i := 0) rfl eX3_says_109 ?_
  refine Gd_getR fl_RX3_21 (W_s31 hW) (W_r31_2 hW) eX3_says_110 ?_
  refine Gd_aload_n (i := 0) rfl eX3_says_113 ?_
  refine Gd_getR fl_RX3_25 (W_s31 hW) (W_r31_3 hW) eX3_says_114 ?_
  refine Gd_callEV (g_cV (x_value (T := pT (φ 7 2)) (len := ts (φ 7 2) 3) (part := part) (f := ts (φ 7 2) part) (e := ts (φ 7 2) (part + 1)) (c := cd (φ 7 2)) hW ht1.2.1 ht1.2.2.1 ht1.2.2.2.1 ht1.2.2.2.2.1 ht1.2.2.2.2.2 hp (by rw [← ht2 part (by omega)]; exact hne _ (by omega) (by omega)) (by rw [← ht2 (part + 1) (by omega)]; exact hne _ (by omega) (by omega)) (fun k hk => by rw [← ht3 k (by omega)]; exact hne _ (by omega) (by omega)) ⟨hq1, hq2, (TI_at hTI hlt).2.2.2⟩ ((hTI.2.2 _ hlt).2 part hp) (by omega)) ok_X5_value lk_RX3_57 ht1.2.1 ⟨_, _, rfl⟩ rfl rfl (Nat.le_of_ble_eq_true rfl) (Nat.le_of_ble_eq_true rfl) (Nat.le_refl _) (Nat.le_refl _) eX3_says_117) (fun a2 hq => ?_)
  refine Gd_istore6 rfl eX3_says_120 ?_
  refine Gd_iload_n (i := 2) rfl eX3_says_122 ?_
  refine Gd_iconst ki_2 eX3_says_123 ?_
  refine Gd_icmp_neN (by first | omega | decide) (by first | omega | decide) eX3_says_124 (fun c124 => ?_) (fun c124 => ?_)
  · refine Gd_bipush kb_m99 eX3_says_138 ?_
    refine Gd_bipush kb_99 eX3_says_140 ?_
    refine Gd_iload (i := 6) rfl eX3_says_142 ?_
    refine Gd_mmin lk_RX3_61 (Nat.le_of_ble_eq_true rfl) (Nat.le_of_ble_eq_true rfl) (Nat.zero_le _) (Nat.zero_le _) eX3_says_144 ?_
    refine Gd_mmax lk_RX3_67 (Nat.le_of_ble_eq_true rfl) (Nat.le_of_ble_eq_true rfl) (Nat.zero_le _) (Nat.zero_le _) eX3_says_147 ?_
    exact Gd_ireturn eX3_says_150 rfl (Nat.le_refl _) (Nat.le_refl _) ⟨a2, by rw [mm_wth _ _ _ (by decide), ask, ask3, if_neg c124, ← hv], rfl, fin hq⟩
  · refine Gd_iload (i := 6) rfl eX3_says_127 ?_
    refine Gd_if_eq eX3_says_129 (fun c129 => ?_) (fun c129 => ?_)
    · refine Gd_iconst ki_0 eX3_says_136 ?_
      exact Gd_ireturn eX3_says_137 rfl (Nat.le_refl _) (Nat.le_refl _) ⟨a2, by rw [ask, ask3, if_pos c124, ← hv, if_pos (by simpa using c129)], rfl, fin hq⟩
    · refine Gd_iconst ki_1 eX3_says_132 ?_
      refine Gd_goto eX3_says_133 ?_
      exact Gd_ireturn eX3_says_137 rfl (Nat.le_refl _) (Nat.le_refl _) ⟨a2, by rw [ask, ask3, if_pos c124, ← hv, if_neg c129], rfl, fin hq⟩
theorem x_ask1 {sh : List (Nat × Nat)} {a : Nat → Nat → Int32} {r : Nat → Nat → Option Nat} {g : Nat → Nat → Int64} {φ ts cd : Nat → Nat → Nat} {nt f : Nat} (hW : WD sh r) (hF : isF sh r f) (hf : f ≤ 17) (hA : FA f φ a) (hI : FI φ) (hT : TX nt ts cd sh a r) (hTI : TI nt ts cd) (hlt : φ 7 2 < nt) {part p d : Nat} (hp : part < 3) (hpn : p < φ 7 3) (hd : d < 10) : Mt YX3_says 2 0 0 [vr 31, vr f, vi (nI part), vi (nI p), vi (nI d)] (sh, a, r, g) (g_EV sh r g (vi (ask φ ts cd part p (φ 0 d))) (fun a' => chg scR a a')) := by
  refine Mt_of rfl (Nat.le_of_ble_eq_true rfl) rfl ?_
  obtain ⟨hq1, hq2, hq3⟩ := TI_q hTI hlt hp
  have hnt := hTI.2.1
  have hp6 : p < 6 := by have := FI_hu hI; omega
  have hb1 := FI_me hI hp6
  have hb2 := FI_ca hI hp6
  have hla := FI_la hI
  have hpt := pT_ne (φ 7 2)
  obtain ⟨ht1, ht2, ht3⟩ := hT.2 _ hlt
  have hv : rv ((up2 (up2 (up2 (up2 (up2 (up2 a 33 0 (nI (φ 3 p))) 33 1 (nI (φ 0 d))) 33 2 (nI (pops (φ 4 p) 10))) 33 3 (nI (pops (φ 5 p) 10))) 33 4 (nI (φ 7 1))) 33 5 (nI (φ 2 p))) 33) (cd (φ 7 2)) (ts (φ 7 2) part) (ts (φ 7 2) (part + 1) - ts (φ 7 2) part) = rv (nmf φ p (φ 0 d)) (cd (φ 7 2)) (ts (φ 7 2) part) (ts (φ 7 2) (part + 1) - ts (φ 7 2) part) := rv_nm (fun i hi => by rcases (by omega : i = 0 ∨ i = 1 ∨ i = 2 ∨ i = 3 ∨ i = 4 ∨ i = 5) with rfl | rfl | rfl | rfl | rfl | rfl <;> rfl) ((hTI.2.2 _ hlt).2 part hp)
  have hc1 : chg scR a (up2 (up2 (up2 (up2 (up2 (up2 a 33 0 (nI (φ 3 p))) 33 1 (nI (φ 0 d))) 33 2 (nI (pops (φ 4 p) 10))) 33 3 (nI (pops (φ 5 p) 10))) 33 4 (nI (φ 7 1))) 33 5 (nI (φ 2 p))) := chg_up (chg_up (chg_up (chg_up (chg_up (chg_up (chg_rf) rfl) rfl) rfl) rfl) rfl) rfl
  have hne : ∀ {k j : Nat}, k ≠ 33 → k ≠ 34 → (up2 (up2 (up2 (up2 (up2 (up2 a 33 0 (nI (φ 3 p))) 33 1 (nI (φ 0 d))) 33 2 (nI (pops (φ 4 p) 10))) 33 3 (nI (pops (φ 5 p) 10))) 33 4 (nI (φ 7 1))) 33 5 (nI (φ 2 p))) k j = a k j := fun h1 h2 => hc1 _ _ (scR_ne h1 h2)
  have hne : ∀ {k : Nat} (j : Nat), k ≠ 33 → k ≠ 34 → (up2 (up2 (up2 (up2 (up2 (up2 a 33 0 (nI (φ 3 p))) 33 1 (nI (φ 0 d))) 33 2 (nI (pops (φ 4 p) 10))) 33 3 (nI (pops (φ 5 p) 10))) 33 4 (nI (φ 7 1))) 33 5 (nI (φ 2 p))) k j = a k j := fun j h1 h2 => hc1 _ _ (scR_ne h1 h2)
  have fin : ∀ {a2 : Nat → Nat → Int32}, chg s34 (up2 (up2 (up2 (up2 (up2 (up2 a 33 0 (nI (φ 3 p))) 33 1 (nI (φ 0 d))) 33 2 (nI (pops (φ 4 p) 10))) 33 3 (nI (pops (φ 5 p) 10))) 33 4 (nI (φ 7 1))) 33 5 (nI (φ 2 p))) a2 → chg scR a a2 := fun q => chg_tr hc1 (chg_mono q (fun k j hk => by simp [scR] at hk; simp [s34, hk]))
  refine Gd_aload_n (i := 0) rfl eX3_says_0 ?_
  refine Gd_getR fl_RX3_21 (W_s31 hW) (W_r31_2 hW) eX3_says_1 ?_
  refine Gd_iconst ki_0 eX3_says_4 ?_
  refine Gd_aload_n (i := 1) rfl eX3_says_5 ?_
  refine Gd_getR fl_RX3_28 (F_s0 hF) (F_r7 hF) eX3_says_6 ?_
  refine Gd_iload_n (i := 3) rfl eX3_says_9 ?_
  refine Gd_ialdE (v := nI (φ 3 p)) (F_s4 hF) (by first | omega | decide) (by simp [up2, show ¬ f + 4 = 33 by omega, FA_ho hA (p := p) (by omega)]) eX3_says_10 ?_
  refine Gd_iastN (W_s33 hW) (by first | omega | decide) eX3_says_11 ?_
  refine Gd_aload_n (i := 0) rfl eX3_says_12 ?_
  refine Gd_getR fl_RX3_21 (W_s31 hW) (W_r31_2 hW) eX3_says_13 ?_
  refine Gd_iconst ki_1 eX3_says_16 ?_
  refine Gd_iload (i := 4) rfl eX3_says_17 ?_
  refine Gd_if_geN (by first | omega | decide) eX3_says_19 ?_
  refine Gd_aload_n (i := 1) rfl eX3_says_26 ?_
  refine Gd_getR fl_RX3_33 (F_s0 hF) (F_r0 hF) eX3_says_27 ?_
  refine Gd_iload (i := 4) rfl eX3_says_30 ?_
  refine Gd_ialdE (v := nI (φ 0 d)) (F_s1 hF) (by first | omega | decide) (by simp [up2, show ¬ f + 1 = 33 by omega, FA_sh hA (d := d) (by omega)]) eX3_says_32 ?_
  refine Gd_iastN (W_s33 hW) (by first | omega | decide) eX3_says_33 ?_
  refine Gd_aload_n (i := 0) rfl eX3_says_34 ?_
  refine Gd_getR fl_RX3_21 (W_s31 hW) (W_r31_2 hW) eX3_says_35 ?_
  refine Gd_iconst ki_2 eX3_says_38 ?_
  refine Gd_aload_n (i := 1) rfl eX3_says_39 ?_
  refine Gd_getR fl_RX3_36 (F_s0 hF) (F_r8 hF) eX3_says_40 ?_
  refine Gd_iload_n (i := 3) rfl eX3_says_43 ?_
  refine Gd_ialdE (v := nI (φ 4 p)) (F_s5 hF) (by first | omega | decide) (by simp [up2, show ¬ f + 5 = 33 by omega, FA_me hA (p := p) (by omega)]) eX3_says_44 ?_
  refine Gd_callP (g_cS (x_bitCount (by first | omega | decide)) ok_J6_bitCount_0f7a4 lk_RX3_39 rfl rfl (Nat.le_of_ble_eq_true rfl) (Nat.le_of_ble_eq_true rfl) (Nat.le_refl _) (Nat.le_refl _) eX3_says_45) ?_
  refine Gd_iastN (W_s33 hW) (by first | omega | decide) eX3_says_48 ?_
  refine Gd_aload_n (i := 0) rfl eX3_says_49 ?_
  refine Gd_getR fl_RX3_21 (W_s31 hW) (W_r31_2 hW) eX3_says_50 ?_
  refine Gd_iconst ki_3 eX3_says_53 ?_
  refine Gd_aload_n (i := 1) rfl eX3_says_54 ?_
  refine Gd_getR fl_RX3_45 (F_s0 hF) (F_r9 hF) eX3_says_55 ?_
  refine Gd_iload_n (i := 3) rfl eX3_says_58 ?_
  refine Gd_ialdE (v := nI (φ 5 p)) (F_s6 hF) (by first | omega | decide) (by simp [up2, show ¬ f + 6 = 33 by omega, FA_ca hA (p := p) (by omega)]) eX3_says_59 ?_
  refine Gd_callP (g_cS (x_bitCount (by first | omega | decide)) ok_J6_bitCount_0f7a4 lk_RX3_39 rfl rfl (Nat.le_of_ble_eq_true rfl) (Nat.le_of_ble_eq_true rfl) (Nat.le_refl _) (Nat.le_refl _) eX3_says_60) ?_
  refine Gd_iastN (W_s33 hW) (by first | omega | decide) eX3_says_63 ?_
  refine Gd_aload_n (i := 0) rfl eX3_says_64 ?_
  refine Gd_getR fl_RX3_21 (W_s31 hW) (W_r31_2 hW) eX3_says_65 ?_
  refine Gd_iconst ki_4 eX3_says_68 ?_
  refine Gd_aload_n (i := 1) rfl eX3_says_69 ?_
  refine Gd_getIe (v := nI (φ 7 1)) fl_RX3_48 (F_s0 hF) (by simp [up2, show ¬ f = 33 by omega, FA_da hA]) eX3_says_70 ?_
  refine Gd_iastN (W_s33 hW) (by first | omega | decide) eX3_says_73 ?_
  refine Gd_aload_n (i := 0) rfl eX3_says_74 ?_
  refine Gd_getR fl_RX3_21 (W_s31 hW) (W_r31_2 hW) eX3_says_75 ?_
  refine Gd_iconst ki_5 eX3_says_78 ?_
  refine Gd_aload_n (i := 1) rfl eX3_says_79 ?_
  refine Gd_getR fl_RX3_51 (F_s0 hF) (F_r6 hF) eX3_says_80 ?_
  refine Gd_iload_n (i := 3) rfl eX3_says_83 ?_
  refine Gd_ialdE (v := nI (φ 2 p)) (F_s3 hF) (by first | omega | decide) (by simp [up2, show ¬ f + 3 = 33 by omega, FA_mo hA (p := p) (by omega)]) eX3_says_84 ?_
  refine Gd_iastN (W_s33 hW) (by first | omega | decide) eX3_says_85 ?_
  refine Gd_aload_n (i := 0) rfl eX3_says_86 ?_
  refine Gd_getR fl_RX3_11 (W_s31 hW) (W_r31_0 hW) eX3_says_87 ?_
  refine Gd_aload_n (i := 1) rfl eX3_says_90 ?_
  refine Gd_getIe (v := nI (φ 7 2)) fl_RX3_54 (F_s0 hF) (by simp [up2, show ¬ f = 33 by omega, FA_la hA]) eX3_says_91 ?_
  refine Gd_aaldN (Or.inr ⟨rfl, rfl, rfl⟩ : g_rc 22 2 5) (W_s32 hW) (by first | omega | decide) ht1.1 eX3_says_94 ?_
  refine Gd_astore5 rfl eX3_says_95 ?_
  refine Gd_aload (i := 5) rfl eX3_says_97 ?_
  refine Gd_ifnonnull eX3_says_99 ?_
  refine Gd_aload (i := 5) rfl eX3_says_106 ?_
  refine Gd_iload_n (i := 2) rfl eX3_says_108 ?_
  refine Gd_aload_n (i := 0) rfl eX3_says_109 ?_
  refine Gd_getR fl_RX3_21 (W_s31 hW) (W_r31_2 hW) eX3_says_110 ?_
  refine Gd_aload_n (i := 0) rfl eX3_says_113 ?_
  refine Gd_getR fl_RX3_25 (W_s31 hW) (W_r31_3 hW) eX3_says_114 ?_
  refine Gd_callEV (g_cV (x_value (T := pT (φ 7 2)) (len := ts (φ 7 2) 3) (part := part) (f := ts (φ 7 2) part) (e := ts (φ 7 2) (part + 1)) (c := cd (φ 7 2)) hW ht1.2.1 ht1.2.2.1 ht1.2.2.2.1 ht1.2.2.2.2.1 ht1.2.2.2.2.2 hp (by rw [← ht2 part (by omega)]; exact hne _ (by omega) (by omega)) (by rw [← ht2 (part + 1) (by omega)]; exact hne _ (by omega) (by omega)) (fun k hk => by rw [← ht3 k (by omega)]; exact hne _ (by omega) (by omega)) ⟨hq1, hq2, (TI_at hTI hlt).2.2.2⟩ ((hTI.2.2 _ hlt).2 part hp) (by omega)) ok_X5_value lk_RX3_57 ht1.2.1 ⟨_, _, rfl⟩ rfl rfl (Nat.le_of_ble_eq_true rfl) (Nat.le_of_ble_eq_true rfl) (Nat.le_refl _) (Nat.le_refl _) eX3_says_117) (fun a2 hq => ?_)
  refine Gd_istore6 rfl eX3_says_120 ?_
  refine Gd_iload_n (i := 2) rfl eX3_says_122 ?_
  refine Gd_iconst ki_2 eX3_says_123 ?_
  refine Gd_icmp_neN (by first | omega | decide) (by first | omega | decide) eX3_says_124 (fun c124 => ?_) (fun c124 => ?_)
  · refine Gd_bipush kb_m99 eX3_says_138 ?_
    refine Gd_bipush kb_99 eX3_says_140 ?_
    refine Gd_iload (i := 6) rfl eX3_says_142 ?_
    refine Gd_mmin lk_RX3_61 (Nat.le_of_ble_eq_true rfl) (Nat.le_of_ble_eq_true rfl) (Nat.zero_le _) (Nat.zero_le _) eX3_says_144 ?_
    refine Gd_mmax lk_RX3_67 (Nat.le_of_ble_eq_true rfl) (Nat.le_of_ble_eq_true rfl) (Nat.zero_le _) (Nat.zero_le _) eX3_says_147 ?_
    exact Gd_ireturn eX3_says_150 rfl (Nat.le_refl _) (Nat.le_refl _) ⟨a2, by rw [mm_wth _ _ _ (by decide), ask, ask3, if_neg c124, ← hv], rfl, fin hq⟩
  · refine Gd_iload (i := 6) rfl eX3_says_127 ?_
    refine Gd_if_eq eX3_says_129 (fun c129 => ?_) (fun c129 => ?_)
    · refine Gd_iconst ki_0 eX3_says_136 ?_
      exact Gd_ireturn eX3_says_137 rfl (Nat.le_refl _) (Nat.le_refl _) ⟨a2, by rw [ask, ask3, if_pos c124, ← hv, if_pos (by simpa using c129)], rfl, fin hq⟩
    · refine Gd_iconst ki_1 eX3_says_132 ?_
      refine Gd_goto eX3_says_133 ?_
      exact Gd_ireturn eX3_says_137 rfl (Nat.le_refl _) (Nat.le_refl _) ⟨a2, by rw [ask, ask3, if_pos c124, ← hv, if_neg c129], rfl, fin hq⟩
