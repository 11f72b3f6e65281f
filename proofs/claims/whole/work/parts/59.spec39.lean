theorem m_taken {sh : List (Nat × Nat)} {a : Nat → Nat → Int32} {r : Nat → Nat → Option Nat} {g : Nat → Nat → Int64} {φ : Nat → Nat → Nat} (hW : WD sh r) (hM : MA φ a) (hI : FI φ) (vi_ vk : Int32) : Mt YX8_taken 1 0 0 [vr 50, vi vi_, vi vk] (sh, a, r, g) (g_P (some (vi (oTaken φ vi_ vk))) (sh, a, r, g)) := by
  refine Mt_of rfl (Nat.le_of_ble_eq_true rfl) rfl ?_
  have hhu := FI_hu hI
  refine Gd_iload_n (i := 2) rfl eX8_taken_0 ?_
  refine Gd_iconst ki_0 eX8_taken_1 ?_
  refine Gd_bipush kb_6 eX8_taken_2 ?_
  refine Gd_callP (g_cS (m_in _ _ _) ok_X8_in lk_RX8_84 rfl rfl (Nat.le_of_ble_eq_true rfl) (Nat.le_of_ble_eq_true rfl) (Nat.le_refl _) (Nat.le_refl _) eX8_taken_4) ?_
  refine Gd_if_neB eX8_taken_7 (fun c7 => ?_) (fun c7 => ?_)
  · obtain ⟨k, _, hk, rfl⟩ := inb_r (by decide) (by decide) c7
    refine Gd_iload_n (i := 1) rfl eX8_taken_13 ?_
    refine Gd_iconst ki_0 eX8_taken_14 ?_
    refine Gd_bipush kb_15 eX8_taken_15 ?_
    refine Gd_callP (g_cS (m_in _ _ _) ok_X8_in lk_RX8_84 rfl rfl (Nat.le_of_ble_eq_true rfl) (Nat.le_of_ble_eq_true rfl) (Nat.le_refl _) (Nat.le_refl _) eX8_taken_17) ?_
    refine Gd_if_neB eX8_taken_20 (fun c20 => ?_) (fun c20 => ?_)
    · obtain ⟨i, _, hi, rfl⟩ := inb_r (by decide) (by decide) c20
      have hr := oTaken_u (φ := φ) hk hi
      refine Gd_iload_n (i := 1) rfl eX8_taken_26 ?_
      refine Gd_bipush kb_6 eX8_taken_27 ?_
      refine Gd_icmp_ltN (by first | omega | decide) (by first | omega | decide) eX8_taken_29 (fun c29 => ?_) (fun c29 => ?_)
      · refine Gd_iload_n (i := 1) rfl eX8_taken_74 ?_
        refine Gd_aload_n (i := 0) rfl eX8_taken_75 ?_
        refine Gd_getIe (v := nI (φ 7 3)) fl_RX8_81 (W_s50 hW) (MA_hu hM :) eX8_taken_76 ?_
        refine Gd_icmp_ltN (by first | omega | decide) (by first | omega | decide) eX8_taken_79 (fun c79 => ?_) (fun c79 => ?_)
        · refine Gd_iload_n (i := 2) rfl eX8_taken_87 ?_
          refine Gd_bipush kb_6 eX8_taken_88 ?_
          refine Gd_icmp_geN (by first | omega | decide) (by first | omega | decide) eX8_taken_90 (fun c90 => ?_) (fun c90 => ?_)
          · refine Gd_bipush kb_m13 eX8_taken_110 ?_
            exact Gd_ireturn eX8_taken_112 rfl (Nat.le_refl _) (Nat.le_refl _) ⟨by rw [hr, if_pos (by omega), if_neg (by omega), if_neg (fun z => by omega)], rfl⟩
          · have hki := FI_ki hI (p := i) (by omega)
            refine Gd_aload_n (i := 0) rfl eX8_taken_93 ?_
            refine Gd_getR fl_RX8_7 (W_s50 hW) (W_r50_1 hW) eX8_taken_94 ?_
            refine Gd_iload_n (i := 1) rfl eX8_taken_97 ?_
            refine Gd_ialdE (v := nI (φ 1 i)) (W_s51 hW) (by first | omega | decide) (MA_ki hM (p := i) (by first | omega | decide) :) eX8_taken_98 ?_
            refine Gd_iload_n (i := 2) rfl eX8_taken_99 ?_
            refine Gd_callP (g_cS (m_isUnder (by first | omega | decide) (by first | omega | decide)) ok_X8_isUnder lk_RX8_294 rfl rfl (Nat.le_of_ble_eq_true rfl) (Nat.le_of_ble_eq_true rfl) (Nat.le_refl _) (Nat.le_refl _) eX8_taken_100) ?_
            refine Gd_if_eqB eX8_taken_103 (fun c103 => ?_) (fun c103 => ?_)
            · refine Gd_bipush kb_m13 eX8_taken_110 ?_
              exact Gd_ireturn eX8_taken_112 rfl (Nat.le_refl _) (Nat.le_refl _) ⟨by rw [hr, if_pos (by omega), if_neg (by omega), if_neg (fun z => by rw [c103] at z; exact absurd z.2 (by decide))], rfl⟩
            · refine Gd_iload_n (i := 1) rfl eX8_taken_106 ?_
              refine Gd_goto eX8_taken_107 ?_
              exact Gd_ireturn eX8_taken_112 rfl (Nat.le_refl _) (Nat.le_refl _) ⟨by rw [hr, if_pos (by omega), if_neg (by omega), if_pos ⟨by omega, c103⟩], rfl⟩
        · refine Gd_bipush kb_m11 eX8_taken_82 ?_
          refine Gd_goto eX8_taken_84 ?_
          exact Gd_ireturn eX8_taken_112 rfl (Nat.le_refl _) (Nat.le_refl _) ⟨by rw [hr, if_pos (by omega), if_pos (by omega)], rfl⟩
      · refine Gd_iload_n (i := 1) rfl eX8_taken_32 ?_
        refine Gd_bipush kb_6 eX8_taken_33 ?_
        refine Gd_isubN (by first | omega | decide) eX8_taken_35 ?_
        refine Gd_istore_n3 rfl eX8_taken_36 ?_
        refine Gd_aload_n (i := 0) rfl eX8_taken_37 ?_
        refine Gd_iload_n (i := 3) rfl eX8_taken_38 ?_
        refine Gd_callP (g_cV (m_isAlive hW hM hI (d := i - 6) (by omega)) ok_X8_isAlive lk_RX8_208 (W_s50 hW) ⟨_, _, rfl⟩ rfl rfl (Nat.le_of_ble_eq_true rfl) (Nat.le_of_ble_eq_true rfl) (Nat.le_refl _) (Nat.le_refl _) eX8_taken_39) ?_
        refine Gd_if_neB eX8_taken_42 (fun c42 => ?_) (fun c42 => ?_)
        · refine Gd_iload_n (i := 2) rfl eX8_taken_50 ?_
          refine Gd_bipush kb_6 eX8_taken_51 ?_
          refine Gd_icmp_neN (by first | omega | decide) (by first | omega | decide) eX8_taken_53 (fun c53 => ?_) (fun c53 => ?_)
          · refine Gd_bipush kb_m13 eX8_taken_71 ?_
            exact Gd_ireturn eX8_taken_73 rfl (Nat.le_refl _) (Nat.le_refl _) ⟨by rw [hr, if_neg (by omega), if_neg (by rw [c42]; decide), if_neg c53], rfl⟩
          · refine Gd_aload_n (i := 0) rfl eX8_taken_56 ?_
            refine Gd_getR fl_RX8_19 (W_s50 hW) (W_r50_4 hW) eX8_taken_57 ?_
            refine Gd_iload_n (i := 3) rfl eX8_taken_60 ?_
            refine Gd_iconst ki_0 eX8_taken_61 ?_
            refine Gd_bipush kb_9 eX8_taken_62 ?_
            refine Gd_callP (g_cS (m_within _ _ _) ok_X8_within lk_RX8_183 rfl rfl (Nat.le_of_ble_eq_true rfl) (Nat.le_of_ble_eq_true rfl) (Nat.le_refl _) (Nat.le_refl _) eX8_taken_64) ?_
            rw [wth_d (by omega)]
            refine Gd_ialdE (v := nI (φ 0 (i - 6))) (W_s54 hW) (by first | omega | decide) (MA_sh hM (d := i - 6) (by first | omega | decide) :) eX8_taken_67 ?_
            refine Gd_goto eX8_taken_68 ?_
            exact Gd_ireturn eX8_taken_73 rfl (Nat.le_refl _) (Nat.le_refl _) ⟨by rw [hr, if_neg (by omega), if_neg (by rw [c42]; decide), if_pos c53], rfl⟩
        · refine Gd_bipush kb_m11 eX8_taken_45 ?_
          refine Gd_goto eX8_taken_47 ?_
          exact Gd_ireturn eX8_taken_73 rfl (Nat.le_refl _) (Nat.le_refl _) ⟨by rw [hr, if_neg (by omega), if_pos c42], rfl⟩
    · refine Gd_bipush kb_m12 eX8_taken_23 ?_
      exact Gd_ireturn eX8_taken_25 rfl (Nat.le_refl _) (Nat.le_refl _) ⟨by rw [oTaken_i hk c20], rfl⟩
  · refine Gd_bipush kb_m2 eX8_taken_10 ?_
    exact Gd_ireturn eX8_taken_12 rfl (Nat.le_refl _) (Nat.le_refl _) ⟨by rw [oTaken_k c7], rfl⟩
theorem x_taken {sh : List (Nat × Nat)} {a : Nat → Nat → Int32} {r : Nat → Nat → Option Nat} {g : Nat → Nat → Int64} {φ : Nat → Nat → Nat} (hW : WD sh r) (hA : FA 1 φ a) (hI : FI φ) (vi_ vk : Int32) : Mt YX7_taken 1 0 0 [vr 0, vi vi_, vi vk] (sh, a, r, g) (g_P (some (vi (oTaken φ vi_ vk))) (sh, a, r, g)) := by
  refine Mt_of rfl (Nat.le_of_ble_eq_true rfl) rfl ?_
  have hhu := FI_hu hI
  refine Gd_iload_n (i := 2) rfl eX7_taken_0 ?_
  refine Gd_iconst ki_0 eX7_taken_1 ?_
  refine Gd_bipush kb_6 eX7_taken_2 ?_
  refine Gd_callP (g_cS (x_isWithin _ _ _) ok_X7_isWithin lk_RX7_119 rfl rfl (Nat.le_of_ble_eq_true rfl) (Nat.le_of_ble_eq_true rfl) (Nat.le_refl _) (Nat.le_refl _) eX7_taken_4) ?_
  refine Gd_if_neB eX7_taken_7 (fun c7 => ?_) (fun c7 => ?_)
  · obtain ⟨k, _, hk, rfl⟩ := inb_r (by decide) (by decide) c7
    refine Gd_iload_n (i := 1) rfl eX7_taken_13 ?_
    refine Gd_iconst ki_0 eX7_taken_14 ?_
    refine Gd_bipush kb_15 eX7_taken_15 ?_
    refine Gd_callP (g_cS (x_isWithin _ _ _) ok_X7_isWithin lk_RX7_119 rfl rfl (Nat.le_of_ble_eq_true rfl) (Nat.le_of_ble_eq_true rfl) (Nat.le_refl _) (Nat.le_refl _) eX7_taken_17) ?_
    refine Gd_if_neB eX7_taken_20 (fun c20 => ?_) (fun c20 => ?_)
    · obtain ⟨i, _, hi, rfl⟩ := inb_r (by decide) (by decide) c20
      have hr := oTaken_u (φ := φ) hk hi
      refine Gd_iload_n (i := 1) rfl eX7_taken_26 ?_
      refine Gd_bipush kb_6 eX7_taken_27 ?_
      refine Gd_icmp_geN (by first | omega | decide) (by first | omega | decide) eX7_taken_29 (fun c29 => ?_) (fun c29 => ?_)
      · refine Gd_iconst ki_0 eX7_taken_36 ?_
        refine Gd_istore_n3 rfl eX7_taken_37 ?_
        refine Gd_iload_n (i := 3) rfl eX7_taken_38 ?_
        refine Gd_if_eq eX7_taken_39 (fun _ => ?_) (fun q => by first | exact absurd q (by decide) | exact absurd (by decide) q)
        refine Gd_aload_n (i := 0) rfl eX7_taken_53 ?_
        refine Gd_getR fl_RX7_10 (W_s0 hW) (W_r0_0 hW) eX7_taken_54 ?_
        refine Gd_iload_n (i := 1) rfl eX7_taken_57 ?_
        refine Gd_bipush kb_6 eX7_taken_58 ?_
        refine Gd_isubN (by first | omega | decide) eX7_taken_60 ?_
        refine Gd_callP (g_cV (x_isAlive (W_F1 hW) hA hI (d := i - 6) (by omega)) ok_X0_isAlive lk_RX7_127 (W_s1 hW) ⟨_, _, rfl⟩ rfl rfl (Nat.le_of_ble_eq_true rfl) (Nat.le_of_ble_eq_true rfl) (Nat.le_refl _) (Nat.le_refl _) eX7_taken_61) ?_
        refine Gd_if_neB eX7_taken_64 (fun c64 => ?_) (fun c64 => ?_)
        · refine Gd_iload_n (i := 3) rfl eX7_taken_70 ?_
          refine Gd_if_eq eX7_taken_71 (fun _ => ?_) (fun q => by first | exact absurd q (by decide) | exact absurd (by decide) q)
          refine Gd_iload_n (i := 2) rfl eX7_taken_103 ?_
          refine Gd_bipush kb_6 eX7_taken_104 ?_
          refine Gd_icmp_neN (by first | omega | decide) (by first | omega | decide) eX7_taken_106 (fun c106 => ?_) (fun c106 => ?_)
          · refine Gd_bipush kb_m13 eX7_taken_124 ?_
            exact Gd_ireturn eX7_taken_126 rfl (Nat.le_refl _) (Nat.le_refl _) ⟨by rw [hr, if_neg (by omega), if_neg (by rw [c64]; decide), if_neg c106], rfl⟩
          · refine Gd_aload_n (i := 0) rfl eX7_taken_109 ?_
            refine Gd_getR fl_RX7_10 (W_s0 hW) (W_r0_0 hW) eX7_taken_110 ?_
            refine Gd_getR fl_RX7_123 (W_s1 hW) (W_r1_0 hW) eX7_taken_113 ?_
            refine Gd_iload_n (i := 1) rfl eX7_taken_116 ?_
            refine Gd_bipush kb_6 eX7_taken_117 ?_
            refine Gd_isubN (by first | omega | decide) eX7_taken_119 ?_
            refine Gd_ialdE (v := nI (φ 0 (i - 6))) (W_s2 hW) (by first | omega | decide) (FA_sh hA (d := i - 6) (by first | omega | decide) :) eX7_taken_120 ?_
            refine Gd_goto eX7_taken_121 ?_
            exact Gd_ireturn eX7_taken_126 rfl (Nat.le_refl _) (Nat.le_refl _) ⟨by rw [hr, if_neg (by omega), if_neg (by rw [c64]; decide), if_pos c106], rfl⟩
        · refine Gd_bipush kb_m11 eX7_taken_67 ?_
          exact Gd_ireturn eX7_taken_69 rfl (Nat.le_refl _) (Nat.le_refl _) ⟨by rw [hr, if_neg (by omega), if_pos c64], rfl⟩
      · refine Gd_iconst ki_1 eX7_taken_32 ?_
        refine Gd_goto eX7_taken_33 ?_
        refine Gd_istore_n3 rfl eX7_taken_37 ?_
        refine Gd_iload_n (i := 3) rfl eX7_taken_38 ?_
        refine Gd_if_eq eX7_taken_39 (fun q => by first | exact absurd q (by decide) | exact absurd (by decide) q) (fun _ => ?_)
        refine Gd_aload_n (i := 0) rfl eX7_taken_42 ?_
        refine Gd_iload_n (i := 1) rfl eX7_taken_43 ?_
        refine Gd_callP (g_cV (x_isHunter hW hA hI _) ok_X7_isHunter lk_RX7_140 (W_s0 hW) ⟨_, _, rfl⟩ rfl rfl (Nat.le_of_ble_eq_true rfl) (Nat.le_of_ble_eq_true rfl) (Nat.le_refl _) (Nat.le_refl _) eX7_taken_44) ?_
        refine Gd_if_neB eX7_taken_47 (fun c47 => ?_) (fun c47 => ?_)
        · refine Gd_iload_n (i := 3) rfl eX7_taken_70 ?_
          refine Gd_if_eq eX7_taken_71 (fun q => by first | exact absurd q (by decide) | exact absurd (by decide) q) (fun _ => ?_)
          refine Gd_iload_n (i := 2) rfl eX7_taken_74 ?_
          refine Gd_bipush kb_6 eX7_taken_75 ?_
          refine Gd_icmp_geN (by first | omega | decide) (by first | omega | decide) eX7_taken_77 (fun c77 => ?_) (fun c77 => ?_)
          · refine Gd_bipush kb_m13 eX7_taken_100 ?_
            exact Gd_ireturn eX7_taken_102 rfl (Nat.le_refl _) (Nat.le_refl _) ⟨by rw [hr, if_pos (by omega), if_neg (by rw [inr_nI (by omega)] at c47; simpa using c47), if_neg (fun z => by omega)], rfl⟩
          · have hki := FI_ki hI (p := i) (by omega)
            refine Gd_aload_n (i := 0) rfl eX7_taken_80 ?_
            refine Gd_getR fl_RX7_10 (W_s0 hW) (W_r0_0 hW) eX7_taken_81 ?_
            refine Gd_getR fl_RX7_167 (W_s1 hW) (W_r1_5 hW) eX7_taken_84 ?_
            refine Gd_iload_n (i := 1) rfl eX7_taken_87 ?_
            refine Gd_ialdE (v := nI (φ 1 i)) (W_s3 hW) (by first | omega | decide) (FA_ki hA (p := i) (by first | omega | decide) :) eX7_taken_88 ?_
            refine Gd_iload_n (i := 2) rfl eX7_taken_89 ?_
            refine Gd_callP (g_cS (x_isOfKind (by first | omega | decide) (by first | omega | decide)) ok_X3_isOfKind lk_RX7_299 rfl rfl (Nat.le_of_ble_eq_true rfl) (Nat.le_of_ble_eq_true rfl) (Nat.le_refl _) (Nat.le_refl _) eX7_taken_90) ?_
            refine Gd_if_eqB eX7_taken_93 (fun c93 => ?_) (fun c93 => ?_)
            · refine Gd_bipush kb_m13 eX7_taken_100 ?_
              exact Gd_ireturn eX7_taken_102 rfl (Nat.le_refl _) (Nat.le_refl _) ⟨by rw [hr, if_pos (by omega), if_neg (by rw [inr_nI (by omega)] at c47; simpa using c47), if_neg (fun z => by rw [c93] at z; exact absurd z.2 (by decide))], rfl⟩
            · refine Gd_iload_n (i := 1) rfl eX7_taken_96 ?_
              refine Gd_goto eX7_taken_97 ?_
              exact Gd_ireturn eX7_taken_102 rfl (Nat.le_refl _) (Nat.le_refl _) ⟨by rw [hr, if_pos (by omega), if_neg (by rw [inr_nI (by omega)] at c47; simpa using c47), if_pos ⟨by omega, c93⟩], rfl⟩
        · refine Gd_goto eX7_taken_50 ?_
          refine Gd_bipush kb_m11 eX7_taken_67 ?_
          exact Gd_ireturn eX7_taken_69 rfl (Nat.le_refl _) (Nat.le_refl _) ⟨by rw [hr, if_pos (by omega), if_pos (by rw [inr_nI (by omega)] at c47; simpa using c47)], rfl⟩
    · refine Gd_bipush kb_m12 eX7_taken_23 ?_
      exact Gd_ireturn eX7_taken_25 rfl (Nat.le_refl _) (Nat.le_refl _) ⟨by rw [oTaken_i hk c20], rfl⟩
  · refine Gd_bipush kb_m2 eX7_taken_10 ?_
    exact Gd_ireturn eX7_taken_12 rfl (Nat.le_refl _) (Nat.le_refl _) ⟨by rw [oTaken_k c7], rfl⟩
