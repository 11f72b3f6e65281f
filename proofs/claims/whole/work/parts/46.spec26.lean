theorem m_count {sh : List (Nat × Nat)} {a : Nat → Nat → Int32} {r : Nat → Nat → Option Nat} {g : Nat → Nat → Int64} {φ : Nat → Nat → Nat} {nt nb : Nat} (hW : WD sh r) (hM : MA φ a) (hI : FI φ) (hnt : a 50 11 = nI nt) (hnb : a 50 8 = nI nb) (vv : Int32) : Mt YX8_count 1 0 0 [vr 50, vi vv] (sh, a, r, g) (g_P (some (vi (oCount φ nt nb vv))) (sh, a, r, g)) := by
  refine Mt_of rfl (Nat.le_of_ble_eq_true rfl) rfl ?_
  have hal := FI_al hI
  rcases sw6 vv with rfl | rfl | rfl | rfl | rfl | rfl | hout
  · refine Gd_iload_n (i := 1) rfl eX8_count_0 ?_
    refine Gd_tabIn (off := 39) (tgt := 40) eX8_count_1 (by decide) (by decide) (by decide +kernel) (by decide) ?_
    refine Gd_aload_n (i := 0) rfl eX8_count_40 ?_
    refine Gd_getIe (v := nI (φ 7 3)) fl_RX8_81 (W_s50 hW) (MA_hu hM :) eX8_count_41 ?_
    exact Gd_ireturn eX8_count_44 rfl (Nat.le_refl _) (Nat.le_refl _) ⟨by rw [oCount, if_pos rfl], rfl⟩
  · refine Gd_iload_n (i := 1) rfl eX8_count_0 ?_
    refine Gd_tabIn (off := 44) (tgt := 45) eX8_count_1 (by decide) (by decide) (by decide +kernel) (by decide) ?_
    refine Gd_aload_n (i := 0) rfl eX8_count_45 ?_
    refine Gd_getIe (v := nI (φ 7 0)) fl_RX8_22 (W_s50 hW) (MA_al hM :) eX8_count_46 ?_
    refine Gd_callP (g_cS (m_bitsOf (n := φ 7 0) (by omega)) ok_X8_bitsOf lk_RX8_92 rfl rfl (Nat.le_of_ble_eq_true rfl) (Nat.le_of_ble_eq_true rfl) (Nat.le_refl _) (Nat.le_refl _) eX8_count_49) ?_
    exact Gd_ireturn eX8_count_52 rfl (Nat.le_refl _) (Nat.le_refl _) ⟨by rw [oCount, if_neg (by decide), if_pos rfl], rfl⟩
  · refine Gd_iload_n (i := 1) rfl eX8_count_0 ?_
    refine Gd_tabIn (off := 52) (tgt := 53) eX8_count_1 (by decide) (by decide) (by decide +kernel) (by decide) ?_
    refine Gd_aload_n (i := 0) rfl eX8_count_53 ?_
    refine Gd_getIe (v := nI (φ 7 1)) fl_RX8_96 (W_s50 hW) (MA_da hM :) eX8_count_54 ?_
    exact Gd_ireturn eX8_count_57 rfl (Nat.le_refl _) (Nat.le_refl _) ⟨by rw [oCount, if_neg (by decide), if_neg (by decide), if_pos rfl], rfl⟩
  · refine Gd_iload_n (i := 1) rfl eX8_count_0 ?_
    refine Gd_tabIn (off := 57) (tgt := 58) eX8_count_1 (by decide) (by decide) (by decide +kernel) (by decide) ?_
    refine Gd_aload_n (i := 0) rfl eX8_count_58 ?_
    refine Gd_getIe (v := nI (nt)) fl_RX8_99 (W_s50 hW) hnt eX8_count_59 ?_
    exact Gd_ireturn eX8_count_62 rfl (Nat.le_refl _) (Nat.le_refl _) ⟨by rw [oCount, if_neg (by decide), if_neg (by decide), if_neg (by decide), if_pos rfl], rfl⟩
  · refine Gd_iload_n (i := 1) rfl eX8_count_0 ?_
    refine Gd_tabIn (off := 62) (tgt := 63) eX8_count_1 (by decide) (by decide) (by decide +kernel) (by decide) ?_
    refine Gd_aload_n (i := 0) rfl eX8_count_63 ?_
    refine Gd_getIe (v := nI (φ 7 2)) fl_RX8_102 (W_s50 hW) (MA_la hM :) eX8_count_64 ?_
    exact Gd_ireturn eX8_count_67 rfl (Nat.le_refl _) (Nat.le_refl _) ⟨by rw [oCount, if_neg (by decide), if_neg (by decide), if_neg (by decide), if_neg (by decide), if_pos rfl], rfl⟩
  · refine Gd_iload_n (i := 1) rfl eX8_count_0 ?_
    refine Gd_tabIn (off := 67) (tgt := 68) eX8_count_1 (by decide) (by decide) (by decide +kernel) (by decide) ?_
    refine Gd_aload_n (i := 0) rfl eX8_count_68 ?_
    refine Gd_getIe (v := nI (nb)) fl_RX8_74 (W_s50 hW) hnb eX8_count_69 ?_
    exact Gd_ireturn eX8_count_72 rfl (Nat.le_refl _) (Nat.le_refl _) ⟨by rw [oCount, if_neg (by decide), if_neg (by decide), if_neg (by decide), if_neg (by decide), if_neg (by decide), if_pos rfl], rfl⟩
  · refine Gd_iload_n (i := 1) rfl eX8_count_0 ?_
    refine Gd_tabOut (tgt := 73) eX8_count_1 (by assumption) (by decide) ?_
    refine Gd_bipush kb_m2 eX8_count_73 ?_
    exact Gd_ireturn eX8_count_75 rfl (Nat.le_refl _) (Nat.le_refl _) ⟨by rw [oCount_o hout], rfl⟩
theorem x_count {sh : List (Nat × Nat)} {a : Nat → Nat → Int32} {r : Nat → Nat → Option Nat} {g : Nat → Nat → Int64} {φ : Nat → Nat → Nat} {nt nb : Nat} (hW : WD sh r) (hA : FA 1 φ a) (hI : FI φ) (hnt : a 31 1 = nI nt) (hnb : a 25 1 = nI nb) (vv : Int32) : Mt YX7_count 1 0 0 [vr 0, vi vv] (sh, a, r, g) (g_P (some (vi (oCount φ nt nb vv))) (sh, a, r, g)) := by
  refine Mt_of rfl (Nat.le_of_ble_eq_true rfl) rfl ?_
  have hal := FI_al hI
  rcases sw6 vv with rfl | rfl | rfl | rfl | rfl | rfl | hout
  · refine Gd_iload_n (i := 1) rfl eX7_count_0 ?_
    refine Gd_tabIn (off := 39) (tgt := 40) eX7_count_1 (by decide) (by decide) (by decide +kernel) (by decide) ?_
    refine Gd_aload_n (i := 0) rfl eX7_count_40 ?_
    refine Gd_getR fl_RX7_10 (W_s0 hW) (W_r0_0 hW) eX7_count_41 ?_
    refine Gd_getIe (v := nI (φ 7 3)) fl_RX7_90 (W_s1 hW) (FA_hu hA :) eX7_count_44 ?_
    exact Gd_ireturn eX7_count_47 rfl (Nat.le_refl _) (Nat.le_refl _) ⟨by rw [oCount, if_pos rfl], rfl⟩
  · refine Gd_iload_n (i := 1) rfl eX7_count_0 ?_
    refine Gd_tabIn (off := 47) (tgt := 48) eX7_count_1 (by decide) (by decide) (by decide +kernel) (by decide) ?_
    refine Gd_aload_n (i := 0) rfl eX7_count_48 ?_
    refine Gd_getR fl_RX7_10 (W_s0 hW) (W_r0_0 hW) eX7_count_49 ?_
    refine Gd_getIe (v := nI (φ 7 0)) fl_RX7_94 (W_s1 hW) (FA_al hA :) eX7_count_52 ?_
    refine Gd_callP (g_cS (x_bitCount (n := φ 7 0) hal) ok_J6_bitCount_0f7a4 lk_RX7_97 rfl rfl (Nat.le_of_ble_eq_true rfl) (Nat.le_of_ble_eq_true rfl) (Nat.le_refl _) (Nat.le_refl _) eX7_count_55) ?_
    exact Gd_ireturn eX7_count_58 rfl (Nat.le_refl _) (Nat.le_refl _) ⟨by rw [oCount, if_neg (by decide), if_pos rfl], rfl⟩
  · refine Gd_iload_n (i := 1) rfl eX7_count_0 ?_
    refine Gd_tabIn (off := 58) (tgt := 59) eX7_count_1 (by decide) (by decide) (by decide +kernel) (by decide) ?_
    refine Gd_aload_n (i := 0) rfl eX7_count_59 ?_
    refine Gd_getR fl_RX7_10 (W_s0 hW) (W_r0_0 hW) eX7_count_60 ?_
    refine Gd_getIe (v := nI (φ 7 1)) fl_RX7_103 (W_s1 hW) (FA_da hA :) eX7_count_63 ?_
    exact Gd_ireturn eX7_count_66 rfl (Nat.le_refl _) (Nat.le_refl _) ⟨by rw [oCount, if_neg (by decide), if_neg (by decide), if_pos rfl], rfl⟩
  · refine Gd_iload_n (i := 1) rfl eX7_count_0 ?_
    refine Gd_tabIn (off := 66) (tgt := 67) eX7_count_1 (by decide) (by decide) (by decide +kernel) (by decide) ?_
    refine Gd_aload_n (i := 0) rfl eX7_count_67 ?_
    refine Gd_getR fl_RX7_36 (W_s0 hW) (W_r0_5 hW) eX7_count_68 ?_
    refine Gd_getIe (v := nI (nt)) fl_RX7_106 (W_s31 hW) hnt eX7_count_71 ?_
    exact Gd_ireturn eX7_count_74 rfl (Nat.le_refl _) (Nat.le_refl _) ⟨by rw [oCount, if_neg (by decide), if_neg (by decide), if_neg (by decide), if_pos rfl], rfl⟩
  · refine Gd_iload_n (i := 1) rfl eX7_count_0 ?_
    refine Gd_tabIn (off := 74) (tgt := 75) eX7_count_1 (by decide) (by decide) (by decide +kernel) (by decide) ?_
    refine Gd_aload_n (i := 0) rfl eX7_count_75 ?_
    refine Gd_getR fl_RX7_10 (W_s0 hW) (W_r0_0 hW) eX7_count_76 ?_
    refine Gd_getIe (v := nI (φ 7 2)) fl_RX7_109 (W_s1 hW) (FA_la hA :) eX7_count_79 ?_
    exact Gd_ireturn eX7_count_82 rfl (Nat.le_refl _) (Nat.le_refl _) ⟨by rw [oCount, if_neg (by decide), if_neg (by decide), if_neg (by decide), if_neg (by decide), if_pos rfl], rfl⟩
  · refine Gd_iload_n (i := 1) rfl eX7_count_0 ?_
    refine Gd_tabIn (off := 82) (tgt := 83) eX7_count_1 (by decide) (by decide) (by decide +kernel) (by decide) ?_
    refine Gd_aload_n (i := 0) rfl eX7_count_83 ?_
    refine Gd_getR fl_RX7_29 (W_s0 hW) (W_r0_4 hW) eX7_count_84 ?_
    refine Gd_getIe (v := nI (nb)) fl_RX7_112 (W_s25 hW) hnb eX7_count_87 ?_
    exact Gd_ireturn eX7_count_90 rfl (Nat.le_refl _) (Nat.le_refl _) ⟨by rw [oCount, if_neg (by decide), if_neg (by decide), if_neg (by decide), if_neg (by decide), if_neg (by decide), if_pos rfl], rfl⟩
  · refine Gd_iload_n (i := 1) rfl eX7_count_0 ?_
    refine Gd_tabOut (tgt := 91) eX7_count_1 (by assumption) (by decide) ?_
    refine Gd_bipush kb_m2 eX7_count_91 ?_
    exact Gd_ireturn eX7_count_93 rfl (Nat.le_refl _) (Nat.le_refl _) ⟨by rw [oCount_o hout], rfl⟩
