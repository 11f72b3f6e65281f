theorem m_honours0_L {sh : List (Nat × Nat)} {r : Nat → Nat → Option Nat} {g : Nat → Nat → Int64} {φ ts cd : Nat → Nat → Nat} {nt : Nat} {so sz : Nat → Nat} {cl : Nat → Nat → Int32} (hW : WD sh r) (hI : FI φ) (hTI : TI nt ts cd) (hlt : φ 7 2 < nt) {i j p : Nat} (hi : i < 4) (hj : j < 4) (hal : allD (cl i) (sz i) = true) (hle : sz j ≤ sz i) (hz : sz i ≤ 40) (hpn : p < φ 7 3) {T : Nat → Bool} (hTd : ∀ k, T k = ok1 ts cd p (cl i) (cl j) (sz j) (fu φ 3 p k)) {x5 : Int32} (hBN : True) {Q : Option g_V → g_H → Prop} {N0 : Nat} {a0 : Nat → Nat → Int32} : ∀ (n k x : Nat) (x10 : Option g_V) (m : Nat) (l : Int32) (a : Nat → Nat → Int32), k + n = 100 → MA (fu φ 3 p x) a → TM nt ts cd a → MS so sz cl a → m = cntB T k → l = spi (lstB T k) → chg scZ a0 a → (∀ a', MA φ a' → chg scZ a0 a' → Q (some (vi (nI (cntB T 100)))) (sh, a', r, g)) → Gd YX8_honours (z0 7 N0 Q) 0 0 49 [some (vr 50), some (vi (nI (i))), some (vi (nI (j))), some (vi (nI (p))), some (vi (nI (0))), some (vi x5), some (vi (nI (φ 3 p))), some (vi (nI (m))), some (vi l), some (vi (nI (k))), x10] [] (sh, a, r, g)
  | 0, k, x, x10, m, l, a, hn, hM, hT, hS, hm, hl, hc, kq => by
    subst hm
    subst hl
    have hhu := FI_hu hI
    have hp6 : p < 6 := by omega
    refine Gd_iload (i := 9) rfl eX8_honours_49 ?_
    refine Gd_bipush kb_99 eX8_honours_51 ?_
    refine Gd_icmp_gtN (by first | omega | decide) (by first | omega | decide) eX8_honours_53 (fun c53 => ?_) (fun c53 => ?_)
    · refine Gd_aload_n (i := 0) rfl eX8_honours_125 ?_
      refine Gd_getR fl_RX8_16 (W_s50 hW) (W_r50_3 hW) eX8_honours_126 ?_
      refine Gd_iconst ki_4 eX8_honours_129 ?_
      refine Gd_iload_n (i := 3) rfl eX8_honours_130 ?_
      refine Gd_imulN eX8_honours_131 ?_
      refine Gd_iload (i := 6) rfl eX8_honours_132 ?_
      refine Gd_iastN (W_s53 hW) (by first | omega | decide) eX8_honours_134 ?_
      refine Gd_iload (i := 4) rfl eX8_honours_135 ?_
      refine Gd_if_ne eX8_honours_137 (fun q => by first | exact absurd q (by decide) | exact absurd (by decide) q) (fun _ => ?_)
      refine Gd_iload (i := 7) rfl eX8_honours_140 ?_
      refine Gd_goto eX8_honours_142 ?_
      exact Gd_ireturn eX8_honours_147 rfl (Nat.le_refl _) (Nat.le_refl _) (by rw [show k = 100 by omega] at *; exact kq _ (MA_fid (MA_ho2 hM)) (chg_up hc rfl))
    · exact absurd c53 (by omega)
  | n + 1, k, x, x10, m, l, a, hn, hM, hT, hS, hm, hl, hc, kq => by
    subst hm
    subst hl
    have hhu := FI_hu hI
    have hp6 : p < 6 := by omega
    refine Gd_iload (i := 9) rfl eX8_honours_49 ?_
    refine Gd_bipush kb_99 eX8_honours_51 ?_
    refine Gd_icmp_gtN (by first | omega | decide) (by first | omega | decide) eX8_honours_53 (fun c53 => ?_) (fun c53 => ?_)
    · exact absurd c53 (by omega)
    · refine Gd_aload_n (i := 0) rfl eX8_honours_56 ?_
      refine Gd_getR fl_RX8_16 (W_s50 hW) (W_r50_3 hW) eX8_honours_57 ?_
      refine Gd_iconst ki_4 eX8_honours_60 ?_
      refine Gd_iload_n (i := 3) rfl eX8_honours_61 ?_
      refine Gd_imulN eX8_honours_62 ?_
      refine Gd_iload (i := 9) rfl eX8_honours_63 ?_
      refine Gd_iastN (W_s53 hW) (by first | omega | decide) eX8_honours_65 ?_
      refine Gd_aload_n (i := 0) rfl eX8_honours_66 ?_
      refine Gd_iload_n (i := 1) rfl eX8_honours_67 ?_
      refine Gd_iload_n (i := 2) rfl eX8_honours_68 ?_
      refine Gd_iload_n (i := 3) rfl eX8_honours_69 ?_
      have hM1 : MA (fu φ 3 p k) _ := MA_ho2 hM
      have hc1 : chg scZ a (up2 a 53 (4 * p) (nI k)) := chg_up chg_rf rfl
      refine Gd_callEV (g_cV (m_unlike (φ := fu φ 3 p k) hW hM1 (FI_setho hI (by omega)) (TM_Z hT hc1) hTI (hlt) (MS_Z hS hc1) (s := i) (t := j) (p := p) hi hj hal hle hz (hpn)) ok_X8_unlike lk_RX8_269 (W_s50 hW) ⟨_, _, rfl⟩ rfl rfl (Nat.le_of_ble_eq_true rfl) (Nat.le_of_ble_eq_true rfl) (Nat.le_refl _) (Nat.le_refl _) eX8_honours_70) (fun a3 hq3 => ?_)
      obtain ⟨hM3, hq3⟩ := hq3
      have hc3 : chg scZ a a3 := chg_tr hc1 (chg_mono2 scZ_K hq3)
      refine Gd_iconst ki_m1 eX8_honours_73 ?_
      refine Gd_icmp_ne eX8_honours_74 (fun c74 => ?_) (fun c74 => ?_)
      · refine Gd_iconst ki_0 eX8_honours_81 ?_
        refine Gd_istore10 rfl eX8_honours_82 ?_
        refine Gd_iload (i := 7) rfl eX8_honours_84 ?_
        refine Gd_iload (i := 10) rfl eX8_honours_86 ?_
        refine Gd_if_eq eX8_honours_88 (fun _ => ?_) (fun q => by first | exact absurd q (by decide) | exact absurd (by decide) q)
        refine Gd_iconst ki_0 eX8_honours_95 ?_
        refine Gd_iaddN eX8_honours_96 ?_
        refine Gd_istore7 rfl eX8_honours_97 ?_
        refine Gd_iload (i := 10) rfl eX8_honours_99 ?_
        refine Gd_if_eq eX8_honours_101 (fun _ => ?_) (fun q => by first | exact absurd q (by decide) | exact absurd (by decide) q)
        refine Gd_iload (i := 8) rfl eX8_honours_115 ?_
        refine Gd_istore8 rfl eX8_honours_117 ?_
        refine Gd_iinc9 (ho := rfl) (he := nI_inc _) eX8_honours_119 ?_
        refine Gd_goto eX8_honours_122 ?_
        exact m_honours0_L hW hI hTI hlt hi hj hal hle hz hpn hTd hBN n (k + 1) _ _ _ _ a3 (by omega) hM3 (TM_Z hT hc3) (MS_Z hS hc3) (cntB_n (by rw [hTd]; exact ok1_f c74)) (by rw [lstB_n (by rw [hTd]; exact ok1_f c74)]) (chg_tr hc hc3) kq
      · refine Gd_iconst ki_1 eX8_honours_77 ?_
        refine Gd_goto eX8_honours_78 ?_
        refine Gd_istore10 rfl eX8_honours_82 ?_
        refine Gd_iload (i := 7) rfl eX8_honours_84 ?_
        refine Gd_iload (i := 10) rfl eX8_honours_86 ?_
        refine Gd_if_eq eX8_honours_88 (fun q => by first | exact absurd q (by decide) | exact absurd (by decide) q) (fun _ => ?_)
        refine Gd_iconst ki_1 eX8_honours_91 ?_
        refine Gd_goto eX8_honours_92 ?_
        refine Gd_iaddN eX8_honours_96 ?_
        refine Gd_istore7 rfl eX8_honours_97 ?_
        refine Gd_iload (i := 10) rfl eX8_honours_99 ?_
        refine Gd_if_eq eX8_honours_101 (fun q => by first | exact absurd q (by decide) | exact absurd (by decide) q) (fun _ => ?_)
        refine Gd_iload (i := 8) rfl eX8_honours_104 ?_
        refine Gd_iconst ki_m1 eX8_honours_106 ?_
        refine Gd_icmp_ne eX8_honours_107 (fun c107 => ?_) (fun c107 => ?_)
        · refine Gd_iload (i := 8) rfl eX8_honours_115 ?_
          refine Gd_istore8 rfl eX8_honours_117 ?_
          refine Gd_iinc9 (ho := rfl) (he := nI_inc _) eX8_honours_119 ?_
          refine Gd_goto eX8_honours_122 ?_
          exact m_honours0_L hW hI hTI hlt hi hj hal hle hz hpn hTd hBN n (k + 1) _ _ _ _ a3 (by omega) hM3 (TM_Z hT hc3) (MS_Z hS hc3) (cntB_y (by rw [hTd]; exact ok1_t c74)) (by rw [lstB_o (spi_n c107).1]) (chg_tr hc hc3) kq
        · refine Gd_iload (i := 9) rfl eX8_honours_110 ?_
          refine Gd_goto eX8_honours_112 ?_
          refine Gd_istore8 rfl eX8_honours_117 ?_
          refine Gd_iinc9 (ho := rfl) (he := nI_inc _) eX8_honours_119 ?_
          refine Gd_goto eX8_honours_122 ?_
          exact m_honours0_L hW hI hTI hlt hi hj hal hle hz hpn hTd hBN n (k + 1) _ _ _ _ a3 (by omega) hM3 (TM_Z hT hc3) (MS_Z hS hc3) (cntB_y (by rw [hTd]; exact ok1_t c74)) (by rw [lstB_y (spi_z (by have := lstB_le T k; omega) c107) (by rw [hTd]; exact ok1_t c74), spi_s]) (chg_tr hc hc3) kq
theorem x_honours0_L {sh : List (Nat × Nat)} {r : Nat → Nat → Option Nat} {g : Nat → Nat → Int64} {φ ts cd : Nat → Nat → Nat} {nt : Nat} {so sz : Nat → Nat} {cl : Nat → Nat → Int32} (hW : WD sh r) (hI : FI φ) (hTI : TI nt ts cd) (hlt : φ 7 2 < nt) {i j p : Nat} (hi : i < 4) (hj : j < 4) (hal : allD (cl i) (sz i) = true) (hle : sz j ≤ sz i) (hz : sz i ≤ 40) (hpn : p < φ 7 3) {T : Nat → Bool} (hTd : ∀ k, T k = ok1 ts cd p (cl i) (cl j) (sz j) (fu φ 3 p k)) {x5 : Int32} (hBN : True) {Q : Option g_V → g_H → Prop} {N0 : Nat} {a0 : Nat → Nat → Int32} : ∀ (n k : Nat) (m : Nat) (l : Int32) (a : Nat → Nat → Int32), k + n = 100 → FA 1 φ a → TX nt ts cd sh a r → SX so sz cl a → m = cntB T k → l = spi (lstB T k) → chg scX a0 a → (∀ a', chg scX a0 a' → Q (some (vi (nI (cntB T 100)))) (sh, a', r, g)) → Gd YX7_honours (z0 7 N0 Q) 0 0 39 [some (vr 0), some (vi (nI (i))), some (vi (nI (j))), some (vi (nI (p))), some (vi (nI (0))), some (vi x5), some (vi (nI (m))), some (vi l), some (vi (nI (k)))] [] (sh, a, r, g)
  | 0, k, m, l, a, hn, hA, hT, hS, hm, hl, hc, kq => by
    subst hm
    subst hl
    have hhu := FI_hu hI
    have hp6 : p < 6 := by omega
    refine Gd_iload (i := 8) rfl eX7_honours_39 ?_
    refine Gd_bipush kb_99 eX7_honours_41 ?_
    refine Gd_icmp_gtN (by first | omega | decide) (by first | omega | decide) eX7_honours_43 (fun c43 => ?_) (fun c43 => ?_)
    · refine Gd_iload (i := 4) rfl eX7_honours_113 ?_
      refine Gd_if_ne eX7_honours_115 (fun q => by first | exact absurd q (by decide) | exact absurd (by decide) q) (fun _ => ?_)
      refine Gd_iload (i := 6) rfl eX7_honours_118 ?_
      refine Gd_goto eX7_honours_120 ?_
      exact Gd_ireturn eX7_honours_125 rfl (Nat.le_refl _) (Nat.le_refl _) (by rw [show k = 100 by omega] at *; exact kq _ hc)
    · exact absurd c43 (by omega)
  | n + 1, k, m, l, a, hn, hA, hT, hS, hm, hl, hc, kq => by
    subst hm
    subst hl
    have hhu := FI_hu hI
    have hp6 : p < 6 := by omega
    refine Gd_iload (i := 8) rfl eX7_honours_39 ?_
    refine Gd_bipush kb_99 eX7_honours_41 ?_
    refine Gd_icmp_gtN (by first | omega | decide) (by first | omega | decide) eX7_honours_43 (fun c43 => ?_) (fun c43 => ?_)
    · exact absurd c43 (by omega)
    · refine Gd_aload_n (i := 0) rfl eX7_honours_46 ?_
      refine Gd_getR fl_RX7_16 (W_s0 hW) (W_r0_1 hW) eX7_honours_47 ?_
      refine Gd_aload_n (i := 0) rfl eX7_honours_50 ?_
      refine Gd_getR fl_RX7_10 (W_s0 hW) (W_r0_0 hW) eX7_honours_51 ?_
      refine Gd_callE0 (g_cV (x_become9 hW hA) ok_X0_become lk_RX7_232 (W_s9 hW) ⟨_, _, rfl⟩ rfl rfl (Nat.le_of_ble_eq_true rfl) (Nat.le_of_ble_eq_true rfl) (Nat.le_refl _) (Nat.le_refl _) eX7_honours_54) (fun a2 hq2 => ?_)
      obtain ⟨hA2, hq2⟩ := hq2
      have hc2 : chg scX a a2 := chg_mono2 scX_9 hq2
      have hT2 := TX_X hT hc2
      have hS2 := SX_X hS hc2
      refine Gd_aload_n (i := 0) rfl eX7_honours_57 ?_
      refine Gd_getR fl_RX7_16 (W_s0 hW) (W_r0_1 hW) eX7_honours_58 ?_
      refine Gd_getR fl_RX7_158 (W_s9 hW) (W_r9_7 hW) eX7_honours_61 ?_
      refine Gd_iload_n (i := 3) rfl eX7_honours_64 ?_
      refine Gd_iload (i := 8) rfl eX7_honours_65 ?_
      refine Gd_iastN (W_s13 hW) (by first | omega | decide) eX7_honours_67 ?_
      refine Gd_aload_n (i := 0) rfl eX7_honours_68 ?_
      refine Gd_aload_n (i := 0) rfl eX7_honours_69 ?_
      refine Gd_getR fl_RX7_56 (W_s0 hW) (W_r0_8 hW) eX7_honours_70 ?_
      refine Gd_iload_n (i := 1) rfl eX7_honours_73 ?_
      refine Gd_aaldN (Or.inl ⟨rfl, rfl, rfl⟩ : g_rc 21 1 4) (W_s38 hW) (by first | omega | decide) (W_r38 hW (j := i) (by first | omega | decide)) eX7_honours_74 ?_
      refine Gd_aload_n (i := 0) rfl eX7_honours_75 ?_
      refine Gd_getR fl_RX7_56 (W_s0 hW) (W_r0_8 hW) eX7_honours_76 ?_
      refine Gd_iload_n (i := 2) rfl eX7_honours_79 ?_
      refine Gd_aaldN (Or.inl ⟨rfl, rfl, rfl⟩ : g_rc 21 1 4) (W_s38 hW) (by first | omega | decide) (W_r38 hW (j := j) (by first | omega | decide)) eX7_honours_80 ?_
      refine Gd_iload_n (i := 3) rfl eX7_honours_81 ?_
      have hA3 : FA 9 (fu φ 3 p k) _ := FA_setho hA2
      have hc3 : chg scX a (up2 a2 13 p (nI k)) := chg_up hc2 rfl
      refine Gd_callEV (g_cV (x_firstOtherwise (φ := fu φ 3 p k) hW hA3 (FI_setho hI (by omega)) (TX_X hT hc3) hTI (hlt) (SX_X hS hc3) (s := i) (t := j) (p := p) hi hj hal hle hz (hpn)) ok_X7_firstOtherwise lk_RX7_257 (W_s0 hW) ⟨_, _, rfl⟩ rfl rfl (Nat.le_of_ble_eq_true rfl) (Nat.le_of_ble_eq_true rfl) (Nat.le_refl _) (Nat.le_refl _) eX7_honours_82) (fun a3 hq3 => ?_)
      have hc4 : chg scX a a3 := chg_tr hc3 (chg_mono2 scX_T hq3)
      refine Gd_iconst ki_m1 eX7_honours_85 ?_
      refine Gd_icmp_ne eX7_honours_86 (fun c86 => ?_) (fun c86 => ?_)
      · refine Gd_iinc8 (ho := rfl) (he := nI_inc _) eX7_honours_107 ?_
        refine Gd_goto eX7_honours_110 ?_
        exact x_honours0_L hW hI hTI hlt hi hj hal hle hz hpn hTd hBN n (k + 1) _ _ a3 (by omega) (FA_X hA hc4) (TX_X hT hc4) (SX_X hS hc4) (cntB_n (by rw [hTd]; exact ok1_f c86)) (by rw [lstB_n (by rw [hTd]; exact ok1_f c86)]) (chg_tr hc hc4) kq
      · refine Gd_iinc6 (ho := rfl) (he := nI_inc _) eX7_honours_89 ?_
        refine Gd_iload (i := 7) rfl eX7_honours_92 ?_
        refine Gd_iconst ki_m1 eX7_honours_94 ?_
        refine Gd_icmp_ne eX7_honours_95 (fun c95 => ?_) (fun c95 => ?_)
        · refine Gd_iload (i := 7) rfl eX7_honours_103 ?_
          refine Gd_istore7 rfl eX7_honours_105 ?_
          refine Gd_iinc8 (ho := rfl) (he := nI_inc _) eX7_honours_107 ?_
          refine Gd_goto eX7_honours_110 ?_
          exact x_honours0_L hW hI hTI hlt hi hj hal hle hz hpn hTd hBN n (k + 1) _ _ a3 (by omega) (FA_X hA hc4) (TX_X hT hc4) (SX_X hS hc4) (cntB_y (by rw [hTd]; exact ok1_t c86)) (by rw [lstB_o (spi_n c95).1]) (chg_tr hc hc4) kq
        · refine Gd_iload (i := 8) rfl eX7_honours_98 ?_
          refine Gd_goto eX7_honours_100 ?_
          refine Gd_istore7 rfl eX7_honours_105 ?_
          refine Gd_iinc8 (ho := rfl) (he := nI_inc _) eX7_honours_107 ?_
          refine Gd_goto eX7_honours_110 ?_
          exact x_honours0_L hW hI hTI hlt hi hj hal hle hz hpn hTd hBN n (k + 1) _ _ a3 (by omega) (FA_X hA hc4) (TX_X hT hc4) (SX_X hS hc4) (cntB_y (by rw [hTd]; exact ok1_t c86)) (by rw [lstB_y (spi_z (by have := lstB_le T k; omega) c95) (by rw [hTd]; exact ok1_t c86), spi_s]) (chg_tr hc hc4) kq
theorem m_honours1_L {sh : List (Nat × Nat)} {r : Nat → Nat → Option Nat} {g : Nat → Nat → Int64} {φ ts cd : Nat → Nat → Nat} {nt : Nat} {so sz : Nat → Nat} {cl : Nat → Nat → Int32} (hW : WD sh r) (hI : FI φ) (hTI : TI nt ts cd) (hlt : φ 7 2 < nt) {i j p : Nat} (hi : i < 4) (hj : j < 4) (hal : allD (cl i) (sz i) = true) (hle : sz j ≤ sz i) (hz : sz i ≤ 40) (hpn : p < φ 7 3) {T : Nat → Bool} (hTd : ∀ k, T k = ok1 ts cd p (cl i) (cl j) (sz j) (fu φ 3 p k)) {x5 : Int32} (hBN : True) {Q : Option g_V → g_H → Prop} {N0 : Nat} {a0 : Nat → Nat → Int32} : ∀ (n k x : Nat) (x10 : Option g_V) (m : Nat) (l : Int32) (a : Nat → Nat → Int32), k + n = 100 → MA (fu φ 3 p x) a → TM nt ts cd a → MS so sz cl a → m = cntB T k → l = spi (lstB T k) → chg scZ a0 a → (∀ a', MA φ a' → chg scZ a0 a' → Q (some (vi (spi (lstB T 100)))) (sh, a', r, g)) → Gd YX8_honours (z0 7 N0 Q) 0 0 49 [some (vr 50), some (vi (nI (i))), some (vi (nI (j))), some (vi (nI (p))), some (vi (nI (1))), some (vi x5), some (vi (nI (φ 3 p))), some (vi (nI (m))), some (vi l), some (vi (nI (k))), x10] [] (sh, a, r, g)
  | 0, k, x, x10, m, l, a, hn, hM, hT, hS, hm, hl, hc, kq => by
    subst hm
    subst hl
    have hhu := FI_hu hI
    have hp6 : p < 6 := by omega
    refine Gd_iload (i := 9) rfl eX8_honours_49 ?_
    refine Gd_bipush kb_99 eX8_honours_51 ?_
    refine Gd_icmp_gtN (by first | omega | decide) (by first | omega | decide) eX8_honours_53 (fun c53 => ?_) (fun c53 => ?_)
    · refine Gd_aload_n (i := 0) rfl eX8_honours_125 ?_
      refine Gd_getR fl_RX8_16 (W_s50 hW) (W_r50_3 hW) eX8_honours_126 ?_
      refine Gd_iconst ki_4 eX8_honours_129 ?_
      refine Gd_iload_n (i := 3) rfl eX8_honours_130 ?_
      refine Gd_imulN eX8_honours_131 ?_
      refine Gd_iload (i := 6) rfl eX8_honours_132 ?_
      refine Gd_iastN (W_s53 hW) (by first | omega | decide) eX8_honours_134 ?_
      refine Gd_iload (i := 4) rfl eX8_honours_135 ?_
      refine Gd_if_ne eX8_honours_137 (fun _ => ?_) (fun q => by first | exact absurd q (by decide) | exact absurd (by decide) q)
      refine Gd_iload (i := 8) rfl eX8_honours_145 ?_
      exact Gd_ireturn eX8_honours_147 rfl (Nat.le_refl _) (Nat.le_refl _) (by rw [show k = 100 by omega] at *; exact kq _ (MA_fid (MA_ho2 hM)) (chg_up hc rfl))
    · exact absurd c53 (by omega)
  | n + 1, k, x, x10, m, l, a, hn, hM, hT, hS, hm, hl, hc, kq => by
    subst hm
    subst hl
    have hhu := FI_hu hI
    have hp6 : p < 6 := by omega
    refine Gd_iload (i := 9) rfl eX8_honours_49 ?_
    refine Gd_bipush kb_99 eX8_honours_51 ?_
    refine Gd_icmp_gtN (by first | omega | decide) (by first | omega | decide) eX8_honours_53 (fun c53 => ?_) (fun c53 => ?_)
    · exact absurd c53 (by omega)
    · refine Gd_aload_n (i := 0) rfl eX8_honours_56 ?_
      refine Gd_getR fl_RX8_16 (W_s50 hW) (W_r50_3 hW) eX8_honours_57 ?_
      refine Gd_iconst ki_4 eX8_honours_60 ?_
      refine Gd_iload_n (i := 3) rfl eX8_honours_61 ?_
      refine Gd_imulN eX8_honours_62 ?_
      refine Gd_iload (i := 9) rfl eX8_honours_63 ?_
      refine Gd_iastN (W_s53 hW) (by first | omega | decide) eX8_honours_65 ?_
      refine Gd_aload_n (i := 0) rfl eX8_honours_66 ?_
      refine Gd_iload_n (i := 1) rfl eX8_honours_67 ?_
      refine Gd_iload_n (i := 2) rfl eX8_honours_68 ?_
      refine Gd_iload_n (i := 3) rfl eX8_honours_69 ?_
      have hM1 : MA (fu φ 3 p k) _ := MA_ho2 hM
      have hc1 : chg scZ a (up2 a 53 (4 * p) (nI k)) := chg_up chg_rf rfl
      refine Gd_callEV (g_cV (m_unlike (φ := fu φ 3 p k) hW hM1 (FI_setho hI (by omega)) (TM_Z hT hc1) hTI (hlt) (MS_Z hS hc1) (s := i) (t := j) (p := p) hi hj hal hle hz (hpn)) ok_X8_unlike lk_RX8_269 (W_s50 hW) ⟨_, _, rfl⟩ rfl rfl (Nat.le_of_ble_eq_true rfl) (Nat.le_of_ble_eq_true rfl) (Nat.le_refl _) (Nat.le_refl _) eX8_honours_70) (fun a3 hq3 => ?_)
      obtain ⟨hM3, hq3⟩ := hq3
      have hc3 : chg scZ a a3 := chg_tr hc1 (chg_mono2 scZ_K hq3)
      refine Gd_iconst ki_m1 eX8_honours_73 ?_
      refine Gd_icmp_ne eX8_honours_74 (fun c74 => ?_) (fun c74 => ?_)
      · refine Gd_iconst ki_0 eX8_honours_81 ?_
        refine Gd_istore10 rfl eX8_honours_82 ?_
        refine Gd_iload (i := 7) rfl eX8_honours_84 ?_
        refine Gd_iload (i := 10) rfl eX8_honours_86 ?_
        refine Gd_if_eq eX8_honours_88 (fun _ => ?_) (fun q => by first | exact absurd q (by decide) | exact absurd (by decide) q)
        refine Gd_iconst ki_0 eX8_honours_95 ?_
        refine Gd_iaddN eX8_honours_96 ?_
        refine Gd_istore7 rfl eX8_honours_97 ?_
        refine Gd_iload (i := 10) rfl eX8_honours_99 ?_
        refine Gd_if_eq eX8_honours_101 (fun _ => ?_) (fun q => by first | exact absurd q (by decide) | exact absurd (by decide) q)
        refine Gd_iload (i := 8) rfl eX8_honours_115 ?_
        refine Gd_istore8 rfl eX8_honours_117 ?_
        refine Gd_iinc9 (ho := rfl) (he := nI_inc _) eX8_honours_119 ?_
        refine Gd_goto eX8_honours_122 ?_
        exact m_honours1_L hW hI hTI hlt hi hj hal hle hz hpn hTd hBN n (k + 1) _ _ _ _ a3 (by omega) hM3 (TM_Z hT hc3) (MS_Z hS hc3) (cntB_n (by rw [hTd]; exact ok1_f c74)) (by rw [lstB_n (by rw [hTd]; exact ok1_f c74)]) (chg_tr hc hc3) kq
      · refine Gd_iconst ki_1 eX8_honours_77 ?_
        refine Gd_goto eX8_honours_78 ?_
        refine Gd_istore10 rfl eX8_honours_82 ?_
        refine Gd_iload (i := 7) rfl eX8_honours_84 ?_
        refine Gd_iload (i := 10) rfl eX8_honours_86 ?_
        refine Gd_if_eq eX8_honours_88 (fun q => by first | exact absurd q (by decide) | exact absurd (by decide) q) (fun _ => ?_)
        refine Gd_iconst ki_1 eX8_honours_91 ?_
        refine Gd_goto eX8_honours_92 ?_
        refine Gd_iaddN eX8_honours_96 ?_
        refine Gd_istore7 rfl eX8_honours_97 ?_
        refine Gd_iload (i := 10) rfl eX8_honours_99 ?_
        refine Gd_if_eq eX8_honours_101 (fun q => by first | exact absurd q (by decide) | exact absurd (by decide) q) (fun _ => ?_)
        refine Gd_iload (i := 8) rfl eX8_honours_104 ?_
        refine Gd_iconst ki_m1 eX8_honours_106 ?_
        refine Gd_icmp_ne eX8_honours_107 (fun c107 => ?_) (fun c107 => ?_)
        · refine Gd_iload (i := 8) rfl eX8_honours_115 ?_
          refine Gd_istore8 rfl eX8_honours_117 ?_
          refine Gd_iinc9 (ho := rfl) (he := nI_inc _) eX8_honours_119 ?_
          refine Gd_goto eX8_honours_122 ?_
          exact m_honours1_L hW hI hTI hlt hi hj hal hle hz hpn hTd hBN n (k + 1) _ _ _ _ a3 (by omega) hM3 (TM_Z hT hc3) (MS_Z hS hc3) (cntB_y (by rw [hTd]; exact ok1_t c74)) (by rw [lstB_o (spi_n c107).1]) (chg_tr hc hc3) kq
        · refine Gd_iload (i := 9) rfl eX8_honours_110 ?_
          refine Gd_goto eX8_honours_112 ?_
          refine Gd_istore8 rfl eX8_honours_117 ?_
          refine Gd_iinc9 (ho := rfl) (he := nI_inc _) eX8_honours_119 ?_
          refine Gd_goto eX8_honours_122 ?_
          exact m_honours1_L hW hI hTI hlt hi hj hal hle hz hpn hTd hBN n (k + 1) _ _ _ _ a3 (by omega) hM3 (TM_Z hT hc3) (MS_Z hS hc3) (cntB_y (by rw [hTd]; exact ok1_t c74)) (by rw [lstB_y (spi_z (by have := lstB_le T k; omega) c107) (by rw [hTd]; exact ok1_t c74), spi_s]) (chg_tr hc hc3) kq
theorem x_honours1_L {sh : List (Nat × Nat)} {r : Nat → Nat → Option Nat} {g : Nat → Nat → Int64} {φ ts cd : Nat → Nat → Nat} {nt : Nat} {so sz : Nat → Nat} {cl : Nat → Nat → Int32} (hW : WD sh r) (hI : FI φ) (hTI : TI nt ts cd) (hlt : φ 7 2 < nt) {i j p : Nat} (hi : i < 4) (hj : j < 4) (hal : allD (cl i) (sz i) = true) (hle : sz j ≤ sz i) (hz : sz i ≤ 40) (hpn : p < φ 7 3) {T : Nat → Bool} (hTd : ∀ k, T k = ok1 ts cd p (cl i) (cl j) (sz j) (fu φ 3 p k)) {x5 : Int32} (hBN : True) {Q : Option g_V → g_H → Prop} {N0 : Nat} {a0 : Nat → Nat → Int32} : ∀ (n k : Nat) (m : Nat) (l : Int32) (a : Nat → Nat → Int32), k + n = 100 → FA 1 φ a → TX nt ts cd sh a r → SX so sz cl a → m = cntB T k → l = spi (lstB T k) → chg scX a0 a → (∀ a', chg scX a0 a' → Q (some (vi (spi (lstB T 100)))) (sh, a', r, g)) → Gd YX7_honours (z0 7 N0 Q) 0 0 39 [some (vr 0), some (vi (nI (i))), some (vi (nI (j))), some (vi (nI (p))), some (vi (nI (1))), some (vi x5), some (vi (nI (m))), some (vi l), some (vi (nI (k)))] [] (sh, a, r, g)
  | 0, k, m, l, a, hn, hA, hT, hS, hm, hl, hc, kq => by
    subst hm
    subst hl
    have hhu := FI_hu hI
    have hp6 : p < 6 := by omega
    refine Gd_iload (i := 8) rfl eX7_honours_39 ?_
    refine Gd_bipush kb_99 eX7_honours_41 ?_
    refine Gd_icmp_gtN (by first | omega | decide) (by first | omega | decide) eX7_honours_43 (fun c43 => ?_) (fun c43 => ?_)
    · refine Gd_iload (i := 4) rfl eX7_honours_113 ?_
      refine Gd_if_ne eX7_honours_115 (fun _ => ?_) (fun q => by first | exact absurd q (by decide) | exact absurd (by decide) q)
      refine Gd_iload (i := 7) rfl eX7_honours_123 ?_
      exact Gd_ireturn eX7_honours_125 rfl (Nat.le_refl _) (Nat.le_refl _) (by rw [show k = 100 by omega] at *; exact kq _ hc)
    · exact absurd c43 (by omega)
  | n + 1, k, m, l, a, hn, hA, hT, hS, hm, hl, hc, kq => by
    subst hm
    subst hl
    have hhu := FI_hu hI
    have hp6 : p < 6 := by omega
    refine Gd_iload (i := 8) rfl eX7_honours_39 ?_
    refine Gd_bipush kb_99 eX7_honours_41 ?_
    refine Gd_icmp_gtN (by first | omega | decide) (by first | omega | decide) eX7_honours_43 (fun c43 => ?_) (fun c43 => ?_)
    · exact absurd c43 (by omega)
    · refine Gd_aload_n (i := 0) rfl eX7_honours_46 ?_
      refine Gd_getR fl_RX7_16 (W_s0 hW) (W_r0_1 hW) eX7_honours_47 ?_
      refine Gd_aload_n (i := 0) rfl eX7_honours_50 ?_
      refine Gd_getR fl_RX7_10 (W_s0 hW) (W_r0_0 hW) eX7_honours_51 ?_
      refine Gd_callE0 (g_cV (x_become9 hW hA) ok_X0_become lk_RX7_232 (W_s9 hW) ⟨_, _, rfl⟩ rfl rfl (Nat.le_of_ble_eq_true rfl) (Nat.le_of_ble_eq_true rfl) (Nat.le_refl _) (Nat.le_refl _) eX7_honours_54) (fun a2 hq2 => ?_)
      obtain ⟨hA2, hq2⟩ := hq2
      have hc2 : chg scX a a2 := chg_mono2 scX_9 hq2
      have hT2 := TX_X hT hc2
      have hS2 := SX_X hS hc2
      refine Gd_aload_n (i := 0) rfl eX7_honours_57 ?_
      refine Gd_getR fl_RX7_16 (W_s0 hW) (W_r0_1 hW) eX7_honours_58 ?_
      refine Gd_getR fl_RX7_158 (W_s9 hW) (W_r9_7 hW) eX7_honours_61 ?_
      refine Gd_iload_n (i := 3) rfl eX7_honours_64 ?_
      refine Gd_iload (i := 8) rfl eX7_honours_65 ?_
      refine Gd_iastN (W_s13 hW) (by first | omega | decide) eX7_honours_67 ?_
      refine Gd_aload_n (i := 0) rfl eX7_honours_68 ?_
      refine Gd_aload_n (i := 0) rfl eX7_honours_69 ?_
      refine Gd_getR fl_RX7_56 (W_s0 hW) (W_r0_8 hW) eX7_honours_70 ?_
      refine Gd_iload_n (i := 1) rfl eX7_honours_73 ?_
      refine Gd_aaldN (Or.inl ⟨rfl, rfl, rfl⟩ : g_rc 21 1 4) (W_s38 hW) (by first | omega | decide) (W_r38 hW (j := i) (by first | omega | decide)) eX7_honours_74 ?_
      refine Gd_aload_n (i := 0) rfl eX7_honours_75 ?_
      refine Gd_getR fl_RX7_56 (W_s0 hW) (W_r0_8 hW) eX7_honours_76 ?_
      refine Gd_iload_n (i := 2) rfl eX7_honours_79 ?_
      refine Gd_aaldN (Or.inl ⟨rfl, rfl, rfl⟩ : g_rc 21 1 4) (W_s38 hW) (by first | omega | decide) (W_r38 hW (j := j) (by first | omega | decide)) eX7_honours_80 ?_
      refine Gd_iload_n (i := 3) rfl eX7_honours_81 ?_
      have hA3 : FA 9 (fu φ 3 p k) _ := FA_setho hA2
      have hc3 : chg scX a (up2 a2 13 p (nI k)) := chg_up hc2 rfl
      refine Gd_callEV (g_cV (x_firstOtherwise (φ := fu φ 3 p k) hW hA3 (FI_setho hI (by omega)) (TX_X hT hc3) hTI (hlt) (SX_X hS hc3) (s := i) (t := j) (p := p) hi hj hal hle hz (hpn)) ok_X7_firstOtherwise lk_RX7_257 (W_s0 hW) ⟨_, _, rfl⟩ rfl rfl (Nat.le_of_ble_eq_true rfl) (Nat.le_of_ble_eq_true rfl) (Nat.le_refl _) (Nat.le_refl _) eX7_honours_82) (fun a3 hq3 => ?_)
      have hc4 : chg scX a a3 := chg_tr hc3 (chg_mono2 scX_T hq3)
      refine Gd_iconst ki_m1 eX7_honours_85 ?_
      refine Gd_icmp_ne eX7_honours_86 (fun c86 => ?_) (fun c86 => ?_)
      · refine Gd_iinc8 (ho := rfl) (he := nI_inc _) eX7_honours_107 ?_
        refine Gd_goto eX7_honours_110 ?_
        exact x_honours1_L hW hI hTI hlt hi hj hal hle hz hpn hTd hBN n (k + 1) _ _ a3 (by omega) (FA_X hA hc4) (TX_X hT hc4) (SX_X hS hc4) (cntB_n (by rw [hTd]; exact ok1_f c86)) (by rw [lstB_n (by rw [hTd]; exact ok1_f c86)]) (chg_tr hc hc4) kq
      · refine Gd_iinc6 (ho := rfl) (he := nI_inc _) eX7_honours_89 ?_
        refine Gd_iload (i := 7) rfl eX7_honours_92 ?_
        refine Gd_iconst ki_m1 eX7_honours_94 ?_
        refine Gd_icmp_ne eX7_honours_95 (fun c95 => ?_) (fun c95 => ?_)
        · refine Gd_iload (i := 7) rfl eX7_honours_103 ?_
          refine Gd_istore7 rfl eX7_honours_105 ?_
          refine Gd_iinc8 (ho := rfl) (he := nI_inc _) eX7_honours_107 ?_
          refine Gd_goto eX7_honours_110 ?_
          exact x_honours1_L hW hI hTI hlt hi hj hal hle hz hpn hTd hBN n (k + 1) _ _ a3 (by omega) (FA_X hA hc4) (TX_X hT hc4) (SX_X hS hc4) (cntB_y (by rw [hTd]; exact ok1_t c86)) (by rw [lstB_o (spi_n c95).1]) (chg_tr hc hc4) kq
        · refine Gd_iload (i := 8) rfl eX7_honours_98 ?_
          refine Gd_goto eX7_honours_100 ?_
          refine Gd_istore7 rfl eX7_honours_105 ?_
          refine Gd_iinc8 (ho := rfl) (he := nI_inc _) eX7_honours_107 ?_
          refine Gd_goto eX7_honours_110 ?_
          exact x_honours1_L hW hI hTI hlt hi hj hal hle hz hpn hTd hBN n (k + 1) _ _ a3 (by omega) (FA_X hA hc4) (TX_X hT hc4) (SX_X hS hc4) (cntB_y (by rw [hTd]; exact ok1_t c86)) (by rw [lstB_y (spi_z (by have := lstB_le T k; omega) c95) (by rw [hTd]; exact ok1_t c86), spi_s]) (chg_tr hc hc4) kq
theorem m_honours {sh : List (Nat × Nat)} {a : Nat → Nat → Int32} {r : Nat → Nat → Option Nat} {g : Nat → Nat → Int64} {φ ts cd : Nat → Nat → Nat} {nt : Nat} {so sz : Nat → Nat} {cl : Nat → Nat → Int32} (hW : WD sh r) (hM : MA φ a) (hI : FI φ) (hT : TM nt ts cd a) (hTI : TI nt ts cd) (hlt : φ 7 2 < nt) (hS : MS so sz cl a) (hSI : SI so sz) (vs vt vp vw : Int32) : Mt YX8_honours 7 0 0 [vr 50, vi vs, vi vt, vi vp, vi vw] (sh, a, r, g) (g_EV sh r g (vi (oHonours φ ts cd so sz cl vs vt vp vw)) (fun a' => MA φ a' ∧ chg scZ a a')) := by
  refine Mt_of rfl (Nat.le_of_ble_eq_true rfl) rfl ?_
  have hhu := FI_hu hI
  refine Gd_aload_n (i := 0) rfl eX8_honours_0 ?_
  refine Gd_iload_n (i := 1) rfl eX8_honours_1 ?_
  refine Gd_iload_n (i := 2) rfl eX8_honours_2 ?_
  refine Gd_iload_n (i := 3) rfl eX8_honours_3 ?_
  refine Gd_callP (g_cV (m_toldWrong hW hM hI hS hSI _ _ _) ok_X8_toldWrong lk_RX8_266 (W_s50 hW) ⟨_, _, rfl⟩ rfl rfl (Nat.le_of_ble_eq_true rfl) (Nat.le_of_ble_eq_true rfl) (Nat.le_refl _) (Nat.le_refl _) eX8_honours_4) ?_
  refine Gd_istore5 rfl eX8_honours_7 ?_
  refine Gd_iload (i := 5) rfl eX8_honours_9 ?_
  refine Gd_if_eq eX8_honours_11 (fun c11 => ?_) (fun c11 => ?_)
  · obtain ⟨i, j, p, hi, hj, hpn, rfl, rfl, rfl, hso, hal, hle⟩ := tlw_ok hhu c11
    have hz := hSI.2 i hi
    have hp6 : p < 6 := by omega
    refine Gd_iload (i := 4) rfl eX8_honours_17 ?_
    refine Gd_iconst ki_0 eX8_honours_19 ?_
    refine Gd_iconst ki_1 eX8_honours_20 ?_
    refine Gd_callP (g_cS (m_in _ _ _) ok_X8_in lk_RX8_84 rfl rfl (Nat.le_of_ble_eq_true rfl) (Nat.le_of_ble_eq_true rfl) (Nat.le_refl _) (Nat.le_refl _) eX8_honours_21) ?_
    refine Gd_if_neB eX8_honours_24 (fun c24 => ?_) (fun c24 => ?_)
    · obtain ⟨k, _, hk, rfl⟩ := inb_r (by decide) (by decide) c24
      have hr := oHonours_u (ts := ts) (cd := cd) c11 hi hj hp6 hk
      rcases (by omega : k = 0 ∨ k = 1) with rfl | rfl
      · refine Gd_aload_n (i := 0) rfl eX8_honours_30 ?_
        refine Gd_getR fl_RX8_16 (W_s50 hW) (W_r50_3 hW) eX8_honours_31 ?_
        refine Gd_iconst ki_4 eX8_honours_34 ?_
        refine Gd_iload_n (i := 3) rfl eX8_honours_35 ?_
        refine Gd_imulN eX8_honours_36 ?_
        refine Gd_ialdE (v := nI (φ 3 p)) (W_s53 hW) (by first | omega | decide) (MA_ho hM (p := p) (by first | omega | decide) :) eX8_honours_37 ?_
        refine Gd_istore6 rfl eX8_honours_38 ?_
        refine Gd_iconst ki_0 eX8_honours_40 ?_
        refine Gd_istore7 rfl eX8_honours_41 ?_
        refine Gd_iconst ki_m1 eX8_honours_43 ?_
        refine Gd_istore8 rfl eX8_honours_44 ?_
        refine Gd_iconst ki_0 eX8_honours_46 ?_
        refine Gd_istore9 rfl eX8_honours_47 ?_
        exact m_honours0_L hW hI hTI hlt hi hj hal hle hz hpn (T := fun k => ok1 ts cd p (cl i) (cl j) (sz j) (fu φ 3 p k)) (fun _ => rfl) trivial 100 0 (φ 3 p) _ 0 (-1) a (by omega) (MA_fdi hM) hT hS rfl rfl chg_rf (fun a' k1 k2 => ⟨a', by rw [hr, if_pos rfl], rfl, k1, k2⟩)
      · refine Gd_aload_n (i := 0) rfl eX8_honours_30 ?_
        refine Gd_getR fl_RX8_16 (W_s50 hW) (W_r50_3 hW) eX8_honours_31 ?_
        refine Gd_iconst ki_4 eX8_honours_34 ?_
        refine Gd_iload_n (i := 3) rfl eX8_honours_35 ?_
        refine Gd_imulN eX8_honours_36 ?_
        refine Gd_ialdE (v := nI (φ 3 p)) (W_s53 hW) (by first | omega | decide) (MA_ho hM (p := p) (by first | omega | decide) :) eX8_honours_37 ?_
        refine Gd_istore6 rfl eX8_honours_38 ?_
        refine Gd_iconst ki_0 eX8_honours_40 ?_
        refine Gd_istore7 rfl eX8_honours_41 ?_
        refine Gd_iconst ki_m1 eX8_honours_43 ?_
        refine Gd_istore8 rfl eX8_honours_44 ?_
        refine Gd_iconst ki_0 eX8_honours_46 ?_
        refine Gd_istore9 rfl eX8_honours_47 ?_
        exact m_honours1_L hW hI hTI hlt hi hj hal hle hz hpn (T := fun k => ok1 ts cd p (cl i) (cl j) (sz j) (fu φ 3 p k)) (fun _ => rfl) trivial 100 0 (φ 3 p) _ 0 (-1) a (by omega) (MA_fdi hM) hT hS rfl rfl chg_rf (fun a' k1 k2 => ⟨a', by rw [hr, if_neg (by decide)], rfl, k1, k2⟩)
    · refine Gd_bipush kb_m7 eX8_honours_27 ?_
      exact Gd_ireturn eX8_honours_29 rfl (Nat.le_refl _) (Nat.le_refl _) ⟨a, by rw [oHonours_w c11 c24], rfl, hM, chg_rf⟩
  · refine Gd_iload (i := 5) rfl eX8_honours_14 ?_
    exact Gd_ireturn eX8_honours_16 rfl (Nat.le_refl _) (Nat.le_refl _) ⟨a, by rw [oHonours_r c11], rfl, hM, chg_rf⟩
theorem x_honours {sh : List (Nat × Nat)} {a : Nat → Nat → Int32} {r : Nat → Nat → Option Nat} {g : Nat → Nat → Int64} {φ ts cd : Nat → Nat → Nat} {nt : Nat} {so sz : Nat → Nat} {cl : Nat → Nat → Int32} (hW : WD sh r) (hA : FA 1 φ a) (hI : FI φ) (hT : TX nt ts cd sh a r) (hTI : TI nt ts cd) (hlt : φ 7 2 < nt) (hS : SX so sz cl a) (hSI : SI so sz) (vs vt vp vw : Int32) : Mt YX7_honours 7 0 0 [vr 0, vi vs, vi vt, vi vp, vi vw] (sh, a, r, g) (g_EV sh r g (vi (oHonours φ ts cd so sz cl vs vt vp vw)) (fun a' => chg scX a a')) := by
  refine Mt_of rfl (Nat.le_of_ble_eq_true rfl) rfl ?_
  have hhu := FI_hu hI
  refine Gd_aload_n (i := 0) rfl eX7_honours_0 ?_
  refine Gd_iload_n (i := 1) rfl eX7_honours_1 ?_
  refine Gd_iload_n (i := 2) rfl eX7_honours_2 ?_
  refine Gd_iload_n (i := 3) rfl eX7_honours_3 ?_
  refine Gd_callP (g_cV (x_judgeRefusal hW hS hSI hA hI _ _ _) ok_X7_judgeRefusal lk_RX7_253 (W_s0 hW) ⟨_, _, rfl⟩ rfl rfl (Nat.le_of_ble_eq_true rfl) (Nat.le_of_ble_eq_true rfl) (Nat.le_refl _) (Nat.le_refl _) eX7_honours_4) ?_
  refine Gd_istore5 rfl eX7_honours_7 ?_
  refine Gd_iload (i := 5) rfl eX7_honours_9 ?_
  refine Gd_if_eq eX7_honours_11 (fun c11 => ?_) (fun c11 => ?_)
  · obtain ⟨i, j, p, hi, hj, hpn, rfl, rfl, rfl, hso, hal, hle⟩ := tlw_ok hhu c11
    have hz := hSI.2 i hi
    have hp6 : p < 6 := by omega
    refine Gd_iload (i := 4) rfl eX7_honours_17 ?_
    refine Gd_iconst ki_0 eX7_honours_19 ?_
    refine Gd_iconst ki_1 eX7_honours_20 ?_
    refine Gd_callP (g_cS (x_isWithin _ _ _) ok_X7_isWithin lk_RX7_119 rfl rfl (Nat.le_of_ble_eq_true rfl) (Nat.le_of_ble_eq_true rfl) (Nat.le_refl _) (Nat.le_refl _) eX7_honours_21) ?_
    refine Gd_if_neB eX7_honours_24 (fun c24 => ?_) (fun c24 => ?_)
    · obtain ⟨k, _, hk, rfl⟩ := inb_r (by decide) (by decide) c24
      have hr := oHonours_u (ts := ts) (cd := cd) c11 hi hj hp6 hk
      rcases (by omega : k = 0 ∨ k = 1) with rfl | rfl
      · refine Gd_iconst ki_0 eX7_honours_30 ?_
        refine Gd_istore6 rfl eX7_honours_31 ?_
        refine Gd_iconst ki_m1 eX7_honours_33 ?_
        refine Gd_istore7 rfl eX7_honours_34 ?_
        refine Gd_iconst ki_0 eX7_honours_36 ?_
        refine Gd_istore8 rfl eX7_honours_37 ?_
        exact x_honours0_L hW hI hTI hlt hi hj hal hle hz hpn (T := fun k => ok1 ts cd p (cl i) (cl j) (sz j) (fu φ 3 p k)) (fun _ => rfl) trivial 100 0 0 (-1) a (by omega) hA hT hS rfl rfl chg_rf (fun a' k2 => ⟨a', by rw [hr, if_pos rfl], rfl, k2⟩)
      · refine Gd_iconst ki_0 eX7_honours_30 ?_
        refine Gd_istore6 rfl eX7_honours_31 ?_
        refine Gd_iconst ki_m1 eX7_honours_33 ?_
        refine Gd_istore7 rfl eX7_honours_34 ?_
        refine Gd_iconst ki_0 eX7_honours_36 ?_
        refine Gd_istore8 rfl eX7_honours_37 ?_
        exact x_honours1_L hW hI hTI hlt hi hj hal hle hz hpn (T := fun k => ok1 ts cd p (cl i) (cl j) (sz j) (fu φ 3 p k)) (fun _ => rfl) trivial 100 0 0 (-1) a (by omega) hA hT hS rfl rfl chg_rf (fun a' k2 => ⟨a', by rw [hr, if_neg (by decide)], rfl, k2⟩)
    · refine Gd_bipush kb_m7 eX7_honours_27 ?_
      exact Gd_ireturn eX7_honours_29 rfl (Nat.le_refl _) (Nat.le_refl _) ⟨a, by rw [oHonours_w c11 c24], rfl, chg_rf⟩
  · refine Gd_iload (i := 5) rfl eX7_honours_14 ?_
    exact Gd_ireturn eX7_honours_16 rfl (Nat.le_refl _) (Nat.le_refl _) ⟨a, by rw [oHonours_r c11], rfl, chg_rf⟩
