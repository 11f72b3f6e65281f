theorem m_kinds0_L {sh : List (Nat × Nat)} {r : Nat → Nat → Option Nat} {g : Nat → Nat → Int64} {φ ts cd : Nat → Nat → Nat} {nt : Nat} {so sz : Nat → Nat} {cl : Nat → Nat → Int32} (hW : WD sh r) (hI : FI φ) (hTI : TI nt ts cd) (hlt : φ 7 2 < nt) {i j p : Nat} (hi : i < 4) (hj : j < 4) (hal : allD (cl i) (sz i) = true) (hle : sz j ≤ sz i) (hz : sz i ≤ 40) (hpn : p < φ 7 3) {T : Nat → Bool} (hTd : ∀ k, T k = ok1 ts cd p (cl i) (cl j) (sz j) (fu φ 1 p (k))) {x5 : Int32} (hBN : True) {Q : Option g_V → g_H → Prop} {N0 : Nat} {a0 : Nat → Nat → Int32} : ∀ (n k x : Nat) (b : Nat) (a : Nat → Nat → Int32), k + n = 6 → MA (fu φ 1 p (x)) a → TM nt ts cd a → MS so sz cl a → b = fitB T k → chg scZ a0 a → (∀ a', MA φ a' → chg scZ a0 a' → Q (some (vi (nI (fitB T 6)))) (sh, a', r, g)) → Gd YX8_kinds (z0 7 N0 Q) 0 0 52 [some (vr 50), some (vi (nI (i))), some (vi (nI (j))), some (vi (nI (p))), some (vi (nI (0))), some (vi x5), some (vi (nI (φ 1 p))), some (vi (nI (φ 2 p))), some (vi (nI (b))), some (vi (nI (k)))] [] (sh, a, r, g)
  | 0, k, x, b, a, hn, hM, hT, hS, hb, hc, kq => by
    subst hb
    have hhu := FI_hu hI
    have hp6 : p < 6 := by omega
    refine Gd_iload (i := 9) rfl eX8_kinds_52 ?_
    refine Gd_iload (i := 4) rfl eX8_kinds_54 ?_
    refine Gd_if_ne eX8_kinds_56 (fun q => by first | exact absurd q (by decide) | exact absurd (by decide) q) (fun _ => ?_)
    refine Gd_bipush kb_6 eX8_kinds_59 ?_
    refine Gd_goto eX8_kinds_61 ?_
    refine Gd_icmp_geN (by first | omega | decide) (by first | omega | decide) eX8_kinds_66 (fun c66 => ?_) (fun c66 => ?_)
    · refine Gd_aload_n (i := 0) rfl eX8_kinds_136 ?_
      refine Gd_getR fl_RX8_7 (W_s50 hW) (W_r50_1 hW) eX8_kinds_137 ?_
      refine Gd_iload_n (i := 3) rfl eX8_kinds_140 ?_
      refine Gd_iload (i := 6) rfl eX8_kinds_141 ?_
      refine Gd_iastN (W_s51 hW) (by first | omega | decide) eX8_kinds_143 ?_
      refine Gd_aload_n (i := 0) rfl eX8_kinds_144 ?_
      refine Gd_getR fl_RX8_13 (W_s50 hW) (W_r50_2 hW) eX8_kinds_145 ?_
      refine Gd_iload_n (i := 3) rfl eX8_kinds_148 ?_
      refine Gd_iload (i := 7) rfl eX8_kinds_149 ?_
      refine Gd_iastN (W_s52 hW) (by first | omega | decide) eX8_kinds_151 ?_
      refine Gd_iload (i := 8) rfl eX8_kinds_152 ?_
      exact Gd_ireturn eX8_kinds_154 rfl (Nat.le_refl _) (Nat.le_refl _) (by rw [show k = 6 by omega] at *; exact kq _ (MA_fid (MA_kd0 hM)) (chg_up (chg_up hc rfl) rfl))
    · exact absurd c66 (by omega)
  | n + 1, k, x, b, a, hn, hM, hT, hS, hb, hc, kq => by
    subst hb
    have hhu := FI_hu hI
    have hp6 : p < 6 := by omega
    refine Gd_iload (i := 9) rfl eX8_kinds_52 ?_
    refine Gd_iload (i := 4) rfl eX8_kinds_54 ?_
    refine Gd_if_ne eX8_kinds_56 (fun q => by first | exact absurd q (by decide) | exact absurd (by decide) q) (fun _ => ?_)
    refine Gd_bipush kb_6 eX8_kinds_59 ?_
    refine Gd_goto eX8_kinds_61 ?_
    refine Gd_icmp_geN (by first | omega | decide) (by first | omega | decide) eX8_kinds_66 (fun c66 => ?_) (fun c66 => ?_)
    · exact absurd c66 (by omega)
    · refine Gd_aload_n (i := 0) rfl eX8_kinds_69 ?_
      refine Gd_getR fl_RX8_7 (W_s50 hW) (W_r50_1 hW) eX8_kinds_70 ?_
      refine Gd_iload_n (i := 3) rfl eX8_kinds_73 ?_
      refine Gd_iload (i := 4) rfl eX8_kinds_74 ?_
      refine Gd_if_ne eX8_kinds_76 (fun q => by first | exact absurd q (by decide) | exact absurd (by decide) q) (fun _ => ?_)
      refine Gd_iload (i := 9) rfl eX8_kinds_79 ?_
      refine Gd_goto eX8_kinds_81 ?_
      refine Gd_iastN (W_s51 hW) (by first | omega | decide) eX8_kinds_86 ?_
      refine Gd_aload_n (i := 0) rfl eX8_kinds_87 ?_
      refine Gd_getR fl_RX8_13 (W_s50 hW) (W_r50_2 hW) eX8_kinds_88 ?_
      refine Gd_iload_n (i := 3) rfl eX8_kinds_91 ?_
      refine Gd_iload (i := 4) rfl eX8_kinds_92 ?_
      refine Gd_iconst ki_1 eX8_kinds_94 ?_
      refine Gd_icmp_ne eX8_kinds_95 (fun _ => ?_) (fun q => by first | exact absurd q (by decide) | exact absurd (by decide) q)
      refine Gd_iload (i := 7) rfl eX8_kinds_103 ?_
      refine Gd_iastN (W_s52 hW) (by first | omega | decide) eX8_kinds_105 ?_
      refine Gd_iload (i := 8) rfl eX8_kinds_106 ?_
      refine Gd_aload_n (i := 0) rfl eX8_kinds_108 ?_
      refine Gd_iload_n (i := 1) rfl eX8_kinds_109 ?_
      refine Gd_iload_n (i := 2) rfl eX8_kinds_110 ?_
      refine Gd_iload_n (i := 3) rfl eX8_kinds_111 ?_
      have hM1 : MA (fu φ 1 p (k)) _ := MA_kd0 hM
      have hc1 : chg scZ a (up2 (up2 a 51 p (nI k)) 52 p (nI (φ 2 p))) := chg_up (chg_up chg_rf rfl) rfl
      refine Gd_callEV (g_cV (m_unlike (φ := fu φ 1 p (k)) hW hM1 (FI_setki hI (by omega)) (TM_Z hT hc1) hTI (hlt) (MS_Z hS hc1) (s := i) (t := j) (p := p) hi hj hal hle hz (hpn)) ok_X8_unlike lk_RX8_269 (W_s50 hW) ⟨_, _, rfl⟩ rfl rfl (Nat.le_of_ble_eq_true rfl) (Nat.le_of_ble_eq_true rfl) (Nat.le_refl _) (Nat.le_refl _) eX8_kinds_112) (fun a3 hq3 => ?_)
      obtain ⟨hM3, hq3⟩ := hq3
      have hc3 : chg scZ a a3 := chg_tr hc1 (chg_mono2 scZ_K hq3)
      refine Gd_iconst ki_m1 eX8_kinds_115 ?_
      refine Gd_icmp_ne eX8_kinds_116 (fun c116 => ?_) (fun c116 => ?_)
      · refine Gd_iconst ki_0 eX8_kinds_126 ?_
        refine Gd_iorN eX8_kinds_127 ?_
        refine Gd_istore8 rfl eX8_kinds_128 ?_
        refine Gd_iinc9 (ho := rfl) (he := nI_inc _) eX8_kinds_130 ?_
        refine Gd_goto eX8_kinds_133 ?_
        exact m_kinds0_L hW hI hTI hlt hi hj hal hle hz hpn hTd hBN n (k + 1) k _ a3 (by omega) hM3 (TM_Z hT hc3) (MS_Z hS hc3) (fitB_n0 (by rw [hTd]; exact ok1_f c116)) (chg_tr hc hc3) kq
      · refine Gd_iconst ki_1 eX8_kinds_119 ?_
        refine Gd_iload (i := 9) rfl eX8_kinds_120 ?_
        refine Gd_ishl1 (by first | omega | decide) eX8_kinds_122 ?_
        refine Gd_goto eX8_kinds_123 ?_
        refine Gd_iorN eX8_kinds_127 ?_
        refine Gd_istore8 rfl eX8_kinds_128 ?_
        refine Gd_iinc9 (ho := rfl) (he := nI_inc _) eX8_kinds_130 ?_
        refine Gd_goto eX8_kinds_133 ?_
        exact m_kinds0_L hW hI hTI hlt hi hj hal hle hz hpn hTd hBN n (k + 1) k _ a3 (by omega) hM3 (TM_Z hT hc3) (MS_Z hS hc3) (fitB_y (by rw [hTd]; exact ok1_t c116)) (chg_tr hc hc3) kq
theorem x_kinds0_L {sh : List (Nat × Nat)} {r : Nat → Nat → Option Nat} {g : Nat → Nat → Int64} {φ ts cd : Nat → Nat → Nat} {nt : Nat} {so sz : Nat → Nat} {cl : Nat → Nat → Int32} (hW : WD sh r) (hI : FI φ) (hTI : TI nt ts cd) (hlt : φ 7 2 < nt) {i j p : Nat} (hi : i < 4) (hj : j < 4) (hal : allD (cl i) (sz i) = true) (hle : sz j ≤ sz i) (hz : sz i ≤ 40) (hpn : p < φ 7 3) {T : Nat → Bool} (hTd : ∀ k, T k = ok1 ts cd p (cl i) (cl j) (sz j) (fu φ 1 p (k))) {x5 : Int32} (hBN : True) {Q : Option g_V → g_H → Prop} {N0 : Nat} {a0 : Nat → Nat → Int32} : ∀ (n k : Nat) (b : Nat) (a : Nat → Nat → Int32), k + n = 6 → FA 1 φ a → TX nt ts cd sh a r → SX so sz cl a → b = fitB T k → chg scX a0 a → (∀ a', chg scX a0 a' → Q (some (vi (nI (fitB T 6)))) (sh, a', r, g)) → Gd YX7_kinds (z0 7 N0 Q) 0 0 36 [some (vr 0), some (vi (nI (i))), some (vi (nI (j))), some (vi (nI (p))), some (vi (nI (0))), some (vi x5), some (vi (nI (b))), some (vi (nI (k)))] [] (sh, a, r, g)
  | 0, k, b, a, hn, hA, hT, hS, hb, hc, kq => by
    subst hb
    have hhu := FI_hu hI
    have hp6 : p < 6 := by omega
    refine Gd_iload (i := 7) rfl eX7_kinds_36 ?_
    refine Gd_iload (i := 4) rfl eX7_kinds_38 ?_
    refine Gd_if_ne eX7_kinds_40 (fun q => by first | exact absurd q (by decide) | exact absurd (by decide) q) (fun _ => ?_)
    refine Gd_bipush kb_6 eX7_kinds_43 ?_
    refine Gd_goto eX7_kinds_45 ?_
    refine Gd_icmp_geN (by first | omega | decide) (by first | omega | decide) eX7_kinds_50 (fun c50 => ?_) (fun c50 => ?_)
    · refine Gd_iload (i := 6) rfl eX7_kinds_130 ?_
      exact Gd_ireturn eX7_kinds_132 rfl (Nat.le_refl _) (Nat.le_refl _) (by rw [show k = 6 by omega] at *; exact kq _ hc)
    · exact absurd c50 (by omega)
  | n + 1, k, b, a, hn, hA, hT, hS, hb, hc, kq => by
    subst hb
    have hhu := FI_hu hI
    have hp6 : p < 6 := by omega
    refine Gd_iload (i := 7) rfl eX7_kinds_36 ?_
    refine Gd_iload (i := 4) rfl eX7_kinds_38 ?_
    refine Gd_if_ne eX7_kinds_40 (fun q => by first | exact absurd q (by decide) | exact absurd (by decide) q) (fun _ => ?_)
    refine Gd_bipush kb_6 eX7_kinds_43 ?_
    refine Gd_goto eX7_kinds_45 ?_
    refine Gd_icmp_geN (by first | omega | decide) (by first | omega | decide) eX7_kinds_50 (fun c50 => ?_) (fun c50 => ?_)
    · exact absurd c50 (by omega)
    · refine Gd_aload_n (i := 0) rfl eX7_kinds_53 ?_
      refine Gd_getR fl_RX7_16 (W_s0 hW) (W_r0_1 hW) eX7_kinds_54 ?_
      refine Gd_aload_n (i := 0) rfl eX7_kinds_57 ?_
      refine Gd_getR fl_RX7_10 (W_s0 hW) (W_r0_0 hW) eX7_kinds_58 ?_
      refine Gd_callE0 (g_cV (x_become9 hW hA) ok_X0_become lk_RX7_232 (W_s9 hW) ⟨_, _, rfl⟩ rfl rfl (Nat.le_of_ble_eq_true rfl) (Nat.le_of_ble_eq_true rfl) (Nat.le_refl _) (Nat.le_refl _) eX7_kinds_61) (fun a2 hq2 => ?_)
      obtain ⟨hA2, hq2⟩ := hq2
      have hc2 : chg scX a a2 := chg_mono2 scX_9 hq2
      have hT2 := TX_X hT hc2
      have hS2 := SX_X hS hc2
      refine Gd_iload (i := 4) rfl eX7_kinds_64 ?_
      refine Gd_if_ne eX7_kinds_66 (fun q => by first | exact absurd q (by decide) | exact absurd (by decide) q) (fun _ => ?_)
      refine Gd_aload_n (i := 0) rfl eX7_kinds_69 ?_
      refine Gd_getR fl_RX7_16 (W_s0 hW) (W_r0_1 hW) eX7_kinds_70 ?_
      refine Gd_getR fl_RX7_167 (W_s9 hW) (W_r9_5 hW) eX7_kinds_73 ?_
      refine Gd_iload_n (i := 3) rfl eX7_kinds_76 ?_
      refine Gd_iload (i := 7) rfl eX7_kinds_77 ?_
      refine Gd_iastN (W_s11 hW) (by first | omega | decide) eX7_kinds_79 ?_
      refine Gd_goto eX7_kinds_80 ?_
      refine Gd_aload_n (i := 0) rfl eX7_kinds_94 ?_
      refine Gd_aload_n (i := 0) rfl eX7_kinds_95 ?_
      refine Gd_getR fl_RX7_56 (W_s0 hW) (W_r0_8 hW) eX7_kinds_96 ?_
      refine Gd_iload_n (i := 1) rfl eX7_kinds_99 ?_
      refine Gd_aaldN (Or.inl ⟨rfl, rfl, rfl⟩ : g_rc 21 1 4) (W_s38 hW) (by first | omega | decide) (W_r38 hW (j := i) (by first | omega | decide)) eX7_kinds_100 ?_
      refine Gd_aload_n (i := 0) rfl eX7_kinds_101 ?_
      refine Gd_getR fl_RX7_56 (W_s0 hW) (W_r0_8 hW) eX7_kinds_102 ?_
      refine Gd_iload_n (i := 2) rfl eX7_kinds_105 ?_
      refine Gd_aaldN (Or.inl ⟨rfl, rfl, rfl⟩ : g_rc 21 1 4) (W_s38 hW) (by first | omega | decide) (W_r38 hW (j := j) (by first | omega | decide)) eX7_kinds_106 ?_
      refine Gd_iload_n (i := 3) rfl eX7_kinds_107 ?_
      have hA3 : FA 9 (fu φ 1 p (k)) _ := FA_setki hA2
      have hc3 : chg scX a (up2 a2 11 p (nI k)) := chg_up hc2 rfl
      refine Gd_callEV (g_cV (x_firstOtherwise (φ := fu φ 1 p (k)) hW hA3 (FI_setki hI (by omega)) (TX_X hT hc3) hTI (hlt) (SX_X hS hc3) (s := i) (t := j) (p := p) hi hj hal hle hz (hpn)) ok_X7_firstOtherwise lk_RX7_257 (W_s0 hW) ⟨_, _, rfl⟩ rfl rfl (Nat.le_of_ble_eq_true rfl) (Nat.le_of_ble_eq_true rfl) (Nat.le_refl _) (Nat.le_refl _) eX7_kinds_108) (fun a3 hq3 => ?_)
      have hc4 : chg scX a a3 := chg_tr hc3 (chg_mono2 scX_T hq3)
      refine Gd_iconst ki_m1 eX7_kinds_111 ?_
      refine Gd_icmp_ne eX7_kinds_112 (fun c112 => ?_) (fun c112 => ?_)
      · refine Gd_iinc7 (ho := rfl) (he := nI_inc _) eX7_kinds_124 ?_
        refine Gd_goto eX7_kinds_127 ?_
        exact x_kinds0_L hW hI hTI hlt hi hj hal hle hz hpn hTd hBN n (k + 1) _ a3 (by omega) (FA_X hA hc4) (TX_X hT hc4) (SX_X hS hc4) (fitB_n (by rw [hTd]; exact ok1_f c112)) (chg_tr hc hc4) kq
      · refine Gd_iload (i := 6) rfl eX7_kinds_115 ?_
        refine Gd_iconst ki_1 eX7_kinds_117 ?_
        refine Gd_iload (i := 7) rfl eX7_kinds_118 ?_
        refine Gd_ishl1 (by first | omega | decide) eX7_kinds_120 ?_
        refine Gd_iorN eX7_kinds_121 ?_
        refine Gd_istore6 rfl eX7_kinds_122 ?_
        refine Gd_iinc7 (ho := rfl) (he := nI_inc _) eX7_kinds_124 ?_
        refine Gd_goto eX7_kinds_127 ?_
        exact x_kinds0_L hW hI hTI hlt hi hj hal hle hz hpn hTd hBN n (k + 1) _ a3 (by omega) (FA_X hA hc4) (TX_X hT hc4) (SX_X hS hc4) (fitB_y (by rw [hTd]; exact ok1_t c112)) (chg_tr hc hc4) kq
theorem m_kinds1_L {sh : List (Nat × Nat)} {r : Nat → Nat → Option Nat} {g : Nat → Nat → Int64} {φ ts cd : Nat → Nat → Nat} {nt : Nat} {so sz : Nat → Nat} {cl : Nat → Nat → Int32} (hW : WD sh r) (hI : FI φ) (hTI : TI nt ts cd) (hlt : φ 7 2 < nt) {i j p : Nat} (hi : i < 4) (hj : j < 4) (hal : allD (cl i) (sz i) = true) (hle : sz j ≤ sz i) (hz : sz i ≤ 40) (hpn : p < φ 7 3) {T : Nat → Bool} (hTd : ∀ k, T k = ok1 ts cd p (cl i) (cl j) (sz j) (fu φ 2 p (k))) {x5 : Int32} (hBN : True) {Q : Option g_V → g_H → Prop} {N0 : Nat} {a0 : Nat → Nat → Int32} : ∀ (n k x : Nat) (b : Nat) (a : Nat → Nat → Int32), k + n = 10 → MA (fu φ 2 p (x)) a → TM nt ts cd a → MS so sz cl a → b = fitB T k → chg scZ a0 a → (∀ a', MA φ a' → chg scZ a0 a' → Q (some (vi (nI (fitB T 10)))) (sh, a', r, g)) → Gd YX8_kinds (z0 7 N0 Q) 0 0 52 [some (vr 50), some (vi (nI (i))), some (vi (nI (j))), some (vi (nI (p))), some (vi (nI (1))), some (vi x5), some (vi (nI (φ 1 p))), some (vi (nI (φ 2 p))), some (vi (nI (b))), some (vi (nI (k)))] [] (sh, a, r, g)
  | 0, k, x, b, a, hn, hM, hT, hS, hb, hc, kq => by
    subst hb
    have hhu := FI_hu hI
    have hp6 : p < 6 := by omega
    refine Gd_iload (i := 9) rfl eX8_kinds_52 ?_
    refine Gd_iload (i := 4) rfl eX8_kinds_54 ?_
    refine Gd_if_ne eX8_kinds_56 (fun _ => ?_) (fun q => by first | exact absurd q (by decide) | exact absurd (by decide) q)
    refine Gd_bipush kb_10 eX8_kinds_64 ?_
    refine Gd_icmp_geN (by first | omega | decide) (by first | omega | decide) eX8_kinds_66 (fun c66 => ?_) (fun c66 => ?_)
    · refine Gd_aload_n (i := 0) rfl eX8_kinds_136 ?_
      refine Gd_getR fl_RX8_7 (W_s50 hW) (W_r50_1 hW) eX8_kinds_137 ?_
      refine Gd_iload_n (i := 3) rfl eX8_kinds_140 ?_
      refine Gd_iload (i := 6) rfl eX8_kinds_141 ?_
      refine Gd_iastN (W_s51 hW) (by first | omega | decide) eX8_kinds_143 ?_
      refine Gd_aload_n (i := 0) rfl eX8_kinds_144 ?_
      refine Gd_getR fl_RX8_13 (W_s50 hW) (W_r50_2 hW) eX8_kinds_145 ?_
      refine Gd_iload_n (i := 3) rfl eX8_kinds_148 ?_
      refine Gd_iload (i := 7) rfl eX8_kinds_149 ?_
      refine Gd_iastN (W_s52 hW) (by first | omega | decide) eX8_kinds_151 ?_
      refine Gd_iload (i := 8) rfl eX8_kinds_152 ?_
      exact Gd_ireturn eX8_kinds_154 rfl (Nat.le_refl _) (Nat.le_refl _) (by rw [show k = 10 by omega] at *; exact kq _ (MA_fid (MA_kd1 hM)) (chg_up (chg_up hc rfl) rfl))
    · exact absurd c66 (by omega)
  | n + 1, k, x, b, a, hn, hM, hT, hS, hb, hc, kq => by
    subst hb
    have hhu := FI_hu hI
    have hp6 : p < 6 := by omega
    refine Gd_iload (i := 9) rfl eX8_kinds_52 ?_
    refine Gd_iload (i := 4) rfl eX8_kinds_54 ?_
    refine Gd_if_ne eX8_kinds_56 (fun _ => ?_) (fun q => by first | exact absurd q (by decide) | exact absurd (by decide) q)
    refine Gd_bipush kb_10 eX8_kinds_64 ?_
    refine Gd_icmp_geN (by first | omega | decide) (by first | omega | decide) eX8_kinds_66 (fun c66 => ?_) (fun c66 => ?_)
    · exact absurd c66 (by omega)
    · refine Gd_aload_n (i := 0) rfl eX8_kinds_69 ?_
      refine Gd_getR fl_RX8_7 (W_s50 hW) (W_r50_1 hW) eX8_kinds_70 ?_
      refine Gd_iload_n (i := 3) rfl eX8_kinds_73 ?_
      refine Gd_iload (i := 4) rfl eX8_kinds_74 ?_
      refine Gd_if_ne eX8_kinds_76 (fun _ => ?_) (fun q => by first | exact absurd q (by decide) | exact absurd (by decide) q)
      refine Gd_iload (i := 6) rfl eX8_kinds_84 ?_
      refine Gd_iastN (W_s51 hW) (by first | omega | decide) eX8_kinds_86 ?_
      refine Gd_aload_n (i := 0) rfl eX8_kinds_87 ?_
      refine Gd_getR fl_RX8_13 (W_s50 hW) (W_r50_2 hW) eX8_kinds_88 ?_
      refine Gd_iload_n (i := 3) rfl eX8_kinds_91 ?_
      refine Gd_iload (i := 4) rfl eX8_kinds_92 ?_
      refine Gd_iconst ki_1 eX8_kinds_94 ?_
      refine Gd_icmp_ne eX8_kinds_95 (fun q => by first | exact absurd q (by decide) | exact absurd (by decide) q) (fun _ => ?_)
      refine Gd_iload (i := 9) rfl eX8_kinds_98 ?_
      refine Gd_goto eX8_kinds_100 ?_
      refine Gd_iastN (W_s52 hW) (by first | omega | decide) eX8_kinds_105 ?_
      refine Gd_iload (i := 8) rfl eX8_kinds_106 ?_
      refine Gd_aload_n (i := 0) rfl eX8_kinds_108 ?_
      refine Gd_iload_n (i := 1) rfl eX8_kinds_109 ?_
      refine Gd_iload_n (i := 2) rfl eX8_kinds_110 ?_
      refine Gd_iload_n (i := 3) rfl eX8_kinds_111 ?_
      have hM1 : MA (fu φ 2 p (k)) _ := MA_kd1 hM
      have hc1 : chg scZ a (up2 (up2 a 51 p (nI (φ 1 p))) 52 p (nI k)) := chg_up (chg_up chg_rf rfl) rfl
      refine Gd_callEV (g_cV (m_unlike (φ := fu φ 2 p (k)) hW hM1 (FI_setmo hI (by omega)) (TM_Z hT hc1) hTI (hlt) (MS_Z hS hc1) (s := i) (t := j) (p := p) hi hj hal hle hz (hpn)) ok_X8_unlike lk_RX8_269 (W_s50 hW) ⟨_, _, rfl⟩ rfl rfl (Nat.le_of_ble_eq_true rfl) (Nat.le_of_ble_eq_true rfl) (Nat.le_refl _) (Nat.le_refl _) eX8_kinds_112) (fun a3 hq3 => ?_)
      obtain ⟨hM3, hq3⟩ := hq3
      have hc3 : chg scZ a a3 := chg_tr hc1 (chg_mono2 scZ_K hq3)
      refine Gd_iconst ki_m1 eX8_kinds_115 ?_
      refine Gd_icmp_ne eX8_kinds_116 (fun c116 => ?_) (fun c116 => ?_)
      · refine Gd_iconst ki_0 eX8_kinds_126 ?_
        refine Gd_iorN eX8_kinds_127 ?_
        refine Gd_istore8 rfl eX8_kinds_128 ?_
        refine Gd_iinc9 (ho := rfl) (he := nI_inc _) eX8_kinds_130 ?_
        refine Gd_goto eX8_kinds_133 ?_
        exact m_kinds1_L hW hI hTI hlt hi hj hal hle hz hpn hTd hBN n (k + 1) k _ a3 (by omega) hM3 (TM_Z hT hc3) (MS_Z hS hc3) (fitB_n0 (by rw [hTd]; exact ok1_f c116)) (chg_tr hc hc3) kq
      · refine Gd_iconst ki_1 eX8_kinds_119 ?_
        refine Gd_iload (i := 9) rfl eX8_kinds_120 ?_
        refine Gd_ishl1 (by first | omega | decide) eX8_kinds_122 ?_
        refine Gd_goto eX8_kinds_123 ?_
        refine Gd_iorN eX8_kinds_127 ?_
        refine Gd_istore8 rfl eX8_kinds_128 ?_
        refine Gd_iinc9 (ho := rfl) (he := nI_inc _) eX8_kinds_130 ?_
        refine Gd_goto eX8_kinds_133 ?_
        exact m_kinds1_L hW hI hTI hlt hi hj hal hle hz hpn hTd hBN n (k + 1) k _ a3 (by omega) hM3 (TM_Z hT hc3) (MS_Z hS hc3) (fitB_y (by rw [hTd]; exact ok1_t c116)) (chg_tr hc hc3) kq
theorem x_kinds1_L {sh : List (Nat × Nat)} {r : Nat → Nat → Option Nat} {g : Nat → Nat → Int64} {φ ts cd : Nat → Nat → Nat} {nt : Nat} {so sz : Nat → Nat} {cl : Nat → Nat → Int32} (hW : WD sh r) (hI : FI φ) (hTI : TI nt ts cd) (hlt : φ 7 2 < nt) {i j p : Nat} (hi : i < 4) (hj : j < 4) (hal : allD (cl i) (sz i) = true) (hle : sz j ≤ sz i) (hz : sz i ≤ 40) (hpn : p < φ 7 3) {T : Nat → Bool} (hTd : ∀ k, T k = ok1 ts cd p (cl i) (cl j) (sz j) (fu φ 2 p (k))) {x5 : Int32} (hBN : True) {Q : Option g_V → g_H → Prop} {N0 : Nat} {a0 : Nat → Nat → Int32} : ∀ (n k : Nat) (b : Nat) (a : Nat → Nat → Int32), k + n = 10 → FA 1 φ a → TX nt ts cd sh a r → SX so sz cl a → b = fitB T k → chg scX a0 a → (∀ a', chg scX a0 a' → Q (some (vi (nI (fitB T 10)))) (sh, a', r, g)) → Gd YX7_kinds (z0 7 N0 Q) 0 0 36 [some (vr 0), some (vi (nI (i))), some (vi (nI (j))), some (vi (nI (p))), some (vi (nI (1))), some (vi x5), some (vi (nI (b))), some (vi (nI (k)))] [] (sh, a, r, g)
  | 0, k, b, a, hn, hA, hT, hS, hb, hc, kq => by
    subst hb
    have hhu := FI_hu hI
    have hp6 : p < 6 := by omega
    refine Gd_iload (i := 7) rfl eX7_kinds_36 ?_
    refine Gd_iload (i := 4) rfl eX7_kinds_38 ?_
    refine Gd_if_ne eX7_kinds_40 (fun _ => ?_) (fun q => by first | exact absurd q (by decide) | exact absurd (by decide) q)
    refine Gd_bipush kb_10 eX7_kinds_48 ?_
    refine Gd_icmp_geN (by first | omega | decide) (by first | omega | decide) eX7_kinds_50 (fun c50 => ?_) (fun c50 => ?_)
    · refine Gd_iload (i := 6) rfl eX7_kinds_130 ?_
      exact Gd_ireturn eX7_kinds_132 rfl (Nat.le_refl _) (Nat.le_refl _) (by rw [show k = 10 by omega] at *; exact kq _ hc)
    · exact absurd c50 (by omega)
  | n + 1, k, b, a, hn, hA, hT, hS, hb, hc, kq => by
    subst hb
    have hhu := FI_hu hI
    have hp6 : p < 6 := by omega
    refine Gd_iload (i := 7) rfl eX7_kinds_36 ?_
    refine Gd_iload (i := 4) rfl eX7_kinds_38 ?_
    refine Gd_if_ne eX7_kinds_40 (fun _ => ?_) (fun q => by first | exact absurd q (by decide) | exact absurd (by decide) q)
    refine Gd_bipush kb_10 eX7_kinds_48 ?_
    refine Gd_icmp_geN (by first | omega | decide) (by first | omega | decide) eX7_kinds_50 (fun c50 => ?_) (fun c50 => ?_)
    · exact absurd c50 (by omega)
    · refine Gd_aload_n (i := 0) rfl eX7_kinds_53 ?_
      refine Gd_getR fl_RX7_16 (W_s0 hW) (W_r0_1 hW) eX7_kinds_54 ?_
      refine Gd_aload_n (i := 0) rfl eX7_kinds_57 ?_
      refine Gd_getR fl_RX7_10 (W_s0 hW) (W_r0_0 hW) eX7_kinds_58 ?_
      refine Gd_callE0 (g_cV (x_become9 hW hA) ok_X0_become lk_RX7_232 (W_s9 hW) ⟨_, _, rfl⟩ rfl rfl (Nat.le_of_ble_eq_true rfl) (Nat.le_of_ble_eq_true rfl) (Nat.le_refl _) (Nat.le_refl _) eX7_kinds_61) (fun a2 hq2 => ?_)
      obtain ⟨hA2, hq2⟩ := hq2
      have hc2 : chg scX a a2 := chg_mono2 scX_9 hq2
      have hT2 := TX_X hT hc2
      have hS2 := SX_X hS hc2
      refine Gd_iload (i := 4) rfl eX7_kinds_64 ?_
      refine Gd_if_ne eX7_kinds_66 (fun _ => ?_) (fun q => by first | exact absurd q (by decide) | exact absurd (by decide) q)
      refine Gd_aload_n (i := 0) rfl eX7_kinds_83 ?_
      refine Gd_getR fl_RX7_16 (W_s0 hW) (W_r0_1 hW) eX7_kinds_84 ?_
      refine Gd_getR fl_RX7_170 (W_s9 hW) (W_r9_6 hW) eX7_kinds_87 ?_
      refine Gd_iload_n (i := 3) rfl eX7_kinds_90 ?_
      refine Gd_iload (i := 7) rfl eX7_kinds_91 ?_
      refine Gd_iastN (W_s12 hW) (by first | omega | decide) eX7_kinds_93 ?_
      refine Gd_aload_n (i := 0) rfl eX7_kinds_94 ?_
      refine Gd_aload_n (i := 0) rfl eX7_kinds_95 ?_
      refine Gd_getR fl_RX7_56 (W_s0 hW) (W_r0_8 hW) eX7_kinds_96 ?_
      refine Gd_iload_n (i := 1) rfl eX7_kinds_99 ?_
      refine Gd_aaldN (Or.inl ⟨rfl, rfl, rfl⟩ : g_rc 21 1 4) (W_s38 hW) (by first | omega | decide) (W_r38 hW (j := i) (by first | omega | decide)) eX7_kinds_100 ?_
      refine Gd_aload_n (i := 0) rfl eX7_kinds_101 ?_
      refine Gd_getR fl_RX7_56 (W_s0 hW) (W_r0_8 hW) eX7_kinds_102 ?_
      refine Gd_iload_n (i := 2) rfl eX7_kinds_105 ?_
      refine Gd_aaldN (Or.inl ⟨rfl, rfl, rfl⟩ : g_rc 21 1 4) (W_s38 hW) (by first | omega | decide) (W_r38 hW (j := j) (by first | omega | decide)) eX7_kinds_106 ?_
      refine Gd_iload_n (i := 3) rfl eX7_kinds_107 ?_
      have hA3 : FA 9 (fu φ 2 p (k)) _ := FA_setmo hA2
      have hc3 : chg scX a (up2 a2 12 p (nI k)) := chg_up hc2 rfl
      refine Gd_callEV (g_cV (x_firstOtherwise (φ := fu φ 2 p (k)) hW hA3 (FI_setmo hI (by omega)) (TX_X hT hc3) hTI (hlt) (SX_X hS hc3) (s := i) (t := j) (p := p) hi hj hal hle hz (hpn)) ok_X7_firstOtherwise lk_RX7_257 (W_s0 hW) ⟨_, _, rfl⟩ rfl rfl (Nat.le_of_ble_eq_true rfl) (Nat.le_of_ble_eq_true rfl) (Nat.le_refl _) (Nat.le_refl _) eX7_kinds_108) (fun a3 hq3 => ?_)
      have hc4 : chg scX a a3 := chg_tr hc3 (chg_mono2 scX_T hq3)
      refine Gd_iconst ki_m1 eX7_kinds_111 ?_
      refine Gd_icmp_ne eX7_kinds_112 (fun c112 => ?_) (fun c112 => ?_)
      · refine Gd_iinc7 (ho := rfl) (he := nI_inc _) eX7_kinds_124 ?_
        refine Gd_goto eX7_kinds_127 ?_
        exact x_kinds1_L hW hI hTI hlt hi hj hal hle hz hpn hTd hBN n (k + 1) _ a3 (by omega) (FA_X hA hc4) (TX_X hT hc4) (SX_X hS hc4) (fitB_n (by rw [hTd]; exact ok1_f c112)) (chg_tr hc hc4) kq
      · refine Gd_iload (i := 6) rfl eX7_kinds_115 ?_
        refine Gd_iconst ki_1 eX7_kinds_117 ?_
        refine Gd_iload (i := 7) rfl eX7_kinds_118 ?_
        refine Gd_ishl1 (by first | omega | decide) eX7_kinds_120 ?_
        refine Gd_iorN eX7_kinds_121 ?_
        refine Gd_istore6 rfl eX7_kinds_122 ?_
        refine Gd_iinc7 (ho := rfl) (he := nI_inc _) eX7_kinds_124 ?_
        refine Gd_goto eX7_kinds_127 ?_
        exact x_kinds1_L hW hI hTI hlt hi hj hal hle hz hpn hTd hBN n (k + 1) _ a3 (by omega) (FA_X hA hc4) (TX_X hT hc4) (SX_X hS hc4) (fitB_y (by rw [hTd]; exact ok1_t c112)) (chg_tr hc hc4) kq
theorem m_kinds {sh : List (Nat × Nat)} {a : Nat → Nat → Int32} {r : Nat → Nat → Option Nat} {g : Nat → Nat → Int64} {φ ts cd : Nat → Nat → Nat} {nt : Nat} {so sz : Nat → Nat} {cl : Nat → Nat → Int32} (hW : WD sh r) (hM : MA φ a) (hI : FI φ) (hT : TM nt ts cd a) (hTI : TI nt ts cd) (hlt : φ 7 2 < nt) (hS : MS so sz cl a) (hSI : SI so sz) (vs vt vp vw : Int32) : Mt YX8_kinds 7 0 0 [vr 50, vi vs, vi vt, vi vp, vi vw] (sh, a, r, g) (g_EV sh r g (vi (oKinds φ ts cd so sz cl vs vt vp vw)) (fun a' => MA φ a' ∧ chg scZ a a')) := by
  refine Mt_of rfl (Nat.le_of_ble_eq_true rfl) rfl ?_
  have hhu := FI_hu hI
  refine Gd_aload_n (i := 0) rfl eX8_kinds_0 ?_
  refine Gd_iload_n (i := 1) rfl eX8_kinds_1 ?_
  refine Gd_iload_n (i := 2) rfl eX8_kinds_2 ?_
  refine Gd_iload_n (i := 3) rfl eX8_kinds_3 ?_
  refine Gd_callP (g_cV (m_toldWrong hW hM hI hS hSI _ _ _) ok_X8_toldWrong lk_RX8_266 (W_s50 hW) ⟨_, _, rfl⟩ rfl rfl (Nat.le_of_ble_eq_true rfl) (Nat.le_of_ble_eq_true rfl) (Nat.le_refl _) (Nat.le_refl _) eX8_kinds_4) ?_
  refine Gd_istore5 rfl eX8_kinds_7 ?_
  refine Gd_iload (i := 5) rfl eX8_kinds_9 ?_
  refine Gd_if_eq eX8_kinds_11 (fun c11 => ?_) (fun c11 => ?_)
  · obtain ⟨i, j, p, hi, hj, hpn, rfl, rfl, rfl, hso, hal, hle⟩ := tlw_ok hhu c11
    have hz := hSI.2 i hi
    have hp6 : p < 6 := by omega
    refine Gd_iload (i := 4) rfl eX8_kinds_17 ?_
    refine Gd_iconst ki_0 eX8_kinds_19 ?_
    refine Gd_iconst ki_1 eX8_kinds_20 ?_
    refine Gd_callP (g_cS (m_in _ _ _) ok_X8_in lk_RX8_84 rfl rfl (Nat.le_of_ble_eq_true rfl) (Nat.le_of_ble_eq_true rfl) (Nat.le_refl _) (Nat.le_refl _) eX8_kinds_21) ?_
    refine Gd_if_neB eX8_kinds_24 (fun c24 => ?_) (fun c24 => ?_)
    · obtain ⟨k, _, hk, rfl⟩ := inb_r (by decide) (by decide) c24
      have hr := oKinds_u (ts := ts) (cd := cd) c11 hi hj hp6 hk
      rcases (by omega : k = 0 ∨ k = 1) with rfl | rfl
      · refine Gd_aload_n (i := 0) rfl eX8_kinds_30 ?_
        refine Gd_getR fl_RX8_7 (W_s50 hW) (W_r50_1 hW) eX8_kinds_31 ?_
        refine Gd_iload_n (i := 3) rfl eX8_kinds_34 ?_
        refine Gd_ialdE (v := nI (φ 1 p)) (W_s51 hW) (by first | omega | decide) (MA_ki hM (p := p) (by first | omega | decide) :) eX8_kinds_35 ?_
        refine Gd_istore6 rfl eX8_kinds_36 ?_
        refine Gd_aload_n (i := 0) rfl eX8_kinds_38 ?_
        refine Gd_getR fl_RX8_13 (W_s50 hW) (W_r50_2 hW) eX8_kinds_39 ?_
        refine Gd_iload_n (i := 3) rfl eX8_kinds_42 ?_
        refine Gd_ialdE (v := nI (φ 2 p)) (W_s52 hW) (by first | omega | decide) (MA_mo hM (p := p) (by first | omega | decide) :) eX8_kinds_43 ?_
        refine Gd_istore7 rfl eX8_kinds_44 ?_
        refine Gd_iconst ki_0 eX8_kinds_46 ?_
        refine Gd_istore8 rfl eX8_kinds_47 ?_
        refine Gd_iconst ki_0 eX8_kinds_49 ?_
        refine Gd_istore9 rfl eX8_kinds_50 ?_
        exact m_kinds0_L hW hI hTI hlt hi hj hal hle hz hpn (T := fun k => ok1 ts cd p (cl i) (cl j) (sz j) (kdf φ 0 p k)) (fun _ => rfl) trivial 6 0 (φ 1 p) 0 a (by omega) (MA_fdi hM) hT hS rfl chg_rf (fun a' k1 k2 => ⟨a', by rw [hr]; rfl, rfl, k1, k2⟩)
      · refine Gd_aload_n (i := 0) rfl eX8_kinds_30 ?_
        refine Gd_getR fl_RX8_7 (W_s50 hW) (W_r50_1 hW) eX8_kinds_31 ?_
        refine Gd_iload_n (i := 3) rfl eX8_kinds_34 ?_
        refine Gd_ialdE (v := nI (φ 1 p)) (W_s51 hW) (by first | omega | decide) (MA_ki hM (p := p) (by first | omega | decide) :) eX8_kinds_35 ?_
        refine Gd_istore6 rfl eX8_kinds_36 ?_
        refine Gd_aload_n (i := 0) rfl eX8_kinds_38 ?_
        refine Gd_getR fl_RX8_13 (W_s50 hW) (W_r50_2 hW) eX8_kinds_39 ?_
        refine Gd_iload_n (i := 3) rfl eX8_kinds_42 ?_
        refine Gd_ialdE (v := nI (φ 2 p)) (W_s52 hW) (by first | omega | decide) (MA_mo hM (p := p) (by first | omega | decide) :) eX8_kinds_43 ?_
        refine Gd_istore7 rfl eX8_kinds_44 ?_
        refine Gd_iconst ki_0 eX8_kinds_46 ?_
        refine Gd_istore8 rfl eX8_kinds_47 ?_
        refine Gd_iconst ki_0 eX8_kinds_49 ?_
        refine Gd_istore9 rfl eX8_kinds_50 ?_
        exact m_kinds1_L hW hI hTI hlt hi hj hal hle hz hpn (T := fun k => ok1 ts cd p (cl i) (cl j) (sz j) (kdf φ 1 p k)) (fun _ => rfl) trivial 10 0 (φ 2 p) 0 a (by omega) (MA_fdi hM) hT hS rfl chg_rf (fun a' k1 k2 => ⟨a', by rw [hr]; rfl, rfl, k1, k2⟩)
    · refine Gd_bipush kb_m7 eX8_kinds_27 ?_
      exact Gd_ireturn eX8_kinds_29 rfl (Nat.le_refl _) (Nat.le_refl _) ⟨a, by rw [oKinds_w c11 c24], rfl, hM, chg_rf⟩
  · refine Gd_iload (i := 5) rfl eX8_kinds_14 ?_
    exact Gd_ireturn eX8_kinds_16 rfl (Nat.le_refl _) (Nat.le_refl _) ⟨a, by rw [oKinds_r c11], rfl, hM, chg_rf⟩
theorem x_kinds {sh : List (Nat × Nat)} {a : Nat → Nat → Int32} {r : Nat → Nat → Option Nat} {g : Nat → Nat → Int64} {φ ts cd : Nat → Nat → Nat} {nt : Nat} {so sz : Nat → Nat} {cl : Nat → Nat → Int32} (hW : WD sh r) (hA : FA 1 φ a) (hI : FI φ) (hT : TX nt ts cd sh a r) (hTI : TI nt ts cd) (hlt : φ 7 2 < nt) (hS : SX so sz cl a) (hSI : SI so sz) (vs vt vp vw : Int32) : Mt YX7_kinds 7 0 0 [vr 0, vi vs, vi vt, vi vp, vi vw] (sh, a, r, g) (g_EV sh r g (vi (oKinds φ ts cd so sz cl vs vt vp vw)) (fun a' => chg scX a a')) := by
  refine Mt_of rfl (Nat.le_of_ble_eq_true rfl) rfl ?_
  have hhu := FI_hu hI
  refine Gd_aload_n (i := 0) rfl eX7_kinds_0 ?_
  refine Gd_iload_n (i := 1) rfl eX7_kinds_1 ?_
  refine Gd_iload_n (i := 2) rfl eX7_kinds_2 ?_
  refine Gd_iload_n (i := 3) rfl eX7_kinds_3 ?_
  refine Gd_callP (g_cV (x_judgeRefusal hW hS hSI hA hI _ _ _) ok_X7_judgeRefusal lk_RX7_253 (W_s0 hW) ⟨_, _, rfl⟩ rfl rfl (Nat.le_of_ble_eq_true rfl) (Nat.le_of_ble_eq_true rfl) (Nat.le_refl _) (Nat.le_refl _) eX7_kinds_4) ?_
  refine Gd_istore5 rfl eX7_kinds_7 ?_
  refine Gd_iload (i := 5) rfl eX7_kinds_9 ?_
  refine Gd_if_eq eX7_kinds_11 (fun c11 => ?_) (fun c11 => ?_)
  · obtain ⟨i, j, p, hi, hj, hpn, rfl, rfl, rfl, hso, hal, hle⟩ := tlw_ok hhu c11
    have hz := hSI.2 i hi
    have hp6 : p < 6 := by omega
    refine Gd_iload (i := 4) rfl eX7_kinds_17 ?_
    refine Gd_iconst ki_0 eX7_kinds_19 ?_
    refine Gd_iconst ki_1 eX7_kinds_20 ?_
    refine Gd_callP (g_cS (x_isWithin _ _ _) ok_X7_isWithin lk_RX7_119 rfl rfl (Nat.le_of_ble_eq_true rfl) (Nat.le_of_ble_eq_true rfl) (Nat.le_refl _) (Nat.le_refl _) eX7_kinds_21) ?_
    refine Gd_if_neB eX7_kinds_24 (fun c24 => ?_) (fun c24 => ?_)
    · obtain ⟨k, _, hk, rfl⟩ := inb_r (by decide) (by decide) c24
      have hr := oKinds_u (ts := ts) (cd := cd) c11 hi hj hp6 hk
      rcases (by omega : k = 0 ∨ k = 1) with rfl | rfl
      · refine Gd_iconst ki_0 eX7_kinds_30 ?_
        refine Gd_istore6 rfl eX7_kinds_31 ?_
        refine Gd_iconst ki_0 eX7_kinds_33 ?_
        refine Gd_istore7 rfl eX7_kinds_34 ?_
        exact x_kinds0_L hW hI hTI hlt hi hj hal hle hz hpn (T := fun k => ok1 ts cd p (cl i) (cl j) (sz j) (kdf φ 0 p k)) (fun _ => rfl) trivial 6 0 0 a (by omega) hA hT hS rfl chg_rf (fun a' k2 => ⟨a', by rw [hr]; rfl, rfl, k2⟩)
      · refine Gd_iconst ki_0 eX7_kinds_30 ?_
        refine Gd_istore6 rfl eX7_kinds_31 ?_
        refine Gd_iconst ki_0 eX7_kinds_33 ?_
        refine Gd_istore7 rfl eX7_kinds_34 ?_
        exact x_kinds1_L hW hI hTI hlt hi hj hal hle hz hpn (T := fun k => ok1 ts cd p (cl i) (cl j) (sz j) (kdf φ 1 p k)) (fun _ => rfl) trivial 10 0 0 a (by omega) hA hT hS rfl chg_rf (fun a' k2 => ⟨a', by rw [hr]; rfl, rfl, k2⟩)
    · refine Gd_bipush kb_m7 eX7_kinds_27 ?_
      exact Gd_ireturn eX7_kinds_29 rfl (Nat.le_refl _) (Nat.le_refl _) ⟨a, by rw [oKinds_w c11 c24], rfl, chg_rf⟩
  · refine Gd_iload (i := 5) rfl eX7_kinds_14 ?_
    exact Gd_ireturn eX7_kinds_16 rfl (Nat.le_refl _) (Nat.le_refl _) ⟨a, by rw [oKinds_r c11], rfl, chg_rf⟩
