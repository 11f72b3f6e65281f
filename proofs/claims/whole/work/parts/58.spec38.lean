theorem m_prize0_L {sh : List (Nat × Nat)} {r : Nat → Nat → Option Nat} {g : Nat → Nat → Int64} {φ ts cd : Nat → Nat → Nat} {nt : Nat} (hW : WD sh r) (hI : FI φ) (hTI : TI nt ts cd) (hlt : φ 7 2 < nt) {p : Nat} (hpn : p < φ 7 3) {x6 x7 : Option g_V} {Q : Option g_V → g_H → Prop} {N0 : Nat} {a0 : Nat → Nat → Int32} : ∀ (n k : Nat) (l3 : Int32) (m : Nat) (a : Nat → Nat → Int32), k + n = 10 → l3 = spi (prb φ ts cd p k).1 → m = (prb φ ts cd p k).2 → MA φ a → TM nt ts cd a → chg scM a0 a → (∀ a', chg scM a0 a' → Q (some (vi (spi (prb φ ts cd p 10).1))) (sh, a', r, g)) → Gd YX8_prize (z0 5 N0 Q) 0 0 38 [some (vr 50), some (vi (nI p)), some (vi (nI 0)), some (vi l3), some (vi (nI m)), some (vi (nI k)), x6, x7] [] (sh, a, r, g)
  | 0, k, l3, m, a, hn, h2, h3, hM, hT, hch, kq => by
    subst h2
    subst h3
    have hhu := FI_hu hI
    have hp6 : p < 6 := by omega
    have hho := FI_ho hI hp6
    obtain ⟨hb1, hb2⟩ := prb_le (ts := ts) (cd := cd) hho k
    have hal := aim_le φ ts cd p k
    refine Gd_iload (i := 5) rfl eX8_prize_38 ?_
    refine Gd_bipush kb_10 eX8_prize_40 ?_
    refine Gd_icmp_geN (by first | omega | decide) (by first | omega | decide) eX8_prize_42 (fun c42 => ?_) (fun c42 => ?_)
    · refine Gd_iload_n (i := 2) rfl eX8_prize_136 ?_
      refine Gd_if_ne eX8_prize_137 (fun q => by first | exact absurd q (by decide) | exact absurd (by decide) q) (fun _ => ?_)
      refine Gd_iload_n (i := 3) rfl eX8_prize_140 ?_
      refine Gd_goto eX8_prize_141 ?_
      exact Gd_ireturn eX8_prize_146 rfl (Nat.le_refl _) (Nat.le_refl _) (by rw [show k = 10 by omega] at *; exact kq _ hch)
    · exact absurd c42 (by omega)
  | n + 1, k, l3, m, a, hn, h2, h3, hM, hT, hch, kq => by
    subst h2
    subst h3
    have hhu := FI_hu hI
    have hp6 : p < 6 := by omega
    have hho := FI_ho hI hp6
    obtain ⟨hb1, hb2⟩ := prb_le (ts := ts) (cd := cd) hho k
    have hal := aim_le φ ts cd p k
    refine Gd_iload (i := 5) rfl eX8_prize_38 ?_
    refine Gd_bipush kb_10 eX8_prize_40 ?_
    refine Gd_icmp_geN (by first | omega | decide) (by first | omega | decide) eX8_prize_42 (fun c42 => ?_) (fun c42 => ?_)
    · exact absurd c42 (by omega)
    · have hsh := FI_sh hI (d := k) (by omega)
      rcases (show (prb φ ts cd p k).1 = 0 ∨ ∃ b, (prb φ ts cd p k).1 = b + 1 from by cases h : (prb φ ts cd p k).1 with | zero => exact Or.inl rfl | succ b => exact Or.inr ⟨b, rfl⟩) with h0 | ⟨b, h0⟩
      · rw [h0, show spi 0 = -1 from rfl]
        refine Gd_aload_n (i := 0) rfl eX8_prize_45 ?_
        refine Gd_iload_n (i := 1) rfl eX8_prize_46 ?_
        refine Gd_iload (i := 5) rfl eX8_prize_47 ?_
        refine Gd_callEV (g_cV (m_aimOf hW hM hI hT hTI hlt hpn (d := k) (by omega)) ok_X8_aimOf lk_RX8_232 (W_s50 hW) ⟨_, _, rfl⟩ rfl rfl (Nat.le_of_ble_eq_true rfl) (Nat.le_of_ble_eq_true rfl) (Nat.le_refl _) (Nat.le_refl _) eX8_prize_49) (fun a hq => ?_)
        have hM := MA_sc hM hq
        have hT := TM_sc hT hq
        have hch := chg_tr hch hq
        refine Gd_iconst ki_2 eX8_prize_52 ?_
        refine Gd_icmp_neN (by first | omega | decide) (by first | omega | decide) eX8_prize_53 (fun c53 => ?_) (fun c53 => ?_)
        · refine Gd_iinc5 (ho := rfl) (he := nI_inc _) eX8_prize_130 ?_
          refine Gd_goto eX8_prize_133 ?_
          have hs := prb_d (φ := φ) (ts := ts) (cd := cd) (p := p) c53
          exact m_prize0_L hW hI hTI hlt hpn n (k + 1) _ _ a (by omega) (by rw [hs, h0]; rfl) (by rw [hs]) hM hT hch kq
        · refine Gd_aload_n (i := 0) rfl eX8_prize_56 ?_
          refine Gd_getR fl_RX8_16 (W_s50 hW) (W_r50_3 hW) eX8_prize_57 ?_
          refine Gd_iconst ki_4 eX8_prize_60 ?_
          refine Gd_iload_n (i := 1) rfl eX8_prize_61 ?_
          refine Gd_imulN eX8_prize_62 ?_
          refine Gd_ialdE (v := nI (φ 3 p)) (W_s53 hW) (by first | omega | decide) (MA_ho hM (p := p) (by first | omega | decide) :) eX8_prize_63 ?_
          refine Gd_iconst ki_1 eX8_prize_64 ?_
          refine Gd_iaddN eX8_prize_65 ?_
          refine Gd_aload_n (i := 0) rfl eX8_prize_66 ?_
          refine Gd_getR fl_RX8_19 (W_s50 hW) (W_r50_4 hW) eX8_prize_67 ?_
          refine Gd_iload (i := 5) rfl eX8_prize_70 ?_
          refine Gd_ialdE (v := nI (φ 0 k)) (W_s54 hW) (by first | omega | decide) (MA_sh hM (d := k) (by first | omega | decide) :) eX8_prize_72 ?_
          refine Gd_bipush kb_10 eX8_prize_73 ?_
          refine Gd_idivN (by first | omega | decide) (by decide) eX8_prize_75 ?_
          refine Gd_iaddN eX8_prize_76 ?_
          refine Gd_iconst ki_0 eX8_prize_77 ?_
          refine Gd_bipush kb_99 eX8_prize_78 ?_
          refine Gd_callP (g_cS (m_within _ _ _) ok_X8_within lk_RX8_183 rfl rfl (Nat.le_of_ble_eq_true rfl) (Nat.le_of_ble_eq_true rfl) (Nat.le_refl _) (Nat.le_refl _) eX8_prize_80) ?_
          rw [wth_pos (by omega) (by decide)]
          refine Gd_istore6 rfl eX8_prize_83 ?_
          refine Gd_iload_n (i := 3) rfl eX8_prize_85 ?_
          refine Gd_iconst ki_m1 eX8_prize_86 ?_
          refine Gd_icmp_eq eX8_prize_87 (fun _ => ?_) (fun q => by first | exact absurd q (by decide) | exact absurd (by decide) q)
          refine Gd_iconst ki_1 eX8_prize_97 ?_
          refine Gd_goto eX8_prize_98 ?_
          refine Gd_istore7 rfl eX8_prize_102 ?_
          refine Gd_iload (i := 7) rfl eX8_prize_104 ?_
          refine Gd_if_eq eX8_prize_106 (fun q => by first | exact absurd q (by decide) | exact absurd (by decide) q) (fun _ => ?_)
          refine Gd_iload (i := 5) rfl eX8_prize_109 ?_
          refine Gd_goto eX8_prize_111 ?_
          refine Gd_istore_n3 rfl eX8_prize_115 ?_
          refine Gd_iload (i := 7) rfl eX8_prize_116 ?_
          refine Gd_if_eq eX8_prize_118 (fun q => by first | exact absurd q (by decide) | exact absurd (by decide) q) (fun _ => ?_)
          refine Gd_iload (i := 6) rfl eX8_prize_121 ?_
          refine Gd_goto eX8_prize_123 ?_
          refine Gd_istore4 rfl eX8_prize_128 ?_
          refine Gd_iinc5 (ho := rfl) (he := nI_inc _) eX8_prize_130 ?_
          refine Gd_goto eX8_prize_133 ?_
          have hs := prb_y c53 (Or.inl h0)
          exact m_prize0_L hW hI hTI hlt hpn n (k + 1) _ _ a (by omega) (by rw [hs, spi_s]) (by rw [hs]; rfl) hM hT hch kq
      · rw [h0, spi_s]
        refine Gd_aload_n (i := 0) rfl eX8_prize_45 ?_
        refine Gd_iload_n (i := 1) rfl eX8_prize_46 ?_
        refine Gd_iload (i := 5) rfl eX8_prize_47 ?_
        refine Gd_callEV (g_cV (m_aimOf hW hM hI hT hTI hlt hpn (d := k) (by omega)) ok_X8_aimOf lk_RX8_232 (W_s50 hW) ⟨_, _, rfl⟩ rfl rfl (Nat.le_of_ble_eq_true rfl) (Nat.le_of_ble_eq_true rfl) (Nat.le_refl _) (Nat.le_refl _) eX8_prize_49) (fun a hq => ?_)
        have hM := MA_sc hM hq
        have hT := TM_sc hT hq
        have hch := chg_tr hch hq
        refine Gd_iconst ki_2 eX8_prize_52 ?_
        refine Gd_icmp_neN (by first | omega | decide) (by first | omega | decide) eX8_prize_53 (fun c53 => ?_) (fun c53 => ?_)
        · refine Gd_iinc5 (ho := rfl) (he := nI_inc _) eX8_prize_130 ?_
          refine Gd_goto eX8_prize_133 ?_
          have hs := prb_d (φ := φ) (ts := ts) (cd := cd) (p := p) c53
          exact m_prize0_L hW hI hTI hlt hpn n (k + 1) _ _ a (by omega) (by rw [hs, h0]; exact (spi_s _).symm) (by rw [hs]) hM hT hch kq
        · refine Gd_aload_n (i := 0) rfl eX8_prize_56 ?_
          refine Gd_getR fl_RX8_16 (W_s50 hW) (W_r50_3 hW) eX8_prize_57 ?_
          refine Gd_iconst ki_4 eX8_prize_60 ?_
          refine Gd_iload_n (i := 1) rfl eX8_prize_61 ?_
          refine Gd_imulN eX8_prize_62 ?_
          refine Gd_ialdE (v := nI (φ 3 p)) (W_s53 hW) (by first | omega | decide) (MA_ho hM (p := p) (by first | omega | decide) :) eX8_prize_63 ?_
          refine Gd_iconst ki_1 eX8_prize_64 ?_
          refine Gd_iaddN eX8_prize_65 ?_
          refine Gd_aload_n (i := 0) rfl eX8_prize_66 ?_
          refine Gd_getR fl_RX8_19 (W_s50 hW) (W_r50_4 hW) eX8_prize_67 ?_
          refine Gd_iload (i := 5) rfl eX8_prize_70 ?_
          refine Gd_ialdE (v := nI (φ 0 k)) (W_s54 hW) (by first | omega | decide) (MA_sh hM (d := k) (by first | omega | decide) :) eX8_prize_72 ?_
          refine Gd_bipush kb_10 eX8_prize_73 ?_
          refine Gd_idivN (by first | omega | decide) (by decide) eX8_prize_75 ?_
          refine Gd_iaddN eX8_prize_76 ?_
          refine Gd_iconst ki_0 eX8_prize_77 ?_
          refine Gd_bipush kb_99 eX8_prize_78 ?_
          refine Gd_callP (g_cS (m_within _ _ _) ok_X8_within lk_RX8_183 rfl rfl (Nat.le_of_ble_eq_true rfl) (Nat.le_of_ble_eq_true rfl) (Nat.le_refl _) (Nat.le_refl _) eX8_prize_80) ?_
          rw [wth_pos (by omega) (by decide)]
          refine Gd_istore6 rfl eX8_prize_83 ?_
          refine Gd_iload_n (i := 3) rfl eX8_prize_85 ?_
          refine Gd_iconst ki_m1 eX8_prize_86 ?_
          refine Gd_icmp_eqM0 (by first | omega | decide) eX8_prize_87 ?_
          refine Gd_iload (i := 6) rfl eX8_prize_90 ?_
          refine Gd_iload (i := 4) rfl eX8_prize_92 ?_
          refine Gd_icmp_leN (by first | omega | decide) (by first | omega | decide) eX8_prize_94 (fun c94 => ?_) (fun c94 => ?_)
          · refine Gd_iconst ki_0 eX8_prize_101 ?_
            refine Gd_istore7 rfl eX8_prize_102 ?_
            refine Gd_iload (i := 7) rfl eX8_prize_104 ?_
            refine Gd_if_eq eX8_prize_106 (fun _ => ?_) (fun q => by first | exact absurd q (by decide) | exact absurd (by decide) q)
            refine Gd_iload_n (i := 3) rfl eX8_prize_114 ?_
            refine Gd_istore_n3 rfl eX8_prize_115 ?_
            refine Gd_iload (i := 7) rfl eX8_prize_116 ?_
            refine Gd_if_eq eX8_prize_118 (fun _ => ?_) (fun q => by first | exact absurd q (by decide) | exact absurd (by decide) q)
            refine Gd_iload (i := 4) rfl eX8_prize_126 ?_
            refine Gd_istore4 rfl eX8_prize_128 ?_
            refine Gd_iinc5 (ho := rfl) (he := nI_inc _) eX8_prize_130 ?_
            refine Gd_goto eX8_prize_133 ?_
            have hs := prb_n (φ := φ) (ts := ts) (cd := cd) c53 (fun z => by have h9 : hvd φ p k = min 99 (φ 3 p + 1 + φ 0 k / 10) := rfl; rcases z with z | z <;> omega)
            exact m_prize0_L hW hI hTI hlt hpn n (k + 1) _ _ a (by omega) (by rw [hs, h0]; exact (spi_s _).symm) (by rw [hs]) hM hT hch kq
          · refine Gd_iconst ki_1 eX8_prize_97 ?_
            refine Gd_goto eX8_prize_98 ?_
            refine Gd_istore7 rfl eX8_prize_102 ?_
            refine Gd_iload (i := 7) rfl eX8_prize_104 ?_
            refine Gd_if_eq eX8_prize_106 (fun q => by first | exact absurd q (by decide) | exact absurd (by decide) q) (fun _ => ?_)
            refine Gd_iload (i := 5) rfl eX8_prize_109 ?_
            refine Gd_goto eX8_prize_111 ?_
            refine Gd_istore_n3 rfl eX8_prize_115 ?_
            refine Gd_iload (i := 7) rfl eX8_prize_116 ?_
            refine Gd_if_eq eX8_prize_118 (fun q => by first | exact absurd q (by decide) | exact absurd (by decide) q) (fun _ => ?_)
            refine Gd_iload (i := 6) rfl eX8_prize_121 ?_
            refine Gd_goto eX8_prize_123 ?_
            refine Gd_istore4 rfl eX8_prize_128 ?_
            refine Gd_iinc5 (ho := rfl) (he := nI_inc _) eX8_prize_130 ?_
            refine Gd_goto eX8_prize_133 ?_
            have hs := prb_y c53 (Or.inr (show (prb φ ts cd p k).2 < hvd φ p k from by have h9 : hvd φ p k = min 99 (φ 3 p + 1 + φ 0 k / 10) := rfl; omega))
            exact m_prize0_L hW hI hTI hlt hpn n (k + 1) _ _ a (by omega) (by rw [hs, spi_s]) (by rw [hs]; rfl) hM hT hch kq
theorem m_prize1_L {sh : List (Nat × Nat)} {r : Nat → Nat → Option Nat} {g : Nat → Nat → Int64} {φ ts cd : Nat → Nat → Nat} {nt : Nat} (hW : WD sh r) (hI : FI φ) (hTI : TI nt ts cd) (hlt : φ 7 2 < nt) {p : Nat} (hpn : p < φ 7 3) {x6 x7 : Option g_V} {Q : Option g_V → g_H → Prop} {N0 : Nat} {a0 : Nat → Nat → Int32} : ∀ (n k : Nat) (l3 : Int32) (m : Nat) (a : Nat → Nat → Int32), k + n = 10 → l3 = spi (prb φ ts cd p k).1 → m = (prb φ ts cd p k).2 → MA φ a → TM nt ts cd a → chg scM a0 a → (∀ a', chg scM a0 a' → Q (some (vi (nI (prb φ ts cd p 10).2))) (sh, a', r, g)) → Gd YX8_prize (z0 5 N0 Q) 0 0 38 [some (vr 50), some (vi (nI p)), some (vi (nI 1)), some (vi l3), some (vi (nI m)), some (vi (nI k)), x6, x7] [] (sh, a, r, g)
  | 0, k, l3, m, a, hn, h2, h3, hM, hT, hch, kq => by
    subst h2
    subst h3
    have hhu := FI_hu hI
    have hp6 : p < 6 := by omega
    have hho := FI_ho hI hp6
    obtain ⟨hb1, hb2⟩ := prb_le (ts := ts) (cd := cd) hho k
    have hal := aim_le φ ts cd p k
    refine Gd_iload (i := 5) rfl eX8_prize_38 ?_
    refine Gd_bipush kb_10 eX8_prize_40 ?_
    refine Gd_icmp_geN (by first | omega | decide) (by first | omega | decide) eX8_prize_42 (fun c42 => ?_) (fun c42 => ?_)
    · refine Gd_iload_n (i := 2) rfl eX8_prize_136 ?_
      refine Gd_if_ne eX8_prize_137 (fun _ => ?_) (fun q => by first | exact absurd q (by decide) | exact absurd (by decide) q)
      refine Gd_iload (i := 4) rfl eX8_prize_144 ?_
      exact Gd_ireturn eX8_prize_146 rfl (Nat.le_refl _) (Nat.le_refl _) (by rw [show k = 10 by omega] at *; exact kq _ hch)
    · exact absurd c42 (by omega)
  | n + 1, k, l3, m, a, hn, h2, h3, hM, hT, hch, kq => by
    subst h2
    subst h3
    have hhu := FI_hu hI
    have hp6 : p < 6 := by omega
    have hho := FI_ho hI hp6
    obtain ⟨hb1, hb2⟩ := prb_le (ts := ts) (cd := cd) hho k
    have hal := aim_le φ ts cd p k
    refine Gd_iload (i := 5) rfl eX8_prize_38 ?_
    refine Gd_bipush kb_10 eX8_prize_40 ?_
    refine Gd_icmp_geN (by first | omega | decide) (by first | omega | decide) eX8_prize_42 (fun c42 => ?_) (fun c42 => ?_)
    · exact absurd c42 (by omega)
    · have hsh := FI_sh hI (d := k) (by omega)
      rcases (show (prb φ ts cd p k).1 = 0 ∨ ∃ b, (prb φ ts cd p k).1 = b + 1 from by cases h : (prb φ ts cd p k).1 with | zero => exact Or.inl rfl | succ b => exact Or.inr ⟨b, rfl⟩) with h0 | ⟨b, h0⟩
      · rw [h0, show spi 0 = -1 from rfl]
        refine Gd_aload_n (i := 0) rfl eX8_prize_45 ?_
        refine Gd_iload_n (i := 1) rfl eX8_prize_46 ?_
        refine Gd_iload (i := 5) rfl eX8_prize_47 ?_
        refine Gd_callEV (g_cV (m_aimOf hW hM hI hT hTI hlt hpn (d := k) (by omega)) ok_X8_aimOf lk_RX8_232 (W_s50 hW) ⟨_, _, rfl⟩ rfl rfl (Nat.le_of_ble_eq_true rfl) (Nat.le_of_ble_eq_true rfl) (Nat.le_refl _) (Nat.le_refl _) eX8_prize_49) (fun a hq => ?_)
        have hM := MA_sc hM hq
        have hT := TM_sc hT hq
        have hch := chg_tr hch hq
        refine Gd_iconst ki_2 eX8_prize_52 ?_
        refine Gd_icmp_neN (by first | omega | decide) (by first | omega | decide) eX8_prize_53 (fun c53 => ?_) (fun c53 => ?_)
        · refine Gd_iinc5 (ho := rfl) (he := nI_inc _) eX8_prize_130 ?_
          refine Gd_goto eX8_prize_133 ?_
          have hs := prb_d (φ := φ) (ts := ts) (cd := cd) (p := p) c53
          exact m_prize1_L hW hI hTI hlt hpn n (k + 1) _ _ a (by omega) (by rw [hs, h0]; rfl) (by rw [hs]) hM hT hch kq
        · refine Gd_aload_n (i := 0) rfl eX8_prize_56 ?_
          refine Gd_getR fl_RX8_16 (W_s50 hW) (W_r50_3 hW) eX8_prize_57 ?_
          refine Gd_iconst ki_4 eX8_prize_60 ?_
          refine Gd_iload_n (i := 1) rfl eX8_prize_61 ?_
          refine Gd_imulN eX8_prize_62 ?_
          refine Gd_ialdE (v := nI (φ 3 p)) (W_s53 hW) (by first | omega | decide) (MA_ho hM (p := p) (by first | omega | decide) :) eX8_prize_63 ?_
          refine Gd_iconst ki_1 eX8_prize_64 ?_
          refine Gd_iaddN eX8_prize_65 ?_
          refine Gd_aload_n (i := 0) rfl eX8_prize_66 ?_
          refine Gd_getR fl_RX8_19 (W_s50 hW) (W_r50_4 hW) eX8_prize_67 ?_
          refine Gd_iload (i := 5) rfl eX8_prize_70 ?_
          refine Gd_ialdE (v := nI (φ 0 k)) (W_s54 hW) (by first | omega | decide) (MA_sh hM (d := k) (by first | omega | decide) :) eX8_prize_72 ?_
          refine Gd_bipush kb_10 eX8_prize_73 ?_
          refine Gd_idivN (by first | omega | decide) (by decide) eX8_prize_75 ?_
          refine Gd_iaddN eX8_prize_76 ?_
          refine Gd_iconst ki_0 eX8_prize_77 ?_
          refine Gd_bipush kb_99 eX8_prize_78 ?_
          refine Gd_callP (g_cS (m_within _ _ _) ok_X8_within lk_RX8_183 rfl rfl (Nat.le_of_ble_eq_true rfl) (Nat.le_of_ble_eq_true rfl) (Nat.le_refl _) (Nat.le_refl _) eX8_prize_80) ?_
          rw [wth_pos (by omega) (by decide)]
          refine Gd_istore6 rfl eX8_prize_83 ?_
          refine Gd_iload_n (i := 3) rfl eX8_prize_85 ?_
          refine Gd_iconst ki_m1 eX8_prize_86 ?_
          refine Gd_icmp_eq eX8_prize_87 (fun _ => ?_) (fun q => by first | exact absurd q (by decide) | exact absurd (by decide) q)
          refine Gd_iconst ki_1 eX8_prize_97 ?_
          refine Gd_goto eX8_prize_98 ?_
          refine Gd_istore7 rfl eX8_prize_102 ?_
          refine Gd_iload (i := 7) rfl eX8_prize_104 ?_
          refine Gd_if_eq eX8_prize_106 (fun q => by first | exact absurd q (by decide) | exact absurd (by decide) q) (fun _ => ?_)
          refine Gd_iload (i := 5) rfl eX8_prize_109 ?_
          refine Gd_goto eX8_prize_111 ?_
          refine Gd_istore_n3 rfl eX8_prize_115 ?_
          refine Gd_iload (i := 7) rfl eX8_prize_116 ?_
          refine Gd_if_eq eX8_prize_118 (fun q => by first | exact absurd q (by decide) | exact absurd (by decide) q) (fun _ => ?_)
          refine Gd_iload (i := 6) rfl eX8_prize_121 ?_
          refine Gd_goto eX8_prize_123 ?_
          refine Gd_istore4 rfl eX8_prize_128 ?_
          refine Gd_iinc5 (ho := rfl) (he := nI_inc _) eX8_prize_130 ?_
          refine Gd_goto eX8_prize_133 ?_
          have hs := prb_y c53 (Or.inl h0)
          exact m_prize1_L hW hI hTI hlt hpn n (k + 1) _ _ a (by omega) (by rw [hs, spi_s]) (by rw [hs]; rfl) hM hT hch kq
      · rw [h0, spi_s]
        refine Gd_aload_n (i := 0) rfl eX8_prize_45 ?_
        refine Gd_iload_n (i := 1) rfl eX8_prize_46 ?_
        refine Gd_iload (i := 5) rfl eX8_prize_47 ?_
        refine Gd_callEV (g_cV (m_aimOf hW hM hI hT hTI hlt hpn (d := k) (by omega)) ok_X8_aimOf lk_RX8_232 (W_s50 hW) ⟨_, _, rfl⟩ rfl rfl (Nat.le_of_ble_eq_true rfl) (Nat.le_of_ble_eq_true rfl) (Nat.le_refl _) (Nat.le_refl _) eX8_prize_49) (fun a hq => ?_)
        have hM := MA_sc hM hq
        have hT := TM_sc hT hq
        have hch := chg_tr hch hq
        refine Gd_iconst ki_2 eX8_prize_52 ?_
        refine Gd_icmp_neN (by first | omega | decide) (by first | omega | decide) eX8_prize_53 (fun c53 => ?_) (fun c53 => ?_)
        · refine Gd_iinc5 (ho := rfl) (he := nI_inc _) eX8_prize_130 ?_
          refine Gd_goto eX8_prize_133 ?_
          have hs := prb_d (φ := φ) (ts := ts) (cd := cd) (p := p) c53
          exact m_prize1_L hW hI hTI hlt hpn n (k + 1) _ _ a (by omega) (by rw [hs, h0]; exact (spi_s _).symm) (by rw [hs]) hM hT hch kq
        · refine Gd_aload_n (i := 0) rfl eX8_prize_56 ?_
          refine Gd_getR fl_RX8_16 (W_s50 hW) (W_r50_3 hW) eX8_prize_57 ?_
          refine Gd_iconst ki_4 eX8_prize_60 ?_
          refine Gd_iload_n (i := 1) rfl eX8_prize_61 ?_
          refine Gd_imulN eX8_prize_62 ?_
          refine Gd_ialdE (v := nI (φ 3 p)) (W_s53 hW) (by first | omega | decide) (MA_ho hM (p := p) (by first | omega | decide) :) eX8_prize_63 ?_
          refine Gd_iconst ki_1 eX8_prize_64 ?_
          refine Gd_iaddN eX8_prize_65 ?_
          refine Gd_aload_n (i := 0) rfl eX8_prize_66 ?_
          refine Gd_getR fl_RX8_19 (W_s50 hW) (W_r50_4 hW) eX8_prize_67 ?_
          refine Gd_iload (i := 5) rfl eX8_prize_70 ?_
          refine Gd_ialdE (v := nI (φ 0 k)) (W_s54 hW) (by first | omega | decide) (MA_sh hM (d := k) (by first | omega | decide) :) eX8_prize_72 ?_
          refine Gd_bipush kb_10 eX8_prize_73 ?_
          refine Gd_idivN (by first | omega | decide) (by decide) eX8_prize_75 ?_
          refine Gd_iaddN eX8_prize_76 ?_
          refine Gd_iconst ki_0 eX8_prize_77 ?_
          refine Gd_bipush kb_99 eX8_prize_78 ?_
          refine Gd_callP (g_cS (m_within _ _ _) ok_X8_within lk_RX8_183 rfl rfl (Nat.le_of_ble_eq_true rfl) (Nat.le_of_ble_eq_true rfl) (Nat.le_refl _) (Nat.le_refl _) eX8_prize_80) ?_
          rw [wth_pos (by omega) (by decide)]
          refine Gd_istore6 rfl eX8_prize_83 ?_
          refine Gd_iload_n (i := 3) rfl eX8_prize_85 ?_
          refine Gd_iconst ki_m1 eX8_prize_86 ?_
          refine Gd_icmp_eqM0 (by first | omega | decide) eX8_prize_87 ?_
          refine Gd_iload (i := 6) rfl eX8_prize_90 ?_
          refine Gd_iload (i := 4) rfl eX8_prize_92 ?_
          refine Gd_icmp_leN (by first | omega | decide) (by first | omega | decide) eX8_prize_94 (fun c94 => ?_) (fun c94 => ?_)
          · refine Gd_iconst ki_0 eX8_prize_101 ?_
            refine Gd_istore7 rfl eX8_prize_102 ?_
            refine Gd_iload (i := 7) rfl eX8_prize_104 ?_
            refine Gd_if_eq eX8_prize_106 (fun _ => ?_) (fun q => by first | exact absurd q (by decide) | exact absurd (by decide) q)
            refine Gd_iload_n (i := 3) rfl eX8_prize_114 ?_
            refine Gd_istore_n3 rfl eX8_prize_115 ?_
            refine Gd_iload (i := 7) rfl eX8_prize_116 ?_
            refine Gd_if_eq eX8_prize_118 (fun _ => ?_) (fun q => by first | exact absurd q (by decide) | exact absurd (by decide) q)
            refine Gd_iload (i := 4) rfl eX8_prize_126 ?_
            refine Gd_istore4 rfl eX8_prize_128 ?_
            refine Gd_iinc5 (ho := rfl) (he := nI_inc _) eX8_prize_130 ?_
            refine Gd_goto eX8_prize_133 ?_
            have hs := prb_n (φ := φ) (ts := ts) (cd := cd) c53 (fun z => by have h9 : hvd φ p k = min 99 (φ 3 p + 1 + φ 0 k / 10) := rfl; rcases z with z | z <;> omega)
            exact m_prize1_L hW hI hTI hlt hpn n (k + 1) _ _ a (by omega) (by rw [hs, h0]; exact (spi_s _).symm) (by rw [hs]) hM hT hch kq
          · refine Gd_iconst ki_1 eX8_prize_97 ?_
            refine Gd_goto eX8_prize_98 ?_
            refine Gd_istore7 rfl eX8_prize_102 ?_
            refine Gd_iload (i := 7) rfl eX8_prize_104 ?_
            refine Gd_if_eq eX8_prize_106 (fun q => by first | exact absurd q (by decide) | exact absurd (by decide) q) (fun _ => ?_)
            refine Gd_iload (i := 5) rfl eX8_prize_109 ?_
            refine Gd_goto eX8_prize_111 ?_
            refine Gd_istore_n3 rfl eX8_prize_115 ?_
            refine Gd_iload (i := 7) rfl eX8_prize_116 ?_
            refine Gd_if_eq eX8_prize_118 (fun q => by first | exact absurd q (by decide) | exact absurd (by decide) q) (fun _ => ?_)
            refine Gd_iload (i := 6) rfl eX8_prize_121 ?_
            refine Gd_goto eX8_prize_123 ?_
            refine Gd_istore4 rfl eX8_prize_128 ?_
            refine Gd_iinc5 (ho := rfl) (he := nI_inc _) eX8_prize_130 ?_
            refine Gd_goto eX8_prize_133 ?_
            have hs := prb_y c53 (Or.inr (show (prb φ ts cd p k).2 < hvd φ p k from by have h9 : hvd φ p k = min 99 (φ 3 p + 1 + φ 0 k / 10) := rfl; omega))
            exact m_prize1_L hW hI hTI hlt hpn n (k + 1) _ _ a (by omega) (by rw [hs, spi_s]) (by rw [hs]; rfl) hM hT hch kq
theorem m_prize {sh : List (Nat × Nat)} {a : Nat → Nat → Int32} {r : Nat → Nat → Option Nat} {g : Nat → Nat → Int64} {φ ts cd : Nat → Nat → Nat} {nt : Nat} (hW : WD sh r) (hM : MA φ a) (hI : FI φ) (hT : TM nt ts cd a) (hTI : TI nt ts cd) (hlt : φ 7 2 < nt) (vp vw : Int32) : Mt YX8_prize 5 0 0 [vr 50, vi vp, vi vw] (sh, a, r, g) (g_EV sh r g (vi (oPrize φ ts cd vp vw)) (fun a' => chg scM a a')) := by
  refine Mt_of rfl (Nat.le_of_ble_eq_true rfl) rfl ?_
  have hhu := FI_hu hI
  refine Gd_aload_n (i := 0) rfl eX8_prize_0 ?_
  refine Gd_iload_n (i := 1) rfl eX8_prize_1 ?_
  refine Gd_callP (g_cV (m_isOne hW hM hI _) ok_X8_isOne lk_RX8_88 (W_s50 hW) ⟨_, _, rfl⟩ rfl rfl (Nat.le_of_ble_eq_true rfl) (Nat.le_of_ble_eq_true rfl) (Nat.le_refl _) (Nat.le_refl _) eX8_prize_2) ?_
  refine Gd_if_neB eX8_prize_5 (fun c5 => ?_) (fun c5 => ?_)
  · obtain ⟨p, hpn, rfl⟩ := inr_t c5 (by omega)
    refine Gd_iload_n (i := 2) rfl eX8_prize_11 ?_
    refine Gd_iconst ki_0 eX8_prize_12 ?_
    refine Gd_iconst ki_1 eX8_prize_13 ?_
    refine Gd_callP (g_cS (m_in _ _ _) ok_X8_in lk_RX8_84 rfl rfl (Nat.le_of_ble_eq_true rfl) (Nat.le_of_ble_eq_true rfl) (Nat.le_refl _) (Nat.le_refl _) eX8_prize_14) ?_
    refine Gd_if_neB eX8_prize_17 (fun c17 => ?_) (fun c17 => ?_)
    · obtain ⟨k, _, hk, rfl⟩ := inb_r (by decide) (by decide) c17
      rcases (by omega : k = 0 ∨ k = 1) with rfl | rfl
      · refine Gd_iconst ki_m1 eX8_prize_23 ?_
        refine Gd_istore_n3 rfl eX8_prize_24 ?_
        refine Gd_aload_n (i := 0) rfl eX8_prize_25 ?_
        refine Gd_getR fl_RX8_16 (W_s50 hW) (W_r50_3 hW) eX8_prize_26 ?_
        refine Gd_iconst ki_4 eX8_prize_29 ?_
        refine Gd_iload_n (i := 1) rfl eX8_prize_30 ?_
        refine Gd_imulN eX8_prize_31 ?_
        refine Gd_ialdE (v := nI (φ 3 p)) (W_s53 hW) (by first | omega | decide) (MA_ho hM (p := p) (by first | omega | decide) :) eX8_prize_32 ?_
        refine Gd_istore4 rfl eX8_prize_33 ?_
        refine Gd_iconst ki_0 eX8_prize_35 ?_
        refine Gd_istore5 rfl eX8_prize_36 ?_
        exact m_prize0_L hW hI hTI hlt hpn 10 0 (-1) (φ 3 p) a (by omega) rfl rfl hM hT chg_rf (fun a' k1 => ⟨a', by rw [oPrize_0 hpn hhu], rfl, k1⟩)
      · refine Gd_iconst ki_m1 eX8_prize_23 ?_
        refine Gd_istore_n3 rfl eX8_prize_24 ?_
        refine Gd_aload_n (i := 0) rfl eX8_prize_25 ?_
        refine Gd_getR fl_RX8_16 (W_s50 hW) (W_r50_3 hW) eX8_prize_26 ?_
        refine Gd_iconst ki_4 eX8_prize_29 ?_
        refine Gd_iload_n (i := 1) rfl eX8_prize_30 ?_
        refine Gd_imulN eX8_prize_31 ?_
        refine Gd_ialdE (v := nI (φ 3 p)) (W_s53 hW) (by first | omega | decide) (MA_ho hM (p := p) (by first | omega | decide) :) eX8_prize_32 ?_
        refine Gd_istore4 rfl eX8_prize_33 ?_
        refine Gd_iconst ki_0 eX8_prize_35 ?_
        refine Gd_istore5 rfl eX8_prize_36 ?_
        exact m_prize1_L hW hI hTI hlt hpn 10 0 (-1) (φ 3 p) a (by omega) rfl rfl hM hT chg_rf (fun a' k1 => ⟨a', by rw [oPrize_1 hpn hhu], rfl, k1⟩)
    · refine Gd_bipush kb_m7 eX8_prize_20 ?_
      exact Gd_ireturn eX8_prize_22 rfl (Nat.le_refl _) (Nat.le_refl _) ⟨a, by rw [oPrize_w hpn hhu c17], rfl, chg_rf⟩
  · refine Gd_bipush kb_m5 eX8_prize_8 ?_
    exact Gd_ireturn eX8_prize_10 rfl (Nat.le_refl _) (Nat.le_refl _) ⟨a, by rw [oPrize_p c5], rfl, chg_rf⟩
theorem x_prize0_L {sh : List (Nat × Nat)} {r : Nat → Nat → Option Nat} {g : Nat → Nat → Int64} {φ ts cd : Nat → Nat → Nat} {nt : Nat} (hW : WD sh r) (hI : FI φ) (hTI : TI nt ts cd) (hlt : φ 7 2 < nt) {p : Nat} (hpn : p < φ 7 3) {x6 : Option g_V} {Q : Option g_V → g_H → Prop} {N0 : Nat} {a0 : Nat → Nat → Int32} : ∀ (n k : Nat) (l3 : Int32) (m : Nat) (a : Nat → Nat → Int32), k + n = 10 → l3 = spi (prb φ ts cd p k).1 → m = (prb φ ts cd p k).2 → FA 1 φ a → TX nt ts cd sh a r → chg scR a0 a → (∀ a', chg scR a0 a' → Q (some (vi (spi (prb φ ts cd p 10).1))) (sh, a', r, g)) → Gd YX7_prize (z0 5 N0 Q) 0 0 39 [some (vr 0), some (vi (nI p)), some (vi (nI 0)), some (vi l3), some (vi (nI m)), some (vi (nI k)), x6] [] (sh, a, r, g)
  | 0, k, l3, m, a, hn, h2, h3, hA, hT, hch, kq => by
    subst h2
    subst h3
    have hhu := FI_hu hI
    have hp6 : p < 6 := by omega
    have hho := FI_ho hI hp6
    obtain ⟨hb1, hb2⟩ := prb_le (ts := ts) (cd := cd) hho k
    have hal := aim_le φ ts cd p k
    refine Gd_iload (i := 5) rfl eX7_prize_39 ?_
    refine Gd_bipush kb_10 eX7_prize_41 ?_
    refine Gd_icmp_geN (by first | omega | decide) (by first | omega | decide) eX7_prize_43 (fun c43 => ?_) (fun c43 => ?_)
    · refine Gd_iload_n (i := 2) rfl eX7_prize_101 ?_
      refine Gd_if_ne eX7_prize_102 (fun q => by first | exact absurd q (by decide) | exact absurd (by decide) q) (fun _ => ?_)
      refine Gd_iload_n (i := 3) rfl eX7_prize_105 ?_
      refine Gd_goto eX7_prize_106 ?_
      exact Gd_ireturn eX7_prize_111 rfl (Nat.le_refl _) (Nat.le_refl _) (by rw [show k = 10 by omega] at *; exact kq _ hch)
    · exact absurd c43 (by omega)
  | n + 1, k, l3, m, a, hn, h2, h3, hA, hT, hch, kq => by
    subst h2
    subst h3
    have hhu := FI_hu hI
    have hp6 : p < 6 := by omega
    have hho := FI_ho hI hp6
    obtain ⟨hb1, hb2⟩ := prb_le (ts := ts) (cd := cd) hho k
    have hal := aim_le φ ts cd p k
    refine Gd_iload (i := 5) rfl eX7_prize_39 ?_
    refine Gd_bipush kb_10 eX7_prize_41 ?_
    refine Gd_icmp_geN (by first | omega | decide) (by first | omega | decide) eX7_prize_43 (fun c43 => ?_) (fun c43 => ?_)
    · exact absurd c43 (by omega)
    · have hsh := FI_sh hI (d := k) (by omega)
      rcases (show (prb φ ts cd p k).1 = 0 ∨ ∃ b, (prb φ ts cd p k).1 = b + 1 from by cases h : (prb φ ts cd p k).1 with | zero => exact Or.inl rfl | succ b => exact Or.inr ⟨b, rfl⟩) with h0 | ⟨b, h0⟩
      · rw [h0, show spi 0 = -1 from rfl]
        refine Gd_aload_n (i := 0) rfl eX7_prize_46 ?_
        refine Gd_getR fl_RX7_10 (W_s0 hW) (W_r0_0 hW) eX7_prize_47 ?_
        refine Gd_iload_n (i := 1) rfl eX7_prize_50 ?_
        refine Gd_iload (i := 5) rfl eX7_prize_51 ?_
        refine Gd_callP (g_cV (x_honourByHit (W_F1 hW) hA hI hp6 (d := k) (by omega)) ok_X0_honourByHit lk_RX7_244 (W_s1 hW) ⟨_, _, rfl⟩ rfl rfl (Nat.le_of_ble_eq_true rfl) (Nat.le_of_ble_eq_true rfl) (Nat.le_refl _) (Nat.le_refl _) eX7_prize_53) ?_
        refine Gd_istore6 rfl eX7_prize_56 ?_
        refine Gd_aload_n (i := 0) rfl eX7_prize_58 ?_
        refine Gd_getR fl_RX7_36 (W_s0 hW) (W_r0_5 hW) eX7_prize_59 ?_
        refine Gd_aload_n (i := 0) rfl eX7_prize_62 ?_
        refine Gd_getR fl_RX7_10 (W_s0 hW) (W_r0_0 hW) eX7_prize_63 ?_
        refine Gd_iload_n (i := 1) rfl eX7_prize_66 ?_
        refine Gd_iload (i := 5) rfl eX7_prize_67 ?_
        refine Gd_callEV (g_cV (x_shotNow hW (W_F1 hW) (by decide) hA hI hT hTI hlt hpn (d := k) (by omega)) ok_X3_shotNow lk_RX7_226 (W_s31 hW) ⟨_, _, rfl⟩ rfl rfl (Nat.le_of_ble_eq_true rfl) (Nat.le_of_ble_eq_true rfl) (Nat.le_refl _) (Nat.le_refl _) eX7_prize_69) (fun a hq => ?_)
        have hA := FA_R hA (by decide) hq
        have hT := TX_R hT hq
        have hch := chg_tr hch hq
        refine Gd_iconst ki_2 eX7_prize_72 ?_
        refine Gd_icmp_neN (by first | omega | decide) (by first | omega | decide) eX7_prize_73 (fun c73 => ?_) (fun c73 => ?_)
        · refine Gd_iinc5 (ho := rfl) (he := nI_inc _) eX7_prize_95 ?_
          refine Gd_goto eX7_prize_98 ?_
          have hs := prb_d (φ := φ) (ts := ts) (cd := cd) (p := p) c73
          exact x_prize0_L hW hI hTI hlt hpn n (k + 1) _ _ a (by omega) (by rw [hs, h0]; rfl) (by rw [hs]) hA hT hch kq
        · refine Gd_iload_n (i := 3) rfl eX7_prize_76 ?_
          refine Gd_iconst ki_m1 eX7_prize_77 ?_
          refine Gd_icmp_eq eX7_prize_78 (fun _ => ?_) (fun q => by first | exact absurd q (by decide) | exact absurd (by decide) q)
          refine Gd_iload (i := 5) rfl eX7_prize_88 ?_
          refine Gd_istore_n3 rfl eX7_prize_90 ?_
          refine Gd_iload (i := 6) rfl eX7_prize_91 ?_
          refine Gd_istore4 rfl eX7_prize_93 ?_
          refine Gd_iinc5 (ho := rfl) (he := nI_inc _) eX7_prize_95 ?_
          refine Gd_goto eX7_prize_98 ?_
          have hs := prb_y c73 (Or.inl h0)
          exact x_prize0_L hW hI hTI hlt hpn n (k + 1) _ _ a (by omega) (by rw [hs, spi_s]) (by rw [hs]; rfl) hA hT hch kq
      · rw [h0, spi_s]
        refine Gd_aload_n (i := 0) rfl eX7_prize_46 ?_
        refine Gd_getR fl_RX7_10 (W_s0 hW) (W_r0_0 hW) eX7_prize_47 ?_
        refine Gd_iload_n (i := 1) rfl eX7_prize_50 ?_
        refine Gd_iload (i := 5) rfl eX7_prize_51 ?_
        refine Gd_callP (g_cV (x_honourByHit (W_F1 hW) hA hI hp6 (d := k) (by omega)) ok_X0_honourByHit lk_RX7_244 (W_s1 hW) ⟨_, _, rfl⟩ rfl rfl (Nat.le_of_ble_eq_true rfl) (Nat.le_of_ble_eq_true rfl) (Nat.le_refl _) (Nat.le_refl _) eX7_prize_53) ?_
        refine Gd_istore6 rfl eX7_prize_56 ?_
        refine Gd_aload_n (i := 0) rfl eX7_prize_58 ?_
        refine Gd_getR fl_RX7_36 (W_s0 hW) (W_r0_5 hW) eX7_prize_59 ?_
        refine Gd_aload_n (i := 0) rfl eX7_prize_62 ?_
        refine Gd_getR fl_RX7_10 (W_s0 hW) (W_r0_0 hW) eX7_prize_63 ?_
        refine Gd_iload_n (i := 1) rfl eX7_prize_66 ?_
        refine Gd_iload (i := 5) rfl eX7_prize_67 ?_
        refine Gd_callEV (g_cV (x_shotNow hW (W_F1 hW) (by decide) hA hI hT hTI hlt hpn (d := k) (by omega)) ok_X3_shotNow lk_RX7_226 (W_s31 hW) ⟨_, _, rfl⟩ rfl rfl (Nat.le_of_ble_eq_true rfl) (Nat.le_of_ble_eq_true rfl) (Nat.le_refl _) (Nat.le_refl _) eX7_prize_69) (fun a hq => ?_)
        have hA := FA_R hA (by decide) hq
        have hT := TX_R hT hq
        have hch := chg_tr hch hq
        refine Gd_iconst ki_2 eX7_prize_72 ?_
        refine Gd_icmp_neN (by first | omega | decide) (by first | omega | decide) eX7_prize_73 (fun c73 => ?_) (fun c73 => ?_)
        · refine Gd_iinc5 (ho := rfl) (he := nI_inc _) eX7_prize_95 ?_
          refine Gd_goto eX7_prize_98 ?_
          have hs := prb_d (φ := φ) (ts := ts) (cd := cd) (p := p) c73
          exact x_prize0_L hW hI hTI hlt hpn n (k + 1) _ _ a (by omega) (by rw [hs, h0]; exact (spi_s _).symm) (by rw [hs]) hA hT hch kq
        · refine Gd_iload_n (i := 3) rfl eX7_prize_76 ?_
          refine Gd_iconst ki_m1 eX7_prize_77 ?_
          refine Gd_icmp_eqM0 (by first | omega | decide) eX7_prize_78 ?_
          refine Gd_iload (i := 6) rfl eX7_prize_81 ?_
          refine Gd_iload (i := 4) rfl eX7_prize_83 ?_
          refine Gd_icmp_leN (by first | omega | decide) (by first | omega | decide) eX7_prize_85 (fun c85 => ?_) (fun c85 => ?_)
          · refine Gd_iinc5 (ho := rfl) (he := nI_inc _) eX7_prize_95 ?_
            refine Gd_goto eX7_prize_98 ?_
            have hs := prb_n (φ := φ) (ts := ts) (cd := cd) c73 (fun z => by have h9 : hvd φ p k = min 99 (φ 3 p + 1 + φ 0 k / 10) := rfl; rcases z with z | z <;> omega)
            exact x_prize0_L hW hI hTI hlt hpn n (k + 1) _ _ a (by omega) (by rw [hs, h0]; exact (spi_s _).symm) (by rw [hs]) hA hT hch kq
          · refine Gd_iload (i := 5) rfl eX7_prize_88 ?_
            refine Gd_istore_n3 rfl eX7_prize_90 ?_
            refine Gd_iload (i := 6) rfl eX7_prize_91 ?_
            refine Gd_istore4 rfl eX7_prize_93 ?_
            refine Gd_iinc5 (ho := rfl) (he := nI_inc _) eX7_prize_95 ?_
            refine Gd_goto eX7_prize_98 ?_
            have hs := prb_y c73 (Or.inr (show (prb φ ts cd p k).2 < hvd φ p k from by have h9 : hvd φ p k = min 99 (φ 3 p + 1 + φ 0 k / 10) := rfl; omega))
            exact x_prize0_L hW hI hTI hlt hpn n (k + 1) _ _ a (by omega) (by rw [hs, spi_s]) (by rw [hs]; rfl) hA hT hch kq
theorem x_prize1_L {sh : List (Nat × Nat)} {r : Nat → Nat → Option Nat} {g : Nat → Nat → Int64} {φ ts cd : Nat → Nat → Nat} {nt : Nat} (hW : WD sh r) (hI : FI φ) (hTI : TI nt ts cd) (hlt : φ 7 2 < nt) {p : Nat} (hpn : p < φ 7 3) {x6 : Option g_V} {Q : Option g_V → g_H → Prop} {N0 : Nat} {a0 : Nat → Nat → Int32} : ∀ (n k : Nat) (l3 : Int32) (m : Nat) (a : Nat → Nat → Int32), k + n = 10 → l3 = spi (prb φ ts cd p k).1 → m = (prb φ ts cd p k).2 → FA 1 φ a → TX nt ts cd sh a r → chg scR a0 a → (∀ a', chg scR a0 a' → Q (some (vi (nI (prb φ ts cd p 10).2))) (sh, a', r, g)) → Gd YX7_prize (z0 5 N0 Q) 0 0 39 [some (vr 0), some (vi (nI p)), some (vi (nI 1)), some (vi l3), some (vi (nI m)), some (vi (nI k)), x6] [] (sh, a, r, g)
  | 0, k, l3, m, a, hn, h2, h3, hA, hT, hch, kq => by
    subst h2
    subst h3
    have hhu := FI_hu hI
    have hp6 : p < 6 := by omega
    have hho := FI_ho hI hp6
    obtain ⟨hb1, hb2⟩ := prb_le (ts := ts) (cd := cd) hho k
    have hal := aim_le φ ts cd p k
    refine Gd_iload (i := 5) rfl eX7_prize_39 ?_
    refine Gd_bipush kb_10 eX7_prize_41 ?_
    refine Gd_icmp_geN (by first | omega | decide) (by first | omega | decide) eX7_prize_43 (fun c43 => ?_) (fun c43 => ?_)
    · refine Gd_iload_n (i := 2) rfl eX7_prize_101 ?_
      refine Gd_if_ne eX7_prize_102 (fun _ => ?_) (fun q => by first | exact absurd q (by decide) | exact absurd (by decide) q)
      refine Gd_iload (i := 4) rfl eX7_prize_109 ?_
      exact Gd_ireturn eX7_prize_111 rfl (Nat.le_refl _) (Nat.le_refl _) (by rw [show k = 10 by omega] at *; exact kq _ hch)
    · exact absurd c43 (by omega)
  | n + 1, k, l3, m, a, hn, h2, h3, hA, hT, hch, kq => by
    subst h2
    subst h3
    have hhu := FI_hu hI
    have hp6 : p < 6 := by omega
    have hho := FI_ho hI hp6
    obtain ⟨hb1, hb2⟩ := prb_le (ts := ts) (cd := cd) hho k
    have hal := aim_le φ ts cd p k
    refine Gd_iload (i := 5) rfl eX7_prize_39 ?_
    refine Gd_bipush kb_10 eX7_prize_41 ?_
    refine Gd_icmp_geN (by first | omega | decide) (by first | omega | decide) eX7_prize_43 (fun c43 => ?_) (fun c43 => ?_)
    · exact absurd c43 (by omega)
    · have hsh := FI_sh hI (d := k) (by omega)
      rcases (show (prb φ ts cd p k).1 = 0 ∨ ∃ b, (prb φ ts cd p k).1 = b + 1 from by cases h : (prb φ ts cd p k).1 with | zero => exact Or.inl rfl | succ b => exact Or.inr ⟨b, rfl⟩) with h0 | ⟨b, h0⟩
      · rw [h0, show spi 0 = -1 from rfl]
        refine Gd_aload_n (i := 0) rfl eX7_prize_46 ?_
        refine Gd_getR fl_RX7_10 (W_s0 hW) (W_r0_0 hW) eX7_prize_47 ?_
        refine Gd_iload_n (i := 1) rfl eX7_prize_50 ?_
        refine Gd_iload (i := 5) rfl eX7_prize_51 ?_
        refine Gd_callP (g_cV (x_honourByHit (W_F1 hW) hA hI hp6 (d := k) (by omega)) ok_X0_honourByHit lk_RX7_244 (W_s1 hW) ⟨_, _, rfl⟩ rfl rfl (Nat.le_of_ble_eq_true rfl) (Nat.le_of_ble_eq_true rfl) (Nat.le_refl _) (Nat.le_refl _) eX7_prize_53) ?_
        refine Gd_istore6 rfl eX7_prize_56 ?_
        refine Gd_aload_n (i := 0) rfl eX7_prize_58 ?_
        refine Gd_getR fl_RX7_36 (W_s0 hW) (W_r0_5 hW) eX7_prize_59 ?_
        refine Gd_aload_n (i := 0) rfl eX7_prize_62 ?_
        refine Gd_getR fl_RX7_10 (W_s0 hW) (W_r0_0 hW) eX7_prize_63 ?_
        refine Gd_iload_n (i := 1) rfl eX7_prize_66 ?_
        refine Gd_iload (i := 5) rfl eX7_prize_67 ?_
        refine Gd_callEV (g_cV (x_shotNow hW (W_F1 hW) (by decide) hA hI hT hTI hlt hpn (d := k) (by omega)) ok_X3_shotNow lk_RX7_226 (W_s31 hW) ⟨_, _, rfl⟩ rfl rfl (Nat.le_of_ble_eq_true rfl) (Nat.le_of_ble_eq_true rfl) (Nat.le_refl _) (Nat.le_refl _) eX7_prize_69) (fun a hq => ?_)
        have hA := FA_R hA (by decide) hq
        have hT := TX_R hT hq
        have hch := chg_tr hch hq
        refine Gd_iconst ki_2 eX7_prize_72 ?_
        refine Gd_icmp_neN (by first | omega | decide) (by first | omega | decide) eX7_prize_73 (fun c73 => ?_) (fun c73 => ?_)
        · refine Gd_iinc5 (ho := rfl) (he := nI_inc _) eX7_prize_95 ?_
          refine Gd_goto eX7_prize_98 ?_
          have hs := prb_d (φ := φ) (ts := ts) (cd := cd) (p := p) c73
          exact x_prize1_L hW hI hTI hlt hpn n (k + 1) _ _ a (by omega) (by rw [hs, h0]; rfl) (by rw [hs]) hA hT hch kq
        · refine Gd_iload_n (i := 3) rfl eX7_prize_76 ?_
          refine Gd_iconst ki_m1 eX7_prize_77 ?_
          refine Gd_icmp_eq eX7_prize_78 (fun _ => ?_) (fun q => by first | exact absurd q (by decide) | exact absurd (by decide) q)
          refine Gd_iload (i := 5) rfl eX7_prize_88 ?_
          refine Gd_istore_n3 rfl eX7_prize_90 ?_
          refine Gd_iload (i := 6) rfl eX7_prize_91 ?_
          refine Gd_istore4 rfl eX7_prize_93 ?_
          refine Gd_iinc5 (ho := rfl) (he := nI_inc _) eX7_prize_95 ?_
          refine Gd_goto eX7_prize_98 ?_
          have hs := prb_y c73 (Or.inl h0)
          exact x_prize1_L hW hI hTI hlt hpn n (k + 1) _ _ a (by omega) (by rw [hs, spi_s]) (by rw [hs]; rfl) hA hT hch kq
      · rw [h0, spi_s]
        refine Gd_aload_n (i := 0) rfl eX7_prize_46 ?_
        refine Gd_getR fl_RX7_10 (W_s0 hW) (W_r0_0 hW) eX7_prize_47 ?_
        refine Gd_iload_n (i := 1) rfl eX7_prize_50 ?_
        refine Gd_iload (i := 5) rfl eX7_prize_51 ?_
        refine Gd_callP (g_cV (x_honourByHit (W_F1 hW) hA hI hp6 (d := k) (by omega)) ok_X0_honourByHit lk_RX7_244 (W_s1 hW) ⟨_, _, rfl⟩ rfl rfl (Nat.le_of_ble_eq_true rfl) (Nat.le_of_ble_eq_true rfl) (Nat.le_refl _) (Nat.le_refl _) eX7_prize_53) ?_
        refine Gd_istore6 rfl eX7_prize_56 ?_
        refine Gd_aload_n (i := 0) rfl eX7_prize_58 ?_
        refine Gd_getR fl_RX7_36 (W_s0 hW) (W_r0_5 hW) eX7_prize_59 ?_
        refine Gd_aload_n (i := 0) rfl eX7_prize_62 ?_
        refine Gd_getR fl_RX7_10 (W_s0 hW) (W_r0_0 hW) eX7_prize_63 ?_
        refine Gd_iload_n (i := 1) rfl eX7_prize_66 ?_
        refine Gd_iload (i := 5) rfl eX7_prize_67 ?_
        refine Gd_callEV (g_cV (x_shotNow hW (W_F1 hW) (by decide) hA hI hT hTI hlt hpn (d := k) (by omega)) ok_X3_shotNow lk_RX7_226 (W_s31 hW) ⟨_, _, rfl⟩ rfl rfl (Nat.le_of_ble_eq_true rfl) (Nat.le_of_ble_eq_true rfl) (Nat.le_refl _) (Nat.le_refl _) eX7_prize_69) (fun a hq => ?_)
        have hA := FA_R hA (by decide) hq
        have hT := TX_R hT hq
        have hch := chg_tr hch hq
        refine Gd_iconst ki_2 eX7_prize_72 ?_
        refine Gd_icmp_neN (by first | omega | decide) (by first | omega | decide) eX7_prize_73 (fun c73 => ?_) (fun c73 => ?_)
        · refine Gd_iinc5 (ho := rfl) (he := nI_inc _) eX7_prize_95 ?_
          refine Gd_goto eX7_prize_98 ?_
          have hs := prb_d (φ := φ) (ts := ts) (cd := cd) (p := p) c73
          exact x_prize1_L hW hI hTI hlt hpn n (k + 1) _ _ a (by omega) (by rw [hs, h0]; exact (spi_s _).symm) (by rw [hs]) hA hT hch kq
        · refine Gd_iload_n (i := 3) rfl eX7_prize_76 ?_
          refine Gd_iconst ki_m1 eX7_prize_77 ?_
          refine Gd_icmp_eqM0 (by first | omega | decide) eX7_prize_78 ?_
          refine Gd_iload (i := 6) rfl eX7_prize_81 ?_
          refine Gd_iload (i := 4) rfl eX7_prize_83 ?_
          refine Gd_icmp_leN (by first | omega | decide) (by first | omega | decide) eX7_prize_85 (fun c85 => ?_) (fun c85 => ?_)
          · refine Gd_iinc5 (ho := rfl) (he := nI_inc _) eX7_prize_95 ?_
            refine Gd_goto eX7_prize_98 ?_
            have hs := prb_n (φ := φ) (ts := ts) (cd := cd) c73 (fun z => by have h9 : hvd φ p k = min 99 (φ 3 p + 1 + φ 0 k / 10) := rfl; rcases z with z | z <;> omega)
            exact x_prize1_L hW hI hTI hlt hpn n (k + 1) _ _ a (by omega) (by rw [hs, h0]; exact (spi_s _).symm) (by rw [hs]) hA hT hch kq
          · refine Gd_iload (i := 5) rfl eX7_prize_88 ?_
            refine Gd_istore_n3 rfl eX7_prize_90 ?_
            refine Gd_iload (i := 6) rfl eX7_prize_91 ?_
            refine Gd_istore4 rfl eX7_prize_93 ?_
            refine Gd_iinc5 (ho := rfl) (he := nI_inc _) eX7_prize_95 ?_
            refine Gd_goto eX7_prize_98 ?_
            have hs := prb_y c73 (Or.inr (show (prb φ ts cd p k).2 < hvd φ p k from by have h9 : hvd φ p k = min 99 (φ 3 p + 1 + φ 0 k / 10) := rfl; omega))
            exact x_prize1_L hW hI hTI hlt hpn n (k + 1) _ _ a (by omega) (by rw [hs, spi_s]) (by rw [hs]; rfl) hA hT hch kq
theorem x_prize {sh : List (Nat × Nat)} {a : Nat → Nat → Int32} {r : Nat → Nat → Option Nat} {g : Nat → Nat → Int64} {φ ts cd : Nat → Nat → Nat} {nt : Nat} (hW : WD sh r) (hA : FA 1 φ a) (hI : FI φ) (hT : TX nt ts cd sh a r) (hTI : TI nt ts cd) (hlt : φ 7 2 < nt) (vp vw : Int32) : Mt YX7_prize 5 0 0 [vr 0, vi vp, vi vw] (sh, a, r, g) (g_EV sh r g (vi (oPrize φ ts cd vp vw)) (fun a' => chg scR a a')) := by
  refine Mt_of rfl (Nat.le_of_ble_eq_true rfl) rfl ?_
  have hhu := FI_hu hI
  refine Gd_aload_n (i := 0) rfl eX7_prize_0 ?_
  refine Gd_iload_n (i := 1) rfl eX7_prize_1 ?_
  refine Gd_callP (g_cV (x_isHunter hW hA hI _) ok_X7_isHunter lk_RX7_140 (W_s0 hW) ⟨_, _, rfl⟩ rfl rfl (Nat.le_of_ble_eq_true rfl) (Nat.le_of_ble_eq_true rfl) (Nat.le_refl _) (Nat.le_refl _) eX7_prize_2) ?_
  refine Gd_if_neB eX7_prize_5 (fun c5 => ?_) (fun c5 => ?_)
  · obtain ⟨p, hpn, rfl⟩ := inr_t c5 (by omega)
    refine Gd_iload_n (i := 2) rfl eX7_prize_11 ?_
    refine Gd_iconst ki_0 eX7_prize_12 ?_
    refine Gd_iconst ki_1 eX7_prize_13 ?_
    refine Gd_callP (g_cS (x_isWithin _ _ _) ok_X7_isWithin lk_RX7_119 rfl rfl (Nat.le_of_ble_eq_true rfl) (Nat.le_of_ble_eq_true rfl) (Nat.le_refl _) (Nat.le_refl _) eX7_prize_14) ?_
    refine Gd_if_neB eX7_prize_17 (fun c17 => ?_) (fun c17 => ?_)
    · obtain ⟨k, _, hk, rfl⟩ := inb_r (by decide) (by decide) c17
      rcases (by omega : k = 0 ∨ k = 1) with rfl | rfl
      · refine Gd_iconst ki_m1 eX7_prize_23 ?_
        refine Gd_istore_n3 rfl eX7_prize_24 ?_
        refine Gd_aload_n (i := 0) rfl eX7_prize_25 ?_
        refine Gd_getR fl_RX7_10 (W_s0 hW) (W_r0_0 hW) eX7_prize_26 ?_
        refine Gd_getR fl_RX7_158 (W_s1 hW) (W_r1_7 hW) eX7_prize_29 ?_
        refine Gd_iload_n (i := 1) rfl eX7_prize_32 ?_
        refine Gd_ialdE (v := nI (φ 3 p)) (W_s5 hW) (by first | omega | decide) (FA_ho hA (p := p) (by first | omega | decide) :) eX7_prize_33 ?_
        refine Gd_istore4 rfl eX7_prize_34 ?_
        refine Gd_iconst ki_0 eX7_prize_36 ?_
        refine Gd_istore5 rfl eX7_prize_37 ?_
        exact x_prize0_L hW hI hTI hlt hpn 10 0 (-1) (φ 3 p) a (by omega) rfl rfl hA hT chg_rf (fun a' k1 => ⟨a', by rw [oPrize_0 hpn hhu], rfl, k1⟩)
      · refine Gd_iconst ki_m1 eX7_prize_23 ?_
        refine Gd_istore_n3 rfl eX7_prize_24 ?_
        refine Gd_aload_n (i := 0) rfl eX7_prize_25 ?_
        refine Gd_getR fl_RX7_10 (W_s0 hW) (W_r0_0 hW) eX7_prize_26 ?_
        refine Gd_getR fl_RX7_158 (W_s1 hW) (W_r1_7 hW) eX7_prize_29 ?_
        refine Gd_iload_n (i := 1) rfl eX7_prize_32 ?_
        refine Gd_ialdE (v := nI (φ 3 p)) (W_s5 hW) (by first | omega | decide) (FA_ho hA (p := p) (by first | omega | decide) :) eX7_prize_33 ?_
        refine Gd_istore4 rfl eX7_prize_34 ?_
        refine Gd_iconst ki_0 eX7_prize_36 ?_
        refine Gd_istore5 rfl eX7_prize_37 ?_
        exact x_prize1_L hW hI hTI hlt hpn 10 0 (-1) (φ 3 p) a (by omega) rfl rfl hA hT chg_rf (fun a' k1 => ⟨a', by rw [oPrize_1 hpn hhu], rfl, k1⟩)
    · refine Gd_bipush kb_m7 eX7_prize_20 ?_
      exact Gd_ireturn eX7_prize_22 rfl (Nat.le_refl _) (Nat.le_refl _) ⟨a, by rw [oPrize_w hpn hhu c17], rfl, chg_rf⟩
  · refine Gd_bipush kb_m5 eX7_prize_8 ?_
    exact Gd_ireturn eX7_prize_10 rfl (Nat.le_refl _) (Nat.le_refl _) ⟨a, by rw [oPrize_p c5], rfl, chg_rf⟩
