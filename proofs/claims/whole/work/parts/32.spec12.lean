theorem m_tellsWilling_L {sh : List (Nat × Nat)} {r : Nat → Nat → Option Nat} {g : Nat → Nat → Int64} {φ ts cd : Nat → Nat → Nat} {nt : Nat} (hW : WD sh r) (hI : FI φ) (hTI : TI nt ts cd) (hlt : φ 7 2 < nt) {Q : Option g_V → g_H → Prop} {N0 : Nat} {a0 : Nat → Nat → Int32} : ∀ (n i : Nat) (a : Nat → Nat → Int32), i + n = φ 7 3 → MA φ a → TM nt ts cd a → a 50 32 = nI (wm φ ts cd i) → chg scM a0 a → (∀ a', a' 50 32 = nI (wm φ ts cd (φ 7 3)) → chg scM a0 a' → Q none (sh, a', r, g)) → Gd YX8_tellsWilling (z0 5 N0 Q) 0 0 7 [some (vr 50), some (vi (nI i))] [] (sh, a, r, g)
  | 0, i, a, hn, hM, hT, h32, hch, kq => by
    have hhu := FI_hu hI
    refine Gd_iload_n (i := 1) rfl eX8_tellsWilling_7 ?_
    refine Gd_aload_n (i := 0) rfl eX8_tellsWilling_8 ?_
    refine Gd_getIe (v := nI (φ 7 3)) fl_RX8_81 (W_s50 hW) (MA_hu hM :) eX8_tellsWilling_9 ?_
    refine Gd_icmp_geN (by first | omega | decide) (by first | omega | decide) eX8_tellsWilling_12 (fun c12 => ?_) (fun c12 => ?_)
    · exact Gd_return eX8_tellsWilling_45 rfl (Nat.le_refl _) (Nat.le_refl _) (kq _ (by rw [← hn, Nat.add_zero]; exact h32) hch)
    · exact absurd c12 (by omega)
  | n + 1, i, a, hn, hM, hT, h32, hch, kq => by
    have hhu := FI_hu hI
    refine Gd_iload_n (i := 1) rfl eX8_tellsWilling_7 ?_
    refine Gd_aload_n (i := 0) rfl eX8_tellsWilling_8 ?_
    refine Gd_getIe (v := nI (φ 7 3)) fl_RX8_81 (W_s50 hW) (MA_hu hM :) eX8_tellsWilling_9 ?_
    refine Gd_icmp_geN (by first | omega | decide) (by first | omega | decide) eX8_tellsWilling_12 (fun c12 => ?_) (fun c12 => ?_)
    · exact absurd c12 (by omega)
    · refine Gd_aload_n (i := 0) rfl eX8_tellsWilling_15 ?_
      refine Gd_dup rfl eX8_tellsWilling_16 ?_
      refine Gd_getIe (v := nI (wm φ ts cd i)) fl_RX8_202 (W_s50 hW) h32 eX8_tellsWilling_17 ?_
      refine Gd_aload_n (i := 0) rfl eX8_tellsWilling_20 ?_
      refine Gd_iload_n (i := 1) rfl eX8_tellsWilling_21 ?_
      refine Gd_callEV (g_cV (m_doesWill hW hM hI hT hTI hlt (by first | omega | decide)) ok_X8_doesWill lk_RX8_205 (W_s50 hW) ⟨_, _, rfl⟩ rfl rfl (Nat.le_of_ble_eq_true rfl) (Nat.le_of_ble_eq_true rfl) (Nat.le_refl _) (Nat.le_refl _) eX8_tellsWilling_22) (fun a hq => ?_)
      have hM := MA_sc hM hq
      have hT := TM_sc hT hq
      have hch := chg_tr hch hq
      refine Gd_if_eqB eX8_tellsWilling_25 (fun c25 => ?_) (fun c25 => ?_)
      · refine Gd_iconst ki_0 eX8_tellsWilling_34 ?_
        refine Gd_iorN eX8_tellsWilling_35 ?_
        refine Gd_putI fl_RX8_202 (W_s50 hW) eX8_tellsWilling_36 ?_
        refine Gd_iinc1 (ho := rfl) (he := nI_inc _) eX8_tellsWilling_39 ?_
        refine Gd_goto eX8_tellsWilling_42 ?_
        exact m_tellsWilling_L hW hI hTI hlt n (i + 1) (up2 a 50 32 (nI (wm φ ts cd i ||| 0))) (by omega) (MA_sc hM (chg_up chg_rf rfl)) (TM_sc hT (chg_up chg_rf rfl)) (by rw [up2_s, wm, if_neg (by rw [c25]; decide)]) (chg_up hch rfl) kq
      · refine Gd_iconst ki_1 eX8_tellsWilling_28 ?_
        refine Gd_iload_n (i := 1) rfl eX8_tellsWilling_29 ?_
        refine Gd_ishl1 (by first | omega | decide) eX8_tellsWilling_30 ?_
        refine Gd_goto eX8_tellsWilling_31 ?_
        refine Gd_iorN eX8_tellsWilling_35 ?_
        refine Gd_putI fl_RX8_202 (W_s50 hW) eX8_tellsWilling_36 ?_
        refine Gd_iinc1 (ho := rfl) (he := nI_inc _) eX8_tellsWilling_39 ?_
        refine Gd_goto eX8_tellsWilling_42 ?_
        exact m_tellsWilling_L hW hI hTI hlt n (i + 1) (up2 a 50 32 (nI (wm φ ts cd i ||| 2 ^ i))) (by omega) (MA_sc hM (chg_up chg_rf rfl)) (TM_sc hT (chg_up chg_rf rfl)) (by rw [up2_s, wm, if_pos c25]) (chg_up hch rfl) kq
theorem m_tellsWilling {sh : List (Nat × Nat)} {a : Nat → Nat → Int32} {r : Nat → Nat → Option Nat} {g : Nat → Nat → Int64} {φ ts cd : Nat → Nat → Nat} {nt : Nat} (hW : WD sh r) (hM : MA φ a) (hI : FI φ) (hT : TM nt ts cd a) (hTI : TI nt ts cd) (hlt : φ 7 2 < nt) : Mt YX8_tellsWilling 5 0 0 [vr 50] (sh, a, r, g) (g_E0 sh r g (fun a' => a' 50 32 = nI (wm φ ts cd (φ 7 3)) ∧ chg scM a a')) := by
  refine Mt_of rfl (Nat.le_of_ble_eq_true rfl) rfl ?_
  refine Gd_aload_n (i := 0) rfl eX8_tellsWilling_0 ?_
  refine Gd_iconst ki_0 eX8_tellsWilling_1 ?_
  refine Gd_putI fl_RX8_202 (W_s50 hW) eX8_tellsWilling_2 ?_
  refine Gd_iconst ki_0 eX8_tellsWilling_5 ?_
  refine Gd_istore_n1 rfl eX8_tellsWilling_6 ?_
  exact m_tellsWilling_L hW hI hTI hlt (φ 7 3) 0 _ (by omega) (MA_sc hM (chg_up chg_rf rfl)) (TM_sc hT (chg_up chg_rf rfl)) (up2_s _ _ _ _) (chg_up chg_rf rfl) (fun a' k1 k2 => ⟨a', rfl, rfl, k1, k2⟩)
theorem m_far_V {sh : List (Nat × Nat)} {r : Nat → Nat → Option Nat} {g : Nat → Nat → Int64} {φ ts cd : Nat → Nat → Nat} (hW : WD sh r) (hI : FI φ) (hJ : FJ φ) {p : Nat} (hp : p < 6) {Q : Option g_V → g_H → Prop} {N0 : Nat} {a0 : Nat → Nat → Int32} {k u : Nat} (hk : k ≤ 6) (hu : u < φ 7 3) (hr : (rsn φ ts cd p k).1 u = true) (hwl : will φ ts cd u = true) : ∀ (n v : Nat) (a : Nat → Nat → Int32), v + n = φ 7 3 → MA φ a → (∀ v', v' < v → v' < 6 → a 68 v' = nI (mid φ ts cd p k (u + 1) v')) → (∀ v', v ≤ v' → v' < 6 → a 68 v' = nI (mid φ ts cd p k u v')) → chg (sR 68) a0 a → (∀ a', (∀ v', v' < 6 → a' 68 v' = nI (mid φ ts cd p k (u + 1) v')) → chg (sR 68) a0 a' → Gd YX8_tellsFar (z0 1 N0 Q) 0 0 156 [some (vr 50), some (vi (nI p)), some (vi (nI (k + 1))), some (vi (nI u)), some (vi (nI 1)), some (vi (nI (φ 7 3)))] [] (sh, a', r, g)) → Gd YX8_tellsFar (z0 1 N0 Q) 0 0 98 [some (vr 50), some (vi (nI p)), some (vi (nI (k + 1))), some (vi (nI u)), some (vi (nI 1)), some (vi (nI v))] [] (sh, a, r, g)
  | 0, v, a, hn, hM, hlo, hhi, hc, kq => by
    have hhu := FI_hu hI
    have hml := mid_le (φ := φ) (ts := ts) (cd := cd) (p := p) k u v (by omega)
    refine Gd_iload (i := 5) rfl eX8_tellsFar_98 ?_
    refine Gd_aload_n (i := 0) rfl eX8_tellsFar_100 ?_
    refine Gd_getIe (v := nI (φ 7 3)) fl_RX8_81 (W_s50 hW) (MA_hu hM :) eX8_tellsFar_101 ?_
    refine Gd_icmp_geN (by first | omega | decide) (by first | omega | decide) eX8_tellsFar_104 (fun c104 => ?_) (fun c104 => ?_)
    · obtain rfl : v = φ 7 3 := by omega
      exact kq a (fun v' h1 => if h : v' < φ 7 3 then hlo v' h h1 else by rw [hhi v' (by omega) h1, mid_out (by omega), mid_out (by omega)]) hc
    · exact absurd c104 (by omega)
  | n + 1, v, a, hn, hM, hlo, hhi, hc, kq => by
    have hhu := FI_hu hI
    have hml := mid_le (φ := φ) (ts := ts) (cd := cd) (p := p) k u v (by omega)
    refine Gd_iload (i := 5) rfl eX8_tellsFar_98 ?_
    refine Gd_aload_n (i := 0) rfl eX8_tellsFar_100 ?_
    refine Gd_getIe (v := nI (φ 7 3)) fl_RX8_81 (W_s50 hW) (MA_hu hM :) eX8_tellsFar_101 ?_
    refine Gd_icmp_geN (by first | omega | decide) (by first | omega | decide) eX8_tellsFar_104 (fun c104 => ?_) (fun c104 => ?_)
    · exact absurd c104 (by omega)
    · refine Gd_iload (i := 4) rfl eX8_tellsFar_107 ?_
      refine Gd_if_eq eX8_tellsFar_109 (fun q => by first | exact absurd q (by decide) | exact absurd (by decide) q) (fun _ => ?_)
      refine Gd_iload (i := 5) rfl eX8_tellsFar_112 ?_
      refine Gd_iload_n (i := 1) rfl eX8_tellsFar_114 ?_
      refine Gd_icmp_eqN (by first | omega | decide) (by first | omega | decide) eX8_tellsFar_115 (fun c115 => ?_) (fun c115 => ?_)
      · refine Gd_iinc5 (ho := rfl) (he := nI_inc _) eX8_tellsFar_150 ?_
        refine Gd_goto eX8_tellsFar_153 ?_
        exact m_far_V hW hI hJ hp hk hu hr hwl n (v + 1) a (by omega) hM (fun v' h1 h2 => if h : v' = v then (by rw [h, mid_keep hk (Or.inl c115)]; exact hhi v (Nat.le_refl _) (by omega)) else hlo v' (by omega) h2) (fun v' h1 h2 => hhi v' (by omega) h2) hc kq
      · refine Gd_aload_n (i := 0) rfl eX8_tellsFar_118 ?_
        refine Gd_getR fl_RX8_65 (W_s50 hW) (W_r50_31 hW) eX8_tellsFar_119 ?_
        refine Gd_iload (i := 5) rfl eX8_tellsFar_122 ?_
        refine Gd_ialdE (v := nI (mid φ ts cd p k u v)) (W_s68 hW) (by first | omega | decide) (hhi v (Nat.le_refl _) (by omega) :) eX8_tellsFar_124 ?_
        refine Gd_bipush kb_9 eX8_tellsFar_125 ?_
        refine Gd_icmp_neN (by first | omega | decide) (by first | omega | decide) eX8_tellsFar_127 (fun c127 => ?_) (fun c127 => ?_)
        · refine Gd_iinc5 (ho := rfl) (he := nI_inc _) eX8_tellsFar_150 ?_
          refine Gd_goto eX8_tellsFar_153 ?_
          exact m_far_V hW hI hJ hp hk hu hr hwl n (v + 1) a (by omega) hM (fun v' h1 h2 => if h : v' = v then (by rw [h, mid_keep hk (Or.inr c127)]; exact hhi v (Nat.le_refl _) (by omega)) else hlo v' (by omega) h2) (fun v' h1 h2 => hhi v' (by omega) h2) hc kq
        · refine Gd_aload_n (i := 0) rfl eX8_tellsFar_130 ?_
          refine Gd_iload_n (i := 3) rfl eX8_tellsFar_131 ?_
          refine Gd_iload (i := 5) rfl eX8_tellsFar_132 ?_
          refine Gd_callP (g_cV (m_haveMet hW hM hI (by first | omega | decide) (by first | omega | decide)) ok_X8_haveMet lk_RX8_192 (W_s50 hW) ⟨_, _, rfl⟩ rfl rfl (Nat.le_of_ble_eq_true rfl) (Nat.le_of_ble_eq_true rfl) (Nat.le_refl _) (Nat.le_refl _) eX8_tellsFar_134) ?_
          refine Gd_if_eqB eX8_tellsFar_137 (fun c137 => ?_) (fun c137 => ?_)
          · refine Gd_iinc5 (ho := rfl) (he := nI_inc _) eX8_tellsFar_150 ?_
            refine Gd_goto eX8_tellsFar_153 ?_
            exact m_far_V hW hI hJ hp hk hu hr hwl n (v + 1) a (by omega) hM (fun v' h1 h2 => if h : v' = v then (by rw [h, mid_same (by rw [c137, Bool.and_false])]; exact hhi v (Nat.le_refl _) (by omega)) else hlo v' (by omega) h2) (fun v' h1 h2 => hhi v' (by omega) h2) hc kq
          · refine Gd_aload_n (i := 0) rfl eX8_tellsFar_140 ?_
            refine Gd_getR fl_RX8_65 (W_s50 hW) (W_r50_31 hW) eX8_tellsFar_141 ?_
            refine Gd_iload (i := 5) rfl eX8_tellsFar_144 ?_
            refine Gd_iload_n (i := 2) rfl eX8_tellsFar_146 ?_
            refine Gd_iconst ki_1 eX8_tellsFar_147 ?_
            refine Gd_iaddN eX8_tellsFar_148 ?_
            refine Gd_iastN (W_s68 hW) (by first | omega | decide) eX8_tellsFar_149 ?_
            refine Gd_iinc5 (ho := rfl) (he := nI_inc _) eX8_tellsFar_150 ?_
            refine Gd_goto eX8_tellsFar_153 ?_
            exact m_far_V hW hI hJ hp hk hu hr hwl n (v + 1) (up2 a 68 v (nI (k + 1 + 1))) (by omega) (MA_row (by decide) hM) (fun v' h1 h2 => if h : v' = v then (by rw [h, up2_s, mid_set hk c104 c115 c127 hr hwl c137]) else (by rw [up2_j _ _ h]; exact hlo v' (by omega) h2)) (fun v' h1 h2 => by rw [up2_j _ _ (by omega)]; exact hhi v' (by omega) h2) (chg_up hc (by simp [sR])) kq
theorem m_far_U {sh : List (Nat × Nat)} {r : Nat → Nat → Option Nat} {g : Nat → Nat → Int64} {φ ts cd : Nat → Nat → Nat} (hW : WD sh r) (hI : FI φ) (hJ : FJ φ) {p : Nat} (hp : p < 6) {Q : Option g_V → g_H → Prop} {N0 : Nat} {k : Nat} (hk : k ≤ 6) : ∀ (n u : Nat) (a : Nat → Nat → Int32) (x4 x5 : Option g_V), u + n = φ 7 3 → MA φ a → a 50 32 = nI (wm φ ts cd (φ 7 3)) → (∀ v', v' < 6 → a 68 v' = nI (mid φ ts cd p k u v')) → (∀ (a' : Nat → Nat → Int32) (x4 x5 : Option g_V), (∀ v', v' < 6 → a' 68 v' = nI (mid φ ts cd p k (φ 7 3) v')) → chg (sR 68) a a' → Gd YX8_tellsFar (z0 1 N0 Q) 0 0 162 [some (vr 50), some (vi (nI p)), some (vi (nI (k + 1))), some (vi (nI (φ 7 3))), x4, x5] [] (sh, a', r, g)) → Gd YX8_tellsFar (z0 1 N0 Q) 0 0 58 [some (vr 50), some (vi (nI p)), some (vi (nI (k + 1))), some (vi (nI u)), x4, x5] [] (sh, a, r, g)
  | 0, u, a, x4, x5, hn, hM, h32, h68, kq => by
    have hhu := FI_hu hI
    have hml := mid_le (φ := φ) (ts := ts) (cd := cd) (p := p) k u u (by omega)
    have hwb := wm64 φ ts cd hhu
    refine Gd_iload_n (i := 3) rfl eX8_tellsFar_58 ?_
    refine Gd_aload_n (i := 0) rfl eX8_tellsFar_59 ?_
    refine Gd_getIe (v := nI (φ 7 3)) fl_RX8_81 (W_s50 hW) (MA_hu hM :) eX8_tellsFar_60 ?_
    refine Gd_icmp_geN (by first | omega | decide) (by first | omega | decide) eX8_tellsFar_63 (fun c63 => ?_) (fun c63 => ?_)
    · obtain rfl : u = φ 7 3 := by omega
      exact kq a _ _ h68 chg_rf
    · exact absurd c63 (by omega)
  | n + 1, u, a, x4, x5, hn, hM, h32, h68, kq => by
    have hhu := FI_hu hI
    have hml := mid_le (φ := φ) (ts := ts) (cd := cd) (p := p) k u u (by omega)
    have hwb := wm64 φ ts cd hhu
    refine Gd_iload_n (i := 3) rfl eX8_tellsFar_58 ?_
    refine Gd_aload_n (i := 0) rfl eX8_tellsFar_59 ?_
    refine Gd_getIe (v := nI (φ 7 3)) fl_RX8_81 (W_s50 hW) (MA_hu hM :) eX8_tellsFar_60 ?_
    refine Gd_icmp_geN (by first | omega | decide) (by first | omega | decide) eX8_tellsFar_63 (fun c63 => ?_) (fun c63 => ?_)
    · exact absurd c63 (by omega)
    · refine Gd_aload_n (i := 0) rfl eX8_tellsFar_66 ?_
      refine Gd_getR fl_RX8_65 (W_s50 hW) (W_r50_31 hW) eX8_tellsFar_67 ?_
      refine Gd_iload_n (i := 3) rfl eX8_tellsFar_70 ?_
      refine Gd_ialdE (v := nI (mid φ ts cd p k u u)) (W_s68 hW) (by first | omega | decide) (h68 u (by omega) :) eX8_tellsFar_71 ?_
      refine Gd_iload_n (i := 2) rfl eX8_tellsFar_72 ?_
      refine Gd_icmp_neN (by first | omega | decide) (by first | omega | decide) eX8_tellsFar_73 (fun c73 => ?_) (fun c73 => ?_)
      · refine Gd_iconst ki_0 eX8_tellsFar_92 ?_
        refine Gd_istore4 rfl eX8_tellsFar_93 ?_
        refine Gd_iconst ki_0 eX8_tellsFar_95 ?_
        refine Gd_istore5 rfl eX8_tellsFar_96 ?_
        refine Gd_iload (i := 5) rfl eX8_tellsFar_98 ?_
        refine Gd_aload_n (i := 0) rfl eX8_tellsFar_100 ?_
        refine Gd_getIe (v := nI (φ 7 3)) fl_RX8_81 (W_s50 hW) (MA_hu hM :) eX8_tellsFar_101 ?_
        refine Gd_icmp_geN (by first | omega | decide) (by first | omega | decide) eX8_tellsFar_104 (fun c104 => ?_) (fun c104 => ?_)
        · refine Gd_iinc3 (ho := rfl) (he := nI_inc _) eX8_tellsFar_156 ?_
          refine Gd_goto eX8_tellsFar_159 ?_
          exact m_far_U hW hI hJ hp hk n (u + 1) a _ _ (by omega) hM h32 (fun v1 h1 => by rw [(mid_no hJ hp hk c63 (Or.inl c73))]; exact h68 v1 h1) kq
        · refine Gd_iload (i := 4) rfl eX8_tellsFar_107 ?_
          refine Gd_if_eq eX8_tellsFar_109 (fun _ => ?_) (fun q => by first | exact absurd q (by decide) | exact absurd (by decide) q)
          refine Gd_iinc3 (ho := rfl) (he := nI_inc _) eX8_tellsFar_156 ?_
          refine Gd_goto eX8_tellsFar_159 ?_
          exact m_far_U hW hI hJ hp hk n (u + 1) a _ _ (by omega) hM h32 (fun v1 h1 => by rw [(mid_no hJ hp hk c63 (Or.inl c73))]; exact h68 v1 h1) kq
      · refine Gd_aload_n (i := 0) rfl eX8_tellsFar_76 ?_
        refine Gd_getIe (v := nI (wm φ ts cd (φ 7 3))) fl_RX8_202 (W_s50 hW) h32 eX8_tellsFar_77 ?_
        refine Gd_iload_n (i := 3) rfl eX8_tellsFar_80 ?_
        refine Gd_ishr eX8_tellsFar_81 ?_
        refine Gd_iconst ki_1 eX8_tellsFar_82 ?_
        refine Gd_iandB (by first | omega | decide) (by first | omega | decide) eX8_tellsFar_83 ?_
        refine Gd_iconst ki_1 eX8_tellsFar_84 ?_
        refine Gd_icmp_neB1 eX8_tellsFar_85 (fun c85 => ?_) (fun c85 => ?_)
        · refine Gd_iconst ki_0 eX8_tellsFar_92 ?_
          refine Gd_istore4 rfl eX8_tellsFar_93 ?_
          refine Gd_iconst ki_0 eX8_tellsFar_95 ?_
          refine Gd_istore5 rfl eX8_tellsFar_96 ?_
          refine Gd_iload (i := 5) rfl eX8_tellsFar_98 ?_
          refine Gd_aload_n (i := 0) rfl eX8_tellsFar_100 ?_
          refine Gd_getIe (v := nI (φ 7 3)) fl_RX8_81 (W_s50 hW) (MA_hu hM :) eX8_tellsFar_101 ?_
          refine Gd_icmp_geN (by first | omega | decide) (by first | omega | decide) eX8_tellsFar_104 (fun c104 => ?_) (fun c104 => ?_)
          · refine Gd_iinc3 (ho := rfl) (he := nI_inc _) eX8_tellsFar_156 ?_
            refine Gd_goto eX8_tellsFar_159 ?_
            exact m_far_U hW hI hJ hp hk n (u + 1) a _ _ (by omega) hM h32 (fun v1 h1 => by rw [(mid_no hJ hp hk c63 (Or.inr (by rw [← wm_bit φ ts cd c63]; exact c85)))]; exact h68 v1 h1) kq
          · refine Gd_iload (i := 4) rfl eX8_tellsFar_107 ?_
            refine Gd_if_eq eX8_tellsFar_109 (fun _ => ?_) (fun q => by first | exact absurd q (by decide) | exact absurd (by decide) q)
            refine Gd_iinc3 (ho := rfl) (he := nI_inc _) eX8_tellsFar_156 ?_
            refine Gd_goto eX8_tellsFar_159 ?_
            exact m_far_U hW hI hJ hp hk n (u + 1) a _ _ (by omega) hM h32 (fun v1 h1 => by rw [(mid_no hJ hp hk c63 (Or.inr (by rw [← wm_bit φ ts cd c63]; exact c85)))]; exact h68 v1 h1) kq
        · refine Gd_iconst ki_1 eX8_tellsFar_88 ?_
          refine Gd_goto eX8_tellsFar_89 ?_
          refine Gd_istore4 rfl eX8_tellsFar_93 ?_
          refine Gd_iconst ki_0 eX8_tellsFar_95 ?_
          refine Gd_istore5 rfl eX8_tellsFar_96 ?_
          refine m_far_V hW hI hJ hp hk c63 ((mid_ring hJ hp hk c63).mp c73) (by rw [← wm_bit φ ts cd c63]; exact c85) (φ 7 3) 0 a (by omega) hM (fun v1 h1 => absurd h1 (by omega)) (fun v1 _ h1 => h68 v1 h1) chg_rf (fun a h68 hc2 => ?_)
          refine Gd_iinc3 (ho := rfl) (he := nI_inc _) eX8_tellsFar_156 ?_
          refine Gd_goto eX8_tellsFar_159 ?_
          exact m_far_U hW hI hJ hp hk n (u + 1) a _ _ (by omega) (MA_ch hM hc2 (fun _ _ => sR_M (by decide))) ((hc2 _ _ rfl).trans h32) h68 (fun a2 y4 y5 k1 k2 => kq a2 y4 y5 k1 (chg_tr hc2 k2))
