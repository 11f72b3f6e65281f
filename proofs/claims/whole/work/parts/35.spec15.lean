theorem x_spb_L {sh : List (Nat × Nat)} {a : Nat → Nat → Int32} {r : Nat → Nat → Option Nat} {g : Nat → Nat → Int64} {φ ts cd : Nat → Nat → Nat} {f : Nat} (hW : WD sh r) (hF : isF sh r f) (hA : FA f φ a) (hI : FI φ) (h35 : a 35 0 = nI (wm φ ts cd (φ 7 3))) {p d : Nat} (hp : p < 6) (hd : d < 10) (h36 : ∀ v, v < 6 → a 36 v = nI (fx φ ts cd p 6 v)) {Q : Option g_V → g_H → Prop} {N0 : Nat} : ∀ (n q : Nat) (s4 : Int32) (x6 : Option g_V), q + n = φ 7 3 → s4 = spi (spb φ ts cd p d q) → Q (some (vi (spi (spb φ ts cd p d (φ 7 3))))) (sh, a, r, g) → Gd YX6_sponsorOf (z0 1 N0 Q) 0 0 25 [some (vr 35), some (vr f), some (vi (nI p)), some (vi (nI d)), some (vi s4), some (vi (nI q)), x6] [] (sh, a, r, g)
  | 0, q, s4, x6, hn, h4, kq => by
    subst h4
    have hhu := FI_hu hI
    have hwb := wm64 φ ts cd hhu
    have hfl := fx_le (φ := φ) (ts := ts) (cd := cd) (p := p) 6 q
    have hsl := spb_le (φ := φ) (ts := ts) (cd := cd) (p := p) (d := d) q
    refine Gd_iload (i := 5) rfl eX6_sponsorOf_25 ?_
    refine Gd_aload_n (i := 1) rfl eX6_sponsorOf_27 ?_
    refine Gd_getIe (v := nI (φ 7 3)) fl_RX6_19 (F_s0 hF) (FA_hu hA :) eX6_sponsorOf_28 ?_
    refine Gd_icmp_geN (by first | omega | decide) (by first | omega | decide) eX6_sponsorOf_31 (fun c31 => ?_) (fun c31 => ?_)
    · refine Gd_iload (i := 4) rfl eX6_sponsorOf_108 ?_
      exact Gd_ireturn eX6_sponsorOf_110 rfl (Nat.le_refl _) (Nat.le_refl _) (by rw [show φ 7 3 = q by omega] at kq; exact kq)
    · exact absurd c31 (by omega)
  | n + 1, q, s4, x6, hn, h4, kq => by
    subst h4
    have hhu := FI_hu hI
    have hwb := wm64 φ ts cd hhu
    have hfl := fx_le (φ := φ) (ts := ts) (cd := cd) (p := p) 6 q
    have hsl := spb_le (φ := φ) (ts := ts) (cd := cd) (p := p) (d := d) q
    refine Gd_iload (i := 5) rfl eX6_sponsorOf_25 ?_
    refine Gd_aload_n (i := 1) rfl eX6_sponsorOf_27 ?_
    refine Gd_getIe (v := nI (φ 7 3)) fl_RX6_19 (F_s0 hF) (FA_hu hA :) eX6_sponsorOf_28 ?_
    refine Gd_icmp_geN (by first | omega | decide) (by first | omega | decide) eX6_sponsorOf_31 (fun c31 => ?_) (fun c31 => ?_)
    · exact absurd c31 (by omega)
    · refine Gd_aload_n (i := 0) rfl eX6_sponsorOf_34 ?_
      refine Gd_getR fl_RX6_15 (W_s35 hW) (W_r35_1 hW) eX6_sponsorOf_35 ?_
      refine Gd_iload (i := 5) rfl eX6_sponsorOf_38 ?_
      refine Gd_ialdE (v := nI (fx φ ts cd p 6 q)) (W_s36 hW) (by first | omega | decide) (h36 q (by omega) :) eX6_sponsorOf_40 ?_
      refine Gd_if_leN (by first | omega | decide) eX6_sponsorOf_41 (fun c41 => ?_) (fun c41 => ?_)
      · refine Gd_iconst ki_0 eX6_sponsorOf_67 ?_
        refine Gd_istore6 rfl eX6_sponsorOf_68 ?_
        refine Gd_iload (i := 6) rfl eX6_sponsorOf_70 ?_
        refine Gd_if_eq eX6_sponsorOf_72 (fun _ => ?_) (fun q => by first | exact absurd q (by decide) | exact absurd (by decide) q)
        refine Gd_iinc5 (ho := rfl) (he := nI_inc _) eX6_sponsorOf_102 ?_
        refine Gd_goto eX6_sponsorOf_105 ?_
        have hs : spb φ ts cd p d (q + 1) = _ := spb_n (Or.inl (fx_0 c31 c41))
        exact x_spb_L hW hF hA hI h35 hp hd h36 n (q + 1) _ _ (by omega) (by rw [hs]) kq
      · refine Gd_aload_n (i := 0) rfl eX6_sponsorOf_44 ?_
        refine Gd_iload (i := 5) rfl eX6_sponsorOf_45 ?_
        refine Gd_callP (g_cV (x_wwill hW h35 hwb (by first | omega | decide)) ok_X6_isWilling lk_RX6_33 (W_s35 hW) ⟨_, _, rfl⟩ rfl rfl (Nat.le_of_ble_eq_true rfl) (Nat.le_of_ble_eq_true rfl) (Nat.le_refl _) (Nat.le_refl _) eX6_sponsorOf_47) ?_
        refine Gd_if_eqB eX6_sponsorOf_50 (fun c50 => ?_) (fun c50 => ?_)
        · refine Gd_iconst ki_0 eX6_sponsorOf_67 ?_
          refine Gd_istore6 rfl eX6_sponsorOf_68 ?_
          refine Gd_iload (i := 6) rfl eX6_sponsorOf_70 ?_
          refine Gd_if_eq eX6_sponsorOf_72 (fun _ => ?_) (fun q => by first | exact absurd q (by decide) | exact absurd (by decide) q)
          refine Gd_iinc5 (ho := rfl) (he := nI_inc _) eX6_sponsorOf_102 ?_
          refine Gd_goto eX6_sponsorOf_105 ?_
          have hs : spb φ ts cd p d (q + 1) = _ := spb_n (Or.inr (Or.inl (by rw [← wm_bit φ ts cd c31]; exact c50)))
          exact x_spb_L hW hF hA hI h35 hp hd h36 n (q + 1) _ _ (by omega) (by rw [hs]) kq
        · refine Gd_aload_n (i := 1) rfl eX6_sponsorOf_53 ?_
          refine Gd_iload (i := 5) rfl eX6_sponsorOf_54 ?_
          refine Gd_iload_n (i := 3) rfl eX6_sponsorOf_56 ?_
          refine Gd_callP (g_cV (x_hasCard hF hA hI (by first | omega | decide) (by first | omega | decide)) ok_X0_hasCard lk_RX6_43 (F_s0 hF) ⟨_, _, rfl⟩ rfl rfl (Nat.le_of_ble_eq_true rfl) (Nat.le_of_ble_eq_true rfl) (Nat.le_refl _) (Nat.le_refl _) eX6_sponsorOf_57) ?_
          refine Gd_if_eqB eX6_sponsorOf_60 (fun c60 => ?_) (fun c60 => ?_)
          · refine Gd_iconst ki_0 eX6_sponsorOf_67 ?_
            refine Gd_istore6 rfl eX6_sponsorOf_68 ?_
            refine Gd_iload (i := 6) rfl eX6_sponsorOf_70 ?_
            refine Gd_if_eq eX6_sponsorOf_72 (fun _ => ?_) (fun q => by first | exact absurd q (by decide) | exact absurd (by decide) q)
            refine Gd_iinc5 (ho := rfl) (he := nI_inc _) eX6_sponsorOf_102 ?_
            refine Gd_goto eX6_sponsorOf_105 ?_
            have hs : spb φ ts cd p d (q + 1) = _ := spb_n (Or.inr (Or.inr c60))
            exact x_spb_L hW hF hA hI h35 hp hd h36 n (q + 1) _ _ (by omega) (by rw [hs]) kq
          · refine Gd_iconst ki_1 eX6_sponsorOf_63 ?_
            refine Gd_goto eX6_sponsorOf_64 ?_
            refine Gd_istore6 rfl eX6_sponsorOf_68 ?_
            refine Gd_iload (i := 6) rfl eX6_sponsorOf_70 ?_
            refine Gd_if_eq eX6_sponsorOf_72 (fun q => by first | exact absurd q (by decide) | exact absurd (by decide) q) (fun _ => ?_)
            refine Gd_iload (i := 4) rfl eX6_sponsorOf_75 ?_
            refine Gd_iconst ki_m1 eX6_sponsorOf_77 ?_
            refine Gd_icmp_eq eX6_sponsorOf_78 (fun c78 => ?_) (fun c78 => ?_)
            · refine Gd_iload (i := 5) rfl eX6_sponsorOf_98 ?_
              refine Gd_istore4 rfl eX6_sponsorOf_100 ?_
              refine Gd_iinc5 (ho := rfl) (he := nI_inc _) eX6_sponsorOf_102 ?_
              refine Gd_goto eX6_sponsorOf_105 ?_
              have hs : spb φ ts cd p d (q + 1) = _ := spb_yx c31 c41 (by rw [← wm_bit φ ts cd c31]; exact c50) c60 (Or.inl (spi_0 (by omega) c78))
              exact x_spb_L hW hF hA hI h35 hp hd h36 n (q + 1) _ _ (by omega) (by rw [hs]; rfl) kq
            · have h78 := spi_n c78
              rw [h78.2]
              have hfb := fx_le (φ := φ) (ts := ts) (cd := cd) (p := p) 6 (spb φ ts cd p d q - 1)
              refine Gd_aload_n (i := 0) rfl eX6_sponsorOf_81 ?_
              refine Gd_getR fl_RX6_15 (W_s35 hW) (W_r35_1 hW) eX6_sponsorOf_82 ?_
              refine Gd_iload (i := 5) rfl eX6_sponsorOf_85 ?_
              refine Gd_ialdE (v := nI (fx φ ts cd p 6 q)) (W_s36 hW) (by first | omega | decide) (h36 q (by omega) :) eX6_sponsorOf_87 ?_
              refine Gd_aload_n (i := 0) rfl eX6_sponsorOf_88 ?_
              refine Gd_getR fl_RX6_15 (W_s35 hW) (W_r35_1 hW) eX6_sponsorOf_89 ?_
              refine Gd_iload (i := 4) rfl eX6_sponsorOf_92 ?_
              refine Gd_ialdE (v := nI (fx φ ts cd p 6 (spb φ ts cd p d q - 1))) (W_s36 hW) (by first | omega | decide) (h36 (spb φ ts cd p d q - 1) (by omega) :) eX6_sponsorOf_94 ?_
              refine Gd_icmp_geN (by first | omega | decide) (by first | omega | decide) eX6_sponsorOf_95 (fun c95 => ?_) (fun c95 => ?_)
              · refine Gd_iinc5 (ho := rfl) (he := nI_inc _) eX6_sponsorOf_102 ?_
                refine Gd_goto eX6_sponsorOf_105 ?_
                have hs : spb φ ts cd p d (q + 1) = _ := spb_nx c31 h78.1 (by omega)
                exact x_spb_L hW hF hA hI h35 hp hd h36 n (q + 1) _ _ (by omega) (by rw [hs]; exact h78.2.symm) kq
              · refine Gd_iload (i := 5) rfl eX6_sponsorOf_98 ?_
                refine Gd_istore4 rfl eX6_sponsorOf_100 ?_
                refine Gd_iinc5 (ho := rfl) (he := nI_inc _) eX6_sponsorOf_102 ?_
                refine Gd_goto eX6_sponsorOf_105 ?_
                have hs : spb φ ts cd p d (q + 1) = _ := spb_yx c31 c41 (by rw [← wm_bit φ ts cd c31]; exact c50) c60 (Or.inr c95)
                exact x_spb_L hW hF hA hI h35 hp hd h36 n (q + 1) _ _ (by omega) (by rw [hs]; rfl) kq
theorem x_sponsorOf {sh : List (Nat × Nat)} {a : Nat → Nat → Int32} {r : Nat → Nat → Option Nat} {g : Nat → Nat → Int64} {φ ts cd : Nat → Nat → Nat} {f : Nat} (hW : WD sh r) (hF : isF sh r f) (hA : FA f φ a) (hI : FI φ) (h35 : a 35 0 = nI (wm φ ts cd (φ 7 3))) {p d : Nat} (hp : p < 6) (hd : d < 10) (h36 : ∀ v, v < 6 → a 36 v = nI (fx φ ts cd p 6 v)) : Mt YX6_sponsorOf 1 0 0 [vr 35, vr f, vi (nI p), vi (nI d)] (sh, a, r, g) (g_P (some (vi (spo φ ts cd p d))) (sh, a, r, g)) := by
  refine Mt_of rfl (Nat.le_of_ble_eq_true rfl) rfl ?_
  refine Gd_aload_n (i := 1) rfl eX6_sponsorOf_0 ?_
  refine Gd_iload_n (i := 3) rfl eX6_sponsorOf_1 ?_
  refine Gd_callP (g_cV (x_isAlive hF hA hI (by first | omega | decide)) ok_X0_isAlive lk_RX6_40 (F_s0 hF) ⟨_, _, rfl⟩ rfl rfl (Nat.le_of_ble_eq_true rfl) (Nat.le_of_ble_eq_true rfl) (Nat.le_refl _) (Nat.le_refl _) eX6_sponsorOf_2) ?_
  refine Gd_if_eqB eX6_sponsorOf_5 (fun c5 => ?_) (fun c5 => ?_)
  · refine Gd_iconst ki_m1 eX6_sponsorOf_17 ?_
    exact Gd_ireturn eX6_sponsorOf_18 rfl (Nat.le_refl _) (Nat.le_refl _) ⟨by rw [spo, if_neg (by rw [c5]; simp)], rfl⟩
  · refine Gd_aload_n (i := 1) rfl eX6_sponsorOf_8 ?_
    refine Gd_iload_n (i := 2) rfl eX6_sponsorOf_9 ?_
    refine Gd_iload_n (i := 3) rfl eX6_sponsorOf_10 ?_
    refine Gd_callP (g_cV (x_hasCard hF hA hI (by first | omega | decide) (by first | omega | decide)) ok_X0_hasCard lk_RX6_43 (F_s0 hF) ⟨_, _, rfl⟩ rfl rfl (Nat.le_of_ble_eq_true rfl) (Nat.le_of_ble_eq_true rfl) (Nat.le_refl _) (Nat.le_refl _) eX6_sponsorOf_11) ?_
    refine Gd_if_eqB eX6_sponsorOf_14 (fun c14 => ?_) (fun c14 => ?_)
    · refine Gd_iconst ki_m1 eX6_sponsorOf_19 ?_
      refine Gd_istore4 rfl eX6_sponsorOf_20 ?_
      refine Gd_iconst ki_0 eX6_sponsorOf_22 ?_
      refine Gd_istore5 rfl eX6_sponsorOf_23 ?_
      exact x_spb_L hW hF hA hI h35 hp hd h36 (φ 7 3) 0 _ _ (by omega) rfl ⟨by rw [spo, if_pos ⟨c5, c14⟩], rfl⟩
    · refine Gd_iconst ki_m1 eX6_sponsorOf_17 ?_
      exact Gd_ireturn eX6_sponsorOf_18 rfl (Nat.le_refl _) (Nat.le_refl _) ⟨by rw [spo, if_neg (by rw [c14]; simp)], rfl⟩
theorem x_sponsored_L {sh : List (Nat × Nat)} {a : Nat → Nat → Int32} {r : Nat → Nat → Option Nat} {g : Nat → Nat → Int64} {φ ts cd : Nat → Nat → Nat} {f : Nat} (hW : WD sh r) (hF : isF sh r f) (hA : FA f φ a) (hI : FI φ) (h35 : a 35 0 = nI (wm φ ts cd (φ 7 3))) {p : Nat} (hpn : p < φ 7 3) (h36 : ∀ v, v < 6 → a 36 v = nI (fx φ ts cd p 6 v)) {Q : Option g_V → g_H → Prop} {N0 : Nat} : ∀ (n q b : Nat), q + n = φ 7 3 → b = hld φ ts cd p q → Q (some (vi (nI (spm φ ts cd p 10)))) (sh, a, r, g) → Gd YX6_sponsored (z0 5 N0 Q) 0 0 13 [some (vr 35), some (vr 31), some (vr f), some (vi (nI p)), some (vi (nI b)), some (vi (nI q))] [] (sh, a, r, g)
  | 0, q, b, hn, hb, kq => by
    subst hb
    have hhu := FI_hu hI
    have hwb := wm64 φ ts cd hhu
    have hfl := fx_le (φ := φ) (ts := ts) (cd := cd) (p := p) 6 q
    refine Gd_iload (i := 5) rfl eX6_sponsored_13 ?_
    refine Gd_aload_n (i := 2) rfl eX6_sponsored_15 ?_
    refine Gd_getIe (v := nI (φ 7 3)) fl_RX6_19 (F_s0 hF) (FA_hu hA :) eX6_sponsored_16 ?_
    refine Gd_icmp_geN (by first | omega | decide) (by first | omega | decide) eX6_sponsored_19 (fun c19 => ?_) (fun c19 => ?_)
    · refine Gd_iload (i := 4) rfl eX6_sponsored_63 ?_
      refine Gd_aload_n (i := 2) rfl eX6_sponsored_65 ?_
      refine Gd_getIe (v := nI (φ 7 0)) fl_RX6_57 (F_s0 hF) (FA_al hA :) eX6_sponsored_66 ?_
      refine Gd_iandN eX6_sponsored_69 ?_
      refine Gd_aload_n (i := 2) rfl eX6_sponsored_70 ?_
      refine Gd_getR fl_RX6_54 (F_s0 hF) (F_r9 hF) eX6_sponsored_71 ?_
      refine Gd_iload_n (i := 3) rfl eX6_sponsored_74 ?_
      refine Gd_ialdE (v := nI (φ 5 p)) (F_s6 hF) (by first | omega | decide) (FA_ca hA (p := p) (by first | omega | decide) :) eX6_sponsored_75 ?_
      refine Gd_iconst ki_m1 eX6_sponsored_76 ?_
      refine Gd_ixorM eX6_sponsored_77 ?_
      refine Gd_iandN eX6_sponsored_78 ?_
      exact Gd_ireturn eX6_sponsored_79 rfl (Nat.le_refl _) (Nat.le_refl _) (by rw [show q = φ 7 3 by omega, ← spm_hld hI (by omega)]; exact kq)
    · exact absurd c19 (by omega)
  | n + 1, q, b, hn, hb, kq => by
    subst hb
    have hhu := FI_hu hI
    have hwb := wm64 φ ts cd hhu
    have hfl := fx_le (φ := φ) (ts := ts) (cd := cd) (p := p) 6 q
    refine Gd_iload (i := 5) rfl eX6_sponsored_13 ?_
    refine Gd_aload_n (i := 2) rfl eX6_sponsored_15 ?_
    refine Gd_getIe (v := nI (φ 7 3)) fl_RX6_19 (F_s0 hF) (FA_hu hA :) eX6_sponsored_16 ?_
    refine Gd_icmp_geN (by first | omega | decide) (by first | omega | decide) eX6_sponsored_19 (fun c19 => ?_) (fun c19 => ?_)
    · exact absurd c19 (by omega)
    · refine Gd_iload (i := 4) rfl eX6_sponsored_22 ?_
      refine Gd_aload_n (i := 0) rfl eX6_sponsored_24 ?_
      refine Gd_getR fl_RX6_15 (W_s35 hW) (W_r35_1 hW) eX6_sponsored_25 ?_
      refine Gd_iload (i := 5) rfl eX6_sponsored_28 ?_
      refine Gd_ialdE (v := nI (fx φ ts cd p 6 q)) (W_s36 hW) (by first | omega | decide) (h36 q (by omega) :) eX6_sponsored_30 ?_
      refine Gd_if_leN (by first | omega | decide) eX6_sponsored_31 (fun c31 => ?_) (fun c31 => ?_)
      · refine Gd_iconst ki_0 eX6_sponsored_53 ?_
        refine Gd_iorN eX6_sponsored_54 ?_
        refine Gd_istore4 rfl eX6_sponsored_55 ?_
        refine Gd_iinc5 (ho := rfl) (he := nI_inc _) eX6_sponsored_57 ?_
        refine Gd_goto eX6_sponsored_60 ?_
        exact x_sponsored_L hW hF hA hI h35 hpn h36 n (q + 1) (hld φ ts cd p q ||| 0) (by omega) (by rw [hld, if_neg (fun z => z.1 (fx_0 c19 c31))]) kq
      · refine Gd_aload_n (i := 0) rfl eX6_sponsored_34 ?_
        refine Gd_iload (i := 5) rfl eX6_sponsored_35 ?_
        refine Gd_callP (g_cV (x_wwill hW h35 hwb (by first | omega | decide)) ok_X6_isWilling lk_RX6_33 (W_s35 hW) ⟨_, _, rfl⟩ rfl rfl (Nat.le_of_ble_eq_true rfl) (Nat.le_of_ble_eq_true rfl) (Nat.le_refl _) (Nat.le_refl _) eX6_sponsored_37) ?_
        refine Gd_if_eqB eX6_sponsored_40 (fun c40 => ?_) (fun c40 => ?_)
        · refine Gd_iconst ki_0 eX6_sponsored_53 ?_
          refine Gd_iorN eX6_sponsored_54 ?_
          refine Gd_istore4 rfl eX6_sponsored_55 ?_
          refine Gd_iinc5 (ho := rfl) (he := nI_inc _) eX6_sponsored_57 ?_
          refine Gd_goto eX6_sponsored_60 ?_
          exact x_sponsored_L hW hF hA hI h35 hpn h36 n (q + 1) (hld φ ts cd p q ||| 0) (by omega) (by rw [hld, if_neg (fun z => by rw [← wm_bit φ ts cd c19, c40] at z; exact absurd z.2 (by decide))]) kq
        · refine Gd_aload_n (i := 2) rfl eX6_sponsored_43 ?_
          refine Gd_getR fl_RX6_54 (F_s0 hF) (F_r9 hF) eX6_sponsored_44 ?_
          refine Gd_iload (i := 5) rfl eX6_sponsored_47 ?_
          refine Gd_ialdE (v := nI (φ 5 q)) (F_s6 hF) (by first | omega | decide) (FA_ca hA (p := q) (by first | omega | decide) :) eX6_sponsored_49 ?_
          refine Gd_goto eX6_sponsored_50 ?_
          refine Gd_iorN eX6_sponsored_54 ?_
          refine Gd_istore4 rfl eX6_sponsored_55 ?_
          refine Gd_iinc5 (ho := rfl) (he := nI_inc _) eX6_sponsored_57 ?_
          refine Gd_goto eX6_sponsored_60 ?_
          exact x_sponsored_L hW hF hA hI h35 hpn h36 n (q + 1) (hld φ ts cd p q ||| φ 5 q) (by omega) (by rw [hld, if_pos ⟨by rw [← fx_dst c19]; omega, by rw [← wm_bit φ ts cd c19]; exact c40⟩]) kq
theorem x_sponsored {sh : List (Nat × Nat)} {a : Nat → Nat → Int32} {r : Nat → Nat → Option Nat} {g : Nat → Nat → Int64} {φ ts cd : Nat → Nat → Nat} {nt f : Nat} (hW : WD sh r) (hF : isF sh r f) (hf : f ≤ 17) (hA : FA f φ a) (hI : FI φ) (hT : TX nt ts cd sh a r) (hTI : TI nt ts cd) (hlt : φ 7 2 < nt) (hJ : FJ φ) {p : Nat} (hpn : p < φ 7 3) : Mt YX6_sponsored 5 0 0 [vr 35, vr 31, vr f, vi (nI p)] (sh, a, r, g) (g_EV sh r g (vi (nI (spm φ ts cd p 10))) (fun a' => chg scV a a')) := by
  refine Mt_of rfl (Nat.le_of_ble_eq_true rfl) rfl ?_
  refine Gd_aload_n (i := 0) rfl eX6_sponsored_0 ?_
  refine Gd_aload_n (i := 1) rfl eX6_sponsored_1 ?_
  refine Gd_aload_n (i := 2) rfl eX6_sponsored_2 ?_
  refine Gd_iload_n (i := 3) rfl eX6_sponsored_3 ?_
  refine Gd_callE0 (g_cV (x_measure hW hF hf hA hI hT hTI hlt hJ hpn) ok_X6_measure lk_RX6_36 (W_s35 hW) ⟨_, _, rfl⟩ rfl rfl (Nat.le_of_ble_eq_true rfl) (Nat.le_of_ble_eq_true rfl) (Nat.le_refl _) (Nat.le_refl _) eX6_sponsored_4) (fun a2 hq => ?_)
  obtain ⟨h35, h36, hq⟩ := hq
  refine Gd_iconst ki_0 eX6_sponsored_7 ?_
  refine Gd_istore4 rfl eX6_sponsored_8 ?_
  refine Gd_iconst ki_0 eX6_sponsored_10 ?_
  refine Gd_istore5 rfl eX6_sponsored_11 ?_
  exact x_sponsored_L hW hF (FA_V hA hf hq) hI h35 hpn h36 (φ 7 3) 0 0 (by omega) rfl ⟨a2, rfl, rfl, hq⟩
theorem x_allS_L {sh : List (Nat × Nat)} {r : Nat → Nat → Option Nat} {g : Nat → Nat → Int64} {φ ts cd : Nat → Nat → Nat} {nt f : Nat} (hW : WD sh r) (hF : isF sh r f) (hf : f ≤ 17) (hI : FI φ) (hTI : TI nt ts cd) (hlt : φ 7 2 < nt) (hJ : FJ φ) {Q : Option g_V → g_H → Prop} {N0 : Nat} {a0 : Nat → Nat → Int32} : ∀ (n q b : Nat) (a : Nat → Nat → Int32), q + n = φ 7 3 → b = alls φ ts cd q → FA f φ a → TX nt ts cd sh a r → chg scV a0 a → (∀ a', chg scV a0 a' → Q (some (vi (nI (alls φ ts cd (φ 7 3))))) (sh, a', r, g)) → Gd YX6_allSponsored (z0 6 N0 Q) 0 0 5 [some (vr 35), some (vr 31), some (vr f), some (vi (nI b)), some (vi (nI q))] [] (sh, a, r, g)
  | 0, q, b, a, hn, hb, hA, hT, hc, kq => by
    subst hb
    have hhu := FI_hu hI
    refine Gd_iload (i := 4) rfl eX6_allSponsored_5 ?_
    refine Gd_aload_n (i := 2) rfl eX6_allSponsored_7 ?_
    refine Gd_getIe (v := nI (φ 7 3)) fl_RX6_19 (F_s0 hF) (FA_hu hA :) eX6_allSponsored_8 ?_
    refine Gd_icmp_geN (by first | omega | decide) (by first | omega | decide) eX6_allSponsored_11 (fun c11 => ?_) (fun c11 => ?_)
    · refine Gd_iload_n (i := 3) rfl eX6_allSponsored_34 ?_
      exact Gd_ireturn eX6_allSponsored_35 rfl (Nat.le_refl _) (Nat.le_refl _) (by rw [show φ 7 3 = q by omega] at kq; exact kq _ hc)
    · exact absurd c11 (by omega)
  | n + 1, q, b, a, hn, hb, hA, hT, hc, kq => by
    subst hb
    have hhu := FI_hu hI
    refine Gd_iload (i := 4) rfl eX6_allSponsored_5 ?_
    refine Gd_aload_n (i := 2) rfl eX6_allSponsored_7 ?_
    refine Gd_getIe (v := nI (φ 7 3)) fl_RX6_19 (F_s0 hF) (FA_hu hA :) eX6_allSponsored_8 ?_
    refine Gd_icmp_geN (by first | omega | decide) (by first | omega | decide) eX6_allSponsored_11 (fun c11 => ?_) (fun c11 => ?_)
    · exact absurd c11 (by omega)
    · refine Gd_iload_n (i := 3) rfl eX6_allSponsored_14 ?_
      refine Gd_aload_n (i := 0) rfl eX6_allSponsored_15 ?_
      refine Gd_aload_n (i := 1) rfl eX6_allSponsored_16 ?_
      refine Gd_aload_n (i := 2) rfl eX6_allSponsored_17 ?_
      refine Gd_iload (i := 4) rfl eX6_allSponsored_18 ?_
      refine Gd_callEV (g_cV (x_sponsored hW hF hf hA hI hT hTI hlt hJ (p := q) (by first | omega | decide)) ok_X6_sponsored lk_RX6_60 (W_s35 hW) ⟨_, _, rfl⟩ rfl rfl (Nat.le_of_ble_eq_true rfl) (Nat.le_of_ble_eq_true rfl) (Nat.le_refl _) (Nat.le_refl _) eX6_allSponsored_20) (fun a2 hq => ?_)
      have hsm := spm1024 (φ := φ) (ts := ts) (cd := cd) (p := q)
      refine Gd_callP (g_cS (x_bitCount (n := spm φ ts cd q 10) (by first | omega | decide)) ok_J6_bitCount_0f7a4 lk_RX6_64 rfl rfl (Nat.le_of_ble_eq_true rfl) (Nat.le_of_ble_eq_true rfl) (Nat.le_refl _) (Nat.le_refl _) eX6_allSponsored_23) ?_
      refine Gd_iaddN eX6_allSponsored_26 ?_
      refine Gd_istore_n3 rfl eX6_allSponsored_27 ?_
      refine Gd_iinc4 (ho := rfl) (he := nI_inc _) eX6_allSponsored_28 ?_
      refine Gd_goto eX6_allSponsored_31 ?_
      exact x_allS_L hW hF hf hI hTI hlt hJ n (q + 1) _ a2 (by omega) rfl (FA_V hA hf hq) (TX_V hT hq) (chg_tr hc hq) kq
theorem x_allSponsored {sh : List (Nat × Nat)} {a : Nat → Nat → Int32} {r : Nat → Nat → Option Nat} {g : Nat → Nat → Int64} {φ ts cd : Nat → Nat → Nat} {nt f : Nat} (hW : WD sh r) (hF : isF sh r f) (hf : f ≤ 17) (hA : FA f φ a) (hI : FI φ) (hT : TX nt ts cd sh a r) (hTI : TI nt ts cd) (hlt : φ 7 2 < nt) (hJ : FJ φ) : Mt YX6_allSponsored 6 0 0 [vr 35, vr 31, vr f] (sh, a, r, g) (g_EV sh r g (vi (nI (alls φ ts cd (φ 7 3)))) (fun a' => chg scV a a')) := by
  refine Mt_of rfl (Nat.le_of_ble_eq_true rfl) rfl ?_
  refine Gd_iconst ki_0 eX6_allSponsored_0 ?_
  refine Gd_istore_n3 rfl eX6_allSponsored_1 ?_
  refine Gd_iconst ki_0 eX6_allSponsored_2 ?_
  refine Gd_istore4 rfl eX6_allSponsored_3 ?_
  exact x_allS_L hW hF hf hI hTI hlt hJ (φ 7 3) 0 0 a (by omega) rfl hA hT chg_rf (fun a' k1 => ⟨a', rfl, rfl, k1⟩)
theorem m_allS_L {sh : List (Nat × Nat)} {r : Nat → Nat → Option Nat} {g : Nat → Nat → Int64} {φ ts cd : Nat → Nat → Nat} {nt : Nat} (hW : WD sh r) (hI : FI φ) (hTI : TI nt ts cd) (hlt : φ 7 2 < nt) (hJ : FJ φ) {Q : Option g_V → g_H → Prop} {N0 : Nat} {a0 : Nat → Nat → Int32} : ∀ (n q b : Nat) (a : Nat → Nat → Int32), q + n = φ 7 3 → b = alls φ ts cd q → MA φ a → TM nt ts cd a → chg scW a0 a → (∀ a', chg scW a0 a' → Q (some (vi (nI (alls φ ts cd (φ 7 3))))) (sh, a', r, g)) → Gd YX8_sponsoredAll (z0 7 N0 Q) 0 0 4 [some (vr 50), some (vi (nI b)), some (vi (nI q))] [] (sh, a, r, g)
  | 0, q, b, a, hn, hb, hM, hT, hc, kq => by
    subst hb
    have hhu := FI_hu hI
    refine Gd_iload_n (i := 2) rfl eX8_sponsoredAll_4 ?_
    refine Gd_aload_n (i := 0) rfl eX8_sponsoredAll_5 ?_
    refine Gd_getIe (v := nI (φ 7 3)) fl_RX8_81 (W_s50 hW) (MA_hu hM :) eX8_sponsoredAll_6 ?_
    refine Gd_icmp_geN (by first | omega | decide) (by first | omega | decide) eX8_sponsoredAll_9 (fun c9 => ?_) (fun c9 => ?_)
    · refine Gd_iload_n (i := 1) rfl eX8_sponsoredAll_29 ?_
      exact Gd_ireturn eX8_sponsoredAll_30 rfl (Nat.le_refl _) (Nat.le_refl _) (by rw [show φ 7 3 = q by omega] at kq; exact kq _ hc)
    · exact absurd c9 (by omega)
  | n + 1, q, b, a, hn, hb, hM, hT, hc, kq => by
    subst hb
    have hhu := FI_hu hI
    refine Gd_iload_n (i := 2) rfl eX8_sponsoredAll_4 ?_
    refine Gd_aload_n (i := 0) rfl eX8_sponsoredAll_5 ?_
    refine Gd_getIe (v := nI (φ 7 3)) fl_RX8_81 (W_s50 hW) (MA_hu hM :) eX8_sponsoredAll_6 ?_
    refine Gd_icmp_geN (by first | omega | decide) (by first | omega | decide) eX8_sponsoredAll_9 (fun c9 => ?_) (fun c9 => ?_)
    · exact absurd c9 (by omega)
    · refine Gd_iload_n (i := 1) rfl eX8_sponsoredAll_12 ?_
      refine Gd_aload_n (i := 0) rfl eX8_sponsoredAll_13 ?_
      refine Gd_iload_n (i := 2) rfl eX8_sponsoredAll_14 ?_
      refine Gd_callEV (g_cV (m_sponsored hW hM hI hT hTI hlt hJ (p := q) (by first | omega | decide)) ok_X8_sponsored lk_RX8_223 (W_s50 hW) ⟨_, _, rfl⟩ rfl rfl (Nat.le_of_ble_eq_true rfl) (Nat.le_of_ble_eq_true rfl) (Nat.le_refl _) (Nat.le_refl _) eX8_sponsoredAll_15) (fun a2 hq => ?_)
      have hsm := spm1024 (φ := φ) (ts := ts) (cd := cd) (p := q)
      refine Gd_callP (g_cS (m_bitsOf (n := spm φ ts cd q 10) (by first | omega | decide)) ok_X8_bitsOf lk_RX8_92 rfl rfl (Nat.le_of_ble_eq_true rfl) (Nat.le_of_ble_eq_true rfl) (Nat.le_refl _) (Nat.le_refl _) eX8_sponsoredAll_18) ?_
      refine Gd_iaddN eX8_sponsoredAll_21 ?_
      refine Gd_istore_n1 rfl eX8_sponsoredAll_22 ?_
      refine Gd_iinc2 (ho := rfl) (he := nI_inc _) eX8_sponsoredAll_23 ?_
      refine Gd_goto eX8_sponsoredAll_26 ?_
      exact m_allS_L hW hI hTI hlt hJ n (q + 1) _ a2 (by omega) rfl (MA_W hM hq) (TM_W hT hq) (chg_tr hc hq) kq
theorem m_sponsoredAll {sh : List (Nat × Nat)} {a : Nat → Nat → Int32} {r : Nat → Nat → Option Nat} {g : Nat → Nat → Int64} {φ ts cd : Nat → Nat → Nat} {nt : Nat} (hW : WD sh r) (hM : MA φ a) (hI : FI φ) (hT : TM nt ts cd a) (hTI : TI nt ts cd) (hlt : φ 7 2 < nt) (hJ : FJ φ) : Mt YX8_sponsoredAll 7 0 0 [vr 50] (sh, a, r, g) (g_EV sh r g (vi (nI (alls φ ts cd (φ 7 3)))) (fun a' => chg scW a a')) := by
  refine Mt_of rfl (Nat.le_of_ble_eq_true rfl) rfl ?_
  refine Gd_iconst ki_0 eX8_sponsoredAll_0 ?_
  refine Gd_istore_n1 rfl eX8_sponsoredAll_1 ?_
  refine Gd_iconst ki_0 eX8_sponsoredAll_2 ?_
  refine Gd_istore_n2 rfl eX8_sponsoredAll_3 ?_
  exact m_allS_L hW hI hTI hlt hJ (φ 7 3) 0 0 a (by omega) rfl hM hT chg_rf (fun a' k1 => ⟨a', rfl, rfl, k1⟩)
