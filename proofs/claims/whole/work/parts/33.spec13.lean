theorem m_far_S {sh : List (Nat × Nat)} {r : Nat → Nat → Option Nat} {g : Nat → Nat → Int64} {φ ts cd : Nat → Nat → Nat} (hW : WD sh r) (hI : FI φ) (hJ : FJ φ) {p : Nat} (hp : p < 6) {Q : Option g_V → g_H → Prop} {N0 : Nat} {a0 : Nat → Nat → Int32} : ∀ (n k : Nat) (a : Nat → Nat → Int32) (x3 x4 x5 : Option g_V), k + n = 5 → MA φ a → a 50 32 = nI (wm φ ts cd (φ 7 3)) → (∀ v', v' < 6 → a 68 v' = nI (fr φ ts cd p (k + 1) v')) → chg (sR 68) a0 a → (∀ (a' : Nat → Nat → Int32), (∀ v', v' < 6 → a' 68 v' = nI (fr φ ts cd p 6 v')) → chg (sR 68) a0 a' → Q none (sh, a', r, g)) → Gd YX8_tellsFar (z0 1 N0 Q) 0 0 50 [some (vr 50), some (vi (nI p)), some (vi (nI (k + 1))), x3, x4, x5] [] (sh, a, r, g)
  | 0, k, a, x3, x4, x5, hn, hM, h32, h68, hc, kq => by
    have hhu := FI_hu hI
    refine Gd_iload_n (i := 2) rfl eX8_tellsFar_50 ?_
    refine Gd_bipush kb_6 eX8_tellsFar_51 ?_
    refine Gd_icmp_geN (by first | omega | decide) (by first | omega | decide) eX8_tellsFar_53 (fun c53 => ?_) (fun c53 => ?_)
    · obtain rfl : k = 5 := by omega
      exact Gd_return eX8_tellsFar_168 rfl (Nat.le_refl _) (Nat.le_refl _) (kq _ h68 hc)
    · exact absurd c53 (by omega)
  | n + 1, k, a, x3, x4, x5, hn, hM, h32, h68, hc, kq => by
    have hhu := FI_hu hI
    refine Gd_iload_n (i := 2) rfl eX8_tellsFar_50 ?_
    refine Gd_bipush kb_6 eX8_tellsFar_51 ?_
    refine Gd_icmp_geN (by first | omega | decide) (by first | omega | decide) eX8_tellsFar_53 (fun c53 => ?_) (fun c53 => ?_)
    · exact absurd c53 (by omega)
    · refine Gd_iconst ki_0 eX8_tellsFar_56 ?_
      refine Gd_istore_n3 rfl eX8_tellsFar_57 ?_
      refine m_far_U hW hI hJ hp (k := k) (by omega) (φ 7 3) 0 a _ _ (by omega) hM h32 (fun v1 h1 => by rw [mid_0]; exact h68 v1 h1) (fun a2 y4 y5 k1 k2 => ?_)
      refine Gd_iinc2 (ho := rfl) (he := nI_inc _) eX8_tellsFar_162 ?_
      refine Gd_goto eX8_tellsFar_165 ?_
      exact m_far_S hW hI hJ hp n (k + 1) a2 _ _ _ (by omega) (MA_ch hM k2 (fun _ _ => sR_M (by decide))) ((k2 _ _ rfl).trans h32) (fun v1 h1 => by rw [← mid_H hJ hp]; exact k1 v1 h1) (chg_tr hc k2) kq
theorem m_far_I {sh : List (Nat × Nat)} {r : Nat → Nat → Option Nat} {g : Nat → Nat → Int64} {φ ts cd : Nat → Nat → Nat} (hW : WD sh r) (hI : FI φ) (hJ : FJ φ) {p : Nat} (hp : p < 6) {Q : Option g_V → g_H → Prop} {N0 : Nat} {a0 : Nat → Nat → Int32} : ∀ (n v : Nat) (a : Nat → Nat → Int32), v + n = 6 → MA φ a → a 50 32 = nI (wm φ ts cd (φ 7 3)) → (∀ v', v' < v → a 68 v' = nI (fr φ ts cd p 1 v')) → chg (sR 68) a0 a → (∀ (a' : Nat → Nat → Int32), (∀ v', v' < 6 → a' 68 v' = nI (fr φ ts cd p 6 v')) → chg (sR 68) a0 a' → Q none (sh, a', r, g)) → Gd YX8_tellsFar (z0 1 N0 Q) 0 0 2 [some (vr 50), some (vi (nI p)), some (vi (nI v)), none, none, none] [] (sh, a, r, g)
  | 0, v, a, hn, hM, h32, h68, hc, kq => by
    have hhu := FI_hu hI
    refine Gd_iload_n (i := 2) rfl eX8_tellsFar_2 ?_
    refine Gd_bipush kb_6 eX8_tellsFar_3 ?_
    refine Gd_icmp_geN (by first | omega | decide) (by first | omega | decide) eX8_tellsFar_5 (fun c5 => ?_) (fun c5 => ?_)
    · refine Gd_iconst ki_1 eX8_tellsFar_48 ?_
      refine Gd_istore_n2 rfl eX8_tellsFar_49 ?_
      exact m_far_S hW hI hJ hp 5 0 a _ _ _ (by omega) hM h32 (fun v1 h1 => h68 v1 (by omega)) hc kq
    · exact absurd c5 (by omega)
  | n + 1, v, a, hn, hM, h32, h68, hc, kq => by
    have hhu := FI_hu hI
    refine Gd_iload_n (i := 2) rfl eX8_tellsFar_2 ?_
    refine Gd_bipush kb_6 eX8_tellsFar_3 ?_
    refine Gd_icmp_geN (by first | omega | decide) (by first | omega | decide) eX8_tellsFar_5 (fun c5 => ?_) (fun c5 => ?_)
    · exact absurd c5 (by omega)
    · refine Gd_aload_n (i := 0) rfl eX8_tellsFar_8 ?_
      refine Gd_getR fl_RX8_65 (W_s50 hW) (W_r50_31 hW) eX8_tellsFar_9 ?_
      refine Gd_iload_n (i := 2) rfl eX8_tellsFar_12 ?_
      refine Gd_iload_n (i := 2) rfl eX8_tellsFar_13 ?_
      refine Gd_aload_n (i := 0) rfl eX8_tellsFar_14 ?_
      refine Gd_getIe (v := nI (φ 7 3)) fl_RX8_81 (W_s50 hW) (MA_hu hM :) eX8_tellsFar_15 ?_
      refine Gd_icmp_geN (by first | omega | decide) (by first | omega | decide) eX8_tellsFar_18 (fun c18 => ?_) (fun c18 => ?_)
      · refine Gd_bipush kb_9 eX8_tellsFar_39 ?_
        refine Gd_iastN (W_s68 hW) (by first | omega | decide) eX8_tellsFar_41 ?_
        refine Gd_iinc2 (ho := rfl) (he := nI_inc _) eX8_tellsFar_42 ?_
        refine Gd_goto eX8_tellsFar_45 ?_
        exact m_far_I hW hI hJ hp n (v + 1) (up2 a 68 v (nI 9)) (by omega) (MA_row (by decide) hM) ((chg_row _ _ rfl).trans h32) (up_ext0 (f := fun v => nI (fr φ ts cd p 1 v)) h68 (by rw [fr1_n (Or.inl c18)])) (chg_up hc (by simp [sR])) kq
      · refine Gd_iload_n (i := 2) rfl eX8_tellsFar_21 ?_
        refine Gd_iload_n (i := 1) rfl eX8_tellsFar_22 ?_
        refine Gd_icmp_eqN (by first | omega | decide) (by first | omega | decide) eX8_tellsFar_23 (fun c23 => ?_) (fun c23 => ?_)
        · refine Gd_bipush kb_9 eX8_tellsFar_39 ?_
          refine Gd_iastN (W_s68 hW) (by first | omega | decide) eX8_tellsFar_41 ?_
          refine Gd_iinc2 (ho := rfl) (he := nI_inc _) eX8_tellsFar_42 ?_
          refine Gd_goto eX8_tellsFar_45 ?_
          exact m_far_I hW hI hJ hp n (v + 1) (up2 a 68 v (nI 9)) (by omega) (MA_row (by decide) hM) ((chg_row _ _ rfl).trans h32) (up_ext0 (f := fun v => nI (fr φ ts cd p 1 v)) h68 (by rw [fr1_n (Or.inr (by rw [c23]; exact hJ p hp))])) (chg_up hc (by simp [sR])) kq
        · refine Gd_aload_n (i := 0) rfl eX8_tellsFar_26 ?_
          refine Gd_iload_n (i := 1) rfl eX8_tellsFar_27 ?_
          refine Gd_iload_n (i := 2) rfl eX8_tellsFar_28 ?_
          refine Gd_callP (g_cV (m_haveMet hW hM hI (by first | omega | decide) (by first | omega | decide)) ok_X8_haveMet lk_RX8_192 (W_s50 hW) ⟨_, _, rfl⟩ rfl rfl (Nat.le_of_ble_eq_true rfl) (Nat.le_of_ble_eq_true rfl) (Nat.le_refl _) (Nat.le_refl _) eX8_tellsFar_29) ?_
          refine Gd_if_eqB eX8_tellsFar_32 (fun c32 => ?_) (fun c32 => ?_)
          · refine Gd_bipush kb_9 eX8_tellsFar_39 ?_
            refine Gd_iastN (W_s68 hW) (by first | omega | decide) eX8_tellsFar_41 ?_
            refine Gd_iinc2 (ho := rfl) (he := nI_inc _) eX8_tellsFar_42 ?_
            refine Gd_goto eX8_tellsFar_45 ?_
            exact m_far_I hW hI hJ hp n (v + 1) (up2 a 68 v (nI 9)) (by omega) (MA_row (by decide) hM) ((chg_row _ _ rfl).trans h32) (up_ext0 (f := fun v => nI (fr φ ts cd p 1 v)) h68 (by rw [fr1_n (Or.inr c32)])) (chg_up hc (by simp [sR])) kq
          · refine Gd_iconst ki_1 eX8_tellsFar_35 ?_
            refine Gd_goto eX8_tellsFar_36 ?_
            refine Gd_iastN (W_s68 hW) (by first | omega | decide) eX8_tellsFar_41 ?_
            refine Gd_iinc2 (ho := rfl) (he := nI_inc _) eX8_tellsFar_42 ?_
            refine Gd_goto eX8_tellsFar_45 ?_
            exact m_far_I hW hI hJ hp n (v + 1) (up2 a 68 v (nI 1)) (by omega) (MA_row (by decide) hM) ((chg_row _ _ rfl).trans h32) (up_ext0 (f := fun v => nI (fr φ ts cd p 1 v)) h68 (by rw [fr1_y (by omega) c32])) (chg_up hc (by simp [sR])) kq
theorem m_tellsFar {sh : List (Nat × Nat)} {a : Nat → Nat → Int32} {r : Nat → Nat → Option Nat} {g : Nat → Nat → Int64} {φ ts cd : Nat → Nat → Nat} (hW : WD sh r) (hM : MA φ a) (hI : FI φ) (hJ : FJ φ) (h32 : a 50 32 = nI (wm φ ts cd (φ 7 3))) {p : Nat} (hp : p < 6) : Mt YX8_tellsFar 1 0 0 [vr 50, vi (nI p)] (sh, a, r, g) (g_E0 sh r g (fun a' => (∀ v', v' < 6 → a' 68 v' = nI (fr φ ts cd p 6 v')) ∧ chg (sR 68) a a')) := by
  refine Mt_of rfl (Nat.le_of_ble_eq_true rfl) rfl ?_
  refine Gd_iconst ki_0 eX8_tellsFar_0 ?_
  refine Gd_istore_n2 rfl eX8_tellsFar_1 ?_
  exact m_far_I hW hI hJ hp 6 0 a (by omega) hM h32 (fun v1 h1 => absurd h1 (by omega)) chg_rf (fun a' k1 k2 => ⟨a', rfl, rfl, k1, k2⟩)
theorem m_spb_L {sh : List (Nat × Nat)} {a : Nat → Nat → Int32} {r : Nat → Nat → Option Nat} {g : Nat → Nat → Int64} {φ ts cd : Nat → Nat → Nat} (hW : WD sh r) (hM : MA φ a) (hI : FI φ) (hJ : FJ φ) (h32 : a 50 32 = nI (wm φ ts cd (φ 7 3))) {p d : Nat} (hp : p < 6) (hd : d < 10) (h68 : ∀ v, v < 6 → a 68 v = nI (fr φ ts cd p 6 v)) {Q : Option g_V → g_H → Prop} {N0 : Nat} : ∀ (n q : Nat) (s3 s4 : Int32) (x6 : Option g_V), q + n = φ 7 3 → s3 = spi (spb φ ts cd p d q) → s4 = nI (bf φ ts cd p (spb φ ts cd p d q)) → Q (some (vi (spi (spb φ ts cd p d (φ 7 3))))) (sh, a, r, g) → Gd YX8_sponsorBy (z0 1 N0 Q) 0 0 28 [some (vr 50), some (vi (nI p)), some (vi (nI d)), some (vi s3), some (vi s4), some (vi (nI q)), x6] [] (sh, a, r, g)
  | 0, q, s3, s4, x6, hn, h3, h4, kq => by
    have hhu := FI_hu hI
    have hwb := wm64 φ ts cd hhu
    have hfl := fr_le (φ := φ) (ts := ts) (cd := cd) (p := p) q
    have hbl := bf_le (φ := φ) (ts := ts) (cd := cd) (p := p) (spb φ ts cd p d q)
    subst h4
    refine Gd_iload (i := 5) rfl eX8_sponsorBy_28 ?_
    refine Gd_aload_n (i := 0) rfl eX8_sponsorBy_30 ?_
    refine Gd_getIe (v := nI (φ 7 3)) fl_RX8_81 (W_s50 hW) (MA_hu hM :) eX8_sponsorBy_31 ?_
    refine Gd_icmp_geN (by first | omega | decide) (by first | omega | decide) eX8_sponsorBy_34 (fun c34 => ?_) (fun c34 => ?_)
    · refine Gd_iload_n (i := 3) rfl eX8_sponsorBy_108 ?_
      exact Gd_ireturn eX8_sponsorBy_109 rfl (Nat.le_refl _) (Nat.le_refl _) (by subst h3; rw [show φ 7 3 = q by omega] at kq; exact kq)
    · exact absurd c34 (by omega)
  | n + 1, q, s3, s4, x6, hn, h3, h4, kq => by
    have hhu := FI_hu hI
    have hwb := wm64 φ ts cd hhu
    have hfl := fr_le (φ := φ) (ts := ts) (cd := cd) (p := p) q
    have hbl := bf_le (φ := φ) (ts := ts) (cd := cd) (p := p) (spb φ ts cd p d q)
    subst h4
    refine Gd_iload (i := 5) rfl eX8_sponsorBy_28 ?_
    refine Gd_aload_n (i := 0) rfl eX8_sponsorBy_30 ?_
    refine Gd_getIe (v := nI (φ 7 3)) fl_RX8_81 (W_s50 hW) (MA_hu hM :) eX8_sponsorBy_31 ?_
    refine Gd_icmp_geN (by first | omega | decide) (by first | omega | decide) eX8_sponsorBy_34 (fun c34 => ?_) (fun c34 => ?_)
    · exact absurd c34 (by omega)
    · refine Gd_iload (i := 5) rfl eX8_sponsorBy_37 ?_
      refine Gd_iload_n (i := 1) rfl eX8_sponsorBy_39 ?_
      refine Gd_icmp_eqN (by first | omega | decide) (by first | omega | decide) eX8_sponsorBy_40 (fun c40 => ?_) (fun c40 => ?_)
      · refine Gd_iconst ki_0 eX8_sponsorBy_70 ?_
        refine Gd_istore6 rfl eX8_sponsorBy_71 ?_
        refine Gd_iload (i := 6) rfl eX8_sponsorBy_73 ?_
        refine Gd_if_eq eX8_sponsorBy_75 (fun _ => ?_) (fun q => by first | exact absurd q (by decide) | exact absurd (by decide) q)
        refine Gd_iinc5 (ho := rfl) (he := nI_inc _) eX8_sponsorBy_102 ?_
        refine Gd_goto eX8_sponsorBy_105 ?_
        have hs : spb φ ts cd p d (q + 1) = _ := spb_n (Or.inl (by rw [c40]; exact dst_p hJ hp 6))
        exact m_spb_L hW hM hI hJ h32 hp hd h68 n (q + 1) _ _ _ (by omega) (by rw [hs]; exact h3) (by rw [hs]) kq
      · refine Gd_aload_n (i := 0) rfl eX8_sponsorBy_43 ?_
        refine Gd_getIe (v := nI (wm φ ts cd (φ 7 3))) fl_RX8_202 (W_s50 hW) h32 eX8_sponsorBy_44 ?_
        refine Gd_iload (i := 5) rfl eX8_sponsorBy_47 ?_
        refine Gd_ishr eX8_sponsorBy_49 ?_
        refine Gd_iconst ki_1 eX8_sponsorBy_50 ?_
        refine Gd_iandB (by first | omega | decide) (by first | omega | decide) eX8_sponsorBy_51 ?_
        refine Gd_iconst ki_1 eX8_sponsorBy_52 ?_
        refine Gd_icmp_neB1 eX8_sponsorBy_53 (fun c53 => ?_) (fun c53 => ?_)
        · refine Gd_iconst ki_0 eX8_sponsorBy_70 ?_
          refine Gd_istore6 rfl eX8_sponsorBy_71 ?_
          refine Gd_iload (i := 6) rfl eX8_sponsorBy_73 ?_
          refine Gd_if_eq eX8_sponsorBy_75 (fun _ => ?_) (fun q => by first | exact absurd q (by decide) | exact absurd (by decide) q)
          refine Gd_iinc5 (ho := rfl) (he := nI_inc _) eX8_sponsorBy_102 ?_
          refine Gd_goto eX8_sponsorBy_105 ?_
          have hs : spb φ ts cd p d (q + 1) = _ := spb_n (Or.inr (Or.inl (by rw [← wm_bit φ ts cd c34]; exact c53)))
          exact m_spb_L hW hM hI hJ h32 hp hd h68 n (q + 1) _ _ _ (by omega) (by rw [hs]; exact h3) (by rw [hs]) kq
        · refine Gd_aload_n (i := 0) rfl eX8_sponsorBy_56 ?_
          refine Gd_iload (i := 5) rfl eX8_sponsorBy_57 ?_
          refine Gd_iload_n (i := 2) rfl eX8_sponsorBy_59 ?_
          refine Gd_callP (g_cV (m_isCard hW hM hI (by first | omega | decide) (by first | omega | decide)) ok_X8_isCard lk_RX8_112 (W_s50 hW) ⟨_, _, rfl⟩ rfl rfl (Nat.le_of_ble_eq_true rfl) (Nat.le_of_ble_eq_true rfl) (Nat.le_refl _) (Nat.le_refl _) eX8_sponsorBy_60) ?_
          refine Gd_if_eqB eX8_sponsorBy_63 (fun c63 => ?_) (fun c63 => ?_)
          · refine Gd_iconst ki_0 eX8_sponsorBy_70 ?_
            refine Gd_istore6 rfl eX8_sponsorBy_71 ?_
            refine Gd_iload (i := 6) rfl eX8_sponsorBy_73 ?_
            refine Gd_if_eq eX8_sponsorBy_75 (fun _ => ?_) (fun q => by first | exact absurd q (by decide) | exact absurd (by decide) q)
            refine Gd_iinc5 (ho := rfl) (he := nI_inc _) eX8_sponsorBy_102 ?_
            refine Gd_goto eX8_sponsorBy_105 ?_
            have hs : spb φ ts cd p d (q + 1) = _ := spb_n (Or.inr (Or.inr c63))
            exact m_spb_L hW hM hI hJ h32 hp hd h68 n (q + 1) _ _ _ (by omega) (by rw [hs]; exact h3) (by rw [hs]) kq
          · refine Gd_iconst ki_1 eX8_sponsorBy_66 ?_
            refine Gd_goto eX8_sponsorBy_67 ?_
            refine Gd_istore6 rfl eX8_sponsorBy_71 ?_
            refine Gd_iload (i := 6) rfl eX8_sponsorBy_73 ?_
            refine Gd_if_eq eX8_sponsorBy_75 (fun q => by first | exact absurd q (by decide) | exact absurd (by decide) q) (fun _ => ?_)
            refine Gd_aload_n (i := 0) rfl eX8_sponsorBy_78 ?_
            refine Gd_getR fl_RX8_65 (W_s50 hW) (W_r50_31 hW) eX8_sponsorBy_79 ?_
            refine Gd_iload (i := 5) rfl eX8_sponsorBy_82 ?_
            refine Gd_ialdE (v := nI (fr φ ts cd p 6 q)) (W_s68 hW) (by first | omega | decide) (h68 q (by omega) :) eX8_sponsorBy_84 ?_
            refine Gd_iload (i := 4) rfl eX8_sponsorBy_85 ?_
            refine Gd_icmp_geN (by first | omega | decide) (by first | omega | decide) eX8_sponsorBy_87 (fun c87 => ?_) (fun c87 => ?_)
            · refine Gd_iinc5 (ho := rfl) (he := nI_inc _) eX8_sponsorBy_102 ?_
              refine Gd_goto eX8_sponsorBy_105 ?_
              have hs : spb φ ts cd p d (q + 1) = _ := spb_nf c34 (by omega)
              exact m_spb_L hW hM hI hJ h32 hp hd h68 n (q + 1) _ _ _ (by omega) (by rw [hs]; exact h3) (by rw [hs]) kq
            · refine Gd_iload (i := 5) rfl eX8_sponsorBy_90 ?_
              refine Gd_istore_n3 rfl eX8_sponsorBy_92 ?_
              refine Gd_aload_n (i := 0) rfl eX8_sponsorBy_93 ?_
              refine Gd_getR fl_RX8_65 (W_s50 hW) (W_r50_31 hW) eX8_sponsorBy_94 ?_
              refine Gd_iload (i := 5) rfl eX8_sponsorBy_97 ?_
              refine Gd_ialdE (v := nI (fr φ ts cd p 6 q)) (W_s68 hW) (by first | omega | decide) (h68 q (by omega) :) eX8_sponsorBy_99 ?_
              refine Gd_istore4 rfl eX8_sponsorBy_100 ?_
              refine Gd_iinc5 (ho := rfl) (he := nI_inc _) eX8_sponsorBy_102 ?_
              refine Gd_goto eX8_sponsorBy_105 ?_
              have hs : spb φ ts cd p d (q + 1) = _ := spb_y c34 (by rw [← wm_bit φ ts cd c34]; exact c53) c63 c87
              exact m_spb_L hW hM hI hJ h32 hp hd h68 n (q + 1) _ _ _ (by omega) (by rw [hs]; rfl) (by rw [hs]; rfl) kq
theorem m_sponsorBy {sh : List (Nat × Nat)} {a : Nat → Nat → Int32} {r : Nat → Nat → Option Nat} {g : Nat → Nat → Int64} {φ ts cd : Nat → Nat → Nat} (hW : WD sh r) (hM : MA φ a) (hI : FI φ) (hJ : FJ φ) (h32 : a 50 32 = nI (wm φ ts cd (φ 7 3))) {p d : Nat} (hp : p < 6) (hd : d < 10) (h68 : ∀ v, v < 6 → a 68 v = nI (fr φ ts cd p 6 v)) : Mt YX8_sponsorBy 1 0 0 [vr 50, vi (nI p), vi (nI d)] (sh, a, r, g) (g_P (some (vi (spo φ ts cd p d))) (sh, a, r, g)) := by
  refine Mt_of rfl (Nat.le_of_ble_eq_true rfl) rfl ?_
  refine Gd_aload_n (i := 0) rfl eX8_sponsorBy_0 ?_
  refine Gd_iload_n (i := 2) rfl eX8_sponsorBy_1 ?_
  refine Gd_callP (g_cV (m_isAlive hW hM hI (by first | omega | decide)) ok_X8_isAlive lk_RX8_208 (W_s50 hW) ⟨_, _, rfl⟩ rfl rfl (Nat.le_of_ble_eq_true rfl) (Nat.le_of_ble_eq_true rfl) (Nat.le_refl _) (Nat.le_refl _) eX8_sponsorBy_2) ?_
  refine Gd_if_eqB eX8_sponsorBy_5 (fun c5 => ?_) (fun c5 => ?_)
  · refine Gd_iconst ki_m1 eX8_sponsorBy_17 ?_
    exact Gd_ireturn eX8_sponsorBy_18 rfl (Nat.le_refl _) (Nat.le_refl _) ⟨by rw [spo, if_neg (by rw [c5]; simp)], rfl⟩
  · refine Gd_aload_n (i := 0) rfl eX8_sponsorBy_8 ?_
    refine Gd_iload_n (i := 1) rfl eX8_sponsorBy_9 ?_
    refine Gd_iload_n (i := 2) rfl eX8_sponsorBy_10 ?_
    refine Gd_callP (g_cV (m_isCard hW hM hI (by first | omega | decide) (by first | omega | decide)) ok_X8_isCard lk_RX8_112 (W_s50 hW) ⟨_, _, rfl⟩ rfl rfl (Nat.le_of_ble_eq_true rfl) (Nat.le_of_ble_eq_true rfl) (Nat.le_refl _) (Nat.le_refl _) eX8_sponsorBy_11) ?_
    refine Gd_if_eqB eX8_sponsorBy_14 (fun c14 => ?_) (fun c14 => ?_)
    · refine Gd_iconst ki_m1 eX8_sponsorBy_19 ?_
      refine Gd_istore_n3 rfl eX8_sponsorBy_20 ?_
      refine Gd_bipush kb_9 eX8_sponsorBy_21 ?_
      refine Gd_istore4 rfl eX8_sponsorBy_23 ?_
      refine Gd_iconst ki_0 eX8_sponsorBy_25 ?_
      refine Gd_istore5 rfl eX8_sponsorBy_26 ?_
      exact m_spb_L hW hM hI hJ h32 hp hd h68 (φ 7 3) 0 _ _ _ (by omega) rfl rfl ⟨by rw [spo, if_pos ⟨c5, c14⟩], rfl⟩
    · refine Gd_iconst ki_m1 eX8_sponsorBy_17 ?_
      exact Gd_ireturn eX8_sponsorBy_18 rfl (Nat.le_refl _) (Nat.le_refl _) ⟨by rw [spo, if_neg (by rw [c14]; simp)], rfl⟩
theorem m_sponsored_L {sh : List (Nat × Nat)} {a : Nat → Nat → Int32} {r : Nat → Nat → Option Nat} {g : Nat → Nat → Int64} {φ ts cd : Nat → Nat → Nat} (hW : WD sh r) (hM : MA φ a) (hI : FI φ) (hJ : FJ φ) (h32 : a 50 32 = nI (wm φ ts cd (φ 7 3))) {p : Nat} (hp : p < 6) (h68 : ∀ v, v < 6 → a 68 v = nI (fr φ ts cd p 6 v)) {Q : Option g_V → g_H → Prop} {N0 : Nat} : ∀ (n d b : Nat), d + n = 10 → b = spm φ ts cd p d → Q (some (vi (nI (spm φ ts cd p 10)))) (sh, a, r, g) → Gd YX8_sponsored (z0 6 N0 Q) 0 0 13 [some (vr 50), some (vi (nI p)), some (vi (nI b)), some (vi (nI d))] [] (sh, a, r, g)
  | 0, d, b, hn, hb, kq => by
    subst hb
    refine Gd_iload_n (i := 3) rfl eX8_sponsored_13 ?_
    refine Gd_bipush kb_10 eX8_sponsored_14 ?_
    refine Gd_icmp_geN (by first | omega | decide) (by first | omega | decide) eX8_sponsored_16 (fun c16 => ?_) (fun c16 => ?_)
    · refine Gd_iload_n (i := 2) rfl eX8_sponsored_45 ?_
      exact Gd_ireturn eX8_sponsored_46 rfl (Nat.le_refl _) (Nat.le_refl _) (by rw [show (10 : Nat) = d by omega] at kq; exact kq)
    · exact absurd c16 (by omega)
  | n + 1, d, b, hn, hb, kq => by
    subst hb
    refine Gd_iload_n (i := 3) rfl eX8_sponsored_13 ?_
    refine Gd_bipush kb_10 eX8_sponsored_14 ?_
    refine Gd_icmp_geN (by first | omega | decide) (by first | omega | decide) eX8_sponsored_16 (fun c16 => ?_) (fun c16 => ?_)
    · exact absurd c16 (by omega)
    · refine Gd_iload_n (i := 2) rfl eX8_sponsored_19 ?_
      refine Gd_aload_n (i := 0) rfl eX8_sponsored_20 ?_
      refine Gd_iload_n (i := 1) rfl eX8_sponsored_21 ?_
      refine Gd_iload_n (i := 3) rfl eX8_sponsored_22 ?_
      refine Gd_callP (g_cV (m_sponsorBy hW hM hI hJ h32 hp (by first | omega | decide) h68) ok_X8_sponsorBy lk_RX8_217 (W_s50 hW) ⟨_, _, rfl⟩ rfl rfl (Nat.le_of_ble_eq_true rfl) (Nat.le_of_ble_eq_true rfl) (Nat.le_refl _) (Nat.le_refl _) eX8_sponsored_23) ?_
      refine Gd_iconst ki_m1 eX8_sponsored_26 ?_
      refine Gd_icmp_ne eX8_sponsored_27 (fun c27 => ?_) (fun c27 => ?_)
      · refine Gd_iconst ki_1 eX8_sponsored_34 ?_
        refine Gd_iload_n (i := 3) rfl eX8_sponsored_35 ?_
        refine Gd_ishl1 (by first | omega | decide) eX8_sponsored_36 ?_
        refine Gd_iorN eX8_sponsored_37 ?_
        refine Gd_istore_n2 rfl eX8_sponsored_38 ?_
        refine Gd_iinc3 (ho := rfl) (he := nI_inc _) eX8_sponsored_39 ?_
        refine Gd_goto eX8_sponsored_42 ?_
        exact m_sponsored_L hW hM hI hJ h32 hp h68 n (d + 1) (spm φ ts cd p d ||| 2 ^ d) (by omega) (by rw [spm, if_neg c27]) kq
      · refine Gd_iconst ki_0 eX8_sponsored_30 ?_
        refine Gd_goto eX8_sponsored_31 ?_
        refine Gd_iorN eX8_sponsored_37 ?_
        refine Gd_istore_n2 rfl eX8_sponsored_38 ?_
        refine Gd_iinc3 (ho := rfl) (he := nI_inc _) eX8_sponsored_39 ?_
        refine Gd_goto eX8_sponsored_42 ?_
        exact m_sponsored_L hW hM hI hJ h32 hp h68 n (d + 1) (spm φ ts cd p d ||| 0) (by omega) (by rw [spm, if_pos c27]) kq
theorem m_sponsored {sh : List (Nat × Nat)} {a : Nat → Nat → Int32} {r : Nat → Nat → Option Nat} {g : Nat → Nat → Int64} {φ ts cd : Nat → Nat → Nat} {nt : Nat} (hW : WD sh r) (hM : MA φ a) (hI : FI φ) (hT : TM nt ts cd a) (hTI : TI nt ts cd) (hlt : φ 7 2 < nt) (hJ : FJ φ) {p : Nat} (hpn : p < φ 7 3) : Mt YX8_sponsored 6 0 0 [vr 50, vi (nI p)] (sh, a, r, g) (g_EV sh r g (vi (nI (spm φ ts cd p 10))) (fun a' => chg scW a a')) := by
  refine Mt_of rfl (Nat.le_of_ble_eq_true rfl) rfl ?_
  refine Gd_aload_n (i := 0) rfl eX8_sponsored_0 ?_
  refine Gd_callE0 (g_cV (m_tellsWilling hW hM hI hT hTI hlt) ok_X8_tellsWilling lk_RX8_211 (W_s50 hW) ⟨_, _, rfl⟩ rfl rfl (Nat.le_of_ble_eq_true rfl) (Nat.le_of_ble_eq_true rfl) (Nat.le_refl _) (Nat.le_refl _) eX8_sponsored_1) (fun a1 hq1 => ?_)
  obtain ⟨h32, hq1⟩ := hq1
  have hM := MA_sc hM hq1
  have hp6 : p < 6 := by have := FI_hu hI; omega
  refine Gd_aload_n (i := 0) rfl eX8_sponsored_4 ?_
  refine Gd_iload_n (i := 1) rfl eX8_sponsored_5 ?_
  refine Gd_callE0 (g_cV (m_tellsFar hW hM hI hJ h32 hp6) ok_X8_tellsFar lk_RX8_214 (W_s50 hW) ⟨_, _, rfl⟩ rfl rfl (Nat.le_of_ble_eq_true rfl) (Nat.le_of_ble_eq_true rfl) (Nat.le_refl _) (Nat.le_refl _) eX8_sponsored_6) (fun a2 hq2 => ?_)
  obtain ⟨h68, hq2⟩ := hq2
  refine Gd_iconst ki_0 eX8_sponsored_9 ?_
  refine Gd_istore_n2 rfl eX8_sponsored_10 ?_
  refine Gd_iconst ki_0 eX8_sponsored_11 ?_
  refine Gd_istore_n3 rfl eX8_sponsored_12 ?_
  exact m_sponsored_L hW (MA_ch hM hq2 (fun _ _ => sR_M (by decide))) hI hJ ((hq2 _ _ rfl).trans h32) hp6 h68 10 0 0 (by omega) rfl ⟨a2, rfl, rfl, chg_tr (chg_mono hq1 (fun k j => scW_M)) (chg_mono hq2 (fun k j => scW_68))⟩
