theorem m_circle_L {sh : List (Nat × Nat)} {a : Nat → Nat → Int32} {r : Nat → Nat → Option Nat} {g : Nat → Nat → Int64} {φ ts cd : Nat → Nat → Nat} {p : Nat} (hW : WD sh r) (hM : MA φ a) (hI : FI φ) (h68 : ∀ v, v < 6 → a 68 v = nI (fr φ ts cd p 6 v)) {nn : Nat} (hnl : nn ≤ 6) {Q : Option g_V → g_H → Prop} {N0 : Nat} : ∀ (n q b : Nat), q + n = φ 7 3 → b = cir φ ts cd p nn q → Q (some (vi (nI (cir φ ts cd p nn 6)))) (sh, a, r, g) → Gd YX8_circle (z0 6 N0 Q) 0 0 38 [some (vr 50), some (vi (nI p)), some (vi (nI nn)), some (vi (nI b)), some (vi (nI q))] [] (sh, a, r, g)
  | 0, q, b, hn, hb, kq => by
    subst hb
    have hhu := FI_hu hI
    have hfl := fr_le (φ := φ) (ts := ts) (cd := cd) (p := p) q
    refine Gd_iload (i := 4) rfl eX8_circle_38 ?_
    refine Gd_aload_n (i := 0) rfl eX8_circle_40 ?_
    refine Gd_getIe (v := nI (φ 7 3)) fl_RX8_81 (W_s50 hW) (MA_hu hM :) eX8_circle_41 ?_
    refine Gd_icmp_geN (by first | omega | decide) (by first | omega | decide) eX8_circle_44 (fun c44 => ?_) (fun c44 => ?_)
    · refine Gd_iload_n (i := 3) rfl eX8_circle_75 ?_
      exact Gd_ireturn eX8_circle_76 rfl (Nat.le_refl _) (Nat.le_refl _) (by rw [cir_6 hhu, show φ 7 3 = q by omega] at kq; exact kq)
    · exact absurd c44 (by omega)
  | n + 1, q, b, hn, hb, kq => by
    subst hb
    have hhu := FI_hu hI
    have hfl := fr_le (φ := φ) (ts := ts) (cd := cd) (p := p) q
    refine Gd_iload (i := 4) rfl eX8_circle_38 ?_
    refine Gd_aload_n (i := 0) rfl eX8_circle_40 ?_
    refine Gd_getIe (v := nI (φ 7 3)) fl_RX8_81 (W_s50 hW) (MA_hu hM :) eX8_circle_41 ?_
    refine Gd_icmp_geN (by first | omega | decide) (by first | omega | decide) eX8_circle_44 (fun c44 => ?_) (fun c44 => ?_)
    · exact absurd c44 (by omega)
    · refine Gd_iload_n (i := 3) rfl eX8_circle_47 ?_
      refine Gd_aload_n (i := 0) rfl eX8_circle_48 ?_
      refine Gd_getR fl_RX8_65 (W_s50 hW) (W_r50_31 hW) eX8_circle_49 ?_
      refine Gd_iload (i := 4) rfl eX8_circle_52 ?_
      refine Gd_ialdE (v := nI (fr φ ts cd p 6 q)) (W_s68 hW) (by first | omega | decide) (h68 q (by omega) :) eX8_circle_54 ?_
      refine Gd_iload_n (i := 2) rfl eX8_circle_55 ?_
      refine Gd_icmp_gtN (by first | omega | decide) (by first | omega | decide) eX8_circle_56 (fun c56 => ?_) (fun c56 => ?_)
      · refine Gd_iconst ki_0 eX8_circle_66 ?_
        refine Gd_iorN eX8_circle_67 ?_
        refine Gd_istore_n3 rfl eX8_circle_68 ?_
        refine Gd_iinc4 (ho := rfl) (he := nI_inc _) eX8_circle_69 ?_
        refine Gd_goto eX8_circle_72 ?_
        exact m_circle_L hW hM hI h68 hnl n (q + 1) (cir φ ts cd p nn q ||| 0) (by omega) (by rw [cir, if_neg (fun z => by have := (cir_iff c44 hnl).mpr z; omega)]) kq
      · refine Gd_iconst ki_1 eX8_circle_59 ?_
        refine Gd_iload (i := 4) rfl eX8_circle_60 ?_
        refine Gd_ishl1 (by first | omega | decide) eX8_circle_62 ?_
        refine Gd_goto eX8_circle_63 ?_
        refine Gd_iorN eX8_circle_67 ?_
        refine Gd_istore_n3 rfl eX8_circle_68 ?_
        refine Gd_iinc4 (ho := rfl) (he := nI_inc _) eX8_circle_69 ?_
        refine Gd_goto eX8_circle_72 ?_
        exact m_circle_L hW hM hI h68 hnl n (q + 1) (cir φ ts cd p nn q ||| 2 ^ q) (by omega) (by rw [cir, if_pos ((cir_iff c44 hnl).mp c56)]) kq
theorem m_circle {sh : List (Nat × Nat)} {a : Nat → Nat → Int32} {r : Nat → Nat → Option Nat} {g : Nat → Nat → Int64} {φ ts cd : Nat → Nat → Nat} {nt : Nat} (hW : WD sh r) (hM : MA φ a) (hI : FI φ) (hT : TM nt ts cd a) (hTI : TI nt ts cd) (hlt : φ 7 2 < nt) (hJ : FJ φ) (vp vn : Int32) : Mt YX8_circle 6 0 0 [vr 50, vi vp, vi vn] (sh, a, r, g) (g_EV sh r g (vi (oCircle φ ts cd vp vn)) (fun a' => chg scW a a')) := by
  refine Mt_of rfl (Nat.le_of_ble_eq_true rfl) rfl ?_
  refine Gd_aload_n (i := 0) rfl eX8_circle_0 ?_
  refine Gd_iload_n (i := 1) rfl eX8_circle_1 ?_
  refine Gd_callP (g_cV (m_isOne hW hM hI _) ok_X8_isOne lk_RX8_88 (W_s50 hW) ⟨_, _, rfl⟩ rfl rfl (Nat.le_of_ble_eq_true rfl) (Nat.le_of_ble_eq_true rfl) (Nat.le_refl _) (Nat.le_refl _) eX8_circle_2) ?_
  refine Gd_if_neB eX8_circle_5 (fun c5 => ?_) (fun c5 => ?_)
  · have hhu := FI_hu hI
    obtain ⟨p, hpn, rfl⟩ := inr_t c5 (by omega)
    refine Gd_iload_n (i := 2) rfl eX8_circle_11 ?_
    refine Gd_iconst ki_1 eX8_circle_12 ?_
    refine Gd_bipush kb_6 eX8_circle_13 ?_
    refine Gd_callP (g_cS (m_in _ _ _) ok_X8_in lk_RX8_84 rfl rfl (Nat.le_of_ble_eq_true rfl) (Nat.le_of_ble_eq_true rfl) (Nat.le_refl _) (Nat.le_refl _) eX8_circle_15) ?_
    refine Gd_if_neB eX8_circle_18 (fun c18 => ?_) (fun c18 => ?_)
    · obtain ⟨nn, hn1, hn6, rfl⟩ := inb_r (by decide) (by decide) c18
      refine Gd_aload_n (i := 0) rfl eX8_circle_24 ?_
      refine Gd_callE0 (g_cV (m_tellsWilling hW hM hI hT hTI hlt) ok_X8_tellsWilling lk_RX8_211 (W_s50 hW) ⟨_, _, rfl⟩ rfl rfl (Nat.le_of_ble_eq_true rfl) (Nat.le_of_ble_eq_true rfl) (Nat.le_refl _) (Nat.le_refl _) eX8_circle_25) (fun a1 hq1 => ?_)
      obtain ⟨h32, hq1⟩ := hq1
      have hM := MA_sc hM hq1
      have hp6 : p < 6 := by have := FI_hu hI; omega
      refine Gd_aload_n (i := 0) rfl eX8_circle_28 ?_
      refine Gd_iload_n (i := 1) rfl eX8_circle_29 ?_
      refine Gd_callE0 (g_cV (m_tellsFar hW hM hI hJ h32 hp6) ok_X8_tellsFar lk_RX8_214 (W_s50 hW) ⟨_, _, rfl⟩ rfl rfl (Nat.le_of_ble_eq_true rfl) (Nat.le_of_ble_eq_true rfl) (Nat.le_refl _) (Nat.le_refl _) eX8_circle_30) (fun a2 hq2 => ?_)
      obtain ⟨h68, hq2⟩ := hq2
      refine Gd_iconst ki_0 eX8_circle_33 ?_
      refine Gd_istore_n3 rfl eX8_circle_34 ?_
      refine Gd_iconst ki_0 eX8_circle_35 ?_
      refine Gd_istore4 rfl eX8_circle_36 ?_
      exact m_circle_L hW (MA_ch hM hq2 (fun _ _ => sR_M (by decide))) hI h68 hn6 (φ 7 3) 0 0 (by omega) rfl ⟨a2, by rw [oCircle, if_neg (by rw [c5]; decide), if_neg (by rw [c18]; decide), nI_clamp (by omega), nI_clamp (by omega)], rfl, chg_tr (chg_mono hq1 (fun k j => scW_M)) (chg_mono hq2 (fun k j => scW_68))⟩
    · refine Gd_bipush kb_m7 eX8_circle_21 ?_
      exact Gd_ireturn eX8_circle_23 rfl (Nat.le_refl _) (Nat.le_refl _) ⟨a, by rw [oCircle, if_neg (by rw [c5]; decide), if_pos c18], rfl, chg_rf⟩
  · refine Gd_bipush kb_m5 eX8_circle_8 ?_
    exact Gd_ireturn eX8_circle_10 rfl (Nat.le_refl _) (Nat.le_refl _) ⟨a, by rw [oCircle, if_pos c5], rfl, chg_rf⟩
theorem x_circle {sh : List (Nat × Nat)} {a : Nat → Nat → Int32} {r : Nat → Nat → Option Nat} {g : Nat → Nat → Int64} {φ ts cd : Nat → Nat → Nat} {nt : Nat} (hW : WD sh r) (hA : FA 1 φ a) (hI : FI φ) (hT : TX nt ts cd sh a r) (hTI : TI nt ts cd) (hlt : φ 7 2 < nt) (hJ : FJ φ) (vp vn : Int32) : Mt YX7_circle 6 0 0 [vr 0, vi vp, vi vn] (sh, a, r, g) (g_EV sh r g (vi (oCircle φ ts cd vp vn)) (fun a' => chg scV a a')) := by
  refine Mt_of rfl (Nat.le_of_ble_eq_true rfl) rfl ?_
  refine Gd_aload_n (i := 0) rfl eX7_circle_0 ?_
  refine Gd_iload_n (i := 1) rfl eX7_circle_1 ?_
  refine Gd_callP (g_cV (x_isHunter hW hA hI _) ok_X7_isHunter lk_RX7_140 (W_s0 hW) ⟨_, _, rfl⟩ rfl rfl (Nat.le_of_ble_eq_true rfl) (Nat.le_of_ble_eq_true rfl) (Nat.le_refl _) (Nat.le_refl _) eX7_circle_2) ?_
  refine Gd_if_neB eX7_circle_5 (fun c5 => ?_) (fun c5 => ?_)
  · have hhu := FI_hu hI
    obtain ⟨p, hpn, rfl⟩ := inr_t c5 (by omega)
    refine Gd_iload_n (i := 2) rfl eX7_circle_11 ?_
    refine Gd_iconst ki_1 eX7_circle_12 ?_
    refine Gd_bipush kb_6 eX7_circle_13 ?_
    refine Gd_callP (g_cS (x_isWithin _ _ _) ok_X7_isWithin lk_RX7_119 rfl rfl (Nat.le_of_ble_eq_true rfl) (Nat.le_of_ble_eq_true rfl) (Nat.le_refl _) (Nat.le_refl _) eX7_circle_15) ?_
    refine Gd_if_neB eX7_circle_18 (fun c18 => ?_) (fun c18 => ?_)
    · obtain ⟨nn, hn1, hn6, rfl⟩ := inb_r (by decide) (by decide) c18
      refine Gd_aload_n (i := 0) rfl eX7_circle_24 ?_
      refine Gd_getR fl_RX7_43 (W_s0 hW) (W_r0_6 hW) eX7_circle_25 ?_
      refine Gd_aload_n (i := 0) rfl eX7_circle_28 ?_
      refine Gd_getR fl_RX7_36 (W_s0 hW) (W_r0_5 hW) eX7_circle_29 ?_
      refine Gd_aload_n (i := 0) rfl eX7_circle_32 ?_
      refine Gd_getR fl_RX7_10 (W_s0 hW) (W_r0_0 hW) eX7_circle_33 ?_
      refine Gd_iload_n (i := 1) rfl eX7_circle_36 ?_
      refine Gd_iload_n (i := 2) rfl eX7_circle_37 ?_
      refine Gd_callEV (g_cV (x_within hW (W_F1 hW) (by decide) hA hI hT hTI hlt hJ hpn hn6) ok_X6_within lk_RX7_202 (W_s35 hW) ⟨_, _, rfl⟩ rfl rfl (Nat.le_of_ble_eq_true rfl) (Nat.le_of_ble_eq_true rfl) (Nat.le_refl _) (Nat.le_refl _) eX7_circle_38) (fun a2 hq => ?_)
      exact Gd_ireturn eX7_circle_41 rfl (Nat.le_refl _) (Nat.le_refl _) ⟨a2, by rw [oCircle, if_neg (by rw [c5]; decide), if_neg (by rw [c18]; decide), nI_clamp (by omega), nI_clamp (by omega)], rfl, hq⟩
    · refine Gd_bipush kb_m7 eX7_circle_21 ?_
      exact Gd_ireturn eX7_circle_23 rfl (Nat.le_refl _) (Nat.le_refl _) ⟨a, by rw [oCircle, if_neg (by rw [c5]; decide), if_pos c18], rfl, chg_rf⟩
  · refine Gd_bipush kb_m5 eX7_circle_8 ?_
    exact Gd_ireturn eX7_circle_10 rfl (Nat.le_refl _) (Nat.le_refl _) ⟨a, by rw [oCircle, if_pos c5], rfl, chg_rf⟩
