theorem x_path_L {sh : List (Nat × Nat)} {a : Nat → Nat → Int32} {r : Nat → Nat → Option Nat} {g : Nat → Nat → Int64} {φ ts cd : Nat → Nat → Nat} {p f : Nat} (hW : WD sh r) (hF : isF sh r f) (hA : FA f φ a) (hI : FI φ) (h35 : a 35 0 = nI (wm φ ts cd (φ 7 3))) (h36 : ∀ v, v < 6 → a 36 v = nI (fx φ ts cd p 6 v)) {Q : Option g_V → g_H → Prop} {N0 : Nat} {v2 : Int32} : ∀ (n t tt pl : Nat), n ≤ 6 → (n ≠ 0 → dst φ ts cd p 6 t = n ∧ t < φ 7 3) → Q (some (vi (nI (tt + pth φ ts cd p n t pl)))) (sh, a, r, g) → Gd YX6_pathTo (z0 2 N0 Q) 0 0 16 [some (vr 35), some (vr f), some (vi v2), some (vi (nI tt)), some (vi (nI pl)), some (vi (nI t)), some (vi (nI n))] [] (sh, a, r, g)
  | 0, t, tt, pl, hk, hd, kq => by
    have hhu := FI_hu hI
    refine Gd_iload (i := 6) rfl eX6_pathTo_16 ?_
    refine Gd_if_le eX6_pathTo_18 (fun _ => ?_) (fun q => by first | exact absurd q (by decide) | exact absurd (by decide) q)
    refine Gd_iload_n (i := 3) rfl eX6_pathTo_64 ?_
    exact Gd_ireturn eX6_pathTo_65 rfl (Nat.le_refl _) (Nat.le_refl _) (by rw [pth, if_pos rfl, Nat.add_zero] at kq; exact kq)
  | k + 1, t, tt, pl, hk, hd, kq => by
    have hhu := FI_hu hI
    refine Gd_iload (i := 6) rfl eX6_pathTo_16 ?_
    refine Gd_if_leN (by first | omega | decide) eX6_pathTo_18 (fun c18 => ?_) (fun c18 => ?_)
    · exact absurd c18 (by omega)
    · refine Gd_iload_n (i := 3) rfl eX6_pathTo_21 ?_
      refine Gd_iload (i := 5) rfl eX6_pathTo_22 ?_
      refine Gd_iconst ki_1 eX6_pathTo_24 ?_
      refine Gd_iaddN eX6_pathTo_25 ?_
      refine Gd_iload (i := 4) rfl eX6_pathTo_26 ?_
      refine Gd_imulN eX6_pathTo_28 ?_
      refine Gd_iaddN eX6_pathTo_29 ?_
      refine Gd_istore_n3 rfl eX6_pathTo_30 ?_
      refine Gd_iload (i := 4) rfl eX6_pathTo_31 ?_
      refine Gd_bipush kb_10 eX6_pathTo_33 ?_
      refine Gd_imulN eX6_pathTo_35 ?_
      refine Gd_istore4 rfl eX6_pathTo_36 ?_
      refine Gd_iload (i := 6) rfl eX6_pathTo_38 ?_
      refine Gd_iconst ki_1 eX6_pathTo_40 ?_
      refine Gd_icmp_leN (by first | omega | decide) (by first | omega | decide) eX6_pathTo_41 (fun c41 => ?_) (fun c41 => ?_)
      · refine Gd_iload (i := 5) rfl eX6_pathTo_54 ?_
        refine Gd_istore5 rfl eX6_pathTo_56 ?_
        refine Gd_iinc6 (ho := rfl) (he := nI_dec (by omega)) eX6_pathTo_58 ?_
        refine Gd_goto eX6_pathTo_61 ?_
        rw [Nat.add_sub_cancel]
        exact x_path_L hW hF hA hI h35 h36 k t (tt + (t + 1) * pl) (pl * 10) (by omega) (fun z => absurd z (by omega)) (by obtain rfl : k = 0 := (by omega); exact kq)
      · obtain ⟨k, rfl⟩ : ∃ j, k = j + 1 := ⟨k - 1, by omega⟩
        obtain ⟨hd2, ht2⟩ := hd (by omega)
        refine Gd_aload_n (i := 0) rfl eX6_pathTo_44 ?_
        refine Gd_aload_n (i := 1) rfl eX6_pathTo_45 ?_
        refine Gd_iload (i := 5) rfl eX6_pathTo_46 ?_
        refine Gd_callP (g_cV (x_nearer hW hF hA hI h35 h36 ht2 (by omega) hd2) ok_X6_nearer lk_RX6_47 (W_s35 hW) ⟨_, _, rfl⟩ rfl rfl (Nat.le_of_ble_eq_true rfl) (Nat.le_of_ble_eq_true rfl) (Nat.le_refl _) (Nat.le_refl _) eX6_pathTo_48) ?_
        have hnx := nx_ok (show k + 2 ≤ 6 by omega) hd2
        refine Gd_goto eX6_pathTo_51 ?_
        refine Gd_istore5 rfl eX6_pathTo_56 ?_
        refine Gd_iinc6 (ho := rfl) (he := nI_dec (by omega)) eX6_pathTo_58 ?_
        refine Gd_goto eX6_pathTo_61 ?_
        rw [Nat.add_sub_cancel]
        exact x_path_L hW hF hA hI h35 h36 (k + 1) (nx φ ts cd p t) (tt + (t + 1) * pl) (pl * 10) (by omega) (fun _ => ⟨hnx.2, hnx.1⟩) (by rw [pth_s, ← Nat.add_assoc] at kq; exact kq)
theorem x_pathTo {sh : List (Nat × Nat)} {a : Nat → Nat → Int32} {r : Nat → Nat → Option Nat} {g : Nat → Nat → Int64} {φ ts cd : Nat → Nat → Nat} {p f : Nat} (hW : WD sh r) (hF : isF sh r f) (hA : FA f φ a) (hI : FI φ) (h35 : a 35 0 = nI (wm φ ts cd (φ 7 3))) (h36 : ∀ v, v < 6 → a 36 v = nI (fx φ ts cd p 6 v)) {t n : Nat} (ht : t < φ 7 3) (hd : dst φ ts cd p 6 t = n + 1) : Mt YX6_pathTo 2 0 0 [vr 35, vr f, vi (nI t)] (sh, a, r, g) (g_P (some (vi (nI (pth φ ts cd p (n + 1) t 1)))) (sh, a, r, g)) := by
  refine Mt_of rfl (Nat.le_of_ble_eq_true rfl) rfl ?_
  have hhu := FI_hu hI
  have hn6 := dst_le (φ := φ) (ts := ts) (cd := cd) (p := p) 6 t
  refine Gd_iconst ki_0 eX6_pathTo_0 ?_
  refine Gd_istore_n3 rfl eX6_pathTo_1 ?_
  refine Gd_iconst ki_1 eX6_pathTo_2 ?_
  refine Gd_istore4 rfl eX6_pathTo_3 ?_
  refine Gd_iload_n (i := 2) rfl eX6_pathTo_5 ?_
  refine Gd_istore5 rfl eX6_pathTo_6 ?_
  refine Gd_aload_n (i := 0) rfl eX6_pathTo_8 ?_
  refine Gd_getR fl_RX6_15 (W_s35 hW) (W_r35_1 hW) eX6_pathTo_9 ?_
  refine Gd_iload_n (i := 2) rfl eX6_pathTo_12 ?_
  refine Gd_ialdE (v := nI (n + 1)) (W_s36 hW) (by first | omega | decide) ((h36 t (by omega)).trans (by rw [fx_dst ht, hd]) :) eX6_pathTo_13 ?_
  refine Gd_istore6 rfl eX6_pathTo_14 ?_
  exact x_path_L hW hF hA hI h35 h36 (n + 1) t 0 1 (by omega) (fun _ => ⟨hd, ht⟩) ⟨by rw [Nat.zero_add], rfl⟩
theorem x_within_L {sh : List (Nat × Nat)} {a : Nat → Nat → Int32} {r : Nat → Nat → Option Nat} {g : Nat → Nat → Int64} {φ ts cd : Nat → Nat → Nat} {f p nn : Nat} (hW : WD sh r) (h36 : ∀ v, v < 6 → a 36 v = nI (fx φ ts cd p 6 v)) (hnl : nn ≤ 6) {Q : Option g_V → g_H → Prop} {N0 : Nat} : ∀ (n q b : Nat), q + n = 6 → b = cir φ ts cd p nn q → Q (some (vi (nI (cir φ ts cd p nn 6)))) (sh, a, r, g) → Gd YX6_within (z0 5 N0 Q) 0 0 13 [some (vr 35), some (vr 31), some (vr f), some (vi (nI p)), some (vi (nI nn)), some (vi (nI b)), some (vi (nI q))] [] (sh, a, r, g)
  | 0, q, b, hn, hb, kq => by
    subst hb
    have hfl := fx_le (φ := φ) (ts := ts) (cd := cd) (p := p) 6 q
    refine Gd_iload (i := 6) rfl eX6_within_13 ?_
    refine Gd_bipush kb_6 eX6_within_15 ?_
    refine Gd_icmp_geN (by first | omega | decide) (by first | omega | decide) eX6_within_17 (fun c17 => ?_) (fun c17 => ?_)
    · refine Gd_iload (i := 5) rfl eX6_within_61 ?_
      exact Gd_ireturn eX6_within_63 rfl (Nat.le_refl _) (Nat.le_refl _) (by rw [show (6 : Nat) = q by omega] at kq; exact kq)
    · exact absurd c17 (by omega)
  | n + 1, q, b, hn, hb, kq => by
    subst hb
    have hfl := fx_le (φ := φ) (ts := ts) (cd := cd) (p := p) 6 q
    refine Gd_iload (i := 6) rfl eX6_within_13 ?_
    refine Gd_bipush kb_6 eX6_within_15 ?_
    refine Gd_icmp_geN (by first | omega | decide) (by first | omega | decide) eX6_within_17 (fun c17 => ?_) (fun c17 => ?_)
    · exact absurd c17 (by omega)
    · refine Gd_iload (i := 5) rfl eX6_within_20 ?_
      refine Gd_aload_n (i := 0) rfl eX6_within_22 ?_
      refine Gd_getR fl_RX6_15 (W_s35 hW) (W_r35_1 hW) eX6_within_23 ?_
      refine Gd_iload (i := 6) rfl eX6_within_26 ?_
      refine Gd_ialdE (v := nI (fx φ ts cd p 6 q)) (W_s36 hW) (by first | omega | decide) (h36 q (by omega) :) eX6_within_28 ?_
      refine Gd_if_leN (by first | omega | decide) eX6_within_29 (fun c29 => ?_) (fun c29 => ?_)
      · refine Gd_iconst ki_0 eX6_within_51 ?_
        refine Gd_iorN eX6_within_52 ?_
        refine Gd_istore5 rfl eX6_within_53 ?_
        refine Gd_iinc6 (ho := rfl) (he := nI_inc _) eX6_within_55 ?_
        refine Gd_goto eX6_within_58 ?_
        exact x_within_L hW h36 hnl n (q + 1) (cir φ ts cd p nn q ||| 0) (by omega) (by rw [cir, if_neg (fun z => by omega)]) kq
      · refine Gd_aload_n (i := 0) rfl eX6_within_32 ?_
        refine Gd_getR fl_RX6_15 (W_s35 hW) (W_r35_1 hW) eX6_within_33 ?_
        refine Gd_iload (i := 6) rfl eX6_within_36 ?_
        refine Gd_ialdE (v := nI (fx φ ts cd p 6 q)) (W_s36 hW) (by first | omega | decide) (h36 q (by omega) :) eX6_within_38 ?_
        refine Gd_iload (i := 4) rfl eX6_within_39 ?_
        refine Gd_icmp_gtN (by first | omega | decide) (by first | omega | decide) eX6_within_41 (fun c41 => ?_) (fun c41 => ?_)
        · refine Gd_iconst ki_0 eX6_within_51 ?_
          refine Gd_iorN eX6_within_52 ?_
          refine Gd_istore5 rfl eX6_within_53 ?_
          refine Gd_iinc6 (ho := rfl) (he := nI_inc _) eX6_within_55 ?_
          refine Gd_goto eX6_within_58 ?_
          exact x_within_L hW h36 hnl n (q + 1) (cir φ ts cd p nn q ||| 0) (by omega) (by rw [cir, if_neg (fun z => by omega)]) kq
        · refine Gd_iconst ki_1 eX6_within_44 ?_
          refine Gd_iload (i := 6) rfl eX6_within_45 ?_
          refine Gd_ishl1 (by first | omega | decide) eX6_within_47 ?_
          refine Gd_goto eX6_within_48 ?_
          refine Gd_iorN eX6_within_52 ?_
          refine Gd_istore5 rfl eX6_within_53 ?_
          refine Gd_iinc6 (ho := rfl) (he := nI_inc _) eX6_within_55 ?_
          refine Gd_goto eX6_within_58 ?_
          exact x_within_L hW h36 hnl n (q + 1) (cir φ ts cd p nn q ||| 2 ^ q) (by omega) (by rw [cir, if_pos ⟨by omega, by omega⟩]) kq
theorem x_within {sh : List (Nat × Nat)} {a : Nat → Nat → Int32} {r : Nat → Nat → Option Nat} {g : Nat → Nat → Int64} {φ ts cd : Nat → Nat → Nat} {nt f : Nat} (hW : WD sh r) (hF : isF sh r f) (hf : f ≤ 17) (hA : FA f φ a) (hI : FI φ) (hT : TX nt ts cd sh a r) (hTI : TI nt ts cd) (hlt : φ 7 2 < nt) (hJ : FJ φ) {p nn : Nat} (hpn : p < φ 7 3) (hnl : nn ≤ 6) : Mt YX6_within 5 0 0 [vr 35, vr 31, vr f, vi (nI p), vi (nI nn)] (sh, a, r, g) (g_EV sh r g (vi (nI (cir φ ts cd p nn 6))) (fun a' => chg scV a a')) := by
  refine Mt_of rfl (Nat.le_of_ble_eq_true rfl) rfl ?_
  refine Gd_aload_n (i := 0) rfl eX6_within_0 ?_
  refine Gd_aload_n (i := 1) rfl eX6_within_1 ?_
  refine Gd_aload_n (i := 2) rfl eX6_within_2 ?_
  refine Gd_iload_n (i := 3) rfl eX6_within_3 ?_
  refine Gd_callE0 (g_cV (x_measure hW hF hf hA hI hT hTI hlt hJ hpn) ok_X6_measure lk_RX6_36 (W_s35 hW) ⟨_, _, rfl⟩ rfl rfl (Nat.le_of_ble_eq_true rfl) (Nat.le_of_ble_eq_true rfl) (Nat.le_refl _) (Nat.le_refl _) eX6_within_4) (fun a2 hq => ?_)
  obtain ⟨h35, h36, hq⟩ := hq
  refine Gd_iconst ki_0 eX6_within_7 ?_
  refine Gd_istore5 rfl eX6_within_8 ?_
  refine Gd_iconst ki_0 eX6_within_10 ?_
  refine Gd_istore6 rfl eX6_within_11 ?_
  exact x_within_L hW h36 hnl 6 0 0 (by omega) rfl ⟨a2, rfl, rfl, hq⟩
