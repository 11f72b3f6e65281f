theorem m_unlike_L {sh : List (Nat × Nat)} {r : Nat → Nat → Option Nat} {g : Nat → Nat → Int64} {ts cd : Nat → Nat → Nat} {nt : Nat} {so sz : Nat → Nat} {cl : Nat → Nat → Int32} (hW : WD sh r) (hTI : TI nt ts cd) {s t p : Nat} (hs : s < 4) (ht : t < 4) (hal : allD (cl s) (sz s) = true) (hle : sz t ≤ sz s) (hz : sz s ≤ 40) (hpn6 : p < 6) {Q : Option g_V → g_H → Prop} {N0 : Nat} {φ0 : Nat → Nat → Nat} {a0 : Nat → Nat → Int32} : ∀ (n i : Nat) (φ : Nat → Nat → Nat) (a : Nat → Nat → Int32), i + n = sz t → MA φ a → FI φ → φ 7 2 < nt → p < φ 7 3 → TM nt ts cd a → MS so sz cl a → KA φ0 a → likeF φ0 φ → chg scK a0 a → (∀ a', MA φ0 a' → chg scK a0 a' → Q (some (vi (unl ts cd p (cl s) (cl t) n i φ))) (sh, a', r, g)) → Gd YX8_unlike (z0 6 N0 Q) 0 0 10 [some (vr 50), some (vi (nI s)), some (vi (nI t)), some (vi (nI p)), some (vi (-1)), some (vi (nI i))] [] (sh, a, r, g)
  | 0, i, φ, a, hn, hM, hI, hlt, hpn, hT, hS, hK, hlk, hc, kq => by
    refine Gd_iload (i := 5) rfl eX8_unlike_10 ?_
    refine Gd_aload_n (i := 0) rfl eX8_unlike_12 ?_
    refine Gd_getR fl_RX8_44 (W_s50 hW) (W_r50_17 hW) eX8_unlike_13 ?_
    refine Gd_iload_n (i := 2) rfl eX8_unlike_16 ?_
    refine Gd_ialdE (v := nI (sz t)) (W_s61 hW) (by first | omega | decide) (hS.2.1 t (by first | omega | decide) :) eX8_unlike_17 ?_
    refine Gd_icmp_geN (by first | omega | decide) (by first | omega | decide) eX8_unlike_18 (fun c18 => ?_) (fun c18 => ?_)
    · refine Gd_aload_n (i := 0) rfl eX8_unlike_88 ?_
      refine Gd_callE0 (g_cV (m_lays hW hM hK) ok_X8_lays lk_RX8_251 (W_s50 hW) ⟨_, _, rfl⟩ rfl rfl (Nat.le_of_ble_eq_true rfl) (Nat.le_of_ble_eq_true rfl) (Nat.le_refl _) (Nat.le_refl _) eX8_unlike_89) (fun a3 hq3 => ?_)
      obtain ⟨hM3, hq3⟩ := hq3
      rw [lay_like hlk] at hM3
      refine Gd_iload (i := 4) rfl eX8_unlike_92 ?_
      exact Gd_ireturn eX8_unlike_94 rfl (Nat.le_refl _) (Nat.le_refl _) (kq _ hM3 (chg_tr hc (chg_mono2 (fun q => scS_L (scK_S q)) hq3)))
    · exact absurd c18 (by omega)
  | n + 1, i, φ, a, hn, hM, hI, hlt, hpn, hT, hS, hK, hlk, hc, kq => by
    refine Gd_iload (i := 5) rfl eX8_unlike_10 ?_
    refine Gd_aload_n (i := 0) rfl eX8_unlike_12 ?_
    refine Gd_getR fl_RX8_44 (W_s50 hW) (W_r50_17 hW) eX8_unlike_13 ?_
    refine Gd_iload_n (i := 2) rfl eX8_unlike_16 ?_
    refine Gd_ialdE (v := nI (sz t)) (W_s61 hW) (by first | omega | decide) (hS.2.1 t (by first | omega | decide) :) eX8_unlike_17 ?_
    refine Gd_icmp_geN (by first | omega | decide) (by first | omega | decide) eX8_unlike_18 (fun c18 => ?_) (fun c18 => ?_)
    · exact absurd c18 (by omega)
    · have hci := allD_cN hal (i := i) (by omega)
      have hho := FI_ho (FI_shot (ts := ts) (cd := cd) (p := p) hI hpn6 hci.2) hpn6
      refine Gd_iload (i := 4) rfl eX8_unlike_21 ?_
      refine Gd_iconst ki_m1 eX8_unlike_23 ?_
      refine Gd_icmp_ne eX8_unlike_24 (fun q => by first | exact absurd q (by decide) | exact absurd (by decide) q) (fun _ => ?_)
      refine Gd_aload_n (i := 0) rfl eX8_unlike_27 ?_
      refine Gd_iload_n (i := 3) rfl eX8_unlike_28 ?_
      refine Gd_aload_n (i := 0) rfl eX8_unlike_29 ?_
      refine Gd_getR fl_RX8_47 (W_s50 hW) (W_r50_18 hW) eX8_unlike_30 ?_
      refine Gd_bipush kb_40 eX8_unlike_33 ?_
      refine Gd_iload_n (i := 1) rfl eX8_unlike_35 ?_
      refine Gd_imulN eX8_unlike_36 ?_
      refine Gd_iload (i := 5) rfl eX8_unlike_37 ?_
      refine Gd_iaddN eX8_unlike_39 ?_
      refine Gd_ialdE (v := nI (cN (cl s) i)) (W_s62 hW) (by first | omega | decide) ((hS.2.2 s hs i (by omega)).trans hci.1 :) eX8_unlike_40 ?_
      refine Gd_iconst ki_0 eX8_unlike_41 ?_
      refine Gd_bipush kb_9 eX8_unlike_42 ?_
      refine Gd_callP (g_cS (m_within _ _ _) ok_X8_within lk_RX8_183 rfl rfl (Nat.le_of_ble_eq_true rfl) (Nat.le_of_ble_eq_true rfl) (Nat.le_refl _) (Nat.le_refl _) eX8_unlike_44) ?_
      rw [wth_d hci.2]
      refine Gd_callEV (g_cV (m_shotOf hW hM hI hT hTI hlt hpn hci.2) ok_X8_shotOf lk_RX8_235 (W_s50 hW) ⟨_, _, rfl⟩ rfl rfl (Nat.le_of_ble_eq_true rfl) (Nat.le_of_ble_eq_true rfl) (Nat.le_refl _) (Nat.le_refl _) eX8_unlike_47) (fun a2 hq => ?_)
      obtain ⟨hM2, hq⟩ := hq
      have hS2 := MS_ch hS hq (fun k j => scS_60 k j)
      have hK2 := KA_ch hK hq (fun j => rfl)
      refine Gd_pop rfl eX8_unlike_50 ?_
      refine Gd_aload_n (i := 0) rfl eX8_unlike_51 ?_
      refine Gd_getR fl_RX8_47 (W_s50 hW) (W_r50_18 hW) eX8_unlike_52 ?_
      refine Gd_bipush kb_40 eX8_unlike_55 ?_
      refine Gd_iload_n (i := 2) rfl eX8_unlike_57 ?_
      refine Gd_imulN eX8_unlike_58 ?_
      refine Gd_iload (i := 5) rfl eX8_unlike_59 ?_
      refine Gd_iaddN eX8_unlike_61 ?_
      refine Gd_ialdE (W_s62 hW) (by first | omega | decide) (hS2.2.2 t ht i (by omega) :) eX8_unlike_62 ?_
      refine Gd_aload_n (i := 0) rfl eX8_unlike_63 ?_
      refine Gd_getR fl_RX8_16 (W_s50 hW) (W_r50_3 hW) eX8_unlike_64 ?_
      refine Gd_iconst ki_4 eX8_unlike_67 ?_
      refine Gd_iload_n (i := 3) rfl eX8_unlike_68 ?_
      refine Gd_imulN eX8_unlike_69 ?_
      refine Gd_ialdE (v := nI (shot φ ts cd p (cN (cl s) i) 3 p)) (W_s53 hW) (by first | omega | decide) (MA_ho hM2 (p := p) (by omega) :) eX8_unlike_70 ?_
      refine Gd_icmp_ne eX8_unlike_71 (fun c71 => ?_) (fun c71 => ?_)
      · refine Gd_iload (i := 5) rfl eX8_unlike_78 ?_
        refine Gd_istore4 rfl eX8_unlike_80 ?_
        refine Gd_iinc5 (ho := rfl) (he := nI_inc _) eX8_unlike_82 ?_
        refine Gd_goto eX8_unlike_85 ?_
        refine Gd_iload (i := 5) rfl eX8_unlike_10 ?_
        refine Gd_aload_n (i := 0) rfl eX8_unlike_12 ?_
        refine Gd_getR fl_RX8_44 (W_s50 hW) (W_r50_17 hW) eX8_unlike_13 ?_
        refine Gd_iload_n (i := 2) rfl eX8_unlike_16 ?_
        refine Gd_ialdE (v := nI (sz t)) (W_s61 hW) (by first | omega | decide) (hS2.2.1 t (by first | omega | decide) :) eX8_unlike_17 ?_
        refine Gd_icmp_geN (by first | omega | decide) (by first | omega | decide) eX8_unlike_18 (fun c18 => ?_) (fun c18 => ?_)
        · refine Gd_aload_n (i := 0) rfl eX8_unlike_88 ?_
          refine Gd_callE0 (g_cV (m_lays hW hM2 hK2) ok_X8_lays lk_RX8_251 (W_s50 hW) ⟨_, _, rfl⟩ rfl rfl (Nat.le_of_ble_eq_true rfl) (Nat.le_of_ble_eq_true rfl) (Nat.le_refl _) (Nat.le_refl _) eX8_unlike_89) (fun a3 hq3 => ?_)
          obtain ⟨hM3, hq3⟩ := hq3
          rw [lay_like (like_shot hlk)] at hM3
          refine Gd_iload (i := 4) rfl eX8_unlike_92 ?_
          exact Gd_ireturn eX8_unlike_94 rfl (Nat.le_refl _) (Nat.le_refl _) (by have k3 := kq _ hM3 (chg_tr hc (chg_tr (chg_mono2 scK_S hq) (chg_mono2 (fun q => scS_L (scK_S q)) hq3))); rw [unl, if_neg (fun q => c71 q.symm)] at k3; exact k3)
        · refine Gd_iload (i := 4) rfl eX8_unlike_21 ?_
          refine Gd_iconst ki_m1 eX8_unlike_23 ?_
          refine Gd_icmp_neM0 (by first | omega | decide) eX8_unlike_24 ?_
          refine Gd_aload_n (i := 0) rfl eX8_unlike_88 ?_
          refine Gd_callE0 (g_cV (m_lays hW hM2 hK2) ok_X8_lays lk_RX8_251 (W_s50 hW) ⟨_, _, rfl⟩ rfl rfl (Nat.le_of_ble_eq_true rfl) (Nat.le_of_ble_eq_true rfl) (Nat.le_refl _) (Nat.le_refl _) eX8_unlike_89) (fun a3 hq3 => ?_)
          obtain ⟨hM3, hq3⟩ := hq3
          rw [lay_like (like_shot hlk)] at hM3
          refine Gd_iload (i := 4) rfl eX8_unlike_92 ?_
          exact Gd_ireturn eX8_unlike_94 rfl (Nat.le_refl _) (Nat.le_refl _) (by have k3 := kq _ hM3 (chg_tr hc (chg_tr (chg_mono2 scK_S hq) (chg_mono2 (fun q => scS_L (scK_S q)) hq3))); rw [unl, if_neg (fun q => c71 q.symm)] at k3; exact k3)
      · refine Gd_iconst ki_m1 eX8_unlike_74 ?_
        refine Gd_goto eX8_unlike_75 ?_
        refine Gd_istore4 rfl eX8_unlike_80 ?_
        refine Gd_iinc5 (ho := rfl) (he := nI_inc _) eX8_unlike_82 ?_
        refine Gd_goto eX8_unlike_85 ?_
        exact m_unlike_L hW hTI hs ht hal hle hz hpn6 n (i + 1) (shot φ ts cd p (cN (cl s) i)) a2 (by omega) hM2 (FI_shot hI hpn6 hci.2) (by rw [shot_la]; exact hlt) (by rw [shot_hu]; exact hpn) (TM_scS hT hq) hS2 hK2 (like_shot hlk) (chg_tr hc (chg_mono2 scK_S hq)) (fun a' k1 k2 => by have k3 := kq a' k1 k2; rw [unl, if_pos c71.symm] at k3; exact k3)
theorem m_unlike {sh : List (Nat × Nat)} {a : Nat → Nat → Int32} {r : Nat → Nat → Option Nat} {g : Nat → Nat → Int64} {φ ts cd : Nat → Nat → Nat} {nt : Nat} {so sz : Nat → Nat} {cl : Nat → Nat → Int32} (hW : WD sh r) (hM : MA φ a) (hI : FI φ) (hT : TM nt ts cd a) (hTI : TI nt ts cd) (hlt : φ 7 2 < nt) (hS : MS so sz cl a) {s t p : Nat} (hs : s < 4) (ht : t < 4) (hal : allD (cl s) (sz s) = true) (hle : sz t ≤ sz s) (hz : sz s ≤ 40) (hpn : p < φ 7 3) : Mt YX8_unlike 6 0 0 [vr 50, vi (nI s), vi (nI t), vi (nI p)] (sh, a, r, g) (g_EV sh r g (vi (unl ts cd p (cl s) (cl t) (sz t) 0 φ)) (fun a' => MA φ a' ∧ chg scK a a')) := by
  refine Mt_of rfl (Nat.le_of_ble_eq_true rfl) rfl ?_
  refine Gd_iconst ki_m1 eX8_unlike_0 ?_
  refine Gd_istore4 rfl eX8_unlike_1 ?_
  refine Gd_aload_n (i := 0) rfl eX8_unlike_3 ?_
  refine Gd_callE0 (g_cV (m_keeps hW hM) ok_X8_keeps lk_RX8_244 (W_s50 hW) ⟨_, _, rfl⟩ rfl rfl (Nat.le_of_ble_eq_true rfl) (Nat.le_of_ble_eq_true rfl) (Nat.le_refl _) (Nat.le_refl _) eX8_unlike_4) (fun a2 hq => ?_)
  obtain ⟨hK, hq⟩ := hq
  refine Gd_iconst ki_0 eX8_unlike_7 ?_
  refine Gd_istore5 rfl eX8_unlike_8 ?_
  exact m_unlike_L hW hTI hs ht hal hle hz (by have := FI_hu hI; omega) (sz t) 0 φ a2 (by omega) (MA_ch hM hq (fun _ _ => sR_M (K := 69) (by decide))) hI hlt hpn (TM_ch hT hq (fun _ _ => sR_T (K := 69) (by decide))) (MS_ch hS hq (fun k j h1 h2 => by simp [s69]; omega)) hK (fun x y _ _ _ => rfl) (chg_mono hq (fun k j h => by simp [scK] at h; simp [s69]; omega)) (fun a' k1 k2 => ⟨a', rfl, rfl, k1, k2⟩)
