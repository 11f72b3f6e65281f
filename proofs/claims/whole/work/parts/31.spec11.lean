theorem x_shootAll_L {sh : List (Nat × Nat)} {r : Nat → Nat → Option Nat} {g : Nat → Nat → Int64} {ts cd : Nat → Nat → Nat} {nt : Nat} {so sz : Nat → Nat} {cl : Nat → Nat → Int32} {f : Nat} (hW : WD sh r) (hF : isF sh r f) (hf : f ≤ 17) (hTI : TI nt ts cd) {s p k : Nat} (hs : s < 4) (hal : allD (cl s) (sz s) = true) (hz : sz s ≤ 40) (hpn6 : p < 6) (hk : k < 4) {Q : Option g_V → g_H → Prop} {N0 : Nat} {a0 : Nat → Nat → Int32} : ∀ (n i : Nat) (φ : Nat → Nat → Nat) (a : Nat → Nat → Int32) (c : Nat), i + n = sz s → c ≤ i → FA f φ a → FI φ → φ 7 2 < nt → p < φ 7 3 → TX nt ts cd sh a r → SX so sz cl a → chg (scT f) a0 a → (∀ a', FA f (runs ts cd p (cl s) n i φ) a' → chg (scT f) a0 a' → Q (some (vi (nI (c + tal ts cd p (cl s) k n i φ)))) (sh, a', r, g)) → Gd YX7_shootAll (z0 6 N0 Q) 0 0 6 [some (vr 0), some (vr f), some (vr (39 + 2 * s)), some (vi (nI p)), some (vi (nI k)), some (vi (nI c)), some (vi (nI i))] [] (sh, a, r, g)
  | 0, i, φ, a, c, hn, hci0, hA, hI, hlt, hpn, hT, hS, hc, kq => by
    refine Gd_iload (i := 6) rfl eX7_shootAll_6 ?_
    refine Gd_aload_n (i := 2) rfl eX7_shootAll_8 ?_
    refine Gd_getIe (v := nI (sz s)) fl_RX7_267 (W_Sj hW (j := s) (by first | omega | decide)).1 (hS.2.1 s (by first | omega | decide) :) eX7_shootAll_9 ?_
    refine Gd_icmp_geN (by first | omega | decide) (by first | omega | decide) eX7_shootAll_12 (fun c12 => ?_) (fun c12 => ?_)
    · refine Gd_iload (i := 5) rfl eX7_shootAll_45 ?_
      exact Gd_ireturn eX7_shootAll_47 rfl (Nat.le_refl _) (Nat.le_refl _) (kq _ hA hc)
    · exact absurd c12 (by omega)
  | n + 1, i, φ, a, c, hn, hci0, hA, hI, hlt, hpn, hT, hS, hc, kq => by
    refine Gd_iload (i := 6) rfl eX7_shootAll_6 ?_
    refine Gd_aload_n (i := 2) rfl eX7_shootAll_8 ?_
    refine Gd_getIe (v := nI (sz s)) fl_RX7_267 (W_Sj hW (j := s) (by first | omega | decide)).1 (hS.2.1 s (by first | omega | decide) :) eX7_shootAll_9 ?_
    refine Gd_icmp_geN (by first | omega | decide) (by first | omega | decide) eX7_shootAll_12 (fun c12 => ?_) (fun c12 => ?_)
    · exact absurd c12 (by omega)
    · have hci := allD_cN hal (i := i) (by omega)
      refine Gd_aload_n (i := 0) rfl eX7_shootAll_15 ?_
      refine Gd_getR fl_RX7_36 (W_s0 hW) (W_r0_5 hW) eX7_shootAll_16 ?_
      refine Gd_aload_n (i := 1) rfl eX7_shootAll_19 ?_
      refine Gd_iload_n (i := 3) rfl eX7_shootAll_20 ?_
      refine Gd_aload_n (i := 2) rfl eX7_shootAll_21 ?_
      refine Gd_getR fl_RX7_270 (W_Sj hW (j := s) (by first | omega | decide)).1 (W_Sj hW (j := s) (by first | omega | decide)).2.2 eX7_shootAll_22 ?_
      refine Gd_iload (i := 6) rfl eX7_shootAll_25 ?_
      refine Gd_ialdE (v := nI (cN (cl s) i)) (W_Sj hW (j := s) (by first | omega | decide)).2.1 (by first | omega | decide) ((hS.2.2 s hs i (by omega)).trans hci.1 :) eX7_shootAll_27 ?_
      refine Gd_callEV (g_cV (x_shot hW hF hf hA hI hT hTI hlt hpn hci.2) ok_X3_shot lk_RX7_223 (W_s31 hW) ⟨_, _, rfl⟩ rfl rfl (Nat.le_of_ble_eq_true rfl) (Nat.le_of_ble_eq_true rfl) (Nat.le_refl _) (Nat.le_refl _) eX7_shootAll_28) (fun a2 hq => ?_)
      obtain ⟨hA2, hq⟩ := hq
      have hale := aim_le φ ts cd p (cN (cl s) i)
      refine Gd_iload (i := 4) rfl eX7_shootAll_31 ?_
      refine Gd_icmp_neN (by first | omega | decide) (by first | omega | decide) eX7_shootAll_33 (fun c33 => ?_) (fun c33 => ?_)
      · refine Gd_iinc6 (ho := rfl) (he := nI_inc _) eX7_shootAll_39 ?_
        refine Gd_goto eX7_shootAll_42 ?_
        exact x_shootAll_L hW hF hf hTI hs hal hz hpn6 hk n (i + 1) (shot φ ts cd p (cN (cl s) i)) a2 (c) (by omega) (by omega) hA2 (FI_shot hI hpn6 hci.2) (by rw [shot_la]; exact hlt) (by rw [shot_hu]; exact hpn) (TX_T hT hf hq) (SX_ch hS hq (fun j h1 h2 => scT_ne (by omega) (by omega) (by omega) (by omega) (by omega))) (chg_tr hc hq) (fun a' k1 k2 => by have k3 := kq a' k1 k2; rw [tal, if_neg c33, ← Nat.add_assoc] at k3; exact k3)
      · refine Gd_iinc5 (ho := rfl) (he := nI_inc _) eX7_shootAll_36 ?_
        refine Gd_iinc6 (ho := rfl) (he := nI_inc _) eX7_shootAll_39 ?_
        refine Gd_goto eX7_shootAll_42 ?_
        exact x_shootAll_L hW hF hf hTI hs hal hz hpn6 hk n (i + 1) (shot φ ts cd p (cN (cl s) i)) a2 (c + 1) (by omega) (by omega) hA2 (FI_shot hI hpn6 hci.2) (by rw [shot_la]; exact hlt) (by rw [shot_hu]; exact hpn) (TX_T hT hf hq) (SX_ch hS hq (fun j h1 h2 => scT_ne (by omega) (by omega) (by omega) (by omega) (by omega))) (chg_tr hc hq) (fun a' k1 k2 => by have k3 := kq a' k1 k2; rw [tal, if_pos c33, ← Nat.add_assoc] at k3; exact k3)
theorem x_shootAll {sh : List (Nat × Nat)} {a : Nat → Nat → Int32} {r : Nat → Nat → Option Nat} {g : Nat → Nat → Int64} {φ ts cd : Nat → Nat → Nat} {nt f : Nat} {so sz : Nat → Nat} {cl : Nat → Nat → Int32} (hW : WD sh r) (hF : isF sh r f) (hf : f ≤ 17) (hA : FA f φ a) (hI : FI φ) (hT : TX nt ts cd sh a r) (hTI : TI nt ts cd) (hlt : φ 7 2 < nt) (hS : SX so sz cl a) {s p : Nat} (hs : s < 4) (hal : allD (cl s) (sz s) = true) (hz : sz s ≤ 40) (hpn : p < φ 7 3) {k : Nat} (hk : k < 4) : Mt YX7_shootAll 6 0 0 [vr 0, vr f, vr (39 + 2 * s), vi (nI p), vi (nI k)] (sh, a, r, g) (g_EV sh r g (vi (nI (tal ts cd p (cl s) k (sz s) 0 φ))) (fun a' => FA f (runs ts cd p (cl s) (sz s) 0 φ) a' ∧ chg (scT f) a a')) := by
  refine Mt_of rfl (Nat.le_of_ble_eq_true rfl) rfl ?_
  refine Gd_iconst ki_0 eX7_shootAll_0 ?_
  refine Gd_istore5 rfl eX7_shootAll_1 ?_
  refine Gd_iconst ki_0 eX7_shootAll_3 ?_
  refine Gd_istore6 rfl eX7_shootAll_4 ?_
  exact x_shootAll_L hW hF hf hTI hs hal hz (by have := FI_hu hI; omega) hk (sz s) 0 φ a 0 (by omega) (by omega) hA hI hlt hpn hT hS chg_rf (fun a' k1 k2 => ⟨a', by rw [Nat.zero_add], rfl, k1, k2⟩)
theorem x_first_L {sh : List (Nat × Nat)} {r : Nat → Nat → Option Nat} {g : Nat → Nat → Int64} {ts cd : Nat → Nat → Nat} {nt : Nat} {so sz : Nat → Nat} {cl : Nat → Nat → Int32} (hW : WD sh r) (hTI : TI nt ts cd) {s t p : Nat} (hs : s < 4) (ht : t < 4) (hal : allD (cl s) (sz s) = true) (hle : sz t ≤ sz s) (hz : sz s ≤ 40) (hpn6 : p < 6) {Q : Option g_V → g_H → Prop} {N0 : Nat} {a0 : Nat → Nat → Int32} : ∀ (n i : Nat) (φ : Nat → Nat → Nat) (a : Nat → Nat → Int32), i + n = sz t → FA 9 φ a → FI φ → φ 7 2 < nt → p < φ 7 3 → TX nt ts cd sh a r → SX so sz cl a → chg (scT 9) a0 a → (∀ a', chg (scT 9) a0 a' → Q (some (vi (unl ts cd p (cl s) (cl t) n i φ))) (sh, a', r, g)) → Gd YX7_firstOtherwise (z0 6 N0 Q) 0 0 3 [some (vr 0), some (vr (39 + 2 * s)), some (vr (39 + 2 * t)), some (vi (nI p)), some (vi (nI i))] [] (sh, a, r, g)
  | 0, i, φ, a, hn, hA, hI, hlt, hpn, hT, hS, hc, kq => by
    refine Gd_iload (i := 4) rfl eX7_firstOtherwise_3 ?_
    refine Gd_aload_n (i := 2) rfl eX7_firstOtherwise_5 ?_
    refine Gd_getIe (v := nI (sz t)) fl_RX7_267 (W_Sj hW (j := t) (by first | omega | decide)).1 (hS.2.1 t (by first | omega | decide) :) eX7_firstOtherwise_6 ?_
    refine Gd_icmp_geN (by first | omega | decide) (by first | omega | decide) eX7_firstOtherwise_9 (fun c9 => ?_) (fun c9 => ?_)
    · refine Gd_iconst ki_m1 eX7_firstOtherwise_69 ?_
      exact Gd_ireturn eX7_firstOtherwise_70 rfl (Nat.le_refl _) (Nat.le_refl _) (kq _ hc)
    · exact absurd c9 (by omega)
  | n + 1, i, φ, a, hn, hA, hI, hlt, hpn, hT, hS, hc, kq => by
    refine Gd_iload (i := 4) rfl eX7_firstOtherwise_3 ?_
    refine Gd_aload_n (i := 2) rfl eX7_firstOtherwise_5 ?_
    refine Gd_getIe (v := nI (sz t)) fl_RX7_267 (W_Sj hW (j := t) (by first | omega | decide)).1 (hS.2.1 t (by first | omega | decide) :) eX7_firstOtherwise_6 ?_
    refine Gd_icmp_geN (by first | omega | decide) (by first | omega | decide) eX7_firstOtherwise_9 (fun c9 => ?_) (fun c9 => ?_)
    · exact absurd c9 (by omega)
    · have hho := FI_ho hI hpn6
      refine Gd_iload (i := 4) rfl eX7_firstOtherwise_12 ?_
      refine Gd_aload_n (i := 1) rfl eX7_firstOtherwise_14 ?_
      refine Gd_getIe (v := nI (sz s)) fl_RX7_267 (W_Sj hW (j := s) (by first | omega | decide)).1 (hS.2.1 s (by first | omega | decide) :) eX7_firstOtherwise_15 ?_
      refine Gd_icmp_geN (by first | omega | decide) (by first | omega | decide) eX7_firstOtherwise_18 (fun c18 => ?_) (fun c18 => ?_)
      · exact absurd c18 (by omega)
      · have hci := allD_cN hal (i := i) (by omega)
        refine Gd_aload_n (i := 0) rfl eX7_firstOtherwise_21 ?_
        refine Gd_getR fl_RX7_36 (W_s0 hW) (W_r0_5 hW) eX7_firstOtherwise_22 ?_
        refine Gd_aload_n (i := 0) rfl eX7_firstOtherwise_25 ?_
        refine Gd_getR fl_RX7_16 (W_s0 hW) (W_r0_1 hW) eX7_firstOtherwise_26 ?_
        refine Gd_iload_n (i := 3) rfl eX7_firstOtherwise_29 ?_
        refine Gd_aload_n (i := 1) rfl eX7_firstOtherwise_30 ?_
        refine Gd_getR fl_RX7_270 (W_Sj hW (j := s) (by first | omega | decide)).1 (W_Sj hW (j := s) (by first | omega | decide)).2.2 eX7_firstOtherwise_31 ?_
        refine Gd_iload (i := 4) rfl eX7_firstOtherwise_34 ?_
        refine Gd_ialdE (v := nI (cN (cl s) i)) (W_Sj hW (j := s) (by first | omega | decide)).2.1 (by first | omega | decide) ((hS.2.2 s hs i (by omega)).trans hci.1 :) eX7_firstOtherwise_36 ?_
        refine Gd_callEV (g_cV (x_shot hW (W_F9 hW) (by decide) hA hI hT hTI hlt hpn hci.2) ok_X3_shot lk_RX7_223 (W_s31 hW) ⟨_, _, rfl⟩ rfl rfl (Nat.le_of_ble_eq_true rfl) (Nat.le_of_ble_eq_true rfl) (Nat.le_refl _) (Nat.le_refl _) eX7_firstOtherwise_37) (fun a2 hq => ?_)
        obtain ⟨hA2, hq⟩ := hq
        have hale := aim_le φ ts cd p (cN (cl s) i)
        have hS2 := SX_ch hS hq (fun j h1 h2 => scT_ne (by omega) (by omega) (by omega) (by omega) (by omega))
        refine Gd_pop rfl eX7_firstOtherwise_40 ?_
        refine Gd_aload_n (i := 0) rfl eX7_firstOtherwise_41 ?_
        refine Gd_getR fl_RX7_16 (W_s0 hW) (W_r0_1 hW) eX7_firstOtherwise_42 ?_
        refine Gd_getR fl_RX7_158 (W_s9 hW) (W_r9_7 hW) eX7_firstOtherwise_45 ?_
        refine Gd_iload_n (i := 3) rfl eX7_firstOtherwise_48 ?_
        refine Gd_ialdE (v := nI (shot φ ts cd p (cN (cl s) i) 3 p)) (W_s13 hW) (by first | omega | decide) (FA_ho hA2 (p := p) (by omega) :) eX7_firstOtherwise_49 ?_
        refine Gd_aload_n (i := 2) rfl eX7_firstOtherwise_50 ?_
        refine Gd_getR fl_RX7_270 (W_Sj hW (j := t) (by first | omega | decide)).1 (W_Sj hW (j := t) (by first | omega | decide)).2.2 eX7_firstOtherwise_51 ?_
        refine Gd_iload (i := 4) rfl eX7_firstOtherwise_54 ?_
        refine Gd_ialdE (W_Sj hW (j := t) (by first | omega | decide)).2.1 (by first | omega | decide) (hS2.2.2 t (by first | omega | decide) i (by first | omega | decide) :) eX7_firstOtherwise_56 ?_
        refine Gd_icmp_eq eX7_firstOtherwise_57 (fun c57 => ?_) (fun c57 => ?_)
        · refine Gd_iinc4 (ho := rfl) (he := nI_inc _) eX7_firstOtherwise_63 ?_
          refine Gd_goto eX7_firstOtherwise_66 ?_
          exact x_first_L hW hTI hs ht hal hle hz hpn6 n (i + 1) (shot φ ts cd p (cN (cl s) i)) a2 (by omega) hA2 (FI_shot hI hpn6 hci.2) (by rw [shot_la]; exact hlt) (by rw [shot_hu]; exact hpn) (TX_T hT (by decide) hq) hS2 (chg_tr hc hq) (fun a' k1 => by have k3 := kq a' k1; rw [unl, if_pos c57] at k3; exact k3)
        · refine Gd_iload (i := 4) rfl eX7_firstOtherwise_60 ?_
          exact Gd_ireturn eX7_firstOtherwise_62 rfl (Nat.le_refl _) (Nat.le_refl _) (by have k3 := kq _ (chg_tr hc hq); rw [unl, if_neg c57] at k3; exact k3)
theorem x_firstOtherwise {sh : List (Nat × Nat)} {a : Nat → Nat → Int32} {r : Nat → Nat → Option Nat} {g : Nat → Nat → Int64} {φ ts cd : Nat → Nat → Nat} {nt : Nat} {so sz : Nat → Nat} {cl : Nat → Nat → Int32} (hW : WD sh r) (hA : FA 9 φ a) (hI : FI φ) (hT : TX nt ts cd sh a r) (hTI : TI nt ts cd) (hlt : φ 7 2 < nt) (hS : SX so sz cl a) {s t p : Nat} (hs : s < 4) (ht : t < 4) (hal : allD (cl s) (sz s) = true) (hle : sz t ≤ sz s) (hz : sz s ≤ 40) (hpn : p < φ 7 3) : Mt YX7_firstOtherwise 6 0 0 [vr 0, vr (39 + 2 * s), vr (39 + 2 * t), vi (nI p)] (sh, a, r, g) (g_EV sh r g (vi (unl ts cd p (cl s) (cl t) (sz t) 0 φ)) (fun a' => chg (scT 9) a a')) := by
  refine Mt_of rfl (Nat.le_of_ble_eq_true rfl) rfl ?_
  refine Gd_iconst ki_0 eX7_firstOtherwise_0 ?_
  refine Gd_istore4 rfl eX7_firstOtherwise_1 ?_
  exact x_first_L hW hTI hs ht hal hle hz (by have := FI_hu hI; omega) (sz t) 0 φ a (by omega) hA hI hlt hpn hT hS chg_rf (fun a' k2 => ⟨a', rfl, rfl, k2⟩)
