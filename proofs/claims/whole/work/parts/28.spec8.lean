theorem m_goes_L {sh : List (Nat × Nat)} {r : Nat → Nat → Option Nat} {g : Nat → Nat → Int64} {ts cd : Nat → Nat → Nat} {nt : Nat} {so sz : Nat → Nat} {cl : Nat → Nat → Int32} (hW : WD sh r) (hTI : TI nt ts cd) {s p : Nat} (hs : s < 4) (hal : allD (cl s) (sz s) = true) (hz : sz s ≤ 40) (hpn6 : p < 6) {Q : Option g_V → g_H → Prop} {N0 : Nat} {a0 : Nat → Nat → Int32} : ∀ (n i : Nat) (φ : Nat → Nat → Nat) (a : Nat → Nat → Int32) (c : Nat → Nat), i + n = sz s → MA φ a → FI φ → φ 7 2 < nt → p < φ 7 3 → TM nt ts cd a → MS so sz cl a → (∀ k, k < 4 → a 70 k = nI (c k)) → (∀ k, k < 4 → c k ≤ i) → chg scG a0 a → (∀ a', MA (runs ts cd p (cl s) n i φ) a' → (∀ k, k < 4 → a' 70 k = nI (c k + tal ts cd p (cl s) k n i φ)) → chg scG a0 a' → Q none (sh, a', r, g)) → Gd YX8_goes (z0 6 N0 Q) 0 0 22 [some (vr 50), some (vi (nI s)), some (vi (nI p)), some (vi (nI i))] [] (sh, a, r, g)
  | 0, i, φ, a, c, hn, hM, hI, hlt, hpn, hT, hS, h70, hcs, hc, kq => by
    refine Gd_iload_n (i := 3) rfl eX8_goes_22 ?_
    refine Gd_aload_n (i := 0) rfl eX8_goes_23 ?_
    refine Gd_getR fl_RX8_44 (W_s50 hW) (W_r50_17 hW) eX8_goes_24 ?_
    refine Gd_iload_n (i := 1) rfl eX8_goes_27 ?_
    refine Gd_ialdE (v := nI (sz s)) (W_s61 hW) (by first | omega | decide) (hS.2.1 s (by first | omega | decide) :) eX8_goes_28 ?_
    refine Gd_icmp_geN (by first | omega | decide) (by first | omega | decide) eX8_goes_29 (fun c29 => ?_) (fun c29 => ?_)
    · exact Gd_return eX8_goes_69 rfl (Nat.le_refl _) (Nat.le_refl _) (kq _ hM (fun k hk => h70 k hk) hc)
    · exact absurd c29 (by omega)
  | n + 1, i, φ, a, c, hn, hM, hI, hlt, hpn, hT, hS, h70, hcs, hc, kq => by
    refine Gd_iload_n (i := 3) rfl eX8_goes_22 ?_
    refine Gd_aload_n (i := 0) rfl eX8_goes_23 ?_
    refine Gd_getR fl_RX8_44 (W_s50 hW) (W_r50_17 hW) eX8_goes_24 ?_
    refine Gd_iload_n (i := 1) rfl eX8_goes_27 ?_
    refine Gd_ialdE (v := nI (sz s)) (W_s61 hW) (by first | omega | decide) (hS.2.1 s (by first | omega | decide) :) eX8_goes_28 ?_
    refine Gd_icmp_geN (by first | omega | decide) (by first | omega | decide) eX8_goes_29 (fun c29 => ?_) (fun c29 => ?_)
    · exact absurd c29 (by omega)
    · have hci := allD_cN hal (i := i) (by omega)
      refine Gd_aload_n (i := 0) rfl eX8_goes_32 ?_
      refine Gd_getR fl_RX8_71 (W_s50 hW) (W_r50_34 hW) eX8_goes_33 ?_
      refine Gd_aload_n (i := 0) rfl eX8_goes_36 ?_
      refine Gd_iload_n (i := 2) rfl eX8_goes_37 ?_
      refine Gd_aload_n (i := 0) rfl eX8_goes_38 ?_
      refine Gd_getR fl_RX8_47 (W_s50 hW) (W_r50_18 hW) eX8_goes_39 ?_
      refine Gd_bipush kb_40 eX8_goes_42 ?_
      refine Gd_iload_n (i := 1) rfl eX8_goes_44 ?_
      refine Gd_imulN eX8_goes_45 ?_
      refine Gd_iload_n (i := 3) rfl eX8_goes_46 ?_
      refine Gd_iaddN eX8_goes_47 ?_
      refine Gd_ialdE (v := nI (cN (cl s) i)) (W_s62 hW) (by first | omega | decide) ((hS.2.2 s hs i (by omega)).trans hci.1 :) eX8_goes_48 ?_
      refine Gd_iconst ki_0 eX8_goes_49 ?_
      refine Gd_bipush kb_9 eX8_goes_50 ?_
      refine Gd_callP (g_cS (m_within _ _ _) ok_X8_within lk_RX8_183 rfl rfl (Nat.le_of_ble_eq_true rfl) (Nat.le_of_ble_eq_true rfl) (Nat.le_refl _) (Nat.le_refl _) eX8_goes_52) ?_
      rw [wth_d hci.2]
      refine Gd_callEV (g_cV (m_shotOf hW hM hI hT hTI hlt hpn hci.2) ok_X8_shotOf lk_RX8_235 (W_s50 hW) ⟨_, _, rfl⟩ rfl rfl (Nat.le_of_ble_eq_true rfl) (Nat.le_of_ble_eq_true rfl) (Nat.le_refl _) (Nat.le_refl _) eX8_goes_55) (fun a2 hq => ?_)
      obtain ⟨hM2, hq⟩ := hq
      have h70b : ∀ k, k < 4 → a2 70 k = nI (c k) := fun k hk => (hq _ _ rfl).trans (h70 k hk)
      have hale := aim_le φ ts cd p (cN (cl s) i)
      refine Gd_dup2 rfl rfl eX8_goes_58 ?_
      refine Gd_ialdE (v := nI (c (aim φ ts cd p (cN (cl s) i)))) (W_s70 hW) (by first | omega | decide) (h70b (aim φ ts cd p (cN (cl s) i)) (by first | omega | decide) :) eX8_goes_59 ?_
      refine Gd_iconst ki_1 eX8_goes_60 ?_
      refine Gd_iaddN eX8_goes_61 ?_
      refine Gd_iastN (W_s70 hW) (by first | omega | decide) eX8_goes_62 ?_
      refine Gd_iinc3 (ho := rfl) (he := nI_inc _) eX8_goes_63 ?_
      refine Gd_goto eX8_goes_66 ?_
      exact m_goes_L hW hTI hs hal hz hpn6 n (i + 1) (shot φ ts cd p (cN (cl s) i)) (up2 a2 70 (aim φ ts cd p (cN (cl s) i)) (nI (c (aim φ ts cd p (cN (cl s) i)) + 1))) (bump c (aim φ ts cd p (cN (cl s) i))) (by omega) (MA_row (by decide) hM2) (FI_shot hI hpn6 hci.2) (by rw [shot_la]; exact hlt) (by rw [shot_hu]; exact hpn) (TM_row (by decide) (TM_scS hT hq)) (MS_row (by decide) (MS_ch hS hq (fun k j => scS_60 k j))) (up_bump h70b) (bump_le hcs) (chg_up (chg_tr hc (chg_mono hq (fun k j => scG_S))) rfl) (fun a' k1 k2 k3 => kq a' k1 (fun k hk => by rw [k2 k hk, bump_tal]; rfl) k3)
theorem m_goes_Z {sh : List (Nat × Nat)} {r : Nat → Nat → Option Nat} {g : Nat → Nat → Int64} (hW : WD sh r) {s p : Nat} {Q : Option g_V → g_H → Prop} {N0 : Nat} {a0 : Nat → Nat → Int32} : ∀ (n i : Nat) (a : Nat → Nat → Int32), i + n = 4 → i ≤ 4 → (∀ k, k < i → a 70 k = nI 0) → chg (sR 70) a0 a → (∀ a', (∀ k, k < 4 → a' 70 k = nI 0) → chg (sR 70) a0 a' → Gd YX8_goes (z0 6 N0 Q) 0 0 22 [some (vr 50), some (vi (nI s)), some (vi (nI p)), some (vi (nI 0))] [] (sh, a', r, g)) → Gd YX8_goes (z0 6 N0 Q) 0 0 2 [some (vr 50), some (vi (nI s)), some (vi (nI p)), some (vi (nI i))] [] (sh, a, r, g)
  | 0, i, a, hn, hi, h70, hc, kq => by
    refine Gd_iload_n (i := 3) rfl eX8_goes_2 ?_
    refine Gd_iconst ki_4 eX8_goes_3 ?_
    refine Gd_icmp_geN (by first | omega | decide) (by first | omega | decide) eX8_goes_4 (fun c4 => ?_) (fun c4 => ?_)
    · refine Gd_iconst ki_0 eX8_goes_20 ?_
      refine Gd_istore_n3 rfl eX8_goes_21 ?_
      exact kq a (fun k hk => h70 k (by omega)) hc
    · exact absurd c4 (by omega)
  | n + 1, i, a, hn, hi, h70, hc, kq => by
    refine Gd_iload_n (i := 3) rfl eX8_goes_2 ?_
    refine Gd_iconst ki_4 eX8_goes_3 ?_
    refine Gd_icmp_geN (by first | omega | decide) (by first | omega | decide) eX8_goes_4 (fun c4 => ?_) (fun c4 => ?_)
    · exact absurd c4 (by omega)
    · refine Gd_aload_n (i := 0) rfl eX8_goes_7 ?_
      refine Gd_getR fl_RX8_71 (W_s50 hW) (W_r50_34 hW) eX8_goes_8 ?_
      refine Gd_iload_n (i := 3) rfl eX8_goes_11 ?_
      refine Gd_iconst ki_0 eX8_goes_12 ?_
      refine Gd_iastN (W_s70 hW) (by first | omega | decide) eX8_goes_13 ?_
      refine Gd_iinc3 (ho := rfl) (he := nI_inc _) eX8_goes_14 ?_
      refine Gd_goto eX8_goes_17 ?_
      exact m_goes_Z hW n (i + 1) (up2 a 70 i (nI 0)) (by omega) (by omega) (up_ext0 (f := fun _ => nI 0) h70 rfl) (chg_tr hc (chg_row)) kq
theorem m_goes {sh : List (Nat × Nat)} {a : Nat → Nat → Int32} {r : Nat → Nat → Option Nat} {g : Nat → Nat → Int64} {φ ts cd : Nat → Nat → Nat} {nt : Nat} {so sz : Nat → Nat} {cl : Nat → Nat → Int32} (hW : WD sh r) (hM : MA φ a) (hI : FI φ) (hT : TM nt ts cd a) (hTI : TI nt ts cd) (hlt : φ 7 2 < nt) (hS : MS so sz cl a) {s p : Nat} (hs : s < 4) (hal : allD (cl s) (sz s) = true) (hz : sz s ≤ 40) (hpn : p < φ 7 3) : Mt YX8_goes 6 0 0 [vr 50, vi (nI s), vi (nI p)] (sh, a, r, g) (g_E0 sh r g (fun a' => MA (runs ts cd p (cl s) (sz s) 0 φ) a' ∧ (∀ k, k < 4 → a' 70 k = nI (tal ts cd p (cl s) k (sz s) 0 φ)) ∧ chg scG a a')) := by
  refine Mt_of rfl (Nat.le_of_ble_eq_true rfl) rfl ?_
  refine Gd_iconst ki_0 eX8_goes_0 ?_
  refine Gd_istore_n3 rfl eX8_goes_1 ?_
  exact m_goes_Z hW 4 0 a (by omega) (by omega) (fun k hk => by omega) chg_rf (fun a' q1 q2 => m_goes_L hW hTI hs hal hz (by have := FI_hu hI; omega) (sz s) 0 φ a' (fun _ => 0) (by omega) (MA_ch hM q2 (fun _ _ => sR_M (by decide))) hI hlt hpn (TM_ch hT q2 (fun _ _ => sR_T (by decide))) (MS_ch hS q2 (fun k j h1 h2 => by simp [sR]; omega)) q1 (fun _ _ => Nat.le_refl _) (chg_mono q2 (fun k j h => by simp [scG] at h; simp [sR]; omega)) (fun a'' k1 k2 k3 => ⟨a'', rfl, rfl, k1, fun k hk => by rw [k2 k hk]; congr 1; omega, k3⟩))
