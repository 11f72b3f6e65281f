def s58_ (k j : Nat) : Bool := decide (k = 58 ∨ k = 59)
theorem scI_58 {k j : Nat} (h : scI k j = false) : s58_ k j = false := by simp [scI] at h; simp [s58_]; omega
theorem s58_rM {k j : Nat} (h : rM k j = true) : s58_ k j = false := by simp [rM] at h; simp [s58_]; omega
theorem scI_rM {k j : Nat} (h : rM k j = true) : scI k j = false := by simp [rM] at h; simp [scI]; omega
theorem IM_of {φ : g_Fo} {a a0 : Nat → Nat → Int32} (hM : MA φ a0) (q1 : ∀ j, j < 24 → a 58 j = a0 53 j) (q2 : ∀ j, j < 10 → a 58 (24 + j) = a0 54 j) (h0 : a 59 0 = nI (φ 7 3)) (h1 : a 59 1 = nI (φ 7 0)) (h2 : a 59 2 = nI (φ 7 1)) (h3 : a 59 3 = nI (φ 7 2)) : IM φ a :=
  ⟨fun p hp => (q1 _ (by omega)).trans (MA_ho hM hp), fun p hp => (q1 _ (by omega)).trans (MA_ca hM hp), fun p hp => (q1 _ (by omega)).trans (MA_me hM hp), fun p hp => (q1 _ (by omega)).trans (MA_by hM hp), fun d hd => (q2 _ hd).trans (MA_sh hM hd), h0, h1, h2, h3⟩
theorem m_image_L2 {sh : List (Nat × Nat)} {r : Nat → Nat → Option Nat} {g : Nat → Nat → Int64} (hW : WD sh r) {φ : Nat → Nat → Nat} {Q : Option g_V → g_H → Prop} {N0 : Nat} {a0 : Nat → Nat → Int32} (hM : MA φ a0) : ∀ (n i : Nat) (a : Nat → Nat → Int32), i + n = 10 → (∀ j, j < 24 → a 58 j = a0 53 j) → (∀ j, j < i → a 58 (24 + j) = a0 54 j) → chg s58_ a0 a → (∀ a', IM φ a' → chg s58_ a0 a' → Q (some (vi (nI (φ 7 3)))) (sh, a', r, g)) → Gd YX8_image (z0 0 N0 Q) 0 0 33 [some (vr 50), some (vi (nI i))] [] (sh, a, r, g)
  | 0, i, a, hn, h1, h2, hc, kq => by
    refine Gd_iload_n (i := 1) rfl eX8_image_33 ?_
    refine Gd_bipush kb_10 eX8_image_34 ?_
    refine Gd_icmp_geN (by first | omega | decide) (by first | omega | decide) eX8_image_36 (fun c36 => ?_) (fun c36 => ?_)
    · refine Gd_aload_n (i := 0) rfl eX8_image_60 ?_
      refine Gd_getR fl_RX8_38 (W_s50 hW) (W_r50_15 hW) eX8_image_61 ?_
      refine Gd_iconst ki_0 eX8_image_64 ?_
      refine Gd_aload_n (i := 0) rfl eX8_image_65 ?_
      refine Gd_getIe (v := nI (φ 7 3)) fl_RX8_81 (W_s50 hW) (MA_hu (MA_ch hM hc (fun _ _ => s58_rM)) :) eX8_image_66 ?_
      refine Gd_iastN (W_s59 hW) (by first | omega | decide) eX8_image_69 ?_
      refine Gd_aload_n (i := 0) rfl eX8_image_70 ?_
      refine Gd_getR fl_RX8_38 (W_s50 hW) (W_r50_15 hW) eX8_image_71 ?_
      refine Gd_iconst ki_1 eX8_image_74 ?_
      refine Gd_aload_n (i := 0) rfl eX8_image_75 ?_
      refine Gd_getIe (v := nI (φ 7 0)) fl_RX8_22 (W_s50 hW) (MA_al (MA_ch hM hc (fun _ _ => s58_rM)) :) eX8_image_76 ?_
      refine Gd_iastN (W_s59 hW) (by first | omega | decide) eX8_image_79 ?_
      refine Gd_aload_n (i := 0) rfl eX8_image_80 ?_
      refine Gd_getR fl_RX8_38 (W_s50 hW) (W_r50_15 hW) eX8_image_81 ?_
      refine Gd_iconst ki_2 eX8_image_84 ?_
      refine Gd_aload_n (i := 0) rfl eX8_image_85 ?_
      refine Gd_getIe (v := nI (φ 7 1)) fl_RX8_96 (W_s50 hW) (MA_da (MA_ch hM hc (fun _ _ => s58_rM)) :) eX8_image_86 ?_
      refine Gd_iastN (W_s59 hW) (by first | omega | decide) eX8_image_89 ?_
      refine Gd_aload_n (i := 0) rfl eX8_image_90 ?_
      refine Gd_getR fl_RX8_38 (W_s50 hW) (W_r50_15 hW) eX8_image_91 ?_
      refine Gd_iconst ki_3 eX8_image_94 ?_
      refine Gd_aload_n (i := 0) rfl eX8_image_95 ?_
      refine Gd_getIe (v := nI (φ 7 2)) fl_RX8_102 (W_s50 hW) (MA_la (MA_ch hM hc (fun _ _ => s58_rM)) :) eX8_image_96 ?_
      refine Gd_iastN (W_s59 hW) (by first | omega | decide) eX8_image_99 ?_
      refine Gd_aload_n (i := 0) rfl eX8_image_100 ?_
      refine Gd_getIe (v := nI (φ 7 3)) fl_RX8_81 (W_s50 hW) (MA_hu (MA_ch hM hc (fun _ _ => s58_rM)) :) eX8_image_101 ?_
      exact Gd_ireturn eX8_image_104 rfl (Nat.le_refl _) (Nat.le_refl _) (kq _ (IM_of hM (fun j hj => h1 j hj) (fun j hj => h2 j (by omega)) rfl rfl rfl rfl) (chg_up (chg_up (chg_up (chg_up hc rfl) rfl) rfl) rfl))
    · exact absurd c36 (by omega)
  | n + 1, i, a, hn, h1, h2, hc, kq => by
    refine Gd_iload_n (i := 1) rfl eX8_image_33 ?_
    refine Gd_bipush kb_10 eX8_image_34 ?_
    refine Gd_icmp_geN (by first | omega | decide) (by first | omega | decide) eX8_image_36 (fun c36 => ?_) (fun c36 => ?_)
    · exact absurd c36 (by omega)
    · refine Gd_aload_n (i := 0) rfl eX8_image_39 ?_
      refine Gd_getR fl_RX8_35 (W_s50 hW) (W_r50_14 hW) eX8_image_40 ?_
      refine Gd_bipush kb_24 eX8_image_43 ?_
      refine Gd_iload_n (i := 1) rfl eX8_image_45 ?_
      refine Gd_iaddN eX8_image_46 ?_
      refine Gd_aload_n (i := 0) rfl eX8_image_47 ?_
      refine Gd_getR fl_RX8_19 (W_s50 hW) (W_r50_4 hW) eX8_image_48 ?_
      refine Gd_iload_n (i := 1) rfl eX8_image_51 ?_
      refine Gd_ialdN (W_s54 hW) (by first | omega | decide) eX8_image_52 ?_
      refine Gd_iastN (W_s58 hW) (by first | omega | decide) eX8_image_53 ?_
      refine Gd_iinc1 (ho := rfl) (he := nI_inc _) eX8_image_54 ?_
      refine Gd_goto eX8_image_57 ?_
      exact m_image_L2 hW hM n (i + 1) (up2 a 58 (24 + i) (a 54 i)) (by omega) (fun j hj => by rw [up2_j _ _ (by omega)]; exact h1 j hj) (up_ext 24 h2 (hc 54 i rfl)) (chg_up hc rfl) kq
theorem m_image_L1 {sh : List (Nat × Nat)} {r : Nat → Nat → Option Nat} {g : Nat → Nat → Int64} (hW : WD sh r) {φ : Nat → Nat → Nat} {Q : Option g_V → g_H → Prop} {N0 : Nat} {a0 : Nat → Nat → Int32} (hM : MA φ a0) : ∀ (n i : Nat) (a : Nat → Nat → Int32), i + n = 24 → (∀ j, j < i → a 58 j = a0 53 j) → chg s58_ a0 a → (∀ a', IM φ a' → chg s58_ a0 a' → Q (some (vi (nI (φ 7 3)))) (sh, a', r, g)) → Gd YX8_image (z0 0 N0 Q) 0 0 7 [some (vr 50), some (vi (nI i))] [] (sh, a, r, g)
  | 0, i, a, hn, h1, hc, kq => by
    refine Gd_iload_n (i := 1) rfl eX8_image_7 ?_
    refine Gd_bipush kb_24 eX8_image_8 ?_
    refine Gd_icmp_geN (by first | omega | decide) (by first | omega | decide) eX8_image_10 (fun c10 => ?_) (fun c10 => ?_)
    · refine Gd_iconst ki_0 eX8_image_31 ?_
      refine Gd_istore_n1 rfl eX8_image_32 ?_
      exact m_image_L2 hW hM 10 0 a (by omega) (fun j hj => h1 j (by omega)) (fun j hj => absurd hj (by omega)) hc kq
    · exact absurd c10 (by omega)
  | n + 1, i, a, hn, h1, hc, kq => by
    refine Gd_iload_n (i := 1) rfl eX8_image_7 ?_
    refine Gd_bipush kb_24 eX8_image_8 ?_
    refine Gd_icmp_geN (by first | omega | decide) (by first | omega | decide) eX8_image_10 (fun c10 => ?_) (fun c10 => ?_)
    · exact absurd c10 (by omega)
    · refine Gd_aload_n (i := 0) rfl eX8_image_13 ?_
      refine Gd_getR fl_RX8_35 (W_s50 hW) (W_r50_14 hW) eX8_image_14 ?_
      refine Gd_iload_n (i := 1) rfl eX8_image_17 ?_
      refine Gd_aload_n (i := 0) rfl eX8_image_18 ?_
      refine Gd_getR fl_RX8_16 (W_s50 hW) (W_r50_3 hW) eX8_image_19 ?_
      refine Gd_iload_n (i := 1) rfl eX8_image_22 ?_
      refine Gd_ialdN (W_s53 hW) (by first | omega | decide) eX8_image_23 ?_
      refine Gd_iastN (W_s58 hW) (by first | omega | decide) eX8_image_24 ?_
      refine Gd_iinc1 (ho := rfl) (he := nI_inc _) eX8_image_25 ?_
      refine Gd_goto eX8_image_28 ?_
      exact m_image_L1 hW hM n (i + 1) (up2 a 58 i (a 53 i)) (by omega) (up_ext0 h1 (hc 53 i rfl)) (chg_up hc rfl) kq
theorem m_image {sh : List (Nat × Nat)} {a : Nat → Nat → Int32} {r : Nat → Nat → Option Nat} {g : Nat → Nat → Int64} {φ : Nat → Nat → Nat} (hW : WD sh r) (hM : MA φ a) : Mt YX8_image 0 0 0 [vr 50] (sh, a, r, g) (g_EV sh r g (vi (nI (φ 7 3))) (fun a' => MA φ a' ∧ IM φ a' ∧ a' 50 13 = nI 1 ∧ chg scI a a')) := by
  refine Mt_of rfl (Nat.le_of_ble_eq_true rfl) rfl ?_
  refine Gd_aload_n (i := 0) rfl eX8_image_0 ?_
  refine Gd_iconst ki_1 eX8_image_1 ?_
  refine Gd_putZ fl_RX8_287 (by decide) (W_s50 hW) eX8_image_2 ?_
  refine Gd_iconst ki_0 eX8_image_5 ?_
  refine Gd_istore_n1 rfl eX8_image_6 ?_
  exact m_image_L1 hW (MA_ch hM (chg_up (S := scI) chg_rf rfl) (fun _ _ => scI_rM)) 24 0 (up2 a 50 13 (nI 1)) (by omega) (fun j hj => absurd hj (by omega)) chg_rf (fun a' k1 k2 => ⟨a', rfl, rfl, MA_ch hM (chg_tr (chg_up (S := scI) chg_rf rfl) (chg_mono2 scI_58 k2)) (fun _ _ => scI_rM), k1, (k2 _ _ rfl).trans (up2_s _ _ _ _), chg_tr (chg_up chg_rf rfl) (chg_mono2 scI_58 k2)⟩)
theorem scIx_17 {k j : Nat} (h : scIx k j = false) : s17_ k j = false := by simp [scIx] at h; simp [s17_]; omega
theorem x_image {sh : List (Nat × Nat)} {a : Nat → Nat → Int32} {r : Nat → Nat → Option Nat} {g : Nat → Nat → Int64} {φ : Nat → Nat → Nat} (hW : WD sh r) (hA : FA 1 φ a) : Mt YX7_image 2 0 0 [vr 0] (sh, a, r, g) (g_EV sh r g (vi (nI (φ 7 3))) (fun a' => FA 1 φ a' ∧ FA 17 φ a' ∧ a' 0 3 = nI 1 ∧ chg scIx a a')) := by
  refine Mt_of rfl (Nat.le_of_ble_eq_true rfl) rfl ?_
  refine Gd_aload_n (i := 0) rfl eX7_image_0 ?_
  refine Gd_getR fl_RX7_19 (W_s0 hW) (W_r0_2 hW) eX7_image_1 ?_
  refine Gd_aload_n (i := 0) rfl eX7_image_4 ?_
  refine Gd_getR fl_RX7_10 (W_s0 hW) (W_r0_0 hW) eX7_image_5 ?_
  refine Gd_callE0 (g_cV (x_become17 hW hA) ok_X0_become lk_RX7_232 (W_s17 hW) ⟨_, _, rfl⟩ rfl rfl (Nat.le_of_ble_eq_true rfl) (Nat.le_of_ble_eq_true rfl) (Nat.le_refl _) (Nat.le_refl _) eX7_image_8) (fun a2 hq2 => ?_)
  obtain ⟨hA2, hq2⟩ := hq2
  have hA1 := FA_ch hA hq2 (fun i j hi => by simp [s17_]; omega)
  refine Gd_aload_n (i := 0) rfl eX7_image_11 ?_
  refine Gd_iconst ki_1 eX7_image_12 ?_
  refine Gd_putZ fl_RX7_22 (by decide) (W_s0 hW) eX7_image_13 ?_
  refine Gd_aload_n (i := 0) rfl eX7_image_16 ?_
  refine Gd_getR fl_RX7_10 (W_s0 hW) (W_r0_0 hW) eX7_image_17 ?_
  refine Gd_getIe (v := nI (φ 7 3)) fl_RX7_90 (W_s1 hW) (FA_hu hA1 :) eX7_image_20 ?_
  exact Gd_ireturn eX7_image_23 rfl (Nat.le_refl _) (Nat.le_refl _) ⟨_, rfl, rfl, FA_ch hA1 (chg_up (S := scIx) chg_rf rfl) (fun i j hi => by simp [scIx]; omega), FA_ch hA2 (S := fun k j => decide (k = 0)) (chg_up chg_rf rfl) (fun i j hi => by simp), up2_s _ _ _ _, chg_up (chg_mono2 scIx_17 hq2) rfl⟩
