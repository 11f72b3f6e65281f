theorem MA_back {φ ψ : g_Fo} {a a' : Nat → Nat → Int32} (hM : MA φ a) (hI : IM ψ a) (hK : IK ψ φ) (q1 : ∀ j, j < 24 → a' 53 j = a 58 j) (q2 : ∀ j, j < 10 → a' 54 j = a 58 (24 + j)) (h0 : a' 50 0 = nI (ψ 7 3)) (h5 : a' 50 5 = nI (ψ 7 0)) (h6 : a' 50 6 = nI (ψ 7 1)) (h12 : a' 50 12 = nI (ψ 7 2)) (k1 : ∀ j, a' 51 j = a 51 j) (k2 : ∀ j, a' 52 j = a 52 j) : MA ψ a' := by
  obtain ⟨i1, i2, i3, i4, i5, i6, i7, i8, i9⟩ := hI
  refine ⟨h0, h5, h6, h12, fun d hd => (q2 d hd).trans (i5 d hd), fun p hp => (q1 _ (by omega)).trans (i1 p hp), fun p hp => (q1 _ (by omega)).trans (i2 p hp), fun p hp => (q1 _ (by omega)).trans (i3 p hp), fun p hp => (q1 _ (by omega)).trans (i4 p hp), fun p hp => ?_, fun p hp => ?_⟩
  · rw [k1, MA_ki hM (by have := hK.1; omega), (hK.2 p hp).1]
  · rw [k2, MA_mo hM (by have := hK.1; omega), (hK.2 p hp).2]
def s5354 (k j : Nat) : Bool := decide (k = 53 ∨ k = 54)
theorem scZ_5354 {k j : Nat} (h : scZ k j = false) : s5354 k j = false := by simp [scZ] at h; simp [s5354]; omega
theorem m_back_L2 {sh : List (Nat × Nat)} {r : Nat → Nat → Option Nat} {g : Nat → Nat → Int64} (hW : WD sh r) {φ ψ : Nat → Nat → Nat} {Q : Option g_V → g_H → Prop} {N0 : Nat} {a0 : Nat → Nat → Int32} (hM : MA φ a0) (hIm : IM ψ a0) (hK : IK ψ φ) : ∀ (n i : Nat) (a : Nat → Nat → Int32), i + n = 10 → (∀ j, j < 24 → a 53 j = a0 58 j) → (∀ j, j < i → a 54 j = a0 58 (24 + j)) → chg s5354 a0 a → (∀ a', MA ψ a' → chg scZ a0 a' → Q (some (vi (nI (ψ 7 3)))) (sh, a', r, g)) → Gd YX8_back (z0 0 N0 Q) 0 0 38 [some (vr 50), some (vi (nI i))] [] (sh, a, r, g)
  | 0, i, a, hn, h1, h2, hc, kq => by
    refine Gd_iload_n (i := 1) rfl eX8_back_38 ?_
    refine Gd_bipush kb_10 eX8_back_39 ?_
    refine Gd_icmp_geN (by first | omega | decide) (by first | omega | decide) eX8_back_41 (fun c41 => ?_) (fun c41 => ?_)
    · refine Gd_aload_n (i := 0) rfl eX8_back_65 ?_
      refine Gd_aload_n (i := 0) rfl eX8_back_66 ?_
      refine Gd_getR fl_RX8_38 (W_s50 hW) (W_r50_15 hW) eX8_back_67 ?_
      refine Gd_iconst ki_0 eX8_back_70 ?_
      refine Gd_ialdE (v := nI (ψ 7 3)) (W_s59 hW) (by first | omega | decide) ((hc 59 0 rfl).trans hIm.2.2.2.2.2.1 :) eX8_back_71 ?_
      refine Gd_putI fl_RX8_81 (W_s50 hW) eX8_back_72 ?_
      refine Gd_aload_n (i := 0) rfl eX8_back_75 ?_
      refine Gd_aload_n (i := 0) rfl eX8_back_76 ?_
      refine Gd_getR fl_RX8_38 (W_s50 hW) (W_r50_15 hW) eX8_back_77 ?_
      refine Gd_iconst ki_1 eX8_back_80 ?_
      refine Gd_ialdE (v := nI (ψ 7 0)) (W_s59 hW) (by first | omega | decide) ((hc 59 1 rfl).trans hIm.2.2.2.2.2.2.1 :) eX8_back_81 ?_
      refine Gd_putI fl_RX8_22 (W_s50 hW) eX8_back_82 ?_
      refine Gd_aload_n (i := 0) rfl eX8_back_85 ?_
      refine Gd_aload_n (i := 0) rfl eX8_back_86 ?_
      refine Gd_getR fl_RX8_38 (W_s50 hW) (W_r50_15 hW) eX8_back_87 ?_
      refine Gd_iconst ki_2 eX8_back_90 ?_
      refine Gd_ialdE (v := nI (ψ 7 1)) (W_s59 hW) (by first | omega | decide) ((hc 59 2 rfl).trans hIm.2.2.2.2.2.2.2.1 :) eX8_back_91 ?_
      refine Gd_putI fl_RX8_96 (W_s50 hW) eX8_back_92 ?_
      refine Gd_aload_n (i := 0) rfl eX8_back_95 ?_
      refine Gd_aload_n (i := 0) rfl eX8_back_96 ?_
      refine Gd_getR fl_RX8_38 (W_s50 hW) (W_r50_15 hW) eX8_back_97 ?_
      refine Gd_iconst ki_3 eX8_back_100 ?_
      refine Gd_ialdE (v := nI (ψ 7 2)) (W_s59 hW) (by first | omega | decide) ((hc 59 3 rfl).trans hIm.2.2.2.2.2.2.2.2 :) eX8_back_101 ?_
      refine Gd_putI fl_RX8_102 (W_s50 hW) eX8_back_102 ?_
      refine Gd_aload_n (i := 0) rfl eX8_back_105 ?_
      refine Gd_getIe (v := nI (ψ 7 3)) fl_RX8_81 (W_s50 hW) rfl eX8_back_106 ?_
      exact Gd_ireturn eX8_back_109 rfl (Nat.le_refl _) (Nat.le_refl _) (kq _ (MA_back hM hIm hK (fun j hj => h1 j hj) (fun j hj => h2 j (by omega)) rfl rfl rfl rfl (fun j => hc 51 j rfl) (fun j => hc 52 j rfl)) (chg_tr (chg_mono2 scZ_5354 hc) (chg_up (chg_up (chg_up (chg_up chg_rf rfl) rfl) rfl) rfl)))
    · exact absurd c41 (by omega)
  | n + 1, i, a, hn, h1, h2, hc, kq => by
    refine Gd_iload_n (i := 1) rfl eX8_back_38 ?_
    refine Gd_bipush kb_10 eX8_back_39 ?_
    refine Gd_icmp_geN (by first | omega | decide) (by first | omega | decide) eX8_back_41 (fun c41 => ?_) (fun c41 => ?_)
    · exact absurd c41 (by omega)
    · refine Gd_aload_n (i := 0) rfl eX8_back_44 ?_
      refine Gd_getR fl_RX8_19 (W_s50 hW) (W_r50_4 hW) eX8_back_45 ?_
      refine Gd_iload_n (i := 1) rfl eX8_back_48 ?_
      refine Gd_aload_n (i := 0) rfl eX8_back_49 ?_
      refine Gd_getR fl_RX8_35 (W_s50 hW) (W_r50_14 hW) eX8_back_50 ?_
      refine Gd_bipush kb_24 eX8_back_53 ?_
      refine Gd_iload_n (i := 1) rfl eX8_back_55 ?_
      refine Gd_iaddN eX8_back_56 ?_
      refine Gd_ialdN (W_s58 hW) (by first | omega | decide) eX8_back_57 ?_
      refine Gd_iastN (W_s54 hW) (by first | omega | decide) eX8_back_58 ?_
      refine Gd_iinc1 (ho := rfl) (he := nI_inc _) eX8_back_59 ?_
      refine Gd_goto eX8_back_62 ?_
      exact m_back_L2 hW hM hIm hK n (i + 1) (up2 a 54 i (a 58 (24 + i))) (by omega) (fun j hj => h1 j hj) (up_ext0 h2 (hc 58 (24 + i) rfl)) (chg_up hc rfl) kq
theorem m_back_L1 {sh : List (Nat × Nat)} {r : Nat → Nat → Option Nat} {g : Nat → Nat → Int64} (hW : WD sh r) {φ ψ : Nat → Nat → Nat} {Q : Option g_V → g_H → Prop} {N0 : Nat} {a0 : Nat → Nat → Int32} (hM : MA φ a0) (hIm : IM ψ a0) (hK : IK ψ φ) : ∀ (n i : Nat) (a : Nat → Nat → Int32), i + n = 24 → (∀ j, j < i → a 53 j = a0 58 j) → chg s5354 a0 a → (∀ a', MA ψ a' → chg scZ a0 a' → Q (some (vi (nI (ψ 7 3)))) (sh, a', r, g)) → Gd YX8_back (z0 0 N0 Q) 0 0 12 [some (vr 50), some (vi (nI i))] [] (sh, a, r, g)
  | 0, i, a, hn, h1, hc, kq => by
    refine Gd_iload_n (i := 1) rfl eX8_back_12 ?_
    refine Gd_bipush kb_24 eX8_back_13 ?_
    refine Gd_icmp_geN (by first | omega | decide) (by first | omega | decide) eX8_back_15 (fun c15 => ?_) (fun c15 => ?_)
    · refine Gd_iconst ki_0 eX8_back_36 ?_
      refine Gd_istore_n1 rfl eX8_back_37 ?_
      exact m_back_L2 hW hM hIm hK 10 0 a (by omega) (fun j hj => h1 j (by omega)) (fun j hj => absurd hj (by omega)) hc kq
    · exact absurd c15 (by omega)
  | n + 1, i, a, hn, h1, hc, kq => by
    refine Gd_iload_n (i := 1) rfl eX8_back_12 ?_
    refine Gd_bipush kb_24 eX8_back_13 ?_
    refine Gd_icmp_geN (by first | omega | decide) (by first | omega | decide) eX8_back_15 (fun c15 => ?_) (fun c15 => ?_)
    · exact absurd c15 (by omega)
    · refine Gd_aload_n (i := 0) rfl eX8_back_18 ?_
      refine Gd_getR fl_RX8_16 (W_s50 hW) (W_r50_3 hW) eX8_back_19 ?_
      refine Gd_iload_n (i := 1) rfl eX8_back_22 ?_
      refine Gd_aload_n (i := 0) rfl eX8_back_23 ?_
      refine Gd_getR fl_RX8_35 (W_s50 hW) (W_r50_14 hW) eX8_back_24 ?_
      refine Gd_iload_n (i := 1) rfl eX8_back_27 ?_
      refine Gd_ialdN (W_s58 hW) (by first | omega | decide) eX8_back_28 ?_
      refine Gd_iastN (W_s53 hW) (by first | omega | decide) eX8_back_29 ?_
      refine Gd_iinc1 (ho := rfl) (he := nI_inc _) eX8_back_30 ?_
      refine Gd_goto eX8_back_33 ?_
      exact m_back_L1 hW hM hIm hK n (i + 1) (up2 a 53 i (a 58 i)) (by omega) (up_ext0 h1 (hc 58 i rfl)) (chg_up hc rfl) kq
theorem m_back {sh : List (Nat × Nat)} {a : Nat → Nat → Int32} {r : Nat → Nat → Option Nat} {g : Nat → Nat → Int64} {φ ψ : Nat → Nat → Nat} {b : Bool} (hW : WD sh r) (hM : MA φ a) (h13 : a 50 13 = bI b) (hIm : b = true → IM ψ a) (hK : b = true → IK ψ φ) : Mt YX8_back 0 0 0 [vr 50] (sh, a, r, g) (g_EV sh r g (vi (if b = true then nI (ψ 7 3) else -3)) (fun a' => MA (if b = true then ψ else φ) a' ∧ chg scZ a a')) := by
  refine Mt_of rfl (Nat.le_of_ble_eq_true rfl) rfl ?_
  refine Gd_aload_n (i := 0) rfl eX8_back_0 ?_
  refine Gd_getZe fl_RX8_287 (W_s50 hW) (h13 :) eX8_back_1 ?_
  refine Gd_if_neB eX8_back_4 (fun c4 => ?_) (fun c4 => ?_)
  · have hb := c4
    refine Gd_iconst ki_0 eX8_back_10 ?_
    refine Gd_istore_n1 rfl eX8_back_11 ?_
    exact m_back_L1 hW hM (hIm hb) (hK hb) 24 0 a (by omega) (fun j hj => absurd hj (by omega)) chg_rf (fun a' k1 k2 => by rw [hb]; exact ⟨a', rfl, rfl, k1, k2⟩)
  · refine Gd_bipush kb_m3 eX8_back_7 ?_
    exact Gd_ireturn eX8_back_9 rfl (Nat.le_refl _) (Nat.le_refl _) (by rw [show b = false from c4]; exact ⟨a, rfl, rfl, hM, chg_rf⟩)
theorem x_back {sh : List (Nat × Nat)} {a : Nat → Nat → Int32} {r : Nat → Nat → Option Nat} {g : Nat → Nat → Int64} {φ ψ : Nat → Nat → Nat} {b : Bool} (hW : WD sh r) (hA : FA 1 φ a) (h3 : a 0 3 = bI b) (hA17 : b = true → FA 17 ψ a) : Mt YX7_back 2 0 0 [vr 0] (sh, a, r, g) (g_EV sh r g (vi (if b = true then nI (ψ 7 3) else -3)) (fun a' => FA 1 (if b = true then ψ else φ) a' ∧ chg s1_ a a')) := by
  refine Mt_of rfl (Nat.le_of_ble_eq_true rfl) rfl ?_
  refine Gd_aload_n (i := 0) rfl eX7_back_0 ?_
  refine Gd_getZe fl_RX7_22 (W_s0 hW) (h3 :) eX7_back_1 ?_
  refine Gd_if_neB eX7_back_4 (fun c4 => ?_) (fun c4 => ?_)
  · have hb := c4
    refine Gd_aload_n (i := 0) rfl eX7_back_10 ?_
    refine Gd_getR fl_RX7_10 (W_s0 hW) (W_r0_0 hW) eX7_back_11 ?_
    refine Gd_aload_n (i := 0) rfl eX7_back_14 ?_
    refine Gd_getR fl_RX7_19 (W_s0 hW) (W_r0_2 hW) eX7_back_15 ?_
    refine Gd_callE0 (g_cV (x_become1 hW (hA17 hb)) ok_X0_become lk_RX7_232 (W_s1 hW) ⟨_, _, rfl⟩ rfl rfl (Nat.le_of_ble_eq_true rfl) (Nat.le_of_ble_eq_true rfl) (Nat.le_refl _) (Nat.le_refl _) eX7_back_18) (fun a2 hq2 => ?_)
    obtain ⟨hA2, hq2⟩ := hq2
    refine Gd_aload_n (i := 0) rfl eX7_back_21 ?_
    refine Gd_getR fl_RX7_10 (W_s0 hW) (W_r0_0 hW) eX7_back_22 ?_
    refine Gd_getIe (v := nI (ψ 7 3)) fl_RX7_90 (W_s1 hW) (FA_hu hA2 :) eX7_back_25 ?_
    exact Gd_ireturn eX7_back_28 rfl (Nat.le_refl _) (Nat.le_refl _) (by rw [hb]; exact ⟨a2, rfl, rfl, hA2, hq2⟩)
  · refine Gd_bipush kb_m3 eX7_back_7 ?_
    exact Gd_ireturn eX7_back_9 rfl (Nat.le_refl _) (Nat.le_refl _) (by rw [show b = false from c4]; exact ⟨a, rfl, rfl, hA, chg_rf⟩)
