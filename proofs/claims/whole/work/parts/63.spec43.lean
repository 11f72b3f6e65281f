theorem scC_62 {k j : Nat} (h : scC k j = false) : sR 62 k j = false := by simp [scC] at h; simp [sR]; omega
theorem m_sheet_L {sh : List (Nat × Nat)} {r : Nat → Nat → Option Nat} {g : Nat → Nat → Int64} (hW : WD sh r) {j : Nat} (hj : j < 4) {x2 x3 : Int32} {Q : Option g_V → g_H → Prop} {N0 : Nat} {a0 : Nat → Nat → Int32} : ∀ (n i : Nat) (a : Nat → Nat → Int32), i + n = 40 → (∀ k, k < i → a 62 (40 * j + k) = nI 0) → (∀ x, x < 40 * j ∨ 40 * j + 40 ≤ x → a 62 x = a0 62 x) → chg (sR 62) a0 a → (∀ a', (∀ k, k < 40 → a' 62 (40 * j + k) = nI 0) → (∀ x, x < 40 * j ∨ 40 * j + 40 ≤ x → a' 62 x = a0 62 x) → chg (sR 62) a0 a' → Q (some (vi (nI 1))) (sh, a', r, g)) → Gd YX8_sheet (z0 1 N0 Q) 0 0 70 [some (vr 50), some (vi (nI j)), some (vi x2), some (vi x3), some (vi (nI i))] [] (sh, a, r, g)
  | 0, i, a, hn, h1, h2, hc, kq => by
    refine Gd_iload (i := 4) rfl eX8_sheet_70 ?_
    refine Gd_bipush kb_40 eX8_sheet_72 ?_
    refine Gd_icmp_geN (by first | omega | decide) (by first | omega | decide) eX8_sheet_74 (fun c74 => ?_) (fun c74 => ?_)
    · refine Gd_iconst ki_1 eX8_sheet_96 ?_
      exact Gd_ireturn eX8_sheet_97 rfl (Nat.le_refl _) (Nat.le_refl _) (by rw [show i = 40 by omega] at *; exact kq _ h1 h2 hc)
    · exact absurd c74 (by omega)
  | n + 1, i, a, hn, h1, h2, hc, kq => by
    refine Gd_iload (i := 4) rfl eX8_sheet_70 ?_
    refine Gd_bipush kb_40 eX8_sheet_72 ?_
    refine Gd_icmp_geN (by first | omega | decide) (by first | omega | decide) eX8_sheet_74 (fun c74 => ?_) (fun c74 => ?_)
    · exact absurd c74 (by omega)
    · refine Gd_aload_n (i := 0) rfl eX8_sheet_77 ?_
      refine Gd_getR fl_RX8_47 (W_s50 hW) (W_r50_18 hW) eX8_sheet_78 ?_
      refine Gd_bipush kb_40 eX8_sheet_81 ?_
      refine Gd_iload_n (i := 1) rfl eX8_sheet_83 ?_
      refine Gd_imulN eX8_sheet_84 ?_
      refine Gd_iload (i := 4) rfl eX8_sheet_85 ?_
      refine Gd_iaddN eX8_sheet_87 ?_
      refine Gd_iconst ki_0 eX8_sheet_88 ?_
      refine Gd_iastN (W_s62 hW) (by first | omega | decide) eX8_sheet_89 ?_
      refine Gd_iinc4 (ho := rfl) (he := nI_inc _) eX8_sheet_90 ?_
      refine Gd_goto eX8_sheet_93 ?_
      exact m_sheet_L hW hj n (i + 1) (up2 a 62 (40 * j + i) (nI 0)) (by omega) (up_ext (f := fun _ => nI 0) (40 * j) h1 rfl) (fun x hx => (up2_j _ _ (by omega)).trans (h2 x hx)) (chg_tr hc chg_row) kq
theorem m_sheet {sh : List (Nat × Nat)} {a : Nat → Nat → Int32} {r : Nat → Nat → Option Nat} {g : Nat → Nat → Int64} {so sz : Nat → Nat} {cl : Nat → Nat → Int32} (hW : WD sh r) (hS : MS so sz cl a) (hSI : SI so sz) (vs vo vn : Int32) : Mt YX8_sheet 1 0 0 [vr 50, vi vs, vi vo, vi vn] (sh, a, r, g) (g_EV sh r g (vi (rSheet (so, sz, cl) vs vo vn).1) (fun a' => MS (rSheet (so, sz, cl) vs vo vn).2.1 (rSheet (so, sz, cl) vs vo vn).2.2.1 (rSheet (so, sz, cl) vs vo vn).2.2.2 a' ∧ chg scC a a')) := by
  refine Mt_of rfl (Nat.le_of_ble_eq_true rfl) rfl ?_
  refine Gd_iload_n (i := 1) rfl eX8_sheet_0 ?_
  refine Gd_iconst ki_0 eX8_sheet_1 ?_
  refine Gd_iconst ki_3 eX8_sheet_2 ?_
  refine Gd_callP (g_cS (m_in _ _ _) ok_X8_in lk_RX8_84 rfl rfl (Nat.le_of_ble_eq_true rfl) (Nat.le_of_ble_eq_true rfl) (Nat.le_refl _) (Nat.le_refl _) eX8_sheet_3) ?_
  refine Gd_if_eqB eX8_sheet_6 (fun c6 => ?_) (fun c6 => ?_)
  · refine Gd_bipush kb_m2 eX8_sheet_29 ?_
    exact Gd_ireturn eX8_sheet_31 rfl (Nat.le_refl _) (Nat.le_refl _) (by rw [rSheet_s (by rw [← inb0 (k := 3) (by decide)]; exact c6)]; exact ⟨a, rfl, rfl, hS, chg_rf⟩)
  · have hj0 : inr vs 4 = true := by rw [inb0 (by decide)] at c6; exact c6
    obtain ⟨j, hj, rfl⟩ := inr_t hj0 (by decide)
    refine Gd_iload_n (i := 2) rfl eX8_sheet_9 ?_
    refine Gd_iconst ki_m1 eX8_sheet_10 ?_
    refine Gd_iconst ki_2 eX8_sheet_11 ?_
    refine Gd_callP (g_cS (m_in _ _ _) ok_X8_in lk_RX8_84 rfl rfl (Nat.le_of_ble_eq_true rfl) (Nat.le_of_ble_eq_true rfl) (Nat.le_refl _) (Nat.le_refl _) eX8_sheet_12) ?_
    refine Gd_if_eqB eX8_sheet_15 (fun c15 => ?_) (fun c15 => ?_)
    · refine Gd_bipush kb_m2 eX8_sheet_29 ?_
      exact Gd_ireturn eX8_sheet_31 rfl (Nat.le_refl _) (Nat.le_refl _) (by rw [rSheet_o hj c15]; exact ⟨a, rfl, rfl, hS, chg_rf⟩)
    · rcases inb_m2 (by decide) c15 with rfl | ⟨o, ho, rfl⟩
      · refine Gd_iload_n (i := 2) rfl eX8_sheet_18 ?_
        refine Gd_iconst ki_m1 eX8_sheet_19 ?_
        refine Gd_icmp_eq eX8_sheet_20 (fun _ => ?_) (fun q => by first | exact absurd q (by decide) | exact absurd (by decide) q)
        refine Gd_iload_n (i := 2) rfl eX8_sheet_32 ?_
        refine Gd_iconst ki_m1 eX8_sheet_33 ?_
        refine Gd_icmp_eq eX8_sheet_34 (fun _ => ?_) (fun q => by first | exact absurd q (by decide) | exact absurd (by decide) q)
        refine Gd_aload_n (i := 0) rfl eX8_sheet_44 ?_
        refine Gd_getR fl_RX8_41 (W_s50 hW) (W_r50_16 hW) eX8_sheet_45 ?_
        refine Gd_iload_n (i := 1) rfl eX8_sheet_48 ?_
        refine Gd_iload_n (i := 2) rfl eX8_sheet_49 ?_
        refine Gd_iastN (W_s60 hW) (by first | omega | decide) eX8_sheet_50 ?_
        refine Gd_aload_n (i := 0) rfl eX8_sheet_51 ?_
        refine Gd_getR fl_RX8_44 (W_s50 hW) (W_r50_17 hW) eX8_sheet_52 ?_
        refine Gd_iload_n (i := 1) rfl eX8_sheet_55 ?_
        refine Gd_iload_n (i := 2) rfl eX8_sheet_56 ?_
        refine Gd_iconst ki_m1 eX8_sheet_57 ?_
        refine Gd_icmp_ne eX8_sheet_58 (fun q => by first | exact absurd q (by decide) | exact absurd (by decide) q) (fun _ => ?_)
        refine Gd_iconst ki_0 eX8_sheet_61 ?_
        refine Gd_goto eX8_sheet_62 ?_
        refine Gd_iastN (W_s61 hW) (by first | omega | decide) eX8_sheet_66 ?_
        refine Gd_iconst ki_0 eX8_sheet_67 ?_
        refine Gd_istore4 rfl eX8_sheet_68 ?_
        exact m_sheet_L hW hj 40 0 (up2 (up2 a 60 j (-1)) 61 j (nI 0)) (by omega) (fun i hi => absurd hi (by omega)) (fun _ _ => rfl) chg_rf (fun a' k1 k2 k3 => by rw [rSheet_m hj]; exact ⟨a', rfl, rfl, MS_shz hj hS ((k3 _ _ rfl).trans (by simp [up2, nI_m1])) ((k3 _ _ rfl).trans (up2_s _ _ _ _)) k1 (fun x hx => (k3 _ _ rfl).trans (by simp [up2, hx])) (fun x hx => (k3 _ _ rfl).trans (by simp [up2, hx])) (fun x hx => k2 x hx), chg_tr (chg_up (chg_up chg_rf rfl) rfl) (chg_mono2 scC_62 k3)⟩)
      · refine Gd_iload_n (i := 2) rfl eX8_sheet_18 ?_
        refine Gd_iconst ki_m1 eX8_sheet_19 ?_
        refine Gd_icmp_eqM0 (by first | omega | decide) eX8_sheet_20 ?_
        refine Gd_iload_n (i := 3) rfl eX8_sheet_23 ?_
        refine Gd_bipush kb_40 eX8_sheet_24 ?_
        refine Gd_icmp_le eX8_sheet_26 (fun c26 => ?_) (fun c26 => ?_)
        · refine Gd_iload_n (i := 2) rfl eX8_sheet_32 ?_
          refine Gd_iconst ki_m1 eX8_sheet_33 ?_
          refine Gd_icmp_eqM0 (by first | omega | decide) eX8_sheet_34 ?_
          refine Gd_iload_n (i := 3) rfl eX8_sheet_37 ?_
          refine Gd_if_ge eX8_sheet_38 (fun c38 => ?_) (fun c38 => ?_)
          · obtain ⟨n, hn2, rfl⟩ := nI_of (x := vn) (by first | exact c38 | exact Int32.not_lt.mpr c38)
            have hn40 : n ≤ 40 := (nI_leI hn2 (by decide)).mp c26
            refine Gd_aload_n (i := 0) rfl eX8_sheet_44 ?_
            refine Gd_getR fl_RX8_41 (W_s50 hW) (W_r50_16 hW) eX8_sheet_45 ?_
            refine Gd_iload_n (i := 1) rfl eX8_sheet_48 ?_
            refine Gd_iload_n (i := 2) rfl eX8_sheet_49 ?_
            refine Gd_iastN (W_s60 hW) (by first | omega | decide) eX8_sheet_50 ?_
            refine Gd_aload_n (i := 0) rfl eX8_sheet_51 ?_
            refine Gd_getR fl_RX8_44 (W_s50 hW) (W_r50_17 hW) eX8_sheet_52 ?_
            refine Gd_iload_n (i := 1) rfl eX8_sheet_55 ?_
            refine Gd_iload_n (i := 2) rfl eX8_sheet_56 ?_
            refine Gd_iconst ki_m1 eX8_sheet_57 ?_
            refine Gd_icmp_neM0 (by first | omega | decide) eX8_sheet_58 ?_
            refine Gd_iload_n (i := 3) rfl eX8_sheet_65 ?_
            refine Gd_iastN (W_s61 hW) (by first | omega | decide) eX8_sheet_66 ?_
            refine Gd_iconst ki_0 eX8_sheet_67 ?_
            refine Gd_istore4 rfl eX8_sheet_68 ?_
            exact m_sheet_L hW hj 40 0 (up2 (up2 a 60 j (nI o)) 61 j (nI n)) (by omega) (fun i hi => absurd hi (by omega)) (fun _ _ => rfl) chg_rf (fun a' k1 k2 k3 => by rw [rSheet_u hj ho hn40]; exact ⟨a', rfl, rfl, MS_shz hj hS ((k3 _ _ rfl).trans (by simp [up2])) ((k3 _ _ rfl).trans (up2_s _ _ _ _)) k1 (fun x hx => (k3 _ _ rfl).trans (by simp [up2, hx])) (fun x hx => (k3 _ _ rfl).trans (by simp [up2, hx])) (fun x hx => k2 x hx), chg_tr (chg_up (chg_up chg_rf rfl) rfl) (chg_mono2 scC_62 k3)⟩)
          · refine Gd_bipush kb_m14 eX8_sheet_41 ?_
            exact Gd_ireturn eX8_sheet_43 rfl (Nat.le_refl _) (Nat.le_refl _) (by rw [rSheet_l hj ho (by first | exact c26 | exact Int32.not_lt.mpr c26) (by first | exact c38 | exact Int32.not_le.mp c38)]; exact ⟨a, rfl, rfl, hS, chg_rf⟩)
        · refine Gd_bipush kb_m2 eX8_sheet_29 ?_
          exact Gd_ireturn eX8_sheet_31 rfl (Nat.le_refl _) (Nat.le_refl _) (by rw [rSheet_b hj ho (by first | exact c26 | exact Int32.not_le.mp c26)]; exact ⟨a, rfl, rfl, hS, chg_rf⟩)
theorem x_sbec_L {sh : List (Nat × Nat)} {r : Nat → Nat → Option Nat} {g : Nat → Nat → Int64} (hW : WD sh r) {j : Nat} (hj : j < 4) {x1 x2 : Int32} {Q : Option g_V → g_H → Prop} {N0 : Nat} {a0 : Nat → Nat → Int32} : ∀ (n i : Nat) (a : Nat → Nat → Int32), i + n = 40 → (∀ k, k < i → a (39 + 2 * j + 1) k = nI 0) → chg (sR (39 + 2 * j + 1)) a0 a → (∀ a', (∀ k, k < 40 → a' (39 + 2 * j + 1) k = nI 0) → chg (sR (39 + 2 * j + 1)) a0 a' → Q none (sh, a', r, g)) → Gd YX4_become (z0 0 N0 Q) 0 0 12 [some (vr (39 + 2 * j)), some (vi x1), some (vi x2), some (vi (nI i))] [] (sh, a, r, g)
  | 0, i, a, hn, h1, hc, kq => by
    refine Gd_iload_n (i := 3) rfl eX4_become_12 ?_
    refine Gd_bipush kb_40 eX4_become_13 ?_
    refine Gd_icmp_geN (by first | omega | decide) (by first | omega | decide) eX4_become_15 (fun c15 => ?_) (fun c15 => ?_)
    · exact Gd_return eX4_become_31 rfl (Nat.le_refl _) (Nat.le_refl _) (by rw [show i = 40 by omega] at *; exact kq _ h1 hc)
    · exact absurd c15 (by omega)
  | n + 1, i, a, hn, h1, hc, kq => by
    refine Gd_iload_n (i := 3) rfl eX4_become_12 ?_
    refine Gd_bipush kb_40 eX4_become_13 ?_
    refine Gd_icmp_geN (by first | omega | decide) (by first | omega | decide) eX4_become_15 (fun c15 => ?_) (fun c15 => ?_)
    · exact absurd c15 (by omega)
    · refine Gd_aload_n (i := 0) rfl eX4_become_18 ?_
      refine Gd_getR fl_RX4_18 (W_Sj hW (j := j) (by first | omega | decide)).1 (W_Sj hW (j := j) (by first | omega | decide)).2.2 eX4_become_19 ?_
      refine Gd_iload_n (i := 3) rfl eX4_become_22 ?_
      refine Gd_iconst ki_0 eX4_become_23 ?_
      refine Gd_iastN (W_Sj hW (j := j) (by first | omega | decide)).2.1 (by first | omega | decide) eX4_become_24 ?_
      refine Gd_iinc3 (ho := rfl) (he := nI_inc _) eX4_become_25 ?_
      refine Gd_goto eX4_become_28 ?_
      exact x_sbec_L hW hj n (i + 1) (up2 a (39 + 2 * j + 1) i (nI 0)) (by omega) (up_ext0 (f := fun _ => nI 0) h1 rfl) (chg_tr hc chg_row) kq
def sJ (j k i : Nat) : Bool := decide (k = 39 + 2 * j) || decide (k = 39 + 2 * j + 1)
theorem sJ_r {j k i : Nat} (h : sJ j k i = false) : sR (39 + 2 * j + 1) k i = false := by simp [sJ] at h; simp [sR]; omega
theorem scCx_J {j k i : Nat} (hj : j < 4) (h : scCx k i = false) : sJ j k i = false := by simp [scCx] at h; simp [sJ]; omega
theorem x_sbecome {sh : List (Nat × Nat)} {a : Nat → Nat → Int32} {r : Nat → Nat → Option Nat} {g : Nat → Nat → Int64} {so sz : Nat → Nat} {cl : Nat → Nat → Int32} (hW : WD sh r) (hS : SX so sz cl a) {j o n : Nat} {vo : Int32} (hj : j < 4) (hvo : vo = nI o) : Mt YX4_become 0 0 0 [vr (39 + 2 * j), vi vo, vi (nI n)] (sh, a, r, g) (g_E0 sh r g (fun a' => SX (shz (so, sz, cl) j o n).1 (shz (so, sz, cl) j o n).2.1 (shz (so, sz, cl) j o n).2.2 a' ∧ chg (sJ j) a a')) := by
  refine Mt_of rfl (Nat.le_of_ble_eq_true rfl) rfl ?_
  refine Gd_aload_n (i := 0) rfl eX4_become_0 ?_
  refine Gd_iload_n (i := 1) rfl eX4_become_1 ?_
  refine Gd_putI fl_RX4_9 (W_Sj hW (j := j) (by first | omega | decide)).1 eX4_become_2 ?_
  refine Gd_aload_n (i := 0) rfl eX4_become_5 ?_
  refine Gd_iload_n (i := 2) rfl eX4_become_6 ?_
  refine Gd_putI fl_RX4_15 (W_Sj hW (j := j) (by first | omega | decide)).1 eX4_become_7 ?_
  refine Gd_iconst ki_0 eX4_become_10 ?_
  refine Gd_istore_n3 rfl eX4_become_11 ?_
  exact x_sbec_L hW hj 40 0 _ (by omega) (fun i hi => absurd hi (by omega)) chg_rf (fun a' k1 k2 => ⟨a', rfl, rfl, SX_shz hj hS ((k2 _ _ (by simp [sR])).trans (by simp [up2, hvo])) ((k2 _ _ (by simp [sR])).trans (up2_s _ _ _ _)) k1 (fun k i h1 h2 => (k2 _ _ (by simp [sR, h2])).trans (by simp [up2, h1])), chg_tr (chg_up (chg_up chg_rf (by simp [sJ])) (by simp [sJ])) (chg_mono2 sJ_r k2)⟩)
theorem x_sheet {sh : List (Nat × Nat)} {a : Nat → Nat → Int32} {r : Nat → Nat → Option Nat} {g : Nat → Nat → Int64} {so sz : Nat → Nat} {cl : Nat → Nat → Int32} (hW : WD sh r) (hS : SX so sz cl a) (hSI : SI so sz) (vs vo vn : Int32) : Mt YX7_sheet 1 0 0 [vr 0, vi vs, vi vo, vi vn] (sh, a, r, g) (g_EV sh r g (vi (rSheet (so, sz, cl) vs vo vn).1) (fun a' => SX (rSheet (so, sz, cl) vs vo vn).2.1 (rSheet (so, sz, cl) vs vo vn).2.2.1 (rSheet (so, sz, cl) vs vo vn).2.2.2 a' ∧ chg scCx a a')) := by
  refine Mt_of rfl (Nat.le_of_ble_eq_true rfl) rfl ?_
  refine Gd_iload_n (i := 1) rfl eX7_sheet_0 ?_
  refine Gd_callP (g_cS (x_isSheet _) ok_X7_isSheet lk_RX7_264 rfl rfl (Nat.le_of_ble_eq_true rfl) (Nat.le_of_ble_eq_true rfl) (Nat.le_refl _) (Nat.le_refl _) eX7_sheet_1) ?_
  refine Gd_if_eqB eX7_sheet_4 (fun c4 => ?_) (fun c4 => ?_)
  · refine Gd_bipush kb_m2 eX7_sheet_27 ?_
    exact Gd_ireturn eX7_sheet_29 rfl (Nat.le_refl _) (Nat.le_refl _) (by rw [rSheet_s c4]; exact ⟨a, rfl, rfl, hS, chg_rf⟩)
  · have hj0 := c4
    obtain ⟨j, hj, rfl⟩ := inr_t hj0 (by decide)
    refine Gd_iload_n (i := 2) rfl eX7_sheet_7 ?_
    refine Gd_iconst ki_m1 eX7_sheet_8 ?_
    refine Gd_iconst ki_2 eX7_sheet_9 ?_
    refine Gd_callP (g_cS (x_isWithin _ _ _) ok_X7_isWithin lk_RX7_119 rfl rfl (Nat.le_of_ble_eq_true rfl) (Nat.le_of_ble_eq_true rfl) (Nat.le_refl _) (Nat.le_refl _) eX7_sheet_10) ?_
    refine Gd_if_eqB eX7_sheet_13 (fun c13 => ?_) (fun c13 => ?_)
    · refine Gd_bipush kb_m2 eX7_sheet_27 ?_
      exact Gd_ireturn eX7_sheet_29 rfl (Nat.le_refl _) (Nat.le_refl _) (by rw [rSheet_o hj c13]; exact ⟨a, rfl, rfl, hS, chg_rf⟩)
    · rcases inb_m2 (by decide) c13 with rfl | ⟨o, ho, rfl⟩
      · refine Gd_iload_n (i := 2) rfl eX7_sheet_16 ?_
        refine Gd_iconst ki_m1 eX7_sheet_17 ?_
        refine Gd_icmp_eq eX7_sheet_18 (fun _ => ?_) (fun q => by first | exact absurd q (by decide) | exact absurd (by decide) q)
        refine Gd_iload_n (i := 2) rfl eX7_sheet_30 ?_
        refine Gd_iconst ki_m1 eX7_sheet_31 ?_
        refine Gd_icmp_eq eX7_sheet_32 (fun _ => ?_) (fun q => by first | exact absurd q (by decide) | exact absurd (by decide) q)
        refine Gd_aload_n (i := 0) rfl eX7_sheet_42 ?_
        refine Gd_getR fl_RX7_56 (W_s0 hW) (W_r0_8 hW) eX7_sheet_43 ?_
        refine Gd_iload_n (i := 1) rfl eX7_sheet_46 ?_
        refine Gd_aaldN (Or.inl ⟨rfl, rfl, rfl⟩ : g_rc 21 1 4) (W_s38 hW) (by first | omega | decide) (W_r38 hW (j := j) (by first | omega | decide)) eX7_sheet_47 ?_
        refine Gd_iload_n (i := 2) rfl eX7_sheet_48 ?_
        refine Gd_iload_n (i := 2) rfl eX7_sheet_49 ?_
        refine Gd_iconst ki_m1 eX7_sheet_50 ?_
        refine Gd_icmp_ne eX7_sheet_51 (fun q => by first | exact absurd q (by decide) | exact absurd (by decide) q) (fun _ => ?_)
        refine Gd_iconst ki_0 eX7_sheet_54 ?_
        refine Gd_goto eX7_sheet_55 ?_
        refine Gd_callE0 (g_cV (x_sbecome hW hS (j := j) (o := 4294967295) (n := 0) hj nI_m1.symm) ok_X4_become lk_RX7_268 (W_Sj hW (j := j) (by first | omega | decide)).1 ⟨_, _, rfl⟩ rfl rfl (Nat.le_of_ble_eq_true rfl) (Nat.le_of_ble_eq_true rfl) (Nat.le_refl _) (Nat.le_refl _) eX7_sheet_59) (fun a2 hq => ?_)
        obtain ⟨hS2, hq⟩ := hq
        refine Gd_iconst ki_1 eX7_sheet_62 ?_
        exact Gd_ireturn eX7_sheet_63 rfl (Nat.le_refl _) (Nat.le_refl _) (by rw [rSheet_m hj]; exact ⟨a2, rfl, rfl, hS2, chg_mono2 (scCx_J hj) hq⟩)
      · refine Gd_iload_n (i := 2) rfl eX7_sheet_16 ?_
        refine Gd_iconst ki_m1 eX7_sheet_17 ?_
        refine Gd_icmp_eqM0 (by first | omega | decide) eX7_sheet_18 ?_
        refine Gd_iload_n (i := 3) rfl eX7_sheet_21 ?_
        refine Gd_bipush kb_40 eX7_sheet_22 ?_
        refine Gd_icmp_le eX7_sheet_24 (fun c24 => ?_) (fun c24 => ?_)
        · refine Gd_iload_n (i := 2) rfl eX7_sheet_30 ?_
          refine Gd_iconst ki_m1 eX7_sheet_31 ?_
          refine Gd_icmp_eqM0 (by first | omega | decide) eX7_sheet_32 ?_
          refine Gd_iload_n (i := 3) rfl eX7_sheet_35 ?_
          refine Gd_if_ge eX7_sheet_36 (fun c36 => ?_) (fun c36 => ?_)
          · obtain ⟨n, hn2, rfl⟩ := nI_of (x := vn) (by first | exact c36 | exact Int32.not_lt.mpr c36)
            have hn40 : n ≤ 40 := (nI_leI hn2 (by decide)).mp c24
            refine Gd_aload_n (i := 0) rfl eX7_sheet_42 ?_
            refine Gd_getR fl_RX7_56 (W_s0 hW) (W_r0_8 hW) eX7_sheet_43 ?_
            refine Gd_iload_n (i := 1) rfl eX7_sheet_46 ?_
            refine Gd_aaldN (Or.inl ⟨rfl, rfl, rfl⟩ : g_rc 21 1 4) (W_s38 hW) (by first | omega | decide) (W_r38 hW (j := j) (by first | omega | decide)) eX7_sheet_47 ?_
            refine Gd_iload_n (i := 2) rfl eX7_sheet_48 ?_
            refine Gd_iload_n (i := 2) rfl eX7_sheet_49 ?_
            refine Gd_iconst ki_m1 eX7_sheet_50 ?_
            refine Gd_icmp_neM0 (by first | omega | decide) eX7_sheet_51 ?_
            refine Gd_iload_n (i := 3) rfl eX7_sheet_58 ?_
            refine Gd_callE0 (g_cV (x_sbecome hW hS (j := j) (o := o) (n := n) hj rfl) ok_X4_become lk_RX7_268 (W_Sj hW (j := j) (by first | omega | decide)).1 ⟨_, _, rfl⟩ rfl rfl (Nat.le_of_ble_eq_true rfl) (Nat.le_of_ble_eq_true rfl) (Nat.le_refl _) (Nat.le_refl _) eX7_sheet_59) (fun a2 hq => ?_)
            obtain ⟨hS2, hq⟩ := hq
            refine Gd_iconst ki_1 eX7_sheet_62 ?_
            exact Gd_ireturn eX7_sheet_63 rfl (Nat.le_refl _) (Nat.le_refl _) (by rw [rSheet_u hj ho hn40]; exact ⟨a2, rfl, rfl, hS2, chg_mono2 (scCx_J hj) hq⟩)
          · refine Gd_bipush kb_m14 eX7_sheet_39 ?_
            exact Gd_ireturn eX7_sheet_41 rfl (Nat.le_refl _) (Nat.le_refl _) (by rw [rSheet_l hj ho (by first | exact c24 | exact Int32.not_lt.mpr c24) (by first | exact c36 | exact Int32.not_le.mp c36)]; exact ⟨a, rfl, rfl, hS, chg_rf⟩)
        · refine Gd_bipush kb_m2 eX7_sheet_27 ?_
          exact Gd_ireturn eX7_sheet_29 rfl (Nat.le_refl _) (Nat.le_refl _) (by rw [rSheet_b hj ho (by first | exact c24 | exact Int32.not_le.mp c24)]; exact ⟨a, rfl, rfl, hS, chg_rf⟩)
