theorem x_isByte {h : g_H} (v : Int32) : Mt YX7_isByte 0 0 0 [vi v] h (g_P (some (vi (bI (inr v 256)))) h) := by
  refine Mt_of rfl (Nat.le_of_ble_eq_true rfl) rfl ?_
  refine Gd_iload_n (i := 0) rfl eX7_isByte_0 ?_
  refine Gd_if_lt eX7_isByte_1 (fun c1 => ?_) (fun c1 => ?_)
  · refine Gd_iconst ki_0 eX7_isByte_15 ?_
    exact Gd_zreturn eX7_isByte_16 rfl (by decide) (Nat.le_refl _) (Nat.le_refl _) ⟨by rw [← inb0 (k := 255) (by decide), inb_l0 c1]; rfl, rfl⟩
  · refine Gd_iload_n (i := 0) rfl eX7_isByte_4 ?_
    refine Gd_sipush ks_255 eX7_isByte_5 ?_
    refine Gd_icmp_gt eX7_isByte_8 (fun c8 => ?_) (fun c8 => ?_)
    · refine Gd_iconst ki_0 eX7_isByte_15 ?_
      exact Gd_zreturn eX7_isByte_16 rfl (by decide) (Nat.le_refl _) (Nat.le_refl _) ⟨by rw [← inb0 (k := 255) (by decide), inb_f2 c8]; rfl, rfl⟩
    · refine Gd_iconst ki_1 eX7_isByte_11 ?_
      refine Gd_goto eX7_isByte_12 ?_
      exact Gd_zreturn eX7_isByte_16 rfl (by decide) (Nat.le_refl _) (Nat.le_refl _) ⟨by rw [← inb0 (k := 255) (by decide), inb_c0 c1 c8]; rfl, rfl⟩
theorem x_radd {sh : List (Nat × Nat)} {a : Nat → Nat → Int32} {r : Nat → Nat → Option Nat} {g : Nat → Nat → Int64} (hW : WD sh r) {m v : Nat} (h8 : a 25 1 = nI m) (hm : m < 160) : Mt YX2_add 0 0 0 [vr 25, vi (nI v)] (sh, a, r, g) (g_P none (sh, up2 (up2 a 26 m (nI v)) 25 1 (nI (m + 1)), r, g)) := by
  refine Mt_of rfl (Nat.le_of_ble_eq_true rfl) rfl ?_
  refine Gd_aload_n (i := 0) rfl eX2_add_0 ?_
  refine Gd_getIe (v := nI (m)) fl_RX2_15 (W_s25 hW) (h8 :) eX2_add_1 ?_
  refine Gd_sipush ks_160 eX2_add_4 ?_
  refine Gd_icmp_geN (by first | omega | decide) (by first | omega | decide) eX2_add_7 (fun c7 => ?_) (fun c7 => ?_)
  · exact absurd c7 (by omega)
  · refine Gd_aload_n (i := 0) rfl eX2_add_10 ?_
    refine Gd_getR fl_RX2_9 (W_s25 hW) (W_r25_0 hW) eX2_add_11 ?_
    refine Gd_aload_n (i := 0) rfl eX2_add_14 ?_
    refine Gd_getIe (v := nI (m)) fl_RX2_15 (W_s25 hW) (h8 :) eX2_add_15 ?_
    refine Gd_iload_n (i := 1) rfl eX2_add_18 ?_
    refine Gd_iastN (W_s26 hW) (by first | omega | decide) eX2_add_19 ?_
    refine Gd_aload_n (i := 0) rfl eX2_add_20 ?_
    refine Gd_dup rfl eX2_add_21 ?_
    refine Gd_getIe (v := nI (m)) fl_RX2_15 (W_s25 hW) (h8 :) eX2_add_22 ?_
    refine Gd_iconst ki_1 eX2_add_25 ?_
    refine Gd_iaddN eX2_add_26 ?_
    refine Gd_putI fl_RX2_15 (W_s25 hW) eX2_add_27 ?_
    exact Gd_return eX2_add_30 rfl (Nat.le_refl _) (Nat.le_refl _) ⟨rfl, rfl⟩
theorem m_feed_L {sh : List (Nat × Nat)} {r : Nat → Nat → Option Nat} {g : Nat → Nat → Int64} (hW : WD sh r) {nb n b0 b1 b2 b3 b4 : Nat} {tp : Nat → Nat} (hn5 : n ≤ 5) {Q : Option g_V → g_H → Prop} {N0 : Nat} {a0 : Nat → Nat → Int32} : ∀ (m k : Nat) (a : Nat → Nat → Int32), k + m = n → nb + n ≤ 160 → a 50 8 = nI (nb + k) → (∀ i, i < nb + k → a 55 i = nI (fds (fby b0 b1 b2 b3 b4) nb tp i)) → chg (scN 50 8 55) a0 a → (∀ a', a' 50 8 = nI (nb + n) → (∀ i, i < nb + n → a' 55 i = nI (fds (fby b0 b1 b2 b3 b4) nb tp i)) → chg (scN 50 8 55) a0 a' → Q (some (vi (nI (nb + n)))) (sh, a', r, g)) → Gd YX8_feed (z0 2 N0 Q) 0 0 68 [some (vr 50), some (vi (nI n)), some (vi (nI b0)), some (vi (nI b1)), some (vi (nI b2)), some (vi (nI b3)), some (vi (nI b4)), some (vi (nI k))] [] (sh, a, r, g)
  | 0, k, a, hn, hnb, h8, h55, hc, kq => by
    refine Gd_iload (i := 7) rfl eX8_feed_68 ?_
    refine Gd_iload_n (i := 1) rfl eX8_feed_70 ?_
    refine Gd_icmp_geN (by first | omega | decide) (by first | omega | decide) eX8_feed_71 (fun c71 => ?_) (fun c71 => ?_)
    · refine Gd_aload_n (i := 0) rfl eX8_feed_142 ?_
      refine Gd_getIe (v := nI (nb + k)) fl_RX8_74 (W_s50 hW) (h8 :) eX8_feed_143 ?_
      exact Gd_ireturn eX8_feed_146 rfl (Nat.le_refl _) (Nat.le_refl _) (by rw [show k = n by omega] at *; exact kq _ h8 h55 hc)
    · exact absurd c71 (by omega)
  | m + 1, k, a, hn, hnb, h8, h55, hc, kq => by
    refine Gd_iload (i := 7) rfl eX8_feed_68 ?_
    refine Gd_iload_n (i := 1) rfl eX8_feed_70 ?_
    refine Gd_icmp_geN (by first | omega | decide) (by first | omega | decide) eX8_feed_71 (fun c71 => ?_) (fun c71 => ?_)
    · exact absurd c71 (by omega)
    · refine Gd_aload_n (i := 0) rfl eX8_feed_74 ?_
      refine Gd_getR fl_RX8_26 (W_s50 hW) (W_r50_7 hW) eX8_feed_75 ?_
      refine Gd_aload_n (i := 0) rfl eX8_feed_78 ?_
      refine Gd_getIe (v := nI (nb + k)) fl_RX8_74 (W_s50 hW) (h8 :) eX8_feed_79 ?_
      refine Gd_iload (i := 7) rfl eX8_feed_82 ?_
      refine Gd_if_neN (by first | omega | decide) eX8_feed_84 (fun c84 => ?_) (fun c84 => ?_)
      · refine Gd_iload (i := 7) rfl eX8_feed_91 ?_
        refine Gd_iconst ki_1 eX8_feed_93 ?_
        refine Gd_icmp_neN (by first | omega | decide) (by first | omega | decide) eX8_feed_94 (fun c94 => ?_) (fun c94 => ?_)
        · refine Gd_iload (i := 7) rfl eX8_feed_101 ?_
          refine Gd_iconst ki_2 eX8_feed_103 ?_
          refine Gd_icmp_neN (by first | omega | decide) (by first | omega | decide) eX8_feed_104 (fun c104 => ?_) (fun c104 => ?_)
          · refine Gd_iload (i := 7) rfl eX8_feed_112 ?_
            refine Gd_iconst ki_3 eX8_feed_114 ?_
            refine Gd_icmp_neN (by first | omega | decide) (by first | omega | decide) eX8_feed_115 (fun c115 => ?_) (fun c115 => ?_)
            · refine Gd_iload (i := 6) rfl eX8_feed_123 ?_
              refine Gd_iastN (W_s55 hW) (by first | omega | decide) eX8_feed_125 ?_
              refine Gd_aload_n (i := 0) rfl eX8_feed_126 ?_
              refine Gd_dup rfl eX8_feed_127 ?_
              refine Gd_getIe (v := nI (nb + k)) fl_RX8_74 (W_s50 hW) (h8 :) eX8_feed_128 ?_
              refine Gd_iconst ki_1 eX8_feed_131 ?_
              refine Gd_iaddN eX8_feed_132 ?_
              refine Gd_putI fl_RX8_74 (W_s50 hW) eX8_feed_133 ?_
              refine Gd_iinc7 (ho := rfl) (he := nI_inc _) eX8_feed_136 ?_
              refine Gd_goto eX8_feed_139 ?_
              exact m_feed_L hW hn5 m (k + 1) _ (by omega) hnb (up2_s _ _ _ _) (fun i hi => (fds_up h55 (by rw [fby, if_neg c84, if_neg c94, if_neg c104, if_neg c115]) i hi :)) (chg_up (chg_up hc rfl) rfl) kq
            · refine Gd_iload (i := 5) rfl eX8_feed_118 ?_
              refine Gd_goto eX8_feed_120 ?_
              refine Gd_iastN (W_s55 hW) (by first | omega | decide) eX8_feed_125 ?_
              refine Gd_aload_n (i := 0) rfl eX8_feed_126 ?_
              refine Gd_dup rfl eX8_feed_127 ?_
              refine Gd_getIe (v := nI (nb + k)) fl_RX8_74 (W_s50 hW) (h8 :) eX8_feed_128 ?_
              refine Gd_iconst ki_1 eX8_feed_131 ?_
              refine Gd_iaddN eX8_feed_132 ?_
              refine Gd_putI fl_RX8_74 (W_s50 hW) eX8_feed_133 ?_
              refine Gd_iinc7 (ho := rfl) (he := nI_inc _) eX8_feed_136 ?_
              refine Gd_goto eX8_feed_139 ?_
              exact m_feed_L hW hn5 m (k + 1) _ (by omega) hnb (up2_s _ _ _ _) (fun i hi => (fds_up h55 (by rw [fby, if_neg c84, if_neg c94, if_neg c104, if_pos c115]) i hi :)) (chg_up (chg_up hc rfl) rfl) kq
          · refine Gd_iload (i := 4) rfl eX8_feed_107 ?_
            refine Gd_goto eX8_feed_109 ?_
            refine Gd_iastN (W_s55 hW) (by first | omega | decide) eX8_feed_125 ?_
            refine Gd_aload_n (i := 0) rfl eX8_feed_126 ?_
            refine Gd_dup rfl eX8_feed_127 ?_
            refine Gd_getIe (v := nI (nb + k)) fl_RX8_74 (W_s50 hW) (h8 :) eX8_feed_128 ?_
            refine Gd_iconst ki_1 eX8_feed_131 ?_
            refine Gd_iaddN eX8_feed_132 ?_
            refine Gd_putI fl_RX8_74 (W_s50 hW) eX8_feed_133 ?_
            refine Gd_iinc7 (ho := rfl) (he := nI_inc _) eX8_feed_136 ?_
            refine Gd_goto eX8_feed_139 ?_
            exact m_feed_L hW hn5 m (k + 1) _ (by omega) hnb (up2_s _ _ _ _) (fun i hi => (fds_up h55 (by rw [fby, if_neg c84, if_neg c94, if_pos c104]) i hi :)) (chg_up (chg_up hc rfl) rfl) kq
        · refine Gd_iload_n (i := 3) rfl eX8_feed_97 ?_
          refine Gd_goto eX8_feed_98 ?_
          refine Gd_iastN (W_s55 hW) (by first | omega | decide) eX8_feed_125 ?_
          refine Gd_aload_n (i := 0) rfl eX8_feed_126 ?_
          refine Gd_dup rfl eX8_feed_127 ?_
          refine Gd_getIe (v := nI (nb + k)) fl_RX8_74 (W_s50 hW) (h8 :) eX8_feed_128 ?_
          refine Gd_iconst ki_1 eX8_feed_131 ?_
          refine Gd_iaddN eX8_feed_132 ?_
          refine Gd_putI fl_RX8_74 (W_s50 hW) eX8_feed_133 ?_
          refine Gd_iinc7 (ho := rfl) (he := nI_inc _) eX8_feed_136 ?_
          refine Gd_goto eX8_feed_139 ?_
          exact m_feed_L hW hn5 m (k + 1) _ (by omega) hnb (up2_s _ _ _ _) (fun i hi => (fds_up h55 (by rw [fby, if_neg c84, if_pos c94]) i hi :)) (chg_up (chg_up hc rfl) rfl) kq
      · refine Gd_iload_n (i := 2) rfl eX8_feed_87 ?_
        refine Gd_goto eX8_feed_88 ?_
        refine Gd_iastN (W_s55 hW) (by first | omega | decide) eX8_feed_125 ?_
        refine Gd_aload_n (i := 0) rfl eX8_feed_126 ?_
        refine Gd_dup rfl eX8_feed_127 ?_
        refine Gd_getIe (v := nI (nb + k)) fl_RX8_74 (W_s50 hW) (h8 :) eX8_feed_128 ?_
        refine Gd_iconst ki_1 eX8_feed_131 ?_
        refine Gd_iaddN eX8_feed_132 ?_
        refine Gd_putI fl_RX8_74 (W_s50 hW) eX8_feed_133 ?_
        refine Gd_iinc7 (ho := rfl) (he := nI_inc _) eX8_feed_136 ?_
        refine Gd_goto eX8_feed_139 ?_
        exact m_feed_L hW hn5 m (k + 1) _ (by omega) hnb (up2_s _ _ _ _) (fun i hi => (fds_up h55 (by rw [fby, if_pos c84]) i hi :)) (chg_up (chg_up hc rfl) rfl) kq
theorem m_feed {sh : List (Nat × Nat)} {a : Nat → Nat → Int32} {r : Nat → Nat → Option Nat} {g : Nat → Nat → Int64} (hW : WD sh r) {nb : Nat} {tp : Nat → Nat} (hP : TP 50 8 55 nb tp a) (hnb : nb ≤ 160) (vn v0 v1 v2 v3 v4 : Int32) : Mt YX8_feed 2 0 0 [vr 50, vi vn, vi v0, vi v1, vi v2, vi v3, vi v4] (sh, a, r, g) (g_EV sh r g (vi (rFeed nb tp vn v0 v1 v2 v3 v4).1) (fun a' => TP 50 8 55 (rFeed nb tp vn v0 v1 v2 v3 v4).2.1 (rFeed nb tp vn v0 v1 v2 v3 v4).2.2 a' ∧ chg (scN 50 8 55) a a')) := by
  refine Mt_of rfl (Nat.le_of_ble_eq_true rfl) rfl ?_
  obtain ⟨h8, h55⟩ := hP
  refine Gd_iload_n (i := 1) rfl eX8_feed_0 ?_
  refine Gd_iconst ki_1 eX8_feed_1 ?_
  refine Gd_iconst ki_5 eX8_feed_2 ?_
  refine Gd_callP (g_cS (m_in _ _ _) ok_X8_in lk_RX8_84 rfl rfl (Nat.le_of_ble_eq_true rfl) (Nat.le_of_ble_eq_true rfl) (Nat.le_refl _) (Nat.le_refl _) eX8_feed_3) ?_
  refine Gd_if_eqB eX8_feed_6 (fun c6 => ?_) (fun c6 => ?_)
  · refine Gd_bipush kb_m2 eX8_feed_47 ?_
    exact Gd_ireturn eX8_feed_49 rfl (Nat.le_refl _) (Nat.le_refl _) ⟨a, by rw [rFeed_n (Or.inl c6)], rfl, by rw [rFeed_n (Or.inl c6)]; exact ⟨h8, h55⟩, chg_rf⟩
  · refine Gd_iload_n (i := 2) rfl eX8_feed_9 ?_
    refine Gd_callP (g_cS (m_isByte _) ok_X8_isByte lk_RX8_119 rfl rfl (Nat.le_of_ble_eq_true rfl) (Nat.le_of_ble_eq_true rfl) (Nat.le_refl _) (Nat.le_refl _) eX8_feed_10) ?_
    refine Gd_if_eqB eX8_feed_13 (fun c13 => ?_) (fun c13 => ?_)
    · refine Gd_bipush kb_m2 eX8_feed_47 ?_
      exact Gd_ireturn eX8_feed_49 rfl (Nat.le_refl _) (Nat.le_refl _) ⟨a, by rw [rFeed_n (Or.inr (Or.inl c13))], rfl, by rw [rFeed_n (Or.inr (Or.inl c13))]; exact ⟨h8, h55⟩, chg_rf⟩
    · refine Gd_iload_n (i := 3) rfl eX8_feed_16 ?_
      refine Gd_callP (g_cS (m_isByte _) ok_X8_isByte lk_RX8_119 rfl rfl (Nat.le_of_ble_eq_true rfl) (Nat.le_of_ble_eq_true rfl) (Nat.le_refl _) (Nat.le_refl _) eX8_feed_17) ?_
      refine Gd_if_eqB eX8_feed_20 (fun c20 => ?_) (fun c20 => ?_)
      · refine Gd_bipush kb_m2 eX8_feed_47 ?_
        exact Gd_ireturn eX8_feed_49 rfl (Nat.le_refl _) (Nat.le_refl _) ⟨a, by rw [rFeed_n (Or.inr (Or.inr (Or.inl c20)))], rfl, by rw [rFeed_n (Or.inr (Or.inr (Or.inl c20)))]; exact ⟨h8, h55⟩, chg_rf⟩
      · refine Gd_iload (i := 4) rfl eX8_feed_23 ?_
        refine Gd_callP (g_cS (m_isByte _) ok_X8_isByte lk_RX8_119 rfl rfl (Nat.le_of_ble_eq_true rfl) (Nat.le_of_ble_eq_true rfl) (Nat.le_refl _) (Nat.le_refl _) eX8_feed_25) ?_
        refine Gd_if_eqB eX8_feed_28 (fun c28 => ?_) (fun c28 => ?_)
        · refine Gd_bipush kb_m2 eX8_feed_47 ?_
          exact Gd_ireturn eX8_feed_49 rfl (Nat.le_refl _) (Nat.le_refl _) ⟨a, by rw [rFeed_n (Or.inr (Or.inr (Or.inr (Or.inl c28))))], rfl, by rw [rFeed_n (Or.inr (Or.inr (Or.inr (Or.inl c28))))]; exact ⟨h8, h55⟩, chg_rf⟩
        · refine Gd_iload (i := 5) rfl eX8_feed_31 ?_
          refine Gd_callP (g_cS (m_isByte _) ok_X8_isByte lk_RX8_119 rfl rfl (Nat.le_of_ble_eq_true rfl) (Nat.le_of_ble_eq_true rfl) (Nat.le_refl _) (Nat.le_refl _) eX8_feed_33) ?_
          refine Gd_if_eqB eX8_feed_36 (fun c36 => ?_) (fun c36 => ?_)
          · refine Gd_bipush kb_m2 eX8_feed_47 ?_
            exact Gd_ireturn eX8_feed_49 rfl (Nat.le_refl _) (Nat.le_refl _) ⟨a, by rw [rFeed_n (Or.inr (Or.inr (Or.inr (Or.inr (Or.inl c36)))))], rfl, by rw [rFeed_n (Or.inr (Or.inr (Or.inr (Or.inr (Or.inl c36)))))]; exact ⟨h8, h55⟩, chg_rf⟩
          · refine Gd_iload (i := 6) rfl eX8_feed_39 ?_
            refine Gd_callP (g_cS (m_isByte _) ok_X8_isByte lk_RX8_119 rfl rfl (Nat.le_of_ble_eq_true rfl) (Nat.le_of_ble_eq_true rfl) (Nat.le_refl _) (Nat.le_refl _) eX8_feed_41) ?_
            refine Gd_if_neB eX8_feed_44 (fun c44 => ?_) (fun c44 => ?_)
            · obtain ⟨n, hn1, hn5, rfl⟩ := inb_r (by decide) (by decide) c6
              obtain ⟨b0, hb0, rfl⟩ := inr_t c13 (by decide)
              obtain ⟨b1, hb1, rfl⟩ := inr_t c20 (by decide)
              obtain ⟨b2, hb2, rfl⟩ := inr_t c28 (by decide)
              obtain ⟨b3, hb3, rfl⟩ := inr_t c36 (by decide)
              obtain ⟨b4, hb4, rfl⟩ := inr_t c44 (by decide)
              have hr := rFeed_u (nb := nb) (tp := tp) hn1 hn5 ⟨hb0, hb1, hb2, hb3, hb4⟩
              refine Gd_aload_n (i := 0) rfl eX8_feed_50 ?_
              refine Gd_getIe (v := nI (nb)) fl_RX8_74 (W_s50 hW) (h8 :) eX8_feed_51 ?_
              refine Gd_iload_n (i := 1) rfl eX8_feed_54 ?_
              refine Gd_iaddN eX8_feed_55 ?_
              refine Gd_sipush ks_160 eX8_feed_56 ?_
              refine Gd_icmp_leN (by first | omega | decide) (by first | omega | decide) eX8_feed_59 (fun c59 => ?_) (fun c59 => ?_)
              · refine Gd_iconst ki_0 eX8_feed_65 ?_
                refine Gd_istore7 rfl eX8_feed_66 ?_
                exact m_feed_L hW hn5 n 0 a (by omega) (by omega) h8 (fun i hi => by rw [h55 i hi, fds, if_pos (show i < nb from hi)]) chg_rf (fun a' k1 k2 k3 => by rw [hr, if_neg (by omega)]; exact ⟨a', rfl, rfl, ⟨k1, k2⟩, k3⟩)
              · refine Gd_bipush kb_m4 eX8_feed_62 ?_
                exact Gd_ireturn eX8_feed_64 rfl (Nat.le_refl _) (Nat.le_refl _) (by rw [hr, if_pos (by omega)]; exact ⟨a, rfl, rfl, ⟨h8, h55⟩, chg_rf⟩)
            · refine Gd_bipush kb_m2 eX8_feed_47 ?_
              exact Gd_ireturn eX8_feed_49 rfl (Nat.le_refl _) (Nat.le_refl _) ⟨a, by rw [rFeed_n (Or.inr (Or.inr (Or.inr (Or.inr (Or.inr c44)))))], rfl, by rw [rFeed_n (Or.inr (Or.inr (Or.inr (Or.inr (Or.inr c44)))))]; exact ⟨h8, h55⟩, chg_rf⟩
theorem x_feed_L {sh : List (Nat × Nat)} {r : Nat → Nat → Option Nat} {g : Nat → Nat → Int64} (hW : WD sh r) {nb n b0 b1 b2 b3 b4 : Nat} {tp : Nat → Nat} (hn5 : n ≤ 5) {Q : Option g_V → g_H → Prop} {N0 : Nat} {a0 : Nat → Nat → Int32} : ∀ (m k : Nat) (a : Nat → Nat → Int32), k + m = n → nb + n ≤ 160 → a 25 1 = nI (nb + k) → (∀ i, i < nb + k → a 26 i = nI (fds (fby b0 b1 b2 b3 b4) nb tp i)) → chg (scN 25 1 26) a0 a → (∀ a', a' 25 1 = nI (nb + n) → (∀ i, i < nb + n → a' 26 i = nI (fds (fby b0 b1 b2 b3 b4) nb tp i)) → chg (scN 25 1 26) a0 a' → Q (some (vi (nI (nb + n)))) (sh, a', r, g)) → Gd YX7_feed (z0 1 N0 Q) 0 0 71 [some (vr 0), some (vi (nI n)), some (vi (nI b0)), some (vi (nI b1)), some (vi (nI b2)), some (vi (nI b3)), some (vi (nI b4)), some (vi (nI k))] [] (sh, a, r, g)
  | 0, k, a, hn, hnb, h8, h55, hc, kq => by
    refine Gd_iload (i := 7) rfl eX7_feed_71 ?_
    refine Gd_iload_n (i := 1) rfl eX7_feed_73 ?_
    refine Gd_icmp_geN (by first | omega | decide) (by first | omega | decide) eX7_feed_74 (fun c74 => ?_) (fun c74 => ?_)
    · refine Gd_aload_n (i := 0) rfl eX7_feed_133 ?_
      refine Gd_getR fl_RX7_29 (W_s0 hW) (W_r0_4 hW) eX7_feed_134 ?_
      refine Gd_getIe (v := nI (nb + k)) fl_RX7_112 (W_s25 hW) (h8 :) eX7_feed_137 ?_
      exact Gd_ireturn eX7_feed_140 rfl (Nat.le_refl _) (Nat.le_refl _) (by rw [show k = n by omega] at *; exact kq _ h8 h55 hc)
    · exact absurd c74 (by omega)
  | m + 1, k, a, hn, hnb, h8, h55, hc, kq => by
    refine Gd_iload (i := 7) rfl eX7_feed_71 ?_
    refine Gd_iload_n (i := 1) rfl eX7_feed_73 ?_
    refine Gd_icmp_geN (by first | omega | decide) (by first | omega | decide) eX7_feed_74 (fun c74 => ?_) (fun c74 => ?_)
    · exact absurd c74 (by omega)
    · refine Gd_aload_n (i := 0) rfl eX7_feed_77 ?_
      refine Gd_getR fl_RX7_29 (W_s0 hW) (W_r0_4 hW) eX7_feed_78 ?_
      refine Gd_iload (i := 7) rfl eX7_feed_81 ?_
      refine Gd_if_neN (by first | omega | decide) eX7_feed_83 (fun c83 => ?_) (fun c83 => ?_)
      · refine Gd_iload (i := 7) rfl eX7_feed_90 ?_
        refine Gd_iconst ki_1 eX7_feed_92 ?_
        refine Gd_icmp_neN (by first | omega | decide) (by first | omega | decide) eX7_feed_93 (fun c93 => ?_) (fun c93 => ?_)
        · refine Gd_iload (i := 7) rfl eX7_feed_100 ?_
          refine Gd_iconst ki_2 eX7_feed_102 ?_
          refine Gd_icmp_neN (by first | omega | decide) (by first | omega | decide) eX7_feed_103 (fun c103 => ?_) (fun c103 => ?_)
          · refine Gd_iload (i := 7) rfl eX7_feed_111 ?_
            refine Gd_iconst ki_3 eX7_feed_113 ?_
            refine Gd_icmp_neN (by first | omega | decide) (by first | omega | decide) eX7_feed_114 (fun c114 => ?_) (fun c114 => ?_)
            · refine Gd_iload (i := 6) rfl eX7_feed_122 ?_
              refine Gd_callP0 (g_cV (x_radd hW h8 (by omega)) ok_X2_add lk_RX7_73 (W_s25 hW) ⟨_, _, rfl⟩ rfl rfl (Nat.le_of_ble_eq_true rfl) (Nat.le_of_ble_eq_true rfl) (Nat.le_refl _) (Nat.le_refl _) eX7_feed_124) rfl ?_
              refine Gd_iinc7 (ho := rfl) (he := nI_inc _) eX7_feed_127 ?_
              refine Gd_goto eX7_feed_130 ?_
              exact x_feed_L hW hn5 m (k + 1) _ (by omega) hnb (up2_s _ _ _ _) (fun i hi => (fds_up h55 (by rw [fby, if_neg c83, if_neg c93, if_neg c103, if_neg c114]) i hi :)) (chg_up (chg_up hc rfl) rfl) kq
            · refine Gd_iload (i := 5) rfl eX7_feed_117 ?_
              refine Gd_goto eX7_feed_119 ?_
              refine Gd_callP0 (g_cV (x_radd hW h8 (by omega)) ok_X2_add lk_RX7_73 (W_s25 hW) ⟨_, _, rfl⟩ rfl rfl (Nat.le_of_ble_eq_true rfl) (Nat.le_of_ble_eq_true rfl) (Nat.le_refl _) (Nat.le_refl _) eX7_feed_124) rfl ?_
              refine Gd_iinc7 (ho := rfl) (he := nI_inc _) eX7_feed_127 ?_
              refine Gd_goto eX7_feed_130 ?_
              exact x_feed_L hW hn5 m (k + 1) _ (by omega) hnb (up2_s _ _ _ _) (fun i hi => (fds_up h55 (by rw [fby, if_neg c83, if_neg c93, if_neg c103, if_pos c114]) i hi :)) (chg_up (chg_up hc rfl) rfl) kq
          · refine Gd_iload (i := 4) rfl eX7_feed_106 ?_
            refine Gd_goto eX7_feed_108 ?_
            refine Gd_callP0 (g_cV (x_radd hW h8 (by omega)) ok_X2_add lk_RX7_73 (W_s25 hW) ⟨_, _, rfl⟩ rfl rfl (Nat.le_of_ble_eq_true rfl) (Nat.le_of_ble_eq_true rfl) (Nat.le_refl _) (Nat.le_refl _) eX7_feed_124) rfl ?_
            refine Gd_iinc7 (ho := rfl) (he := nI_inc _) eX7_feed_127 ?_
            refine Gd_goto eX7_feed_130 ?_
            exact x_feed_L hW hn5 m (k + 1) _ (by omega) hnb (up2_s _ _ _ _) (fun i hi => (fds_up h55 (by rw [fby, if_neg c83, if_neg c93, if_pos c103]) i hi :)) (chg_up (chg_up hc rfl) rfl) kq
        · refine Gd_iload_n (i := 3) rfl eX7_feed_96 ?_
          refine Gd_goto eX7_feed_97 ?_
          refine Gd_callP0 (g_cV (x_radd hW h8 (by omega)) ok_X2_add lk_RX7_73 (W_s25 hW) ⟨_, _, rfl⟩ rfl rfl (Nat.le_of_ble_eq_true rfl) (Nat.le_of_ble_eq_true rfl) (Nat.le_refl _) (Nat.le_refl _) eX7_feed_124) rfl ?_
          refine Gd_iinc7 (ho := rfl) (he := nI_inc _) eX7_feed_127 ?_
          refine Gd_goto eX7_feed_130 ?_
          exact x_feed_L hW hn5 m (k + 1) _ (by omega) hnb (up2_s _ _ _ _) (fun i hi => (fds_up h55 (by rw [fby, if_neg c83, if_pos c93]) i hi :)) (chg_up (chg_up hc rfl) rfl) kq
      · refine Gd_iload_n (i := 2) rfl eX7_feed_86 ?_
        refine Gd_goto eX7_feed_87 ?_
        refine Gd_callP0 (g_cV (x_radd hW h8 (by omega)) ok_X2_add lk_RX7_73 (W_s25 hW) ⟨_, _, rfl⟩ rfl rfl (Nat.le_of_ble_eq_true rfl) (Nat.le_of_ble_eq_true rfl) (Nat.le_refl _) (Nat.le_refl _) eX7_feed_124) rfl ?_
        refine Gd_iinc7 (ho := rfl) (he := nI_inc _) eX7_feed_127 ?_
        refine Gd_goto eX7_feed_130 ?_
        exact x_feed_L hW hn5 m (k + 1) _ (by omega) hnb (up2_s _ _ _ _) (fun i hi => (fds_up h55 (by rw [fby, if_pos c83]) i hi :)) (chg_up (chg_up hc rfl) rfl) kq
theorem x_feed {sh : List (Nat × Nat)} {a : Nat → Nat → Int32} {r : Nat → Nat → Option Nat} {g : Nat → Nat → Int64} (hW : WD sh r) {nb : Nat} {tp : Nat → Nat} (hP : TP 25 1 26 nb tp a) (hnb : nb ≤ 160) (vn v0 v1 v2 v3 v4 : Int32) : Mt YX7_feed 1 0 0 [vr 0, vi vn, vi v0, vi v1, vi v2, vi v3, vi v4] (sh, a, r, g) (g_EV sh r g (vi (rFeed nb tp vn v0 v1 v2 v3 v4).1) (fun a' => TP 25 1 26 (rFeed nb tp vn v0 v1 v2 v3 v4).2.1 (rFeed nb tp vn v0 v1 v2 v3 v4).2.2 a' ∧ chg (scN 25 1 26) a a')) := by
  refine Mt_of rfl (Nat.le_of_ble_eq_true rfl) rfl ?_
  obtain ⟨h8, h55⟩ := hP
  refine Gd_iload_n (i := 1) rfl eX7_feed_0 ?_
  refine Gd_iconst ki_1 eX7_feed_1 ?_
  refine Gd_iconst ki_5 eX7_feed_2 ?_
  refine Gd_callP (g_cS (x_isWithin _ _ _) ok_X7_isWithin lk_RX7_119 rfl rfl (Nat.le_of_ble_eq_true rfl) (Nat.le_of_ble_eq_true rfl) (Nat.le_refl _) (Nat.le_refl _) eX7_feed_3) ?_
  refine Gd_if_eqB eX7_feed_6 (fun c6 => ?_) (fun c6 => ?_)
  · refine Gd_bipush kb_m2 eX7_feed_47 ?_
    exact Gd_ireturn eX7_feed_49 rfl (Nat.le_refl _) (Nat.le_refl _) ⟨a, by rw [rFeed_n (Or.inl c6)], rfl, by rw [rFeed_n (Or.inl c6)]; exact ⟨h8, h55⟩, chg_rf⟩
  · refine Gd_iload_n (i := 2) rfl eX7_feed_9 ?_
    refine Gd_callP (g_cS (x_isByte _) ok_X7_isByte lk_RX7_137 rfl rfl (Nat.le_of_ble_eq_true rfl) (Nat.le_of_ble_eq_true rfl) (Nat.le_refl _) (Nat.le_refl _) eX7_feed_10) ?_
    refine Gd_if_eqB eX7_feed_13 (fun c13 => ?_) (fun c13 => ?_)
    · refine Gd_bipush kb_m2 eX7_feed_47 ?_
      exact Gd_ireturn eX7_feed_49 rfl (Nat.le_refl _) (Nat.le_refl _) ⟨a, by rw [rFeed_n (Or.inr (Or.inl c13))], rfl, by rw [rFeed_n (Or.inr (Or.inl c13))]; exact ⟨h8, h55⟩, chg_rf⟩
    · refine Gd_iload_n (i := 3) rfl eX7_feed_16 ?_
      refine Gd_callP (g_cS (x_isByte _) ok_X7_isByte lk_RX7_137 rfl rfl (Nat.le_of_ble_eq_true rfl) (Nat.le_of_ble_eq_true rfl) (Nat.le_refl _) (Nat.le_refl _) eX7_feed_17) ?_
      refine Gd_if_eqB eX7_feed_20 (fun c20 => ?_) (fun c20 => ?_)
      · refine Gd_bipush kb_m2 eX7_feed_47 ?_
        exact Gd_ireturn eX7_feed_49 rfl (Nat.le_refl _) (Nat.le_refl _) ⟨a, by rw [rFeed_n (Or.inr (Or.inr (Or.inl c20)))], rfl, by rw [rFeed_n (Or.inr (Or.inr (Or.inl c20)))]; exact ⟨h8, h55⟩, chg_rf⟩
      · refine Gd_iload (i := 4) rfl eX7_feed_23 ?_
        refine Gd_callP (g_cS (x_isByte _) ok_X7_isByte lk_RX7_137 rfl rfl (Nat.le_of_ble_eq_true rfl) (Nat.le_of_ble_eq_true rfl) (Nat.le_refl _) (Nat.le_refl _) eX7_feed_25) ?_
        refine Gd_if_eqB eX7_feed_28 (fun c28 => ?_) (fun c28 => ?_)
        · refine Gd_bipush kb_m2 eX7_feed_47 ?_
          exact Gd_ireturn eX7_feed_49 rfl (Nat.le_refl _) (Nat.le_refl _) ⟨a, by rw [rFeed_n (Or.inr (Or.inr (Or.inr (Or.inl c28))))], rfl, by rw [rFeed_n (Or.inr (Or.inr (Or.inr (Or.inl c28))))]; exact ⟨h8, h55⟩, chg_rf⟩
        · refine Gd_iload (i := 5) rfl eX7_feed_31 ?_
          refine Gd_callP (g_cS (x_isByte _) ok_X7_isByte lk_RX7_137 rfl rfl (Nat.le_of_ble_eq_true rfl) (Nat.le_of_ble_eq_true rfl) (Nat.le_refl _) (Nat.le_refl _) eX7_feed_33) ?_
          refine Gd_if_eqB eX7_feed_36 (fun c36 => ?_) (fun c36 => ?_)
          · refine Gd_bipush kb_m2 eX7_feed_47 ?_
            exact Gd_ireturn eX7_feed_49 rfl (Nat.le_refl _) (Nat.le_refl _) ⟨a, by rw [rFeed_n (Or.inr (Or.inr (Or.inr (Or.inr (Or.inl c36)))))], rfl, by rw [rFeed_n (Or.inr (Or.inr (Or.inr (Or.inr (Or.inl c36)))))]; exact ⟨h8, h55⟩, chg_rf⟩
          · refine Gd_iload (i := 6) rfl eX7_feed_39 ?_
            refine Gd_callP (g_cS (x_isByte _) ok_X7_isByte lk_RX7_137 rfl rfl (Nat.le_of_ble_eq_true rfl) (Nat.le_of_ble_eq_true rfl) (Nat.le_refl _) (Nat.le_refl _) eX7_feed_41) ?_
            refine Gd_if_neB eX7_feed_44 (fun c44 => ?_) (fun c44 => ?_)
            · obtain ⟨n, hn1, hn5, rfl⟩ := inb_r (by decide) (by decide) c6
              obtain ⟨b0, hb0, rfl⟩ := inr_t c13 (by decide)
              obtain ⟨b1, hb1, rfl⟩ := inr_t c20 (by decide)
              obtain ⟨b2, hb2, rfl⟩ := inr_t c28 (by decide)
              obtain ⟨b3, hb3, rfl⟩ := inr_t c36 (by decide)
              obtain ⟨b4, hb4, rfl⟩ := inr_t c44 (by decide)
              have hr := rFeed_u (nb := nb) (tp := tp) hn1 hn5 ⟨hb0, hb1, hb2, hb3, hb4⟩
              refine Gd_aload_n (i := 0) rfl eX7_feed_50 ?_
              refine Gd_getR fl_RX7_29 (W_s0 hW) (W_r0_4 hW) eX7_feed_51 ?_
              refine Gd_getIe (v := nI (nb)) fl_RX7_112 (W_s25 hW) (h8 :) eX7_feed_54 ?_
              refine Gd_iload_n (i := 1) rfl eX7_feed_57 ?_
              refine Gd_iaddN eX7_feed_58 ?_
              refine Gd_sipush ks_160 eX7_feed_59 ?_
              refine Gd_icmp_leN (by first | omega | decide) (by first | omega | decide) eX7_feed_62 (fun c62 => ?_) (fun c62 => ?_)
              · refine Gd_iconst ki_0 eX7_feed_68 ?_
                refine Gd_istore7 rfl eX7_feed_69 ?_
                exact x_feed_L hW hn5 n 0 a (by omega) (by omega) h8 (fun i hi => by rw [h55 i hi, fds, if_pos (show i < nb from hi)]) chg_rf (fun a' k1 k2 k3 => by rw [hr, if_neg (by omega)]; exact ⟨a', rfl, rfl, ⟨k1, k2⟩, k3⟩)
              · refine Gd_bipush kb_m4 eX7_feed_65 ?_
                exact Gd_ireturn eX7_feed_67 rfl (Nat.le_refl _) (Nat.le_refl _) (by rw [hr, if_pos (by omega)]; exact ⟨a, rfl, rfl, ⟨h8, h55⟩, chg_rf⟩)
            · refine Gd_bipush kb_m2 eX7_feed_47 ?_
              exact Gd_ireturn eX7_feed_49 rfl (Nat.le_refl _) (Nat.le_refl _) ⟨a, by rw [rFeed_n (Or.inr (Or.inr (Or.inr (Or.inr (Or.inr c44)))))], rfl, by rw [rFeed_n (Or.inr (Or.inr (Or.inr (Or.inr (Or.inr c44)))))]; exact ⟨h8, h55⟩, chg_rf⟩
theorem m_hunter {sh : List (Nat × Nat)} {a : Nat → Nat → Int32} {r : Nat → Nat → Option Nat} {g : Nat → Nat → Int64} {φ : Nat → Nat → Nat} (hW : WD sh r) (hM : MA φ a) (hI : FI φ) (vk vm vc : Int32) : Mt YX8_hunter 1 0 0 [vr 50, vi vk, vi vm, vi vc] (sh, a, r, g) (g_EV sh r g (vi (rHunter φ vk vm vc).1) (fun a' => MA (rHunter φ vk vm vc).2 a' ∧ chg scH a a')) := by
  refine Mt_of rfl (Nat.le_of_ble_eq_true rfl) rfl ?_
  have hhu := FI_hu hI
  refine Gd_iload_n (i := 1) rfl eX8_hunter_0 ?_
  refine Gd_iconst ki_0 eX8_hunter_1 ?_
  refine Gd_bipush kb_59 eX8_hunter_2 ?_
  refine Gd_callP (g_cS (m_in _ _ _) ok_X8_in lk_RX8_84 rfl rfl (Nat.le_of_ble_eq_true rfl) (Nat.le_of_ble_eq_true rfl) (Nat.le_refl _) (Nat.le_refl _) eX8_hunter_4) ?_
  refine Gd_if_eqB eX8_hunter_7 (fun c7 => ?_) (fun c7 => ?_)
  · refine Gd_bipush kb_m2 eX8_hunter_31 ?_
    exact Gd_ireturn eX8_hunter_33 rfl (Nat.le_refl _) (Nat.le_refl _) ⟨a, by rw [rHunter_n (Or.inl c7)], rfl, by rw [rHunter_n (Or.inl c7)]; exact hM, chg_rf⟩
  · refine Gd_iload_n (i := 2) rfl eX8_hunter_10 ?_
    refine Gd_iconst ki_0 eX8_hunter_11 ?_
    refine Gd_bipush kb_99 eX8_hunter_12 ?_
    refine Gd_callP (g_cS (m_in _ _ _) ok_X8_in lk_RX8_84 rfl rfl (Nat.le_of_ble_eq_true rfl) (Nat.le_of_ble_eq_true rfl) (Nat.le_refl _) (Nat.le_refl _) eX8_hunter_14) ?_
    refine Gd_if_eqB eX8_hunter_17 (fun c17 => ?_) (fun c17 => ?_)
    · refine Gd_bipush kb_m2 eX8_hunter_31 ?_
      exact Gd_ireturn eX8_hunter_33 rfl (Nat.le_refl _) (Nat.le_refl _) ⟨a, by rw [rHunter_n (Or.inr (Or.inl c17))], rfl, by rw [rHunter_n (Or.inr (Or.inl c17))]; exact hM, chg_rf⟩
    · refine Gd_iload_n (i := 3) rfl eX8_hunter_20 ?_
      refine Gd_iconst ki_0 eX8_hunter_21 ?_
      refine Gd_sipush ks_1023 eX8_hunter_22 ?_
      refine Gd_callP (g_cS (m_in _ _ _) ok_X8_in lk_RX8_84 rfl rfl (Nat.le_of_ble_eq_true rfl) (Nat.le_of_ble_eq_true rfl) (Nat.le_refl _) (Nat.le_refl _) eX8_hunter_25) ?_
      refine Gd_if_neB eX8_hunter_28 (fun c28 => ?_) (fun c28 => ?_)
      · obtain ⟨k, _, hk, rfl⟩ := inb_r (by decide) (by decide) c7
        obtain ⟨m, _, hm, rfl⟩ := inb_r (by decide) (by decide) c17
        obtain ⟨c, _, hc, rfl⟩ := inb_r (by decide) (by decide) c28
        have hr := rHunter_u (φ := φ) hk hm hc
        refine Gd_aload_n (i := 0) rfl eX8_hunter_34 ?_
        refine Gd_getIe (v := nI (φ 7 3)) fl_RX8_81 (W_s50 hW) (MA_hu hM :) eX8_hunter_35 ?_
        refine Gd_bipush kb_6 eX8_hunter_38 ?_
        refine Gd_icmp_neN (by first | omega | decide) (by first | omega | decide) eX8_hunter_40 (fun c40 => ?_) (fun c40 => ?_)
        · refine Gd_aload_n (i := 0) rfl eX8_hunter_46 ?_
          refine Gd_getR fl_RX8_7 (W_s50 hW) (W_r50_1 hW) eX8_hunter_47 ?_
          refine Gd_aload_n (i := 0) rfl eX8_hunter_50 ?_
          refine Gd_getIe (v := nI (φ 7 3)) fl_RX8_81 (W_s50 hW) (MA_hu hM :) eX8_hunter_51 ?_
          refine Gd_iload_n (i := 1) rfl eX8_hunter_54 ?_
          refine Gd_bipush kb_10 eX8_hunter_55 ?_
          refine Gd_idivN (by first | omega | decide) (by decide) eX8_hunter_57 ?_
          refine Gd_iastN (W_s51 hW) (by first | omega | decide) eX8_hunter_58 ?_
          refine Gd_aload_n (i := 0) rfl eX8_hunter_59 ?_
          refine Gd_getR fl_RX8_13 (W_s50 hW) (W_r50_2 hW) eX8_hunter_60 ?_
          refine Gd_aload_n (i := 0) rfl eX8_hunter_63 ?_
          refine Gd_getIe (v := nI (φ 7 3)) fl_RX8_81 (W_s50 hW) (MA_hu hM :) eX8_hunter_64 ?_
          refine Gd_iload_n (i := 1) rfl eX8_hunter_67 ?_
          refine Gd_bipush kb_10 eX8_hunter_68 ?_
          refine Gd_iremN (by first | omega | decide) (by decide) eX8_hunter_70 ?_
          refine Gd_iastN (W_s52 hW) (by first | omega | decide) eX8_hunter_71 ?_
          refine Gd_aload_n (i := 0) rfl eX8_hunter_72 ?_
          refine Gd_getR fl_RX8_16 (W_s50 hW) (W_r50_3 hW) eX8_hunter_73 ?_
          refine Gd_iconst ki_4 eX8_hunter_76 ?_
          refine Gd_aload_n (i := 0) rfl eX8_hunter_77 ?_
          refine Gd_getIe (v := nI (φ 7 3)) fl_RX8_81 (W_s50 hW) (MA_hu hM :) eX8_hunter_78 ?_
          refine Gd_imulN eX8_hunter_81 ?_
          refine Gd_iload_n (i := 2) rfl eX8_hunter_82 ?_
          refine Gd_iastN (W_s53 hW) (by first | omega | decide) eX8_hunter_83 ?_
          refine Gd_aload_n (i := 0) rfl eX8_hunter_84 ?_
          refine Gd_getR fl_RX8_16 (W_s50 hW) (W_r50_3 hW) eX8_hunter_85 ?_
          refine Gd_iconst ki_4 eX8_hunter_88 ?_
          refine Gd_aload_n (i := 0) rfl eX8_hunter_89 ?_
          refine Gd_getIe (v := nI (φ 7 3)) fl_RX8_81 (W_s50 hW) (MA_hu hM :) eX8_hunter_90 ?_
          refine Gd_imulN eX8_hunter_93 ?_
          refine Gd_iconst ki_1 eX8_hunter_94 ?_
          refine Gd_iaddN eX8_hunter_95 ?_
          refine Gd_iload_n (i := 3) rfl eX8_hunter_96 ?_
          refine Gd_iastN (W_s53 hW) (by first | omega | decide) eX8_hunter_97 ?_
          refine Gd_aload_n (i := 0) rfl eX8_hunter_98 ?_
          refine Gd_getR fl_RX8_16 (W_s50 hW) (W_r50_3 hW) eX8_hunter_99 ?_
          refine Gd_iconst ki_4 eX8_hunter_102 ?_
          refine Gd_aload_n (i := 0) rfl eX8_hunter_103 ?_
          refine Gd_getIe (v := nI (φ 7 3)) fl_RX8_81 (W_s50 hW) (MA_hu hM :) eX8_hunter_104 ?_
          refine Gd_imulN eX8_hunter_107 ?_
          refine Gd_iconst ki_2 eX8_hunter_108 ?_
          refine Gd_iaddN eX8_hunter_109 ?_
          refine Gd_iconst ki_0 eX8_hunter_110 ?_
          refine Gd_iastN (W_s53 hW) (by first | omega | decide) eX8_hunter_111 ?_
          refine Gd_aload_n (i := 0) rfl eX8_hunter_112 ?_
          refine Gd_getR fl_RX8_16 (W_s50 hW) (W_r50_3 hW) eX8_hunter_113 ?_
          refine Gd_iconst ki_4 eX8_hunter_116 ?_
          refine Gd_aload_n (i := 0) rfl eX8_hunter_117 ?_
          refine Gd_getIe (v := nI (φ 7 3)) fl_RX8_81 (W_s50 hW) (MA_hu hM :) eX8_hunter_118 ?_
          refine Gd_imulN eX8_hunter_121 ?_
          refine Gd_iconst ki_3 eX8_hunter_122 ?_
          refine Gd_iaddN eX8_hunter_123 ?_
          refine Gd_iconst ki_m1 eX8_hunter_124 ?_
          refine Gd_iastN (W_s53 hW) (by first | omega | decide) eX8_hunter_125 ?_
          refine Gd_aload_n (i := 0) rfl eX8_hunter_126 ?_
          refine Gd_dup rfl eX8_hunter_127 ?_
          refine Gd_getIe (v := nI (φ 7 3)) fl_RX8_81 (W_s50 hW) (MA_hu hM :) eX8_hunter_128 ?_
          refine Gd_iconst ki_1 eX8_hunter_131 ?_
          refine Gd_iaddN eX8_hunter_132 ?_
          refine Gd_putI fl_RX8_81 (W_s50 hW) eX8_hunter_133 ?_
          refine Gd_aload_n (i := 0) rfl eX8_hunter_136 ?_
          refine Gd_getIe (v := nI (φ 7 3 + 1)) fl_RX8_81 (W_s50 hW) (up2_s _ _ _ _ :) eX8_hunter_137 ?_
          refine Gd_iconst ki_1 eX8_hunter_140 ?_
          refine Gd_isubN (by first | omega | decide) eX8_hunter_141 ?_
          exact Gd_ireturn eX8_hunter_142 rfl (Nat.le_refl _) (Nat.le_refl _) (by rw [hr, if_neg (by omega)]; exact ⟨_, by rw [Nat.add_sub_cancel], rfl, MA_hun hM (by omega) k m c, chg_up (chg_up (chg_up (chg_up (chg_up (chg_up (chg_up (chg_rf) rfl) rfl) rfl) rfl) rfl) rfl) rfl⟩)
        · refine Gd_bipush kb_m4 eX8_hunter_43 ?_
          exact Gd_ireturn eX8_hunter_45 rfl (Nat.le_refl _) (Nat.le_refl _) (by rw [hr, if_pos (by omega)]; exact ⟨a, rfl, rfl, hM, chg_rf⟩)
      · refine Gd_bipush kb_m2 eX8_hunter_31 ?_
        exact Gd_ireturn eX8_hunter_33 rfl (Nat.le_refl _) (Nat.le_refl _) ⟨a, by rw [rHunter_n (Or.inr (Or.inr c28))], rfl, by rw [rHunter_n (Or.inr (Or.inr c28))]; exact hM, chg_rf⟩
theorem x_fadd {sh : List (Nat × Nat)} {a : Nat → Nat → Int32} {r : Nat → Nat → Option Nat} {g : Nat → Nat → Int64} {φ : Nat → Nat → Nat} {f : Nat} (hF : isF sh r f) (hA : FA f φ a) (hI : FI φ) (hh : φ 7 3 < 6) {k1 k2 m c : Nat} : Mt YX0_add 0 0 0 [vr f, vi (nI k1), vi (nI k2), vi (nI m), vi (nI c)] (sh, a, r, g) (g_P (some (vi (nI (φ 7 3)))) (sh, up2 (up2 (up2 (up2 (up2 (up2 (up2 (a) (f + 2) (φ 7 3) (nI k1)) (f + 3) (φ 7 3) (nI k2)) (f + 4) (φ 7 3) (nI m)) (f + 5) (φ 7 3) (nI 0)) (f + 6) (φ 7 3) (nI c)) (f + 7) (φ 7 3) (-1)) f 4 (nI (φ 7 3 + 1)), r, g)) := by
  refine Mt_of rfl (Nat.le_of_ble_eq_true rfl) rfl ?_
  refine Gd_aload_n (i := 0) rfl eX0_add_0 ?_
  refine Gd_getIe (v := nI (φ 7 3)) fl_RX0_25 (F_s0 hF) (FA_hu hA :) eX0_add_1 ?_
  refine Gd_istore5 rfl eX0_add_4 ?_
  refine Gd_aload_n (i := 0) rfl eX0_add_6 ?_
  refine Gd_getR fl_RX0_28 (F_s0 hF) (F_r5 hF) eX0_add_7 ?_
  refine Gd_iload (i := 5) rfl eX0_add_10 ?_
  refine Gd_iload_n (i := 1) rfl eX0_add_12 ?_
  refine Gd_iastN (F_s2 hF) (by first | omega | decide) eX0_add_13 ?_
  refine Gd_aload_n (i := 0) rfl eX0_add_14 ?_
  refine Gd_getR fl_RX0_31 (F_s0 hF) (F_r6 hF) eX0_add_15 ?_
  refine Gd_iload (i := 5) rfl eX0_add_18 ?_
  refine Gd_iload_n (i := 2) rfl eX0_add_20 ?_
  refine Gd_iastN (F_s3 hF) (by first | omega | decide) eX0_add_21 ?_
  refine Gd_aload_n (i := 0) rfl eX0_add_22 ?_
  refine Gd_getR fl_RX0_34 (F_s0 hF) (F_r7 hF) eX0_add_23 ?_
  refine Gd_iload (i := 5) rfl eX0_add_26 ?_
  refine Gd_iload_n (i := 3) rfl eX0_add_28 ?_
  refine Gd_iastN (F_s4 hF) (by first | omega | decide) eX0_add_29 ?_
  refine Gd_aload_n (i := 0) rfl eX0_add_30 ?_
  refine Gd_getR fl_RX0_37 (F_s0 hF) (F_r8 hF) eX0_add_31 ?_
  refine Gd_iload (i := 5) rfl eX0_add_34 ?_
  refine Gd_iconst ki_0 eX0_add_36 ?_
  refine Gd_iastN (F_s5 hF) (by first | omega | decide) eX0_add_37 ?_
  refine Gd_aload_n (i := 0) rfl eX0_add_38 ?_
  refine Gd_getR fl_RX0_40 (F_s0 hF) (F_r9 hF) eX0_add_39 ?_
  refine Gd_iload (i := 5) rfl eX0_add_42 ?_
  refine Gd_iload (i := 4) rfl eX0_add_44 ?_
  refine Gd_iastN (F_s6 hF) (by first | omega | decide) eX0_add_46 ?_
  refine Gd_aload_n (i := 0) rfl eX0_add_47 ?_
  refine Gd_getR fl_RX0_43 (F_s0 hF) (F_r10 hF) eX0_add_48 ?_
  refine Gd_iload (i := 5) rfl eX0_add_51 ?_
  refine Gd_iconst ki_m1 eX0_add_53 ?_
  refine Gd_iastN (F_s7 hF) (by first | omega | decide) eX0_add_54 ?_
  refine Gd_aload_n (i := 0) rfl eX0_add_55 ?_
  refine Gd_dup rfl eX0_add_56 ?_
  refine Gd_getIe (v := nI (φ 7 3)) fl_RX0_25 (F_s0 hF) (by simp [up2, FA_hu hA]) eX0_add_57 ?_
  refine Gd_iconst ki_1 eX0_add_60 ?_
  refine Gd_iaddN eX0_add_61 ?_
  refine Gd_putI fl_RX0_25 (F_s0 hF) eX0_add_62 ?_
  refine Gd_iload (i := 5) rfl eX0_add_65 ?_
  exact Gd_ireturn eX0_add_67 rfl (Nat.le_refl _) (Nat.le_refl _) ⟨rfl, rfl⟩
theorem Gd_callPh {Y : g_Y} {Z : g_Z} {k n pc pc' : Nat} {L : List (Option g_V)} {st rest : List g_V} {h h2 : g_H} {v : g_V} (hc : g_Call Y Z k n pc L st rest h 0 0 (g_P (some v) h2) pc') (hs : h2.1 = h.1) (kk : Gd Y Z k n pc' L (v :: rest) h2) : Gd Y Z k n pc L st h := g_call0 hc (fun r h' q => by obtain ⟨rfl, rfl⟩ := q; exact ⟨hs, kk⟩)
theorem x_hunter {sh : List (Nat × Nat)} {a : Nat → Nat → Int32} {r : Nat → Nat → Option Nat} {g : Nat → Nat → Int64} {φ : Nat → Nat → Nat} (hW : WD sh r) (hA : FA 1 φ a) (hI : FI φ) (vk vm vc : Int32) : Mt YX7_hunter 1 0 0 [vr 0, vi vk, vi vm, vi vc] (sh, a, r, g) (g_EV sh r g (vi (rHunter φ vk vm vc).1) (fun a' => FA 1 (rHunter φ vk vm vc).2 a' ∧ chg (scHx 1) a a')) := by
  refine Mt_of rfl (Nat.le_of_ble_eq_true rfl) rfl ?_
  have hhu := FI_hu hI
  refine Gd_iload_n (i := 1) rfl eX7_hunter_0 ?_
  refine Gd_iconst ki_0 eX7_hunter_1 ?_
  refine Gd_bipush kb_59 eX7_hunter_2 ?_
  refine Gd_callP (g_cS (x_isWithin _ _ _) ok_X7_isWithin lk_RX7_119 rfl rfl (Nat.le_of_ble_eq_true rfl) (Nat.le_of_ble_eq_true rfl) (Nat.le_refl _) (Nat.le_refl _) eX7_hunter_4) ?_
  refine Gd_if_eqB eX7_hunter_7 (fun c7 => ?_) (fun c7 => ?_)
  · refine Gd_bipush kb_m2 eX7_hunter_31 ?_
    exact Gd_ireturn eX7_hunter_33 rfl (Nat.le_refl _) (Nat.le_refl _) ⟨a, by rw [rHunter_n (Or.inl c7)], rfl, by rw [rHunter_n (Or.inl c7)]; exact hA, chg_rf⟩
  · refine Gd_iload_n (i := 2) rfl eX7_hunter_10 ?_
    refine Gd_iconst ki_0 eX7_hunter_11 ?_
    refine Gd_bipush kb_99 eX7_hunter_12 ?_
    refine Gd_callP (g_cS (x_isWithin _ _ _) ok_X7_isWithin lk_RX7_119 rfl rfl (Nat.le_of_ble_eq_true rfl) (Nat.le_of_ble_eq_true rfl) (Nat.le_refl _) (Nat.le_refl _) eX7_hunter_14) ?_
    refine Gd_if_eqB eX7_hunter_17 (fun c17 => ?_) (fun c17 => ?_)
    · refine Gd_bipush kb_m2 eX7_hunter_31 ?_
      exact Gd_ireturn eX7_hunter_33 rfl (Nat.le_refl _) (Nat.le_refl _) ⟨a, by rw [rHunter_n (Or.inr (Or.inl c17))], rfl, by rw [rHunter_n (Or.inr (Or.inl c17))]; exact hA, chg_rf⟩
    · refine Gd_iload_n (i := 3) rfl eX7_hunter_20 ?_
      refine Gd_iconst ki_0 eX7_hunter_21 ?_
      refine Gd_sipush ks_1023 eX7_hunter_22 ?_
      refine Gd_callP (g_cS (x_isWithin _ _ _) ok_X7_isWithin lk_RX7_119 rfl rfl (Nat.le_of_ble_eq_true rfl) (Nat.le_of_ble_eq_true rfl) (Nat.le_refl _) (Nat.le_refl _) eX7_hunter_25) ?_
      refine Gd_if_neB eX7_hunter_28 (fun c28 => ?_) (fun c28 => ?_)
      · obtain ⟨k, _, hk, rfl⟩ := inb_r (by decide) (by decide) c7
        obtain ⟨m, _, hm, rfl⟩ := inb_r (by decide) (by decide) c17
        obtain ⟨c, _, hc, rfl⟩ := inb_r (by decide) (by decide) c28
        have hr := rHunter_u (φ := φ) hk hm hc
        refine Gd_aload_n (i := 0) rfl eX7_hunter_34 ?_
        refine Gd_getR fl_RX7_10 (W_s0 hW) (W_r0_0 hW) eX7_hunter_35 ?_
        refine Gd_getIe (v := nI (φ 7 3)) fl_RX7_90 (W_s1 hW) (FA_hu hA :) eX7_hunter_38 ?_
        refine Gd_bipush kb_6 eX7_hunter_41 ?_
        refine Gd_icmp_ltN (by first | omega | decide) (by first | omega | decide) eX7_hunter_43 (fun c43 => ?_) (fun c43 => ?_)
        · refine Gd_aload_n (i := 0) rfl eX7_hunter_49 ?_
          refine Gd_getR fl_RX7_10 (W_s0 hW) (W_r0_0 hW) eX7_hunter_50 ?_
          refine Gd_iload_n (i := 1) rfl eX7_hunter_53 ?_
          refine Gd_bipush kb_10 eX7_hunter_54 ?_
          refine Gd_idivN (by first | omega | decide) (by decide) eX7_hunter_56 ?_
          refine Gd_iload_n (i := 1) rfl eX7_hunter_57 ?_
          refine Gd_bipush kb_10 eX7_hunter_58 ?_
          refine Gd_iremN (by first | omega | decide) (by decide) eX7_hunter_60 ?_
          refine Gd_iload_n (i := 2) rfl eX7_hunter_61 ?_
          refine Gd_iload_n (i := 3) rfl eX7_hunter_62 ?_
          refine Gd_callPh (g_cV (x_fadd (W_F1 hW) hA hI (by omega)) ok_X0_add lk_RX7_147 (W_s1 hW) ⟨_, _, rfl⟩ rfl rfl (Nat.le_of_ble_eq_true rfl) (Nat.le_of_ble_eq_true rfl) (Nat.le_refl _) (Nat.le_refl _) eX7_hunter_63) rfl ?_
          exact Gd_ireturn eX7_hunter_66 rfl (Nat.le_refl _) (Nat.le_refl _) (by rw [hr, if_neg (by omega)]; exact ⟨_, rfl, rfl, FA_hun hA k m c, chg_up (chg_up (chg_up (chg_up (chg_up (chg_up (chg_up (chg_rf) rfl) rfl) rfl) rfl) rfl) rfl) rfl⟩)
        · refine Gd_bipush kb_m4 eX7_hunter_46 ?_
          exact Gd_ireturn eX7_hunter_48 rfl (Nat.le_refl _) (Nat.le_refl _) (by rw [hr, if_pos (by omega)]; exact ⟨a, rfl, rfl, hA, chg_rf⟩)
      · refine Gd_bipush kb_m2 eX7_hunter_31 ?_
        exact Gd_ireturn eX7_hunter_33 rfl (Nat.le_refl _) (Nat.le_refl _) ⟨a, by rw [rHunter_n (Or.inr (Or.inr c28))], rfl, by rw [rHunter_n (Or.inr (Or.inr c28))]; exact hA, chg_rf⟩
theorem m_put {sh : List (Nat × Nat)} {a : Nat → Nat → Int32} {r : Nat → Nat → Option Nat} {g : Nat → Nat → Int64} {φ : Nat → Nat → Nat} (hW : WD sh r) (hM : MA φ a) (hI : FI φ) (vp vw vv : Int32) : Mt YX8_put 2 0 0 [vr 50, vi vp, vi vw, vi vv] (sh, a, r, g) (g_EV sh r g (vi (rPut φ vp vw vv).1) (fun a' => MA (rPut φ vp vw vv).2 a' ∧ chg s53 a a')) := by
  refine Mt_of rfl (Nat.le_of_ble_eq_true rfl) rfl ?_
  have hhu := FI_hu hI
  refine Gd_aload_n (i := 0) rfl eX8_put_0 ?_
  refine Gd_iload_n (i := 1) rfl eX8_put_1 ?_
  refine Gd_callP (g_cV (m_isOne hW hM hI _) ok_X8_isOne lk_RX8_88 (W_s50 hW) ⟨_, _, rfl⟩ rfl rfl (Nat.le_of_ble_eq_true rfl) (Nat.le_of_ble_eq_true rfl) (Nat.le_refl _) (Nat.le_refl _) eX8_put_2) ?_
  refine Gd_if_neB eX8_put_5 (fun c5 => ?_) (fun c5 => ?_)
  · obtain ⟨p, hpn, rfl⟩ := inr_t c5 (by omega)
    refine Gd_iload_n (i := 2) rfl eX8_put_11 ?_
    refine Gd_iconst ki_0 eX8_put_12 ?_
    refine Gd_iconst ki_1 eX8_put_13 ?_
    refine Gd_callP (g_cS (m_in _ _ _) ok_X8_in lk_RX8_84 rfl rfl (Nat.le_of_ble_eq_true rfl) (Nat.le_of_ble_eq_true rfl) (Nat.le_refl _) (Nat.le_refl _) eX8_put_14) ?_
    refine Gd_if_eqB eX8_put_17 (fun c17 => ?_) (fun c17 => ?_)
    · refine Gd_bipush kb_m7 eX8_put_40 ?_
      exact Gd_ireturn eX8_put_42 rfl (Nat.le_refl _) (Nat.le_refl _) (by rw [rPut_w hpn hhu c17]; exact ⟨a, rfl, rfl, hM, chg_rf⟩)
    · obtain ⟨k, _, hk, rfl⟩ := inb_r (by decide) (by decide) c17
      rcases (by omega : k = 0 ∨ k = 1) with rfl | rfl
      · refine Gd_iload_n (i := 3) rfl eX8_put_20 ?_
        refine Gd_iconst ki_0 eX8_put_21 ?_
        refine Gd_iload_n (i := 2) rfl eX8_put_22 ?_
        refine Gd_if_ne eX8_put_23 (fun q => by first | exact absurd q (by decide) | exact absurd (by decide) q) (fun _ => ?_)
        refine Gd_bipush kb_99 eX8_put_26 ?_
        refine Gd_goto eX8_put_28 ?_
        refine Gd_callP (g_cS (m_in _ _ _) ok_X8_in lk_RX8_84 rfl rfl (Nat.le_of_ble_eq_true rfl) (Nat.le_of_ble_eq_true rfl) (Nat.le_refl _) (Nat.le_refl _) eX8_put_34) ?_
        refine Gd_if_neB eX8_put_37 (fun c37 => ?_) (fun c37 => ?_)
        · obtain ⟨v, _, hv, rfl⟩ := inb_r (by decide) (by decide) c37
          refine Gd_aload_n (i := 0) rfl eX8_put_43 ?_
          refine Gd_getR fl_RX8_16 (W_s50 hW) (W_r50_3 hW) eX8_put_44 ?_
          refine Gd_iconst ki_4 eX8_put_47 ?_
          refine Gd_iload_n (i := 1) rfl eX8_put_48 ?_
          refine Gd_imulN eX8_put_49 ?_
          refine Gd_iload_n (i := 2) rfl eX8_put_50 ?_
          refine Gd_iaddN eX8_put_51 ?_
          refine Gd_ialdE (v := nI (φ 3 p)) (W_s53 hW) (by first | omega | decide) (MA_ho hM (p := p) (by first | omega | decide) :) eX8_put_52 ?_
          refine Gd_istore4 rfl eX8_put_53 ?_
          refine Gd_aload_n (i := 0) rfl eX8_put_55 ?_
          refine Gd_getR fl_RX8_16 (W_s50 hW) (W_r50_3 hW) eX8_put_56 ?_
          refine Gd_iconst ki_4 eX8_put_59 ?_
          refine Gd_iload_n (i := 1) rfl eX8_put_60 ?_
          refine Gd_imulN eX8_put_61 ?_
          refine Gd_iload_n (i := 2) rfl eX8_put_62 ?_
          refine Gd_iaddN eX8_put_63 ?_
          refine Gd_iload_n (i := 3) rfl eX8_put_64 ?_
          refine Gd_iastN (W_s53 hW) (by first | omega | decide) eX8_put_65 ?_
          refine Gd_iload (i := 4) rfl eX8_put_66 ?_
          exact Gd_ireturn eX8_put_68 rfl (Nat.le_refl _) (Nat.le_refl _) (by rw [rPut_0 hpn hhu hv]; exact ⟨_, rfl, rfl, MA_setho hM, chg_up chg_rf rfl⟩)
        · refine Gd_bipush kb_m7 eX8_put_40 ?_
          exact Gd_ireturn eX8_put_42 rfl (Nat.le_refl _) (Nat.le_refl _) (by rw [rPut_v0 hpn hhu c37]; exact ⟨a, rfl, rfl, hM, chg_rf⟩)
      · refine Gd_iload_n (i := 3) rfl eX8_put_20 ?_
        refine Gd_iconst ki_0 eX8_put_21 ?_
        refine Gd_iload_n (i := 2) rfl eX8_put_22 ?_
        refine Gd_if_ne eX8_put_23 (fun _ => ?_) (fun q => by first | exact absurd q (by decide) | exact absurd (by decide) q)
        refine Gd_sipush ks_1023 eX8_put_31 ?_
        refine Gd_callP (g_cS (m_in _ _ _) ok_X8_in lk_RX8_84 rfl rfl (Nat.le_of_ble_eq_true rfl) (Nat.le_of_ble_eq_true rfl) (Nat.le_refl _) (Nat.le_refl _) eX8_put_34) ?_
        refine Gd_if_neB eX8_put_37 (fun c37 => ?_) (fun c37 => ?_)
        · obtain ⟨v, _, hv, rfl⟩ := inb_r (by decide) (by decide) c37
          refine Gd_aload_n (i := 0) rfl eX8_put_43 ?_
          refine Gd_getR fl_RX8_16 (W_s50 hW) (W_r50_3 hW) eX8_put_44 ?_
          refine Gd_iconst ki_4 eX8_put_47 ?_
          refine Gd_iload_n (i := 1) rfl eX8_put_48 ?_
          refine Gd_imulN eX8_put_49 ?_
          refine Gd_iload_n (i := 2) rfl eX8_put_50 ?_
          refine Gd_iaddN eX8_put_51 ?_
          refine Gd_ialdE (v := nI (φ 5 p)) (W_s53 hW) (by first | omega | decide) (MA_ca hM (p := p) (by first | omega | decide) :) eX8_put_52 ?_
          refine Gd_istore4 rfl eX8_put_53 ?_
          refine Gd_aload_n (i := 0) rfl eX8_put_55 ?_
          refine Gd_getR fl_RX8_16 (W_s50 hW) (W_r50_3 hW) eX8_put_56 ?_
          refine Gd_iconst ki_4 eX8_put_59 ?_
          refine Gd_iload_n (i := 1) rfl eX8_put_60 ?_
          refine Gd_imulN eX8_put_61 ?_
          refine Gd_iload_n (i := 2) rfl eX8_put_62 ?_
          refine Gd_iaddN eX8_put_63 ?_
          refine Gd_iload_n (i := 3) rfl eX8_put_64 ?_
          refine Gd_iastN (W_s53 hW) (by first | omega | decide) eX8_put_65 ?_
          refine Gd_iload (i := 4) rfl eX8_put_66 ?_
          exact Gd_ireturn eX8_put_68 rfl (Nat.le_refl _) (Nat.le_refl _) (by rw [rPut_1 hpn hhu hv]; exact ⟨_, rfl, rfl, MA_setca hM, chg_up chg_rf rfl⟩)
        · refine Gd_bipush kb_m7 eX8_put_40 ?_
          exact Gd_ireturn eX8_put_42 rfl (Nat.le_refl _) (Nat.le_refl _) (by rw [rPut_v1 hpn hhu c37]; exact ⟨a, rfl, rfl, hM, chg_rf⟩)
  · refine Gd_bipush kb_m5 eX8_put_8 ?_
    exact Gd_ireturn eX8_put_10 rfl (Nat.le_refl _) (Nat.le_refl _) (by rw [rPut_p c5]; exact ⟨a, rfl, rfl, hM, chg_rf⟩)
theorem x_put {sh : List (Nat × Nat)} {a : Nat → Nat → Int32} {r : Nat → Nat → Option Nat} {g : Nat → Nat → Int64} {φ : Nat → Nat → Nat} (hW : WD sh r) (hA : FA 1 φ a) (hI : FI φ) (vp vw vv : Int32) : Mt YX7_put 1 0 0 [vr 0, vi vp, vi vw, vi vv] (sh, a, r, g) (g_EV sh r g (vi (rPut φ vp vw vv).1) (fun a' => FA 1 (rPut φ vp vw vv).2 a' ∧ chg scP a a')) := by
  refine Mt_of rfl (Nat.le_of_ble_eq_true rfl) rfl ?_
  have hhu := FI_hu hI
  refine Gd_aload_n (i := 0) rfl eX7_put_0 ?_
  refine Gd_iload_n (i := 1) rfl eX7_put_1 ?_
  refine Gd_callP (g_cV (x_isHunter hW hA hI _) ok_X7_isHunter lk_RX7_140 (W_s0 hW) ⟨_, _, rfl⟩ rfl rfl (Nat.le_of_ble_eq_true rfl) (Nat.le_of_ble_eq_true rfl) (Nat.le_refl _) (Nat.le_refl _) eX7_put_2) ?_
  refine Gd_if_neB eX7_put_5 (fun c5 => ?_) (fun c5 => ?_)
  · obtain ⟨p, hpn, rfl⟩ := inr_t c5 (by omega)
    refine Gd_iload_n (i := 2) rfl eX7_put_11 ?_
    refine Gd_iconst ki_0 eX7_put_12 ?_
    refine Gd_iconst ki_1 eX7_put_13 ?_
    refine Gd_callP (g_cS (x_isWithin _ _ _) ok_X7_isWithin lk_RX7_119 rfl rfl (Nat.le_of_ble_eq_true rfl) (Nat.le_of_ble_eq_true rfl) (Nat.le_refl _) (Nat.le_refl _) eX7_put_14) ?_
    refine Gd_if_eqB eX7_put_17 (fun c17 => ?_) (fun c17 => ?_)
    · refine Gd_bipush kb_m7 eX7_put_40 ?_
      exact Gd_ireturn eX7_put_42 rfl (Nat.le_refl _) (Nat.le_refl _) (by rw [rPut_w hpn hhu c17]; exact ⟨a, rfl, rfl, hA, chg_rf⟩)
    · obtain ⟨k, _, hk, rfl⟩ := inb_r (by decide) (by decide) c17
      rcases (by omega : k = 0 ∨ k = 1) with rfl | rfl
      · refine Gd_iload_n (i := 3) rfl eX7_put_20 ?_
        refine Gd_iconst ki_0 eX7_put_21 ?_
        refine Gd_iload_n (i := 2) rfl eX7_put_22 ?_
        refine Gd_if_ne eX7_put_23 (fun q => by first | exact absurd q (by decide) | exact absurd (by decide) q) (fun _ => ?_)
        refine Gd_bipush kb_99 eX7_put_26 ?_
        refine Gd_goto eX7_put_28 ?_
        refine Gd_callP (g_cS (x_isWithin _ _ _) ok_X7_isWithin lk_RX7_119 rfl rfl (Nat.le_of_ble_eq_true rfl) (Nat.le_of_ble_eq_true rfl) (Nat.le_refl _) (Nat.le_refl _) eX7_put_34) ?_
        refine Gd_if_neB eX7_put_37 (fun c37 => ?_) (fun c37 => ?_)
        · obtain ⟨v, _, hv, rfl⟩ := inb_r (by decide) (by decide) c37
          refine Gd_iload_n (i := 2) rfl eX7_put_43 ?_
          refine Gd_if_ne eX7_put_44 (fun q => by first | exact absurd q (by decide) | exact absurd (by decide) q) (fun _ => ?_)
          refine Gd_aload_n (i := 0) rfl eX7_put_47 ?_
          refine Gd_getR fl_RX7_10 (W_s0 hW) (W_r0_0 hW) eX7_put_48 ?_
          refine Gd_getR fl_RX7_158 (W_s1 hW) (W_r1_7 hW) eX7_put_51 ?_
          refine Gd_iload_n (i := 1) rfl eX7_put_54 ?_
          refine Gd_ialdE (v := nI (φ 3 p)) (W_s5 hW) (by first | omega | decide) (FA_ho hA (p := p) (by first | omega | decide) :) eX7_put_55 ?_
          refine Gd_istore4 rfl eX7_put_56 ?_
          refine Gd_aload_n (i := 0) rfl eX7_put_58 ?_
          refine Gd_getR fl_RX7_10 (W_s0 hW) (W_r0_0 hW) eX7_put_59 ?_
          refine Gd_getR fl_RX7_158 (W_s1 hW) (W_r1_7 hW) eX7_put_62 ?_
          refine Gd_iload_n (i := 1) rfl eX7_put_65 ?_
          refine Gd_iload_n (i := 3) rfl eX7_put_66 ?_
          refine Gd_iastN (W_s5 hW) (by first | omega | decide) eX7_put_67 ?_
          refine Gd_goto eX7_put_68 ?_
          refine Gd_iload (i := 4) rfl eX7_put_92 ?_
          exact Gd_ireturn eX7_put_94 rfl (Nat.le_refl _) (Nat.le_refl _) (by rw [rPut_0 hpn hhu hv]; exact ⟨_, rfl, rfl, FA_setho hA, chg_up chg_rf rfl⟩)
        · refine Gd_bipush kb_m7 eX7_put_40 ?_
          exact Gd_ireturn eX7_put_42 rfl (Nat.le_refl _) (Nat.le_refl _) (by rw [rPut_v0 hpn hhu c37]; exact ⟨a, rfl, rfl, hA, chg_rf⟩)
      · refine Gd_iload_n (i := 3) rfl eX7_put_20 ?_
        refine Gd_iconst ki_0 eX7_put_21 ?_
        refine Gd_iload_n (i := 2) rfl eX7_put_22 ?_
        refine Gd_if_ne eX7_put_23 (fun _ => ?_) (fun q => by first | exact absurd q (by decide) | exact absurd (by decide) q)
        refine Gd_sipush ks_1023 eX7_put_31 ?_
        refine Gd_callP (g_cS (x_isWithin _ _ _) ok_X7_isWithin lk_RX7_119 rfl rfl (Nat.le_of_ble_eq_true rfl) (Nat.le_of_ble_eq_true rfl) (Nat.le_refl _) (Nat.le_refl _) eX7_put_34) ?_
        refine Gd_if_neB eX7_put_37 (fun c37 => ?_) (fun c37 => ?_)
        · obtain ⟨v, _, hv, rfl⟩ := inb_r (by decide) (by decide) c37
          refine Gd_iload_n (i := 2) rfl eX7_put_43 ?_
          refine Gd_if_ne eX7_put_44 (fun _ => ?_) (fun q => by first | exact absurd q (by decide) | exact absurd (by decide) q)
          refine Gd_aload_n (i := 0) rfl eX7_put_71 ?_
          refine Gd_getR fl_RX7_10 (W_s0 hW) (W_r0_0 hW) eX7_put_72 ?_
          refine Gd_getR fl_RX7_161 (W_s1 hW) (W_r1_9 hW) eX7_put_75 ?_
          refine Gd_iload_n (i := 1) rfl eX7_put_78 ?_
          refine Gd_ialdE (v := nI (φ 5 p)) (W_s7 hW) (by first | omega | decide) (FA_ca hA (p := p) (by first | omega | decide) :) eX7_put_79 ?_
          refine Gd_istore4 rfl eX7_put_80 ?_
          refine Gd_aload_n (i := 0) rfl eX7_put_82 ?_
          refine Gd_getR fl_RX7_10 (W_s0 hW) (W_r0_0 hW) eX7_put_83 ?_
          refine Gd_getR fl_RX7_161 (W_s1 hW) (W_r1_9 hW) eX7_put_86 ?_
          refine Gd_iload_n (i := 1) rfl eX7_put_89 ?_
          refine Gd_iload_n (i := 3) rfl eX7_put_90 ?_
          refine Gd_iastN (W_s7 hW) (by first | omega | decide) eX7_put_91 ?_
          refine Gd_iload (i := 4) rfl eX7_put_92 ?_
          exact Gd_ireturn eX7_put_94 rfl (Nat.le_refl _) (Nat.le_refl _) (by rw [rPut_1 hpn hhu hv]; exact ⟨_, rfl, rfl, FA_setca hA, chg_up chg_rf rfl⟩)
        · refine Gd_bipush kb_m7 eX7_put_40 ?_
          exact Gd_ireturn eX7_put_42 rfl (Nat.le_refl _) (Nat.le_refl _) (by rw [rPut_v1 hpn hhu c37]; exact ⟨a, rfl, rfl, hA, chg_rf⟩)
  · refine Gd_bipush kb_m5 eX7_put_8 ?_
    exact Gd_ireturn eX7_put_10 rfl (Nat.le_refl _) (Nat.le_refl _) (by rw [rPut_p c5]; exact ⟨a, rfl, rfl, hA, chg_rf⟩)
