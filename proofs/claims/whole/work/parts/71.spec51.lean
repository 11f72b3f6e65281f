theorem x_hby_L {sh : List (Nat × Nat)} {r : Nat → Nat → Option Nat} {g : Nat → Nat → Int64} {sz so : Nat → Nat} {cl : Nat → Nat → Int32} (hW : WD sh r) (hSI : SI so sz) {u : Nat} (hu : u < 4) {n0 b : Nat} {x2 : Int32} {Q : Option g_V → g_H → Prop} {N0 : Nat} {a0 : Nat → Nat → Int32} : ∀ (n k c : Nat) (φ : Nat → Nat → Nat) (a : Nat → Nat → Int32) (x8 : Option g_V), k + n = n0 → b + 3 * k < 2147483648 → c ≤ k ∧ n0 ≤ 6 → FA 1 φ a → FI φ → SX so sz cl a → chg scU a0 a → (∀ a', FA 1 (hby (cl u) (sz u) b n k φ c).2 a' → chg scU a0 a' → Q (some (vi (hby (cl u) (sz u) b n k φ c).1)) (sh, a', r, g)) → Gd YX7_huntersBy (z0 3 N0 Q) 0 0 67 [some (vr 0), some (vi (nI u)), some (vi x2), some (vi (nI b)), some (vi (nI n0)), some (vr (39 + 2 * u)), some (vi (nI c)), some (vi (nI k)), x8] [] (sh, a, r, g)
  | 0, k, c, φ, a, x8, hn, hf, hck, hA, hI, hS, hc, kq => by
    have hz := hSI.2 u hu
    refine Gd_iload (i := 7) rfl eX7_huntersBy_67 ?_
    refine Gd_iload (i := 4) rfl eX7_huntersBy_69 ?_
    refine Gd_icmp_geN (by first | omega | decide) (by first | omega | decide) eX7_huntersBy_71 (fun c71 => ?_) (fun c71 => ?_)
    · refine Gd_iload (i := 6) rfl eX7_huntersBy_140 ?_
      exact Gd_ireturn eX7_huntersBy_142 rfl (Nat.le_refl _) (Nat.le_refl _) (kq _ hA hc)
    · exact absurd c71 (by omega)
  | n + 1, k, c, φ, a, x8, hn, hf, hck, hA, hI, hS, hc, kq => by
    have hz := hSI.2 u hu
    refine Gd_iload (i := 7) rfl eX7_huntersBy_67 ?_
    refine Gd_iload (i := 4) rfl eX7_huntersBy_69 ?_
    refine Gd_icmp_geN (by first | omega | decide) (by first | omega | decide) eX7_huntersBy_71 (fun c71 => ?_) (fun c71 => ?_)
    · exact absurd c71 (by omega)
    · refine Gd_iload_n (i := 3) rfl eX7_huntersBy_74 ?_
      refine Gd_iconst ki_3 eX7_huntersBy_75 ?_
      refine Gd_iload (i := 7) rfl eX7_huntersBy_76 ?_
      refine Gd_imulN eX7_huntersBy_78 ?_
      refine Gd_iaddN eX7_huntersBy_79 ?_
      refine Gd_istore8 rfl eX7_huntersBy_80 ?_
      refine Gd_aload (i := 5) rfl eX7_huntersBy_82 ?_
      refine Gd_iload (i := 8) rfl eX7_huntersBy_84 ?_
      refine Gd_iconst ki_3 eX7_huntersBy_86 ?_
      refine Gd_callP (g_cV (x_holds hW hS hSI (j := u) (by first | omega | decide) _ _) ok_X4_holds lk_RX7_284 (W_Sj hW (j := u) (by first | omega | decide)).1 ⟨_, _, rfl⟩ rfl rfl (Nat.le_of_ble_eq_true rfl) (Nat.le_of_ble_eq_true rfl) (Nat.le_refl _) (Nat.le_refl _) eX7_huntersBy_87) ?_
      refine Gd_if_neB eX7_huntersBy_90 (fun c90 => ?_) (fun c90 => ?_)
      · have hle : b + 3 * k + 3 ≤ sz u := by rw [hlds_u (by omega) (by decide)] at c90; simpa using c90
        refine Gd_aload_n (i := 0) rfl eX7_huntersBy_96 ?_
        refine Gd_aload (i := 5) rfl eX7_huntersBy_97 ?_
        refine Gd_getR fl_RX7_270 (W_Sj hW (j := u) (by first | omega | decide)).1 (W_Sj hW (j := u) (by first | omega | decide)).2.2 eX7_huntersBy_99 ?_
        refine Gd_iload (i := 8) rfl eX7_huntersBy_102 ?_
        refine Gd_ialdE (W_Sj hW (j := u) (by first | omega | decide)).2.1 (by first | omega | decide) (hS.2.2 u hu (b + 3 * k) (by omega) :) eX7_huntersBy_104 ?_
        refine Gd_aload (i := 5) rfl eX7_huntersBy_105 ?_
        refine Gd_getR fl_RX7_270 (W_Sj hW (j := u) (by first | omega | decide)).1 (W_Sj hW (j := u) (by first | omega | decide)).2.2 eX7_huntersBy_107 ?_
        refine Gd_iload (i := 8) rfl eX7_huntersBy_110 ?_
        refine Gd_iconst ki_1 eX7_huntersBy_112 ?_
        refine Gd_iaddN eX7_huntersBy_113 ?_
        refine Gd_ialdE (W_Sj hW (j := u) (by first | omega | decide)).2.1 (by first | omega | decide) (hS.2.2 u hu (b + 3 * k + 1) (by omega) :) eX7_huntersBy_114 ?_
        refine Gd_aload (i := 5) rfl eX7_huntersBy_115 ?_
        refine Gd_getR fl_RX7_270 (W_Sj hW (j := u) (by first | omega | decide)).1 (W_Sj hW (j := u) (by first | omega | decide)).2.2 eX7_huntersBy_117 ?_
        refine Gd_iload (i := 8) rfl eX7_huntersBy_120 ?_
        refine Gd_iconst ki_2 eX7_huntersBy_122 ?_
        refine Gd_iaddN eX7_huntersBy_123 ?_
        refine Gd_ialdE (W_Sj hW (j := u) (by first | omega | decide)).2.1 (by first | omega | decide) (hS.2.2 u hu (b + 3 * k + 2) (by omega) :) eX7_huntersBy_124 ?_
        refine Gd_callEV (g_cV (x_hunter hW hA hI _ _ _) ok_X7_hunter lk_RX7_296 (W_s0 hW) ⟨_, _, rfl⟩ rfl rfl (Nat.le_of_ble_eq_true rfl) (Nat.le_of_ble_eq_true rfl) (Nat.le_refl _) (Nat.le_refl _) eX7_huntersBy_125) (fun a2 hq => ?_)
        obtain ⟨hA2, hq⟩ := hq
        refine Gd_if_lt eX7_huntersBy_128 (fun c128 => ?_) (fun c128 => ?_)
        · refine Gd_iinc7 (ho := rfl) (he := nI_inc _) eX7_huntersBy_134 ?_
          refine Gd_goto eX7_huntersBy_137 ?_
          rw [hby_y (show ¬ sz u < b + 3 * k + 3 by omega) c128] at kq
          exact x_hby_L hW hSI hu n (k + 1) _ _ a2 _ (by omega) (by omega) (by omega) hA2 (FI_rHunter hI _ _ _) (SX_U hS (chg_mono2 scU_H hq)) (chg_tr hc (chg_mono2 scU_H hq)) kq
        · refine Gd_iinc6 (ho := rfl) (he := nI_inc _) eX7_huntersBy_131 ?_
          refine Gd_iinc7 (ho := rfl) (he := nI_inc _) eX7_huntersBy_134 ?_
          refine Gd_goto eX7_huntersBy_137 ?_
          rw [hby_n (show ¬ sz u < b + 3 * k + 3 by omega) c128] at kq
          exact x_hby_L hW hSI hu n (k + 1) _ _ a2 _ (by omega) (by omega) (by omega) hA2 (FI_rHunter hI _ _ _) (SX_U hS (chg_mono2 scU_H hq)) (chg_tr hc (chg_mono2 scU_H hq)) kq
      · refine Gd_bipush kb_m12 eX7_huntersBy_93 ?_
        exact Gd_ireturn eX7_huntersBy_95 rfl (Nat.le_refl _) (Nat.le_refl _) (by rw [hby_o (show sz u < b + 3 * k + 3 by rw [hlds_u (by omega) (by decide)] at c90; simpa using c90)] at kq; exact kq _ hA hc)
theorem x_huntersBy {sh : List (Nat × Nat)} {a : Nat → Nat → Int32} {r : Nat → Nat → Option Nat} {g : Nat → Nat → Int64} {φ : Nat → Nat → Nat} {so sz : Nat → Nat} {cl : Nat → Nat → Int32} (hW : WD sh r) (hA : FA 1 φ a) (hI : FI φ) (hS : SX so sz cl a) (hSI : SI so sz) (vs vo vf vn : Int32) : Mt YX7_huntersBy 3 0 0 [vr 0, vi vs, vi vo, vi vf, vi vn] (sh, a, r, g) (g_EV sh r g (vi (rHby φ (so, sz, cl) vs vo vf vn).1) (fun a' => FA 1 (rHby φ (so, sz, cl) vs vo vf vn).2 a' ∧ chg scU a a')) := by
  refine Mt_of rfl (Nat.le_of_ble_eq_true rfl) rfl ?_
  refine Gd_iload_n (i := 1) rfl eX7_huntersBy_0 ?_
  refine Gd_callP (g_cS (x_isSheet _) ok_X7_isSheet lk_RX7_264 rfl rfl (Nat.le_of_ble_eq_true rfl) (Nat.le_of_ble_eq_true rfl) (Nat.le_refl _) (Nat.le_refl _) eX7_huntersBy_1) ?_
  refine Gd_if_eqB eX7_huntersBy_4 (fun c4 => ?_) (fun c4 => ?_)
  · refine Gd_bipush kb_m2 eX7_huntersBy_27 ?_
    exact Gd_ireturn eX7_huntersBy_29 rfl (Nat.le_refl _) (Nat.le_refl _) (by rw [rHby_n (Or.inl c4)]; exact ⟨a, rfl, rfl, hA, chg_rf⟩)
  · refine Gd_iload_n (i := 2) rfl eX7_huntersBy_7 ?_
    refine Gd_iconst ki_0 eX7_huntersBy_8 ?_
    refine Gd_iconst ki_2 eX7_huntersBy_9 ?_
    refine Gd_callP (g_cS (x_isWithin _ _ _) ok_X7_isWithin lk_RX7_119 rfl rfl (Nat.le_of_ble_eq_true rfl) (Nat.le_of_ble_eq_true rfl) (Nat.le_refl _) (Nat.le_refl _) eX7_huntersBy_10) ?_
    refine Gd_if_eqB eX7_huntersBy_13 (fun c13 => ?_) (fun c13 => ?_)
    · refine Gd_bipush kb_m2 eX7_huntersBy_27 ?_
      exact Gd_ireturn eX7_huntersBy_29 rfl (Nat.le_refl _) (Nat.le_refl _) (by rw [rHby_n (Or.inr (Or.inl c13))]; exact ⟨a, rfl, rfl, hA, chg_rf⟩)
    · refine Gd_iload (i := 4) rfl eX7_huntersBy_16 ?_
      refine Gd_iconst ki_0 eX7_huntersBy_18 ?_
      refine Gd_bipush kb_6 eX7_huntersBy_19 ?_
      refine Gd_callP (g_cS (x_isWithin _ _ _) ok_X7_isWithin lk_RX7_119 rfl rfl (Nat.le_of_ble_eq_true rfl) (Nat.le_of_ble_eq_true rfl) (Nat.le_refl _) (Nat.le_refl _) eX7_huntersBy_21) ?_
      refine Gd_if_neB eX7_huntersBy_24 (fun c24 => ?_) (fun c24 => ?_)
      · have hu0 := c4
        obtain ⟨u, hu, rfl⟩ := inr_t hu0 (by decide)
        obtain ⟨o, _, ho, rfl⟩ := inb_r (by decide) (by decide) c13
        obtain ⟨n, _, hn, rfl⟩ := inb_r (by decide) (by decide) c24
        have hz := hSI.2 u hu
        refine Gd_aload_n (i := 0) rfl eX7_huntersBy_30 ?_
        refine Gd_getR fl_RX7_56 (W_s0 hW) (W_r0_8 hW) eX7_huntersBy_31 ?_
        refine Gd_iload_n (i := 1) rfl eX7_huntersBy_34 ?_
        refine Gd_aaldN (Or.inl ⟨rfl, rfl, rfl⟩ : g_rc 21 1 4) (W_s38 hW) (by first | omega | decide) (W_r38 hW (j := u) (by first | omega | decide)) eX7_huntersBy_35 ?_
        refine Gd_astore5 rfl eX7_huntersBy_36 ?_
        refine Gd_aload (i := 5) rfl eX7_huntersBy_38 ?_
        refine Gd_callP (g_cV (x_isMissing hW hS hSI (j := u) (by first | omega | decide)) ok_X4_isMissing lk_RX7_280 (W_Sj hW (j := u) (by first | omega | decide)).1 ⟨_, _, rfl⟩ rfl rfl (Nat.le_of_ble_eq_true rfl) (Nat.le_of_ble_eq_true rfl) (Nat.le_refl _) (Nat.le_refl _) eX7_huntersBy_40) ?_
        refine Gd_if_eqB eX7_huntersBy_43 (fun c43 => ?_) (fun c43 => ?_)
        · have hnu : ¬ so u = 4294967295 := of_decide_eq_false c43
          have hlu := (hSI.1 u hu).resolve_left hnu
          refine Gd_aload (i := 5) rfl eX7_huntersBy_49 ?_
          refine Gd_getIe (v := nI (so u)) fl_RX7_287 (W_Sj hW (j := u) (by first | omega | decide)).1 (hS.1 u (by first | omega | decide) :) eX7_huntersBy_51 ?_
          refine Gd_iload_n (i := 2) rfl eX7_huntersBy_54 ?_
          refine Gd_icmp_eqN (by first | omega | decide) (by first | omega | decide) eX7_huntersBy_55 (fun c55 => ?_) (fun c55 => ?_)
          · refine Gd_iconst ki_0 eX7_huntersBy_61 ?_
            refine Gd_istore6 rfl eX7_huntersBy_62 ?_
            refine Gd_iconst ki_0 eX7_huntersBy_64 ?_
            refine Gd_istore7 rfl eX7_huntersBy_65 ?_
            rcases hb3 hn vf with rfl | ⟨m, rfl, hm6, hf0⟩ | ⟨m, q, hq, hm6, rfl, rfl⟩
            · refine Gd_iload (i := 7) rfl eX7_huntersBy_67 ?_
              refine Gd_iload (i := 4) rfl eX7_huntersBy_69 ?_
              refine Gd_icmp_ge eX7_huntersBy_71 (fun _ => ?_) (fun q => by first | exact absurd q (by decide) | exact absurd (by decide) q)
              refine Gd_iload (i := 6) rfl eX7_huntersBy_140 ?_
              exact Gd_ireturn eX7_huntersBy_142 rfl (Nat.le_refl _) (Nat.le_refl _) (by rw [rHby_0 hu ho hnu c55]; exact ⟨a, rfl, rfl, hA, chg_rf⟩)
            · refine Gd_iload (i := 7) rfl eX7_huntersBy_67 ?_
              refine Gd_iload (i := 4) rfl eX7_huntersBy_69 ?_
              refine Gd_icmp_geN (by first | omega | decide) (by first | omega | decide) eX7_huntersBy_71 (fun c71 => ?_) (fun c71 => ?_)
              · exact absurd c71 (by omega)
              · refine Gd_iload_n (i := 3) rfl eX7_huntersBy_74 ?_
                refine Gd_iconst ki_3 eX7_huntersBy_75 ?_
                refine Gd_iload (i := 7) rfl eX7_huntersBy_76 ?_
                refine Gd_imulN eX7_huntersBy_78 ?_
                refine Gd_iadd eX7_huntersBy_79 ?_
                refine Gd_istore8 rfl eX7_huntersBy_80 ?_
                refine Gd_aload (i := 5) rfl eX7_huntersBy_82 ?_
                refine Gd_iload (i := 8) rfl eX7_huntersBy_84 ?_
                refine Gd_iconst ki_3 eX7_huntersBy_86 ?_
                refine Gd_callP (g_cV (x_holds hW hS hSI (j := u) (by first | omega | decide) _ _) ok_X4_holds lk_RX7_284 (W_Sj hW (j := u) (by first | omega | decide)).1 ⟨_, _, rfl⟩ rfl rfl (Nat.le_of_ble_eq_true rfl) (Nat.le_of_ble_eq_true rfl) (Nat.le_refl _) (Nat.le_refl _) eX7_huntersBy_87) ?_
                refine Gd_if_neB eX7_huntersBy_90 (fun c90 => ?_) (fun c90 => ?_)
                · rw [show vf + nI (3 * 0) = vf from Int32.add_zero vf, hlds_i hf0] at c90
                  exact absurd c90 (by decide)
                · refine Gd_bipush kb_m12 eX7_huntersBy_93 ?_
                  exact Gd_ireturn eX7_huntersBy_95 rfl (Nat.le_refl _) (Nat.le_refl _) (by rw [rHby_f hu ho hm6 hnu c55 hf0]; exact ⟨a, rfl, rfl, hA, chg_rf⟩)
            · exact x_hby_L hW hSI hu (m + 1) 0 0 φ a _ (by omega) (by omega) (by omega) hA hI hS chg_rf (fun a' k1 k2 => by rw [rHby_u (S := (so, sz, cl)) hu ho hm6 hnu c55 hq]; exact ⟨a', rfl, rfl, k1, k2⟩)
          · refine Gd_bipush kb_m13 eX7_huntersBy_58 ?_
            exact Gd_ireturn eX7_huntersBy_60 rfl (Nat.le_refl _) (Nat.le_refl _) (by rw [rHby_k hu ho hn hnu hlu c55]; exact ⟨a, rfl, rfl, hA, chg_rf⟩)
        · refine Gd_bipush kb_m11 eX7_huntersBy_46 ?_
          exact Gd_ireturn eX7_huntersBy_48 rfl (Nat.le_refl _) (Nat.le_refl _) (by rw [rHby_m hu ho hn (of_decide_eq_true c43)]; exact ⟨a, rfl, rfl, hA, chg_rf⟩)
      · refine Gd_bipush kb_m2 eX7_huntersBy_27 ?_
        exact Gd_ireturn eX7_huntersBy_29 rfl (Nat.le_refl _) (Nat.le_refl _) (by rw [rHby_n (Or.inr (Or.inr c24))]; exact ⟨a, rfl, rfl, hA, chg_rf⟩)
