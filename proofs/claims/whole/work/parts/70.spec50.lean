theorem hb3 {n : Nat} (hn : n ≤ 6) (v : Int32) : n = 0 ∨ (∃ m, n = m + 1 ∧ m + 1 ≤ 6 ∧ v < 0) ∨ ∃ m q, q < 2147483648 ∧ m + 1 ≤ 6 ∧ n = m + 1 ∧ v = nI q := by
  cases n with
  | zero => exact Or.inl rfl
  | succ m =>
    right
    by_cases h : v < 0
    · exact Or.inl ⟨m, rfl, hn, h⟩
    · obtain ⟨q, hq, rfl⟩ := nI_of h
      exact Or.inr ⟨m, q, hq, hn, rfl, rfl⟩
theorem neg3 {z m : Nat} (h : z < 3) (hm : m < 2147483648) : ¬ nI m ≤ nI z - nI 3 := by
  intro q
  have h0 : nI z - nI 3 < 0 := by rcases (by omega : z = 0 ∨ z = 1 ∨ z = 2) with rfl | rfl | rfl <;> decide
  exact nI_lt0 hm (Int32.lt_of_le_of_lt q h0)
theorem scZ_H {k j : Nat} (h : scZ k j = false) : scH k j = false := by simp [scZ] at h; simp [scH]; omega
theorem scU_H {k j : Nat} (h : scU k j = false) : scHx 1 k j = false := by simp [scU] at h; simp [scHx]; omega
theorem hby_o {f : Nat → Int32} {z b n k c : Nat} {φ : g_Fo} (h : z < b + 3 * k + 3) : hby f z b (n + 1) k φ c = (-12, φ) := by rw [hby, if_pos h]
theorem hby_y {f : Nat → Int32} {z b n k c : Nat} {φ : g_Fo} (h : ¬ z < b + 3 * k + 3) (h2 : (rHunter φ (f (b + 3 * k)) (f (b + 3 * k + 1)) (f (b + 3 * k + 2))).1 < 0) : hby f z b (n + 1) k φ c = hby f z b n (k + 1) (rHunter φ (f (b + 3 * k)) (f (b + 3 * k + 1)) (f (b + 3 * k + 2))).2 c := by rw [hby, if_neg h, if_pos h2]
theorem hby_n {f : Nat → Int32} {z b n k c : Nat} {φ : g_Fo} (h : ¬ z < b + 3 * k + 3) (h2 : ¬ (rHunter φ (f (b + 3 * k)) (f (b + 3 * k + 1)) (f (b + 3 * k + 2))).1 < 0) : hby f z b (n + 1) k φ c = hby f z b n (k + 1) (rHunter φ (f (b + 3 * k)) (f (b + 3 * k + 1)) (f (b + 3 * k + 2))).2 (c + 1) := by rw [hby, if_neg h, if_neg h2]
theorem m_hby_L {sh : List (Nat × Nat)} {r : Nat → Nat → Option Nat} {g : Nat → Nat → Int64} {sz so : Nat → Nat} {cl : Nat → Nat → Int32} (hW : WD sh r) (hSI : SI so sz) {u : Nat} (hu : u < 4) {n0 b : Nat} {x2 : Int32} {Q : Option g_V → g_H → Prop} {N0 : Nat} {a0 : Nat → Nat → Int32} : ∀ (n k c : Nat) (φ : Nat → Nat → Nat) (a : Nat → Nat → Int32) (x7 x8 : Option g_V), k + n = n0 → b + 3 * k < 2147483648 → c ≤ k ∧ n0 ≤ 6 → MA φ a → FI φ → MS so sz cl a → chg scZ a0 a → (∀ a', MA (hby (cl u) (sz u) b n k φ c).2 a' → chg scZ a0 a' → Q (some (vi (hby (cl u) (sz u) b n k φ c).1)) (sh, a', r, g)) → Gd YX8_huntersBy (z0 3 N0 Q) 0 0 64 [some (vr 50), some (vi (nI u)), some (vi x2), some (vi (nI b)), some (vi (nI n0)), some (vi (nI c)), some (vi (nI k)), x7, x8] [] (sh, a, r, g)
  | 0, k, c, φ, a, x7, x8, hn, hf, hck, hM, hI, hS, hc, kq => by
    have hz := hSI.2 u hu
    refine Gd_iload (i := 6) rfl eX8_huntersBy_64 ?_
    refine Gd_iload (i := 4) rfl eX8_huntersBy_66 ?_
    refine Gd_icmp_geN (by first | omega | decide) (by first | omega | decide) eX8_huntersBy_68 (fun c68 => ?_) (fun c68 => ?_)
    · refine Gd_iload (i := 5) rfl eX8_huntersBy_162 ?_
      exact Gd_ireturn eX8_huntersBy_164 rfl (Nat.le_refl _) (Nat.le_refl _) (kq _ hM hc)
    · exact absurd c68 (by omega)
  | n + 1, k, c, φ, a, x7, x8, hn, hf, hck, hM, hI, hS, hc, kq => by
    have hz := hSI.2 u hu
    refine Gd_iload (i := 6) rfl eX8_huntersBy_64 ?_
    refine Gd_iload (i := 4) rfl eX8_huntersBy_66 ?_
    refine Gd_icmp_geN (by first | omega | decide) (by first | omega | decide) eX8_huntersBy_68 (fun c68 => ?_) (fun c68 => ?_)
    · exact absurd c68 (by omega)
    · refine Gd_iload_n (i := 3) rfl eX8_huntersBy_71 ?_
      refine Gd_iconst ki_3 eX8_huntersBy_72 ?_
      refine Gd_iload (i := 6) rfl eX8_huntersBy_73 ?_
      refine Gd_imulN eX8_huntersBy_75 ?_
      refine Gd_iaddN eX8_huntersBy_76 ?_
      refine Gd_istore7 rfl eX8_huntersBy_77 ?_
      refine Gd_iload_n (i := 3) rfl eX8_huntersBy_79 ?_
      refine Gd_if_ltN (by first | omega | decide) eX8_huntersBy_80 (fun q => q.elim) (fun _ => ?_)
      refine Gd_iload (i := 7) rfl eX8_huntersBy_83 ?_
      refine Gd_iload_n (i := 3) rfl eX8_huntersBy_85 ?_
      refine Gd_icmp_ltN (by first | omega | decide) (by first | omega | decide) eX8_huntersBy_86 (fun c86 => ?_) (fun c86 => ?_)
      · exact absurd c86 (by omega)
      · refine Gd_iload (i := 7) rfl eX8_huntersBy_89 ?_
        refine Gd_aload_n (i := 0) rfl eX8_huntersBy_91 ?_
        refine Gd_getR fl_RX8_44 (W_s50 hW) (W_r50_17 hW) eX8_huntersBy_92 ?_
        refine Gd_iload_n (i := 1) rfl eX8_huntersBy_95 ?_
        refine Gd_ialdE (v := nI (sz u)) (W_s61 hW) (by first | omega | decide) (hS.2.1 u hu :) eX8_huntersBy_96 ?_
        refine Gd_iconst ki_3 eX8_huntersBy_97 ?_
        rcases Nat.lt_or_ge (sz u) 3 with h3 | h3
        · refine Gd_isub eX8_huntersBy_98 ?_
          refine Gd_icmp_le eX8_huntersBy_99 (fun c99 => ?_) (fun c99 => ?_)
          · exact absurd c99 (neg3 h3 hf)
          · refine Gd_bipush kb_m12 eX8_huntersBy_102 ?_
            exact Gd_ireturn eX8_huntersBy_104 rfl (Nat.le_refl _) (Nat.le_refl _) (by rw [hby_o (show sz u < b + 3 * k + 3 by omega)] at kq; exact kq _ hM hc)
        · refine Gd_isubN (by first | omega | decide) eX8_huntersBy_98 ?_
          refine Gd_icmp_leN (by first | omega | decide) (by first | omega | decide) eX8_huntersBy_99 (fun c99 => ?_) (fun c99 => ?_)
          · refine Gd_bipush kb_40 eX8_huntersBy_105 ?_
            refine Gd_iload_n (i := 1) rfl eX8_huntersBy_107 ?_
            refine Gd_imulN eX8_huntersBy_108 ?_
            refine Gd_iload (i := 7) rfl eX8_huntersBy_109 ?_
            refine Gd_iaddN eX8_huntersBy_111 ?_
            refine Gd_istore8 rfl eX8_huntersBy_112 ?_
            refine Gd_iload (i := 5) rfl eX8_huntersBy_114 ?_
            refine Gd_aload_n (i := 0) rfl eX8_huntersBy_116 ?_
            refine Gd_aload_n (i := 0) rfl eX8_huntersBy_117 ?_
            refine Gd_getR fl_RX8_47 (W_s50 hW) (W_r50_18 hW) eX8_huntersBy_118 ?_
            refine Gd_iload (i := 8) rfl eX8_huntersBy_121 ?_
            refine Gd_ialdE (W_s62 hW) (by first | omega | decide) (hS.2.2 u hu (b + 3 * k) (by omega) :) eX8_huntersBy_123 ?_
            refine Gd_aload_n (i := 0) rfl eX8_huntersBy_124 ?_
            refine Gd_getR fl_RX8_47 (W_s50 hW) (W_r50_18 hW) eX8_huntersBy_125 ?_
            refine Gd_iload (i := 8) rfl eX8_huntersBy_128 ?_
            refine Gd_iconst ki_1 eX8_huntersBy_130 ?_
            refine Gd_iaddN eX8_huntersBy_131 ?_
            refine Gd_ialdE (W_s62 hW) (by first | omega | decide) (hS.2.2 u hu (b + 3 * k + 1) (by omega) :) eX8_huntersBy_132 ?_
            refine Gd_aload_n (i := 0) rfl eX8_huntersBy_133 ?_
            refine Gd_getR fl_RX8_47 (W_s50 hW) (W_r50_18 hW) eX8_huntersBy_134 ?_
            refine Gd_iload (i := 8) rfl eX8_huntersBy_137 ?_
            refine Gd_iconst ki_2 eX8_huntersBy_139 ?_
            refine Gd_iaddN eX8_huntersBy_140 ?_
            refine Gd_ialdE (W_s62 hW) (by first | omega | decide) (hS.2.2 u hu (b + 3 * k + 2) (by omega) :) eX8_huntersBy_141 ?_
            refine Gd_callEV (g_cV (m_hunter hW hM hI _ _ _) ok_X8_hunter lk_RX8_291 (W_s50 hW) ⟨_, _, rfl⟩ rfl rfl (Nat.le_of_ble_eq_true rfl) (Nat.le_of_ble_eq_true rfl) (Nat.le_refl _) (Nat.le_refl _) eX8_huntersBy_142) (fun a2 hq => ?_)
            obtain ⟨hM2, hq⟩ := hq
            refine Gd_if_lt eX8_huntersBy_145 (fun c145 => ?_) (fun c145 => ?_)
            · refine Gd_iconst ki_0 eX8_huntersBy_152 ?_
              refine Gd_iaddN eX8_huntersBy_153 ?_
              refine Gd_istore5 rfl eX8_huntersBy_154 ?_
              refine Gd_iinc6 (ho := rfl) (he := nI_inc _) eX8_huntersBy_156 ?_
              refine Gd_goto eX8_huntersBy_159 ?_
              rw [hby_y (show ¬ sz u < b + 3 * k + 3 by omega) c145] at kq
              exact m_hby_L hW hSI hu n (k + 1) _ _ a2 _ _ (by omega) (by omega) (by omega) hM2 (FI_rHunter hI _ _ _) (MS_Z hS (chg_mono2 scZ_H hq)) (chg_tr hc (chg_mono2 scZ_H hq)) kq
            · refine Gd_iconst ki_1 eX8_huntersBy_148 ?_
              refine Gd_goto eX8_huntersBy_149 ?_
              refine Gd_iaddN eX8_huntersBy_153 ?_
              refine Gd_istore5 rfl eX8_huntersBy_154 ?_
              refine Gd_iinc6 (ho := rfl) (he := nI_inc _) eX8_huntersBy_156 ?_
              refine Gd_goto eX8_huntersBy_159 ?_
              rw [hby_n (show ¬ sz u < b + 3 * k + 3 by omega) c145] at kq
              exact m_hby_L hW hSI hu n (k + 1) _ _ a2 _ _ (by omega) (by omega) (by omega) hM2 (FI_rHunter hI _ _ _) (MS_Z hS (chg_mono2 scZ_H hq)) (chg_tr hc (chg_mono2 scZ_H hq)) kq
          · refine Gd_bipush kb_m12 eX8_huntersBy_102 ?_
            exact Gd_ireturn eX8_huntersBy_104 rfl (Nat.le_refl _) (Nat.le_refl _) (by rw [hby_o (show sz u < b + 3 * k + 3 by omega)] at kq; exact kq _ hM hc)
theorem m_huntersBy {sh : List (Nat × Nat)} {a : Nat → Nat → Int32} {r : Nat → Nat → Option Nat} {g : Nat → Nat → Int64} {φ : Nat → Nat → Nat} {so sz : Nat → Nat} {cl : Nat → Nat → Int32} (hW : WD sh r) (hM : MA φ a) (hI : FI φ) (hS : MS so sz cl a) (hSI : SI so sz) (vs vo vf vn : Int32) : Mt YX8_huntersBy 3 0 0 [vr 50, vi vs, vi vo, vi vf, vi vn] (sh, a, r, g) (g_EV sh r g (vi (rHby φ (so, sz, cl) vs vo vf vn).1) (fun a' => MA (rHby φ (so, sz, cl) vs vo vf vn).2 a' ∧ chg scZ a a')) := by
  refine Mt_of rfl (Nat.le_of_ble_eq_true rfl) rfl ?_
  refine Gd_iload_n (i := 1) rfl eX8_huntersBy_0 ?_
  refine Gd_iconst ki_0 eX8_huntersBy_1 ?_
  refine Gd_iconst ki_3 eX8_huntersBy_2 ?_
  refine Gd_callP (g_cS (m_in _ _ _) ok_X8_in lk_RX8_84 rfl rfl (Nat.le_of_ble_eq_true rfl) (Nat.le_of_ble_eq_true rfl) (Nat.le_refl _) (Nat.le_refl _) eX8_huntersBy_3) ?_
  refine Gd_if_eqB eX8_huntersBy_6 (fun c6 => ?_) (fun c6 => ?_)
  · refine Gd_bipush kb_m2 eX8_huntersBy_29 ?_
    exact Gd_ireturn eX8_huntersBy_31 rfl (Nat.le_refl _) (Nat.le_refl _) (by rw [rHby_n (Or.inl (by rw [← inb0 (k := 3) (by decide)]; exact c6))]; exact ⟨a, rfl, rfl, hM, chg_rf⟩)
  · refine Gd_iload_n (i := 2) rfl eX8_huntersBy_9 ?_
    refine Gd_iconst ki_0 eX8_huntersBy_10 ?_
    refine Gd_iconst ki_2 eX8_huntersBy_11 ?_
    refine Gd_callP (g_cS (m_in _ _ _) ok_X8_in lk_RX8_84 rfl rfl (Nat.le_of_ble_eq_true rfl) (Nat.le_of_ble_eq_true rfl) (Nat.le_refl _) (Nat.le_refl _) eX8_huntersBy_12) ?_
    refine Gd_if_eqB eX8_huntersBy_15 (fun c15 => ?_) (fun c15 => ?_)
    · refine Gd_bipush kb_m2 eX8_huntersBy_29 ?_
      exact Gd_ireturn eX8_huntersBy_31 rfl (Nat.le_refl _) (Nat.le_refl _) (by rw [rHby_n (Or.inr (Or.inl c15))]; exact ⟨a, rfl, rfl, hM, chg_rf⟩)
    · refine Gd_iload (i := 4) rfl eX8_huntersBy_18 ?_
      refine Gd_iconst ki_0 eX8_huntersBy_20 ?_
      refine Gd_bipush kb_6 eX8_huntersBy_21 ?_
      refine Gd_callP (g_cS (m_in _ _ _) ok_X8_in lk_RX8_84 rfl rfl (Nat.le_of_ble_eq_true rfl) (Nat.le_of_ble_eq_true rfl) (Nat.le_refl _) (Nat.le_refl _) eX8_huntersBy_23) ?_
      refine Gd_if_neB eX8_huntersBy_26 (fun c26 => ?_) (fun c26 => ?_)
      · have hu0 : inr vs 4 = true := by rw [inb0 (by decide)] at c6; exact c6
        obtain ⟨u, hu, rfl⟩ := inr_t hu0 (by decide)
        obtain ⟨o, _, ho, rfl⟩ := inb_r (by decide) (by decide) c15
        obtain ⟨n, _, hn, rfl⟩ := inb_r (by decide) (by decide) c26
        have hz := hSI.2 u hu
        refine Gd_aload_n (i := 0) rfl eX8_huntersBy_32 ?_
        refine Gd_getR fl_RX8_41 (W_s50 hW) (W_r50_16 hW) eX8_huntersBy_33 ?_
        refine Gd_iload_n (i := 1) rfl eX8_huntersBy_36 ?_
        refine Gd_ialdE (W_s60 hW) (by first | omega | decide) (hS.1 u hu :) eX8_huntersBy_37 ?_
        refine Gd_iconst ki_m1 eX8_huntersBy_38 ?_
        refine Gd_icmp_ne eX8_huntersBy_39 (fun c39 => ?_) (fun c39 => ?_)
        · have hnu : ¬ so u = 4294967295 := fun z => c39 (by rw [z]; decide)
          have hlu := (hSI.1 u hu).resolve_left hnu
          refine Gd_aload_n (i := 0) rfl eX8_huntersBy_45 ?_
          refine Gd_getR fl_RX8_41 (W_s50 hW) (W_r50_16 hW) eX8_huntersBy_46 ?_
          refine Gd_iload_n (i := 1) rfl eX8_huntersBy_49 ?_
          refine Gd_ialdE (v := nI (so u)) (W_s60 hW) (by first | omega | decide) (hS.1 u hu :) eX8_huntersBy_50 ?_
          refine Gd_iload_n (i := 2) rfl eX8_huntersBy_51 ?_
          refine Gd_icmp_eqN (by first | omega | decide) (by first | omega | decide) eX8_huntersBy_52 (fun c52 => ?_) (fun c52 => ?_)
          · refine Gd_iconst ki_0 eX8_huntersBy_58 ?_
            refine Gd_istore5 rfl eX8_huntersBy_59 ?_
            refine Gd_iconst ki_0 eX8_huntersBy_61 ?_
            refine Gd_istore6 rfl eX8_huntersBy_62 ?_
            rcases hb3 hn vf with rfl | ⟨m, rfl, hm6, hf0⟩ | ⟨m, q, hq, hm6, rfl, rfl⟩
            · refine Gd_iload (i := 6) rfl eX8_huntersBy_64 ?_
              refine Gd_iload (i := 4) rfl eX8_huntersBy_66 ?_
              refine Gd_icmp_ge eX8_huntersBy_68 (fun _ => ?_) (fun q => by first | exact absurd q (by decide) | exact absurd (by decide) q)
              refine Gd_iload (i := 5) rfl eX8_huntersBy_162 ?_
              exact Gd_ireturn eX8_huntersBy_164 rfl (Nat.le_refl _) (Nat.le_refl _) (by rw [rHby_0 hu ho hnu c52]; exact ⟨a, rfl, rfl, hM, chg_rf⟩)
            · refine Gd_iload (i := 6) rfl eX8_huntersBy_64 ?_
              refine Gd_iload (i := 4) rfl eX8_huntersBy_66 ?_
              refine Gd_icmp_geN (by first | omega | decide) (by first | omega | decide) eX8_huntersBy_68 (fun c68 => ?_) (fun c68 => ?_)
              · exact absurd c68 (by omega)
              · refine Gd_iload_n (i := 3) rfl eX8_huntersBy_71 ?_
                refine Gd_iconst ki_3 eX8_huntersBy_72 ?_
                refine Gd_iload (i := 6) rfl eX8_huntersBy_73 ?_
                refine Gd_imulN eX8_huntersBy_75 ?_
                refine Gd_iadd eX8_huntersBy_76 ?_
                refine Gd_istore7 rfl eX8_huntersBy_77 ?_
                refine Gd_iload_n (i := 3) rfl eX8_huntersBy_79 ?_
                refine Gd_if_lt eX8_huntersBy_80 (fun c80 => ?_) (fun c80 => ?_)
                · refine Gd_bipush kb_m12 eX8_huntersBy_102 ?_
                  exact Gd_ireturn eX8_huntersBy_104 rfl (Nat.le_refl _) (Nat.le_refl _) (by rw [rHby_f hu ho hm6 hnu c52 hf0]; exact ⟨a, rfl, rfl, hM, chg_rf⟩)
                · exact absurd hf0 c80
            · exact m_hby_L hW hSI hu (m + 1) 0 0 φ a _ _ (by omega) (by omega) (by omega) hM hI hS chg_rf (fun a' k1 k2 => by rw [rHby_u (S := (so, sz, cl)) hu ho hm6 hnu c52 hq]; exact ⟨a', rfl, rfl, k1, k2⟩)
          · refine Gd_bipush kb_m13 eX8_huntersBy_55 ?_
            exact Gd_ireturn eX8_huntersBy_57 rfl (Nat.le_refl _) (Nat.le_refl _) (by rw [rHby_k hu ho hn hnu hlu c52]; exact ⟨a, rfl, rfl, hM, chg_rf⟩)
        · refine Gd_bipush kb_m11 eX8_huntersBy_42 ?_
          exact Gd_ireturn eX8_huntersBy_44 rfl (Nat.le_refl _) (Nat.le_refl _) (by rw [rHby_m hu ho hn (show so u = 4294967295 from (nI_m1_iff (by rcases hSI.1 u hu with z | z <;> omega)).mp c39)]; exact ⟨a, rfl, rfl, hM, chg_rf⟩)
      · refine Gd_bipush kb_m2 eX8_huntersBy_29 ?_
        exact Gd_ireturn eX8_huntersBy_31 rfl (Nat.le_refl _) (Nat.le_refl _) (by rw [rHby_n (Or.inr (Or.inr c26))]; exact ⟨a, rfl, rfl, hM, chg_rf⟩)
