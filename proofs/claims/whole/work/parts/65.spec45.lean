theorem m_copy_L {sh : List (Nat × Nat)} {r : Nat → Nat → Option Nat} {g : Nat → Nat → Int64} (hW : WD sh r) {n A B : Nat} {x1 x2 x3 x4 : Option g_V} {Q : Option g_V → g_H → Prop} {N0 : Nat} {a0 : Nat → Nat → Int32} : ∀ (m k : Nat) (a : Nat → Nat → Int32) (x9 : Option g_V), k + m = n → A + n ≤ 160 → B + n ≤ 160 → (∀ y, a 62 y = cpS A B n k (a0 62) y) → chg (sR 62) a0 a → (∀ a', (∀ y, a' 62 y = if B ≤ y ∧ y < B + n then a0 62 (A + (y - B)) else a0 62 y) → chg (sR 62) a0 a' → Q (some (vi (nI n))) (sh, a', r, g)) → Gd YX8_copy (z0 1 N0 Q) 0 0 147 [some (vr 50), x1, x2, x3, x4, some (vi (nI n)), some (vi (nI A)), some (vi (nI B)), some (vi (nI k)), x9] [] (sh, a, r, g)
  | 0, k, a, x9, hn, hA, hB, h62, hc, kq => by
    refine Gd_iload (i := 8) rfl eX8_copy_147 ?_
    refine Gd_iload (i := 5) rfl eX8_copy_149 ?_
    refine Gd_icmp_geN (by first | omega | decide) (by first | omega | decide) eX8_copy_151 (fun c151 => ?_) (fun c151 => ?_)
    · refine Gd_iload (i := 5) rfl eX8_copy_201 ?_
      exact Gd_ireturn eX8_copy_203 rfl (Nat.le_refl _) (Nat.le_refl _) (by rw [show k = n by omega] at *; exact kq _ (fun y => (h62 y).trans (cpS_n y)) hc)
    · exact absurd c151 (by omega)
  | m + 1, k, a, x9, hn, hA, hB, h62, hc, kq => by
    refine Gd_iload (i := 8) rfl eX8_copy_147 ?_
    refine Gd_iload (i := 5) rfl eX8_copy_149 ?_
    refine Gd_icmp_geN (by first | omega | decide) (by first | omega | decide) eX8_copy_151 (fun c151 => ?_) (fun c151 => ?_)
    · exact absurd c151 (by omega)
    · refine Gd_iload (i := 6) rfl eX8_copy_154 ?_
      refine Gd_iload (i := 7) rfl eX8_copy_156 ?_
      refine Gd_icmp_geN (by first | omega | decide) (by first | omega | decide) eX8_copy_158 (fun c158 => ?_) (fun c158 => ?_)
      · refine Gd_iload (i := 8) rfl eX8_copy_171 ?_
        refine Gd_istore9 rfl eX8_copy_173 ?_
        refine Gd_aload_n (i := 0) rfl eX8_copy_175 ?_
        refine Gd_getR fl_RX8_47 (W_s50 hW) (W_r50_18 hW) eX8_copy_176 ?_
        refine Gd_iload (i := 7) rfl eX8_copy_179 ?_
        refine Gd_iload (i := 9) rfl eX8_copy_181 ?_
        refine Gd_iaddN eX8_copy_183 ?_
        refine Gd_aload_n (i := 0) rfl eX8_copy_184 ?_
        refine Gd_getR fl_RX8_47 (W_s50 hW) (W_r50_18 hW) eX8_copy_185 ?_
        refine Gd_iload (i := 6) rfl eX8_copy_188 ?_
        refine Gd_iload (i := 9) rfl eX8_copy_190 ?_
        refine Gd_iaddN eX8_copy_192 ?_
        refine Gd_ialdN (W_s62 hW) (by first | omega | decide) eX8_copy_193 ?_
        refine Gd_iastN (W_s62 hW) (by first | omega | decide) eX8_copy_194 ?_
        refine Gd_iinc8 (ho := rfl) (he := nI_inc _) eX8_copy_195 ?_
        refine Gd_goto eX8_copy_198 ?_
        exact m_copy_L hW m (k + 1) _ _ (by omega) hA hB (fun y => up2_if.trans (cpS_s (x := k) (by omega) h62 (by rw [if_neg (by omega)]) y)) (chg_tr hc chg_row) kq
      · refine Gd_iload (i := 5) rfl eX8_copy_161 ?_
        refine Gd_iconst ki_1 eX8_copy_163 ?_
        refine Gd_isubN (by first | omega | decide) eX8_copy_164 ?_
        refine Gd_iload (i := 8) rfl eX8_copy_165 ?_
        refine Gd_isubN (by first | omega | decide) eX8_copy_167 ?_
        refine Gd_goto eX8_copy_168 ?_
        refine Gd_istore9 rfl eX8_copy_173 ?_
        refine Gd_aload_n (i := 0) rfl eX8_copy_175 ?_
        refine Gd_getR fl_RX8_47 (W_s50 hW) (W_r50_18 hW) eX8_copy_176 ?_
        refine Gd_iload (i := 7) rfl eX8_copy_179 ?_
        refine Gd_iload (i := 9) rfl eX8_copy_181 ?_
        refine Gd_iaddN eX8_copy_183 ?_
        refine Gd_aload_n (i := 0) rfl eX8_copy_184 ?_
        refine Gd_getR fl_RX8_47 (W_s50 hW) (W_r50_18 hW) eX8_copy_185 ?_
        refine Gd_iload (i := 6) rfl eX8_copy_188 ?_
        refine Gd_iload (i := 9) rfl eX8_copy_190 ?_
        refine Gd_iaddN eX8_copy_192 ?_
        refine Gd_ialdN (W_s62 hW) (by first | omega | decide) eX8_copy_193 ?_
        refine Gd_iastN (W_s62 hW) (by first | omega | decide) eX8_copy_194 ?_
        refine Gd_iinc8 (ho := rfl) (he := nI_inc _) eX8_copy_195 ?_
        refine Gd_goto eX8_copy_198 ?_
        exact m_copy_L hW m (k + 1) _ _ (by omega) hA hB (fun y => up2_if.trans (cpS_s (x := (n - 1 - k)) (by omega) h62 (by rw [if_pos (by omega)]) y)) (chg_tr hc chg_row) kq
theorem m_copy {sh : List (Nat × Nat)} {a : Nat → Nat → Int32} {r : Nat → Nat → Option Nat} {g : Nat → Nat → Int64} {so sz : Nat → Nat} {cl : Nat → Nat → Int32} (hW : WD sh r) (hS : MS so sz cl a) (hSI : SI so sz) (vs vi_ vo vj vn : Int32) : Mt YX8_copy 1 0 0 [vr 50, vi vs, vi vi_, vi vo, vi vj, vi vn] (sh, a, r, g) (g_EV sh r g (vi (rCopy (so, sz, cl) vs vi_ vo vj vn).1) (fun a' => MS (rCopy (so, sz, cl) vs vi_ vo vj vn).2.1 (rCopy (so, sz, cl) vs vi_ vo vj vn).2.2.1 (rCopy (so, sz, cl) vs vi_ vo vj vn).2.2.2 a' ∧ chg scC a a')) := by
  refine Mt_of rfl (Nat.le_of_ble_eq_true rfl) rfl ?_
  refine Gd_iload_n (i := 1) rfl eX8_copy_0 ?_
  refine Gd_iconst ki_0 eX8_copy_1 ?_
  refine Gd_iconst ki_3 eX8_copy_2 ?_
  refine Gd_callP (g_cS (m_in _ _ _) ok_X8_in lk_RX8_84 rfl rfl (Nat.le_of_ble_eq_true rfl) (Nat.le_of_ble_eq_true rfl) (Nat.le_refl _) (Nat.le_refl _) eX8_copy_3) ?_
  refine Gd_if_eqB eX8_copy_6 (fun c6 => ?_) (fun c6 => ?_)
  · refine Gd_bipush kb_m2 eX8_copy_18 ?_
    exact Gd_ireturn eX8_copy_20 rfl (Nat.le_refl _) (Nat.le_refl _) (by rw [rCopy_s (Or.inl (by rw [← inb0 (k := 3) (by decide)]; exact c6))]; exact ⟨a, rfl, rfl, hS, chg_rf⟩)
  · refine Gd_iload_n (i := 3) rfl eX8_copy_9 ?_
    refine Gd_iconst ki_0 eX8_copy_10 ?_
    refine Gd_iconst ki_3 eX8_copy_11 ?_
    refine Gd_callP (g_cS (m_in _ _ _) ok_X8_in lk_RX8_84 rfl rfl (Nat.le_of_ble_eq_true rfl) (Nat.le_of_ble_eq_true rfl) (Nat.le_refl _) (Nat.le_refl _) eX8_copy_12) ?_
    refine Gd_if_neB eX8_copy_15 (fun c15 => ?_) (fun c15 => ?_)
    · have hu0 : inr vs 4 = true := by rw [inb0 (by decide)] at c6; exact c6
      obtain ⟨u, hu, rfl⟩ := inr_t hu0 (by decide)
      have ho0 : inr vo 4 = true := by rw [inb0 (by decide)] at c15; exact c15
      obtain ⟨o, ho, rfl⟩ := inr_t ho0 (by decide)
      refine Gd_aload_n (i := 0) rfl eX8_copy_21 ?_
      refine Gd_getR fl_RX8_41 (W_s50 hW) (W_r50_16 hW) eX8_copy_22 ?_
      refine Gd_iload_n (i := 1) rfl eX8_copy_25 ?_
      refine Gd_ialdE (W_s60 hW) (by first | omega | decide) (hS.1 u hu :) eX8_copy_26 ?_
      refine Gd_iconst ki_m1 eX8_copy_27 ?_
      refine Gd_icmp_eq eX8_copy_28 (fun c28 => ?_) (fun c28 => ?_)
      · refine Gd_bipush kb_m11 eX8_copy_41 ?_
        exact Gd_ireturn eX8_copy_43 rfl (Nat.le_refl _) (Nat.le_refl _) (by rw [rCopy_m hu ho (Or.inl (show so u = 4294967295 from (nI_m1_iff (by rcases hSI.1 u hu with z | z <;> omega)).mp c28))]; exact ⟨a, rfl, rfl, hS, chg_rf⟩)
      · refine Gd_aload_n (i := 0) rfl eX8_copy_31 ?_
        refine Gd_getR fl_RX8_41 (W_s50 hW) (W_r50_16 hW) eX8_copy_32 ?_
        refine Gd_iload_n (i := 3) rfl eX8_copy_35 ?_
        refine Gd_ialdE (W_s60 hW) (by first | omega | decide) (hS.1 o ho :) eX8_copy_36 ?_
        refine Gd_iconst ki_m1 eX8_copy_37 ?_
        refine Gd_icmp_ne eX8_copy_38 (fun c38 => ?_) (fun c38 => ?_)
        · have hnu : ¬ so u = 4294967295 := fun z => c28 (by rw [z]; decide)
          have hno : ¬ so o = 4294967295 := fun z => c38 (by rw [z]; decide)
          have hso : ¬ (so u = 4294967295 ∨ so o = 4294967295) := fun z => z.elim hnu hno
          have hlu := (hSI.1 u hu).resolve_left hnu
          have hlo := (hSI.1 o ho).resolve_left hno
          have hzu := hSI.2 u hu
          have hzo := hSI.2 o ho
          refine Gd_aload_n (i := 0) rfl eX8_copy_44 ?_
          refine Gd_getR fl_RX8_41 (W_s50 hW) (W_r50_16 hW) eX8_copy_45 ?_
          refine Gd_iload_n (i := 1) rfl eX8_copy_48 ?_
          refine Gd_ialdE (v := nI (so u)) (W_s60 hW) (by first | omega | decide) (hS.1 u hu :) eX8_copy_49 ?_
          refine Gd_aload_n (i := 0) rfl eX8_copy_50 ?_
          refine Gd_getR fl_RX8_41 (W_s50 hW) (W_r50_16 hW) eX8_copy_51 ?_
          refine Gd_iload_n (i := 3) rfl eX8_copy_54 ?_
          refine Gd_ialdE (v := nI (so o)) (W_s60 hW) (by first | omega | decide) (hS.1 o ho :) eX8_copy_55 ?_
          refine Gd_icmp_eqN (by first | omega | decide) (by first | omega | decide) eX8_copy_56 (fun c56 => ?_) (fun c56 => ?_)
          · refine Gd_iload (i := 5) rfl eX8_copy_62 ?_
            refine Gd_if_lt eX8_copy_64 (fun c64 => ?_) (fun c64 => ?_)
            · refine Gd_bipush kb_m12 eX8_copy_124 ?_
              exact Gd_ireturn eX8_copy_126 rfl (Nat.le_refl _) (Nat.le_refl _) (by rw [rCopy_h hu ho hso c56 (Or.inl (hlds_n c64))]; exact ⟨a, rfl, rfl, hS, chg_rf⟩)
            · refine Gd_iload_n (i := 2) rfl eX8_copy_67 ?_
              refine Gd_if_lt eX8_copy_68 (fun c68 => ?_) (fun c68 => ?_)
              · refine Gd_bipush kb_m12 eX8_copy_124 ?_
                exact Gd_ireturn eX8_copy_126 rfl (Nat.le_refl _) (Nat.le_refl _) (by rw [rCopy_h hu ho hso c56 (Or.inl (hlds_i c68))]; exact ⟨a, rfl, rfl, hS, chg_rf⟩)
              · refine Gd_iload (i := 4) rfl eX8_copy_71 ?_
                refine Gd_if_lt eX8_copy_73 (fun c73 => ?_) (fun c73 => ?_)
                · refine Gd_bipush kb_m12 eX8_copy_124 ?_
                  exact Gd_ireturn eX8_copy_126 rfl (Nat.le_refl _) (Nat.le_refl _) (by rw [rCopy_h hu ho hso c56 (Or.inr (hlds_i c73))]; exact ⟨a, rfl, rfl, hS, chg_rf⟩)
                · obtain ⟨n, hn, rfl⟩ := nI_of c64
                  obtain ⟨i, hi, rfl⟩ := nI_of c68
                  obtain ⟨j, hj, rfl⟩ := nI_of c73
                  refine Gd_iload_n (i := 2) rfl eX8_copy_76 ?_
                  refine Gd_aload_n (i := 0) rfl eX8_copy_77 ?_
                  refine Gd_getR fl_RX8_44 (W_s50 hW) (W_r50_17 hW) eX8_copy_78 ?_
                  refine Gd_iload_n (i := 1) rfl eX8_copy_81 ?_
                  refine Gd_ialdE (v := nI (sz u)) (W_s61 hW) (by first | omega | decide) (hS.2.1 u hu :) eX8_copy_82 ?_
                  refine Gd_icmp_gtN (by first | omega | decide) (by first | omega | decide) eX8_copy_83 (fun c83 => ?_) (fun c83 => ?_)
                  · refine Gd_bipush kb_m12 eX8_copy_124 ?_
                    exact Gd_ireturn eX8_copy_126 rfl (Nat.le_refl _) (Nat.le_refl _) (by rw [rCopy_h hu ho hso c56 (Or.inl ((hlds_u (by omega) (by omega)).trans (decide_eq_false (by show ¬ _ ≤ sz u; omega))))]; exact ⟨a, rfl, rfl, hS, chg_rf⟩)
                  · refine Gd_iload (i := 4) rfl eX8_copy_86 ?_
                    refine Gd_aload_n (i := 0) rfl eX8_copy_88 ?_
                    refine Gd_getR fl_RX8_44 (W_s50 hW) (W_r50_17 hW) eX8_copy_89 ?_
                    refine Gd_iload_n (i := 3) rfl eX8_copy_92 ?_
                    refine Gd_ialdE (v := nI (sz o)) (W_s61 hW) (by first | omega | decide) (hS.2.1 o ho :) eX8_copy_93 ?_
                    refine Gd_icmp_gtN (by first | omega | decide) (by first | omega | decide) eX8_copy_94 (fun c94 => ?_) (fun c94 => ?_)
                    · refine Gd_bipush kb_m12 eX8_copy_124 ?_
                      exact Gd_ireturn eX8_copy_126 rfl (Nat.le_refl _) (Nat.le_refl _) (by rw [rCopy_h hu ho hso c56 (Or.inr ((hlds_u (by omega) (by omega)).trans (decide_eq_false (by show ¬ _ ≤ sz o; omega))))]; exact ⟨a, rfl, rfl, hS, chg_rf⟩)
                    · refine Gd_iload (i := 5) rfl eX8_copy_97 ?_
                      refine Gd_aload_n (i := 0) rfl eX8_copy_99 ?_
                      refine Gd_getR fl_RX8_44 (W_s50 hW) (W_r50_17 hW) eX8_copy_100 ?_
                      refine Gd_iload_n (i := 1) rfl eX8_copy_103 ?_
                      refine Gd_ialdE (v := nI (sz u)) (W_s61 hW) (by first | omega | decide) (hS.2.1 u hu :) eX8_copy_104 ?_
                      refine Gd_iload_n (i := 2) rfl eX8_copy_105 ?_
                      refine Gd_isubN (by first | omega | decide) eX8_copy_106 ?_
                      refine Gd_icmp_gtN (by first | omega | decide) (by first | omega | decide) eX8_copy_107 (fun c107 => ?_) (fun c107 => ?_)
                      · refine Gd_bipush kb_m12 eX8_copy_124 ?_
                        exact Gd_ireturn eX8_copy_126 rfl (Nat.le_refl _) (Nat.le_refl _) (by rw [rCopy_h hu ho hso c56 (Or.inl ((hlds_u (by omega) (by omega)).trans (decide_eq_false (by show ¬ _ ≤ sz u; omega))))]; exact ⟨a, rfl, rfl, hS, chg_rf⟩)
                      · refine Gd_iload (i := 5) rfl eX8_copy_110 ?_
                        refine Gd_aload_n (i := 0) rfl eX8_copy_112 ?_
                        refine Gd_getR fl_RX8_44 (W_s50 hW) (W_r50_17 hW) eX8_copy_113 ?_
                        refine Gd_iload_n (i := 3) rfl eX8_copy_116 ?_
                        refine Gd_ialdE (v := nI (sz o)) (W_s61 hW) (by first | omega | decide) (hS.2.1 o ho :) eX8_copy_117 ?_
                        refine Gd_iload (i := 4) rfl eX8_copy_118 ?_
                        refine Gd_isubN (by first | omega | decide) eX8_copy_120 ?_
                        refine Gd_icmp_leN (by first | omega | decide) (by first | omega | decide) eX8_copy_121 (fun c121 => ?_) (fun c121 => ?_)
                        · have hr := rCopy_u (S := (so, sz, cl)) (i := i) (j := j) (n := n) hu ho hso c56 hzu hzo (by show _ ≤ sz u; omega) (by show _ ≤ sz o; omega)
                          refine Gd_bipush kb_40 eX8_copy_127 ?_
                          refine Gd_iload_n (i := 1) rfl eX8_copy_129 ?_
                          refine Gd_imulN eX8_copy_130 ?_
                          refine Gd_iload_n (i := 2) rfl eX8_copy_131 ?_
                          refine Gd_iaddN eX8_copy_132 ?_
                          refine Gd_istore6 rfl eX8_copy_133 ?_
                          refine Gd_bipush kb_40 eX8_copy_135 ?_
                          refine Gd_iload_n (i := 3) rfl eX8_copy_137 ?_
                          refine Gd_imulN eX8_copy_138 ?_
                          refine Gd_iload (i := 4) rfl eX8_copy_139 ?_
                          refine Gd_iaddN eX8_copy_141 ?_
                          refine Gd_istore7 rfl eX8_copy_142 ?_
                          refine Gd_iconst ki_0 eX8_copy_144 ?_
                          refine Gd_istore8 rfl eX8_copy_145 ?_
                          exact m_copy_L hW n 0 a _ (by omega) (by omega) (by omega) (fun y => (cpS_0 y).symm) chg_rf (fun a' k1 k2 => by rw [hr]; exact ⟨a', rfl, rfl, MS_shc hu ho (by omega) (by omega) hS (fun x => k2 _ _ rfl) (fun x => k2 _ _ rfl) k1, chg_mono2 scC_62 k2⟩)
                        · refine Gd_bipush kb_m12 eX8_copy_124 ?_
                          exact Gd_ireturn eX8_copy_126 rfl (Nat.le_refl _) (Nat.le_refl _) (by rw [rCopy_h hu ho hso c56 (Or.inr ((hlds_u (by omega) (by omega)).trans (decide_eq_false (by show ¬ _ ≤ sz o; omega))))]; exact ⟨a, rfl, rfl, hS, chg_rf⟩)
          · refine Gd_bipush kb_m13 eX8_copy_59 ?_
            exact Gd_ireturn eX8_copy_61 rfl (Nat.le_refl _) (Nat.le_refl _) (by rw [rCopy_k hu ho hso c56]; exact ⟨a, rfl, rfl, hS, chg_rf⟩)
        · refine Gd_bipush kb_m11 eX8_copy_41 ?_
          exact Gd_ireturn eX8_copy_43 rfl (Nat.le_refl _) (Nat.le_refl _) (by rw [rCopy_m hu ho (Or.inr (show so o = 4294967295 from (nI_m1_iff (by rcases hSI.1 o ho with z | z <;> omega)).mp c38))]; exact ⟨a, rfl, rfl, hS, chg_rf⟩)
    · refine Gd_bipush kb_m2 eX8_copy_18 ?_
      exact Gd_ireturn eX8_copy_20 rfl (Nat.le_refl _) (Nat.le_refl _) (by rw [rCopy_s (Or.inr (by rw [← inb0 (k := 3) (by decide)]; exact c15))]; exact ⟨a, rfl, rfl, hS, chg_rf⟩)
theorem x_copy {sh : List (Nat × Nat)} {a : Nat → Nat → Int32} {r : Nat → Nat → Option Nat} {g : Nat → Nat → Int64} {so sz : Nat → Nat} {cl : Nat → Nat → Int32} (hW : WD sh r) (hS : SX so sz cl a) (hSI : SI so sz) (vs vi_ vo vj vn : Int32) : Mt YX7_copy 1 0 0 [vr 0, vi vs, vi vi_, vi vo, vi vj, vi vn] (sh, a, r, g) (g_EV sh r g (vi (rCopy (so, sz, cl) vs vi_ vo vj vn).1) (fun a' => SX (rCopy (so, sz, cl) vs vi_ vo vj vn).2.1 (rCopy (so, sz, cl) vs vi_ vo vj vn).2.2.1 (rCopy (so, sz, cl) vs vi_ vo vj vn).2.2.2 a' ∧ chg scCx a a')) := by
  refine Mt_of rfl (Nat.le_of_ble_eq_true rfl) rfl ?_
  refine Gd_iload_n (i := 1) rfl eX7_copy_0 ?_
  refine Gd_callP (g_cS (x_isSheet _) ok_X7_isSheet lk_RX7_264 rfl rfl (Nat.le_of_ble_eq_true rfl) (Nat.le_of_ble_eq_true rfl) (Nat.le_refl _) (Nat.le_refl _) eX7_copy_1) ?_
  refine Gd_if_eqB eX7_copy_4 (fun c4 => ?_) (fun c4 => ?_)
  · refine Gd_bipush kb_m2 eX7_copy_14 ?_
    exact Gd_ireturn eX7_copy_16 rfl (Nat.le_refl _) (Nat.le_refl _) (by rw [rCopy_s (Or.inl c4)]; exact ⟨a, rfl, rfl, hS, chg_rf⟩)
  · refine Gd_iload_n (i := 3) rfl eX7_copy_7 ?_
    refine Gd_callP (g_cS (x_isSheet _) ok_X7_isSheet lk_RX7_264 rfl rfl (Nat.le_of_ble_eq_true rfl) (Nat.le_of_ble_eq_true rfl) (Nat.le_refl _) (Nat.le_refl _) eX7_copy_8) ?_
    refine Gd_if_neB eX7_copy_11 (fun c11 => ?_) (fun c11 => ?_)
    · have hu0 := c4
      obtain ⟨u, hu, rfl⟩ := inr_t hu0 (by decide)
      have ho0 := c11
      obtain ⟨o, ho, rfl⟩ := inr_t ho0 (by decide)
      refine Gd_aload_n (i := 0) rfl eX7_copy_17 ?_
      refine Gd_getR fl_RX7_56 (W_s0 hW) (W_r0_8 hW) eX7_copy_18 ?_
      refine Gd_iload_n (i := 1) rfl eX7_copy_21 ?_
      refine Gd_aaldN (Or.inl ⟨rfl, rfl, rfl⟩ : g_rc 21 1 4) (W_s38 hW) (by first | omega | decide) (W_r38 hW (j := u) (by first | omega | decide)) eX7_copy_22 ?_
      refine Gd_astore6 rfl eX7_copy_23 ?_
      refine Gd_aload_n (i := 0) rfl eX7_copy_25 ?_
      refine Gd_getR fl_RX7_56 (W_s0 hW) (W_r0_8 hW) eX7_copy_26 ?_
      refine Gd_iload_n (i := 3) rfl eX7_copy_29 ?_
      refine Gd_aaldN (Or.inl ⟨rfl, rfl, rfl⟩ : g_rc 21 1 4) (W_s38 hW) (by first | omega | decide) (W_r38 hW (j := o) (by first | omega | decide)) eX7_copy_30 ?_
      refine Gd_astore7 rfl eX7_copy_31 ?_
      refine Gd_aload (i := 6) rfl eX7_copy_33 ?_
      refine Gd_callP (g_cV (x_isMissing hW hS hSI (j := u) (by first | omega | decide)) ok_X4_isMissing lk_RX7_280 (W_Sj hW (j := u) (by first | omega | decide)).1 ⟨_, _, rfl⟩ rfl rfl (Nat.le_of_ble_eq_true rfl) (Nat.le_of_ble_eq_true rfl) (Nat.le_refl _) (Nat.le_refl _) eX7_copy_35) ?_
      refine Gd_if_neB eX7_copy_38 (fun c38 => ?_) (fun c38 => ?_)
      · refine Gd_bipush kb_m11 eX7_copy_49 ?_
        exact Gd_ireturn eX7_copy_51 rfl (Nat.le_refl _) (Nat.le_refl _) (by rw [rCopy_m hu ho (Or.inl (of_decide_eq_true c38))]; exact ⟨a, rfl, rfl, hS, chg_rf⟩)
      · refine Gd_aload (i := 7) rfl eX7_copy_41 ?_
        refine Gd_callP (g_cV (x_isMissing hW hS hSI (j := o) (by first | omega | decide)) ok_X4_isMissing lk_RX7_280 (W_Sj hW (j := o) (by first | omega | decide)).1 ⟨_, _, rfl⟩ rfl rfl (Nat.le_of_ble_eq_true rfl) (Nat.le_of_ble_eq_true rfl) (Nat.le_refl _) (Nat.le_refl _) eX7_copy_43) ?_
        refine Gd_if_eqB eX7_copy_46 (fun c46 => ?_) (fun c46 => ?_)
        · have hnu : ¬ so u = 4294967295 := of_decide_eq_false c38
          have hno : ¬ so o = 4294967295 := of_decide_eq_false c46
          have hso : ¬ (so u = 4294967295 ∨ so o = 4294967295) := fun z => z.elim hnu hno
          have hlu := (hSI.1 u hu).resolve_left hnu
          have hlo := (hSI.1 o ho).resolve_left hno
          have hzu := hSI.2 u hu
          have hzo := hSI.2 o ho
          refine Gd_aload (i := 6) rfl eX7_copy_52 ?_
          refine Gd_getIe (v := nI (so u)) fl_RX7_287 (W_Sj hW (j := u) (by first | omega | decide)).1 (hS.1 u (by first | omega | decide) :) eX7_copy_54 ?_
          refine Gd_aload (i := 7) rfl eX7_copy_57 ?_
          refine Gd_getIe (v := nI (so o)) fl_RX7_287 (W_Sj hW (j := o) (by first | omega | decide)).1 (hS.1 o (by first | omega | decide) :) eX7_copy_59 ?_
          refine Gd_icmp_eqN (by first | omega | decide) (by first | omega | decide) eX7_copy_62 (fun c62 => ?_) (fun c62 => ?_)
          · refine Gd_aload (i := 6) rfl eX7_copy_68 ?_
            refine Gd_iload_n (i := 2) rfl eX7_copy_70 ?_
            refine Gd_iload (i := 5) rfl eX7_copy_71 ?_
            refine Gd_callP (g_cV (x_holds hW hS hSI (j := u) (by first | omega | decide) _ _) ok_X4_holds lk_RX7_284 (W_Sj hW (j := u) (by first | omega | decide)).1 ⟨_, _, rfl⟩ rfl rfl (Nat.le_of_ble_eq_true rfl) (Nat.le_of_ble_eq_true rfl) (Nat.le_refl _) (Nat.le_refl _) eX7_copy_73) ?_
            refine Gd_if_eqB eX7_copy_76 (fun c76 => ?_) (fun c76 => ?_)
            · refine Gd_bipush kb_m12 eX7_copy_91 ?_
              exact Gd_ireturn eX7_copy_93 rfl (Nat.le_refl _) (Nat.le_refl _) (by rw [rCopy_h hu ho hso c62 (Or.inl c76)]; exact ⟨a, rfl, rfl, hS, chg_rf⟩)
            · refine Gd_aload (i := 7) rfl eX7_copy_79 ?_
              refine Gd_iload (i := 4) rfl eX7_copy_81 ?_
              refine Gd_iload (i := 5) rfl eX7_copy_83 ?_
              refine Gd_callP (g_cV (x_holds hW hS hSI (j := o) (by first | omega | decide) _ _) ok_X4_holds lk_RX7_284 (W_Sj hW (j := o) (by first | omega | decide)).1 ⟨_, _, rfl⟩ rfl rfl (Nat.le_of_ble_eq_true rfl) (Nat.le_of_ble_eq_true rfl) (Nat.le_refl _) (Nat.le_refl _) eX7_copy_85) ?_
              refine Gd_if_neB eX7_copy_88 (fun c88 => ?_) (fun c88 => ?_)
              · obtain ⟨i, n, hin, rfl, rfl⟩ := hlds_t c76 hzu
                obtain ⟨j, hjn, rfl⟩ := hlds_t2 (by omega) c88
                have hr := rCopy_u (S := (so, sz, cl)) (i := i) (j := j) (n := n) hu ho hso c62 hzu hzo hin hjn
                refine Gd_aload (i := 6) rfl eX7_copy_94 ?_
                refine Gd_getR fl_RX7_270 (W_Sj hW (j := u) (by first | omega | decide)).1 (W_Sj hW (j := u) (by first | omega | decide)).2.2 eX7_copy_96 ?_
                refine Gd_iload_n (i := 2) rfl eX7_copy_99 ?_
                refine Gd_aload (i := 7) rfl eX7_copy_100 ?_
                refine Gd_getR fl_RX7_270 (W_Sj hW (j := o) (by first | omega | decide)).1 (W_Sj hW (j := o) (by first | omega | decide)).2.2 eX7_copy_102 ?_
                refine Gd_iload (i := 4) rfl eX7_copy_105 ?_
                refine Gd_iload (i := 5) rfl eX7_copy_107 ?_
                refine Gd_copy (m0 := 40) (m1 := 40) (W_Sj hW (j := u) (by first | omega | decide)).2.1 (W_Sj hW (j := o) (by first | omega | decide)).2.1 (nI_lt0 (by omega)) (nI_lt0 (by omega)) (nI_lt0 (by omega)) (by rw [nI_clamp (by omega), nI_clamp (by omega)]; omega) (by rw [nI_clamp (by omega), nI_clamp (by omega)]; omega) lk_RX7_290 wa_1 wa_2 wa_3 (Nat.le_of_ble_eq_true rfl) (Nat.le_of_ble_eq_true rfl) eX7_copy_109 ?_
                rw [nI_clamp (show i < 2147483648 by omega), nI_clamp (show j < 2147483648 by omega), nI_clamp (show n < 2147483648 by omega)]
                refine Gd_iload (i := 5) rfl eX7_copy_112 ?_
                exact Gd_ireturn eX7_copy_114 rfl (Nat.le_refl _) (Nat.le_refl _) (by rw [hr]; exact ⟨_, rfl, rfl, SX_shc hu ho (by omega) (by omega) hS, chg_va chg_rf (fun j => by simp [scCx]; omega)⟩)
              · refine Gd_bipush kb_m12 eX7_copy_91 ?_
                exact Gd_ireturn eX7_copy_93 rfl (Nat.le_refl _) (Nat.le_refl _) (by rw [rCopy_h hu ho hso c62 (Or.inr c88)]; exact ⟨a, rfl, rfl, hS, chg_rf⟩)
          · refine Gd_bipush kb_m13 eX7_copy_65 ?_
            exact Gd_ireturn eX7_copy_67 rfl (Nat.le_refl _) (Nat.le_refl _) (by rw [rCopy_k hu ho hso c62]; exact ⟨a, rfl, rfl, hS, chg_rf⟩)
        · refine Gd_bipush kb_m11 eX7_copy_49 ?_
          exact Gd_ireturn eX7_copy_51 rfl (Nat.le_refl _) (Nat.le_refl _) (by rw [rCopy_m hu ho (Or.inr (of_decide_eq_true c46))]; exact ⟨a, rfl, rfl, hS, chg_rf⟩)
    · refine Gd_bipush kb_m2 eX7_copy_14 ?_
      exact Gd_ireturn eX7_copy_16 rfl (Nat.le_refl _) (Nat.le_refl _) (by rw [rCopy_s (Or.inr c11)]; exact ⟨a, rfl, rfl, hS, chg_rf⟩)
