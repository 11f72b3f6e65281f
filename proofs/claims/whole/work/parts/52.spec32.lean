theorem va_upe (a : Nat → Nat → Int32) (k : Nat) (v : Nat → Int32) : va_up a k v k = v := by simp [va_up]
theorem va_upn (a : Nat → Nat → Int32) {k j : Nat} (v : Nat → Int32) (h : j ≠ k) : va_up a k v j = a j := by simp [va_up, h]
theorem cpy_at {f g : Nat → Int32} {n j : Nat} (h : j < n) : va_cpy f g 0 0 n j = f j := by
  simp only [va_cpy]
  rw [if_pos ⟨by omega, by omega⟩, Nat.zero_add, Nat.sub_zero]
theorem chg_va {S : Nat → Nat → Bool} {a b : Nat → Nat → Int32} {k : Nat} {v : Nat → Int32} (h : chg S a b) (hk : ∀ j, S k j = true) : chg S a (va_up b k v) := fun x y hx => by
  rw [← h x y hx]
  by_cases e : x = k
  · subst e; rw [hk] at hx; cases hx
  · rw [va_upn _ _ e]
theorem x_become9 {sh : List (Nat × Nat)} {a : Nat → Nat → Int32} {r : Nat → Nat → Option Nat} {g : Nat → Nat → Int64} {φ : Nat → Nat → Nat} (hW : WD sh r) (hA : FA 1 φ a) : Mt YX0_become 1 0 0 [vr 9, vr 1] (sh, a, r, g) (g_E0 sh r g (fun a' => FA 9 φ a' ∧ chg s9_ a a')) := by
  refine Mt_of rfl (Nat.le_of_ble_eq_true rfl) rfl ?_
  refine Gd_aload_n (i := 1) rfl eX0_become_0 ?_
  refine Gd_getR fl_RX0_9 (W_s1 hW) (W_r1_0 hW) eX0_become_1 ?_
  refine Gd_iconst ki_0 eX0_become_4 ?_
  refine Gd_aload_n (i := 0) rfl eX0_become_5 ?_
  refine Gd_getR fl_RX0_9 (W_s9 hW) (W_r9_0 hW) eX0_become_6 ?_
  refine Gd_iconst ki_0 eX0_become_9 ?_
  refine Gd_bipush kb_10 eX0_become_10 ?_
  refine Gd_copy (m0 := 10) (m1 := 10) (W_s2 hW) (W_s10 hW) (by decide) (by decide) (by decide) (by decide) (by decide) lk_RX0_46 wa_1 wa_2 wa_3 (Nat.le_of_ble_eq_true rfl) (Nat.le_of_ble_eq_true rfl) eX0_become_12 ?_
  refine Gd_aload_n (i := 0) rfl eX0_become_15 ?_
  refine Gd_aload_n (i := 1) rfl eX0_become_16 ?_
  refine Gd_getIe (v := nI (φ 7 0)) fl_RX0_15 (W_s1 hW) (FA_al hA :) eX0_become_17 ?_
  refine Gd_putI fl_RX0_15 (W_s9 hW) eX0_become_20 ?_
  refine Gd_aload_n (i := 0) rfl eX0_become_23 ?_
  refine Gd_aload_n (i := 1) rfl eX0_become_24 ?_
  refine Gd_getIe (v := nI (φ 7 1)) fl_RX0_19 (W_s1 hW) (FA_da hA :) eX0_become_25 ?_
  refine Gd_putI fl_RX0_19 (W_s9 hW) eX0_become_28 ?_
  refine Gd_aload_n (i := 0) rfl eX0_become_31 ?_
  refine Gd_aload_n (i := 1) rfl eX0_become_32 ?_
  refine Gd_getIe (v := nI (φ 7 2)) fl_RX0_22 (W_s1 hW) (FA_la hA :) eX0_become_33 ?_
  refine Gd_putI fl_RX0_22 (W_s9 hW) eX0_become_36 ?_
  refine Gd_aload_n (i := 0) rfl eX0_become_39 ?_
  refine Gd_aload_n (i := 1) rfl eX0_become_40 ?_
  refine Gd_getIe (v := nI (φ 7 3)) fl_RX0_25 (W_s1 hW) (FA_hu hA :) eX0_become_41 ?_
  refine Gd_putI fl_RX0_25 (W_s9 hW) eX0_become_44 ?_
  refine Gd_aload_n (i := 1) rfl eX0_become_47 ?_
  refine Gd_getR fl_RX0_28 (W_s1 hW) (W_r1_5 hW) eX0_become_48 ?_
  refine Gd_iconst ki_0 eX0_become_51 ?_
  refine Gd_aload_n (i := 0) rfl eX0_become_52 ?_
  refine Gd_getR fl_RX0_28 (W_s9 hW) (W_r9_5 hW) eX0_become_53 ?_
  refine Gd_iconst ki_0 eX0_become_56 ?_
  refine Gd_bipush kb_6 eX0_become_57 ?_
  refine Gd_copy (m0 := 6) (m1 := 6) (W_s3 hW) (W_s11 hW) (by decide) (by decide) (by decide) (by decide) (by decide) lk_RX0_46 wa_1 wa_2 wa_3 (Nat.le_of_ble_eq_true rfl) (Nat.le_of_ble_eq_true rfl) eX0_become_59 ?_
  refine Gd_aload_n (i := 1) rfl eX0_become_62 ?_
  refine Gd_getR fl_RX0_31 (W_s1 hW) (W_r1_6 hW) eX0_become_63 ?_
  refine Gd_iconst ki_0 eX0_become_66 ?_
  refine Gd_aload_n (i := 0) rfl eX0_become_67 ?_
  refine Gd_getR fl_RX0_31 (W_s9 hW) (W_r9_6 hW) eX0_become_68 ?_
  refine Gd_iconst ki_0 eX0_become_71 ?_
  refine Gd_bipush kb_6 eX0_become_72 ?_
  refine Gd_copy (m0 := 6) (m1 := 6) (W_s4 hW) (W_s12 hW) (by decide) (by decide) (by decide) (by decide) (by decide) lk_RX0_46 wa_1 wa_2 wa_3 (Nat.le_of_ble_eq_true rfl) (Nat.le_of_ble_eq_true rfl) eX0_become_74 ?_
  refine Gd_aload_n (i := 1) rfl eX0_become_77 ?_
  refine Gd_getR fl_RX0_34 (W_s1 hW) (W_r1_7 hW) eX0_become_78 ?_
  refine Gd_iconst ki_0 eX0_become_81 ?_
  refine Gd_aload_n (i := 0) rfl eX0_become_82 ?_
  refine Gd_getR fl_RX0_34 (W_s9 hW) (W_r9_7 hW) eX0_become_83 ?_
  refine Gd_iconst ki_0 eX0_become_86 ?_
  refine Gd_bipush kb_6 eX0_become_87 ?_
  refine Gd_copy (m0 := 6) (m1 := 6) (W_s5 hW) (W_s13 hW) (by decide) (by decide) (by decide) (by decide) (by decide) lk_RX0_46 wa_1 wa_2 wa_3 (Nat.le_of_ble_eq_true rfl) (Nat.le_of_ble_eq_true rfl) eX0_become_89 ?_
  refine Gd_aload_n (i := 1) rfl eX0_become_92 ?_
  refine Gd_getR fl_RX0_37 (W_s1 hW) (W_r1_8 hW) eX0_become_93 ?_
  refine Gd_iconst ki_0 eX0_become_96 ?_
  refine Gd_aload_n (i := 0) rfl eX0_become_97 ?_
  refine Gd_getR fl_RX0_37 (W_s9 hW) (W_r9_8 hW) eX0_become_98 ?_
  refine Gd_iconst ki_0 eX0_become_101 ?_
  refine Gd_bipush kb_6 eX0_become_102 ?_
  refine Gd_copy (m0 := 6) (m1 := 6) (W_s6 hW) (W_s14 hW) (by decide) (by decide) (by decide) (by decide) (by decide) lk_RX0_46 wa_1 wa_2 wa_3 (Nat.le_of_ble_eq_true rfl) (Nat.le_of_ble_eq_true rfl) eX0_become_104 ?_
  refine Gd_aload_n (i := 1) rfl eX0_become_107 ?_
  refine Gd_getR fl_RX0_40 (W_s1 hW) (W_r1_9 hW) eX0_become_108 ?_
  refine Gd_iconst ki_0 eX0_become_111 ?_
  refine Gd_aload_n (i := 0) rfl eX0_become_112 ?_
  refine Gd_getR fl_RX0_40 (W_s9 hW) (W_r9_9 hW) eX0_become_113 ?_
  refine Gd_iconst ki_0 eX0_become_116 ?_
  refine Gd_bipush kb_6 eX0_become_117 ?_
  refine Gd_copy (m0 := 6) (m1 := 6) (W_s7 hW) (W_s15 hW) (by decide) (by decide) (by decide) (by decide) (by decide) lk_RX0_46 wa_1 wa_2 wa_3 (Nat.le_of_ble_eq_true rfl) (Nat.le_of_ble_eq_true rfl) eX0_become_119 ?_
  refine Gd_aload_n (i := 1) rfl eX0_become_122 ?_
  refine Gd_getR fl_RX0_43 (W_s1 hW) (W_r1_10 hW) eX0_become_123 ?_
  refine Gd_iconst ki_0 eX0_become_126 ?_
  refine Gd_aload_n (i := 0) rfl eX0_become_127 ?_
  refine Gd_getR fl_RX0_43 (W_s9 hW) (W_r9_10 hW) eX0_become_128 ?_
  refine Gd_iconst ki_0 eX0_become_131 ?_
  refine Gd_bipush kb_6 eX0_become_132 ?_
  refine Gd_copy (m0 := 6) (m1 := 6) (W_s8 hW) (W_s16 hW) (by decide) (by decide) (by decide) (by decide) (by decide) lk_RX0_46 wa_1 wa_2 wa_3 (Nat.le_of_ble_eq_true rfl) (Nat.le_of_ble_eq_true rfl) eX0_become_134 ?_
  exact Gd_return eX0_become_137 rfl (Nat.le_refl _) (Nat.le_refl _) ⟨_, rfl, rfl, ⟨rfl, rfl, rfl, rfl, fun d hd => (cpy_at hd).trans (FA_sh hA hd :), fun q hq => (cpy_at hq).trans (FA_ki hA hq :), fun q hq => (cpy_at hq).trans (FA_mo hA hq :), fun q hq => (cpy_at hq).trans (FA_ho hA hq :), fun q hq => (cpy_at hq).trans (FA_me hA hq :), fun q hq => (cpy_at hq).trans (FA_ca hA hq :), fun q hq => (cpy_at hq).trans (FA_by hA hq :)⟩, chg_va (chg_va (chg_va (chg_va (chg_va (chg_va (chg_up (chg_up (chg_up (chg_up (chg_va (chg_rf) (fun _ => rfl)) rfl) rfl) rfl) rfl) (fun _ => rfl)) (fun _ => rfl)) (fun _ => rfl)) (fun _ => rfl)) (fun _ => rfl)) (fun _ => rfl)⟩
theorem x_become17 {sh : List (Nat × Nat)} {a : Nat → Nat → Int32} {r : Nat → Nat → Option Nat} {g : Nat → Nat → Int64} {φ : Nat → Nat → Nat} (hW : WD sh r) (hA : FA 1 φ a) : Mt YX0_become 1 0 0 [vr 17, vr 1] (sh, a, r, g) (g_E0 sh r g (fun a' => FA 17 φ a' ∧ chg s17_ a a')) := by
  refine Mt_of rfl (Nat.le_of_ble_eq_true rfl) rfl ?_
  refine Gd_aload_n (i := 1) rfl eX0_become_0 ?_
  refine Gd_getR fl_RX0_9 (W_s1 hW) (W_r1_0 hW) eX0_become_1 ?_
  refine Gd_iconst ki_0 eX0_become_4 ?_
  refine Gd_aload_n (i := 0) rfl eX0_become_5 ?_
  refine Gd_getR fl_RX0_9 (W_s17 hW) (W_r17_0 hW) eX0_become_6 ?_
  refine Gd_iconst ki_0 eX0_become_9 ?_
  refine Gd_bipush kb_10 eX0_become_10 ?_
  refine Gd_copy (m0 := 10) (m1 := 10) (W_s2 hW) (W_s18 hW) (by decide) (by decide) (by decide) (by decide) (by decide) lk_RX0_46 wa_1 wa_2 wa_3 (Nat.le_of_ble_eq_true rfl) (Nat.le_of_ble_eq_true rfl) eX0_become_12 ?_
  refine Gd_aload_n (i := 0) rfl eX0_become_15 ?_
  refine Gd_aload_n (i := 1) rfl eX0_become_16 ?_
  refine Gd_getIe (v := nI (φ 7 0)) fl_RX0_15 (W_s1 hW) (FA_al hA :) eX0_become_17 ?_
  refine Gd_putI fl_RX0_15 (W_s17 hW) eX0_become_20 ?_
  refine Gd_aload_n (i := 0) rfl eX0_become_23 ?_
  refine Gd_aload_n (i := 1) rfl eX0_become_24 ?_
  refine Gd_getIe (v := nI (φ 7 1)) fl_RX0_19 (W_s1 hW) (FA_da hA :) eX0_become_25 ?_
  refine Gd_putI fl_RX0_19 (W_s17 hW) eX0_become_28 ?_
  refine Gd_aload_n (i := 0) rfl eX0_become_31 ?_
  refine Gd_aload_n (i := 1) rfl eX0_become_32 ?_
  refine Gd_getIe (v := nI (φ 7 2)) fl_RX0_22 (W_s1 hW) (FA_la hA :) eX0_become_33 ?_
  refine Gd_putI fl_RX0_22 (W_s17 hW) eX0_become_36 ?_
  refine Gd_aload_n (i := 0) rfl eX0_become_39 ?_
  refine Gd_aload_n (i := 1) rfl eX0_become_40 ?_
  refine Gd_getIe (v := nI (φ 7 3)) fl_RX0_25 (W_s1 hW) (FA_hu hA :) eX0_become_41 ?_
  refine Gd_putI fl_RX0_25 (W_s17 hW) eX0_become_44 ?_
  refine Gd_aload_n (i := 1) rfl eX0_become_47 ?_
  refine Gd_getR fl_RX0_28 (W_s1 hW) (W_r1_5 hW) eX0_become_48 ?_
  refine Gd_iconst ki_0 eX0_become_51 ?_
  refine Gd_aload_n (i := 0) rfl eX0_become_52 ?_
  refine Gd_getR fl_RX0_28 (W_s17 hW) (W_r17_5 hW) eX0_become_53 ?_
  refine Gd_iconst ki_0 eX0_become_56 ?_
  refine Gd_bipush kb_6 eX0_become_57 ?_
  refine Gd_copy (m0 := 6) (m1 := 6) (W_s3 hW) (W_s19 hW) (by decide) (by decide) (by decide) (by decide) (by decide) lk_RX0_46 wa_1 wa_2 wa_3 (Nat.le_of_ble_eq_true rfl) (Nat.le_of_ble_eq_true rfl) eX0_become_59 ?_
  refine Gd_aload_n (i := 1) rfl eX0_become_62 ?_
  refine Gd_getR fl_RX0_31 (W_s1 hW) (W_r1_6 hW) eX0_become_63 ?_
  refine Gd_iconst ki_0 eX0_become_66 ?_
  refine Gd_aload_n (i := 0) rfl eX0_become_67 ?_
  refine Gd_getR fl_RX0_31 (W_s17 hW) (W_r17_6 hW) eX0_become_68 ?_
  refine Gd_iconst ki_0 eX0_become_71 ?_
  refine Gd_bipush kb_6 eX0_become_72 ?_
  refine Gd_copy (m0 := 6) (m1 := 6) (W_s4 hW) (W_s20 hW) (by decide) (by decide) (by decide) (by decide) (by decide) lk_RX0_46 wa_1 wa_2 wa_3 (Nat.le_of_ble_eq_true rfl) (Nat.le_of_ble_eq_true rfl) eX0_become_74 ?_
  refine Gd_aload_n (i := 1) rfl eX0_become_77 ?_
  refine Gd_getR fl_RX0_34 (W_s1 hW) (W_r1_7 hW) eX0_become_78 ?_
  refine Gd_iconst ki_0 eX0_become_81 ?_
  refine Gd_aload_n (i := 0) rfl eX0_become_82 ?_
  refine Gd_getR fl_RX0_34 (W_s17 hW) (W_r17_7 hW) eX0_become_83 ?_
  refine Gd_iconst ki_0 eX0_become_86 ?_
  refine Gd_bipush kb_6 eX0_become_87 ?_
  refine Gd_copy (m0 := 6) (m1 := 6) (W_s5 hW) (W_s21 hW) (by decide) (by decide) (by decide) (by decide) (by decide) lk_RX0_46 wa_1 wa_2 wa_3 (Nat.le_of_ble_eq_true rfl) (Nat.le_of_ble_eq_true rfl) eX0_become_89 ?_
  refine Gd_aload_n (i := 1) rfl eX0_become_92 ?_
  refine Gd_getR fl_RX0_37 (W_s1 hW) (W_r1_8 hW) eX0_become_93 ?_
  refine Gd_iconst ki_0 eX0_become_96 ?_
  refine Gd_aload_n (i := 0) rfl eX0_become_97 ?_
  refine Gd_getR fl_RX0_37 (W_s17 hW) (W_r17_8 hW) eX0_become_98 ?_
  refine Gd_iconst ki_0 eX0_become_101 ?_
  refine Gd_bipush kb_6 eX0_become_102 ?_
  refine Gd_copy (m0 := 6) (m1 := 6) (W_s6 hW) (W_s22 hW) (by decide) (by decide) (by decide) (by decide) (by decide) lk_RX0_46 wa_1 wa_2 wa_3 (Nat.le_of_ble_eq_true rfl) (Nat.le_of_ble_eq_true rfl) eX0_become_104 ?_
  refine Gd_aload_n (i := 1) rfl eX0_become_107 ?_
  refine Gd_getR fl_RX0_40 (W_s1 hW) (W_r1_9 hW) eX0_become_108 ?_
  refine Gd_iconst ki_0 eX0_become_111 ?_
  refine Gd_aload_n (i := 0) rfl eX0_become_112 ?_
  refine Gd_getR fl_RX0_40 (W_s17 hW) (W_r17_9 hW) eX0_become_113 ?_
  refine Gd_iconst ki_0 eX0_become_116 ?_
  refine Gd_bipush kb_6 eX0_become_117 ?_
  refine Gd_copy (m0 := 6) (m1 := 6) (W_s7 hW) (W_s23 hW) (by decide) (by decide) (by decide) (by decide) (by decide) lk_RX0_46 wa_1 wa_2 wa_3 (Nat.le_of_ble_eq_true rfl) (Nat.le_of_ble_eq_true rfl) eX0_become_119 ?_
  refine Gd_aload_n (i := 1) rfl eX0_become_122 ?_
  refine Gd_getR fl_RX0_43 (W_s1 hW) (W_r1_10 hW) eX0_become_123 ?_
  refine Gd_iconst ki_0 eX0_become_126 ?_
  refine Gd_aload_n (i := 0) rfl eX0_become_127 ?_
  refine Gd_getR fl_RX0_43 (W_s17 hW) (W_r17_10 hW) eX0_become_128 ?_
  refine Gd_iconst ki_0 eX0_become_131 ?_
  refine Gd_bipush kb_6 eX0_become_132 ?_
  refine Gd_copy (m0 := 6) (m1 := 6) (W_s8 hW) (W_s24 hW) (by decide) (by decide) (by decide) (by decide) (by decide) lk_RX0_46 wa_1 wa_2 wa_3 (Nat.le_of_ble_eq_true rfl) (Nat.le_of_ble_eq_true rfl) eX0_become_134 ?_
  exact Gd_return eX0_become_137 rfl (Nat.le_refl _) (Nat.le_refl _) ⟨_, rfl, rfl, ⟨rfl, rfl, rfl, rfl, fun d hd => (cpy_at hd).trans (FA_sh hA hd :), fun q hq => (cpy_at hq).trans (FA_ki hA hq :), fun q hq => (cpy_at hq).trans (FA_mo hA hq :), fun q hq => (cpy_at hq).trans (FA_ho hA hq :), fun q hq => (cpy_at hq).trans (FA_me hA hq :), fun q hq => (cpy_at hq).trans (FA_ca hA hq :), fun q hq => (cpy_at hq).trans (FA_by hA hq :)⟩, chg_va (chg_va (chg_va (chg_va (chg_va (chg_va (chg_up (chg_up (chg_up (chg_up (chg_va (chg_rf) (fun _ => rfl)) rfl) rfl) rfl) rfl) (fun _ => rfl)) (fun _ => rfl)) (fun _ => rfl)) (fun _ => rfl)) (fun _ => rfl)) (fun _ => rfl)⟩
theorem x_become1 {sh : List (Nat × Nat)} {a : Nat → Nat → Int32} {r : Nat → Nat → Option Nat} {g : Nat → Nat → Int64} {φ : Nat → Nat → Nat} (hW : WD sh r) (hA : FA 17 φ a) : Mt YX0_become 1 0 0 [vr 1, vr 17] (sh, a, r, g) (g_E0 sh r g (fun a' => FA 1 φ a' ∧ chg s1_ a a')) := by
  refine Mt_of rfl (Nat.le_of_ble_eq_true rfl) rfl ?_
  refine Gd_aload_n (i := 1) rfl eX0_become_0 ?_
  refine Gd_getR fl_RX0_9 (W_s17 hW) (W_r17_0 hW) eX0_become_1 ?_
  refine Gd_iconst ki_0 eX0_become_4 ?_
  refine Gd_aload_n (i := 0) rfl eX0_become_5 ?_
  refine Gd_getR fl_RX0_9 (W_s1 hW) (W_r1_0 hW) eX0_become_6 ?_
  refine Gd_iconst ki_0 eX0_become_9 ?_
  refine Gd_bipush kb_10 eX0_become_10 ?_
  refine Gd_copy (m0 := 10) (m1 := 10) (W_s18 hW) (W_s2 hW) (by decide) (by decide) (by decide) (by decide) (by decide) lk_RX0_46 wa_1 wa_2 wa_3 (Nat.le_of_ble_eq_true rfl) (Nat.le_of_ble_eq_true rfl) eX0_become_12 ?_
  refine Gd_aload_n (i := 0) rfl eX0_become_15 ?_
  refine Gd_aload_n (i := 1) rfl eX0_become_16 ?_
  refine Gd_getIe (v := nI (φ 7 0)) fl_RX0_15 (W_s17 hW) (FA_al hA :) eX0_become_17 ?_
  refine Gd_putI fl_RX0_15 (W_s1 hW) eX0_become_20 ?_
  refine Gd_aload_n (i := 0) rfl eX0_become_23 ?_
  refine Gd_aload_n (i := 1) rfl eX0_become_24 ?_
  refine Gd_getIe (v := nI (φ 7 1)) fl_RX0_19 (W_s17 hW) (FA_da hA :) eX0_become_25 ?_
  refine Gd_putI fl_RX0_19 (W_s1 hW) eX0_become_28 ?_
  refine Gd_aload_n (i := 0) rfl eX0_become_31 ?_
  refine Gd_aload_n (i := 1) rfl eX0_become_32 ?_
  refine Gd_getIe (v := nI (φ 7 2)) fl_RX0_22 (W_s17 hW) (FA_la hA :) eX0_become_33 ?_
  refine Gd_putI fl_RX0_22 (W_s1 hW) eX0_become_36 ?_
  refine Gd_aload_n (i := 0) rfl eX0_become_39 ?_
  refine Gd_aload_n (i := 1) rfl eX0_become_40 ?_
  refine Gd_getIe (v := nI (φ 7 3)) fl_RX0_25 (W_s17 hW) (FA_hu hA :) eX0_become_41 ?_
  refine Gd_putI fl_RX0_25 (W_s1 hW) eX0_become_44 ?_
  refine Gd_aload_n (i := 1) rfl eX0_become_47 ?_
  refine Gd_getR fl_RX0_28 (W_s17 hW) (W_r17_5 hW) eX0_become_48 ?_
  refine Gd_iconst ki_0 eX0_become_51 ?_
  refine Gd_aload_n (i := 0) rfl eX0_become_52 ?_
  refine Gd_getR fl_RX0_28 (W_s1 hW) (W_r1_5 hW) eX0_become_53 ?_
  refine Gd_iconst ki_0 eX0_become_56 ?_
  refine Gd_bipush kb_6 eX0_become_57 ?_
  refine Gd_copy (m0 := 6) (m1 := 6) (W_s19 hW) (W_s3 hW) (by decide) (by decide) (by decide) (by decide) (by decide) lk_RX0_46 wa_1 wa_2 wa_3 (Nat.le_of_ble_eq_true rfl) (Nat.le_of_ble_eq_true rfl) eX0_become_59 ?_
  refine Gd_aload_n (i := 1) rfl eX0_become_62 ?_
  refine Gd_getR fl_RX0_31 (W_s17 hW) (W_r17_6 hW) eX0_become_63 ?_
  refine Gd_iconst ki_0 eX0_become_66 ?_
  refine Gd_aload_n (i := 0) rfl eX0_become_67 ?_
  refine Gd_getR fl_RX0_31 (W_s1 hW) (W_r1_6 hW) eX0_become_68 ?_
  refine Gd_iconst ki_0 eX0_become_71 ?_
  refine Gd_bipush kb_6 eX0_become_72 ?_
  refine Gd_copy (m0 := 6) (m1 := 6) (W_s20 hW) (W_s4 hW) (by decide) (by decide) (by decide) (by decide) (by decide) lk_RX0_46 wa_1 wa_2 wa_3 (Nat.le_of_ble_eq_true rfl) (Nat.le_of_ble_eq_true rfl) eX0_become_74 ?_
  refine Gd_aload_n (i := 1) rfl eX0_become_77 ?_
  refine Gd_getR fl_RX0_34 (W_s17 hW) (W_r17_7 hW) eX0_become_78 ?_
  refine Gd_iconst ki_0 eX0_become_81 ?_
  refine Gd_aload_n (i := 0) rfl eX0_become_82 ?_
  refine Gd_getR fl_RX0_34 (W_s1 hW) (W_r1_7 hW) eX0_become_83 ?_
  refine Gd_iconst ki_0 eX0_become_86 ?_
  refine Gd_bipush kb_6 eX0_become_87 ?_
  refine Gd_copy (m0 := 6) (m1 := 6) (W_s21 hW) (W_s5 hW) (by decide) (by decide) (by decide) (by decide) (by decide) lk_RX0_46 wa_1 wa_2 wa_3 (Nat.le_of_ble_eq_true rfl) (Nat.le_of_ble_eq_true rfl) eX0_become_89 ?_
  refine Gd_aload_n (i := 1) rfl eX0_become_92 ?_
  refine Gd_getR fl_RX0_37 (W_s17 hW) (W_r17_8 hW) eX0_become_93 ?_
  refine Gd_iconst ki_0 eX0_become_96 ?_
  refine Gd_aload_n (i := 0) rfl eX0_become_97 ?_
  refine Gd_getR fl_RX0_37 (W_s1 hW) (W_r1_8 hW) eX0_become_98 ?_
  refine Gd_iconst ki_0 eX0_become_101 ?_
  refine Gd_bipush kb_6 eX0_become_102 ?_
  refine Gd_copy (m0 := 6) (m1 := 6) (W_s22 hW) (W_s6 hW) (by decide) (by decide) (by decide) (by decide) (by decide) lk_RX0_46 wa_1 wa_2 wa_3 (Nat.le_of_ble_eq_true rfl) (Nat.le_of_ble_eq_true rfl) eX0_become_104 ?_
  refine Gd_aload_n (i := 1) rfl eX0_become_107 ?_
  refine Gd_getR fl_RX0_40 (W_s17 hW) (W_r17_9 hW) eX0_become_108 ?_
  refine Gd_iconst ki_0 eX0_become_111 ?_
  refine Gd_aload_n (i := 0) rfl eX0_become_112 ?_
  refine Gd_getR fl_RX0_40 (W_s1 hW) (W_r1_9 hW) eX0_become_113 ?_
  refine Gd_iconst ki_0 eX0_become_116 ?_
  refine Gd_bipush kb_6 eX0_become_117 ?_
  refine Gd_copy (m0 := 6) (m1 := 6) (W_s23 hW) (W_s7 hW) (by decide) (by decide) (by decide) (by decide) (by decide) lk_RX0_46 wa_1 wa_2 wa_3 (Nat.le_of_ble_eq_true rfl) (Nat.le_of_ble_eq_true rfl) eX0_become_119 ?_
  refine Gd_aload_n (i := 1) rfl eX0_become_122 ?_
  refine Gd_getR fl_RX0_43 (W_s17 hW) (W_r17_10 hW) eX0_become_123 ?_
  refine Gd_iconst ki_0 eX0_become_126 ?_
  refine Gd_aload_n (i := 0) rfl eX0_become_127 ?_
  refine Gd_getR fl_RX0_43 (W_s1 hW) (W_r1_10 hW) eX0_become_128 ?_
  refine Gd_iconst ki_0 eX0_become_131 ?_
  refine Gd_bipush kb_6 eX0_become_132 ?_
  refine Gd_copy (m0 := 6) (m1 := 6) (W_s24 hW) (W_s8 hW) (by decide) (by decide) (by decide) (by decide) (by decide) lk_RX0_46 wa_1 wa_2 wa_3 (Nat.le_of_ble_eq_true rfl) (Nat.le_of_ble_eq_true rfl) eX0_become_134 ?_
  exact Gd_return eX0_become_137 rfl (Nat.le_refl _) (Nat.le_refl _) ⟨_, rfl, rfl, ⟨rfl, rfl, rfl, rfl, fun d hd => (cpy_at hd).trans (FA_sh hA hd :), fun q hq => (cpy_at hq).trans (FA_ki hA hq :), fun q hq => (cpy_at hq).trans (FA_mo hA hq :), fun q hq => (cpy_at hq).trans (FA_ho hA hq :), fun q hq => (cpy_at hq).trans (FA_me hA hq :), fun q hq => (cpy_at hq).trans (FA_ca hA hq :), fun q hq => (cpy_at hq).trans (FA_by hA hq :)⟩, chg_va (chg_va (chg_va (chg_va (chg_va (chg_va (chg_up (chg_up (chg_up (chg_up (chg_va (chg_rf) (fun _ => rfl)) rfl) rfl) rfl) rfl) (fun _ => rfl)) (fun _ => rfl)) (fun _ => rfl)) (fun _ => rfl)) (fun _ => rfl)) (fun _ => rfl)⟩
