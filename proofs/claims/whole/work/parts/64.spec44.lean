theorem m_cell {sh : List (Nat × Nat)} {a : Nat → Nat → Int32} {r : Nat → Nat → Option Nat} {g : Nat → Nat → Int64} {so sz : Nat → Nat} {cl : Nat → Nat → Int32} (hW : WD sh r) (hS : MS so sz cl a) (hSI : SI so sz) (vs vi_ vv : Int32) : Mt YX8_cell 1 0 0 [vr 50, vi vs, vi vi_, vi vv] (sh, a, r, g) (g_EV sh r g (vi (rCell (so, sz, cl) vs vi_ vv).1) (fun a' => MS (rCell (so, sz, cl) vs vi_ vv).2.1 (rCell (so, sz, cl) vs vi_ vv).2.2.1 (rCell (so, sz, cl) vs vi_ vv).2.2.2 a' ∧ chg scC a a')) := by
  refine Mt_of rfl (Nat.le_of_ble_eq_true rfl) rfl ?_
  refine Gd_iload_n (i := 1) rfl eX8_cell_0 ?_
  refine Gd_iconst ki_0 eX8_cell_1 ?_
  refine Gd_iconst ki_3 eX8_cell_2 ?_
  refine Gd_callP (g_cS (m_in _ _ _) ok_X8_in lk_RX8_84 rfl rfl (Nat.le_of_ble_eq_true rfl) (Nat.le_of_ble_eq_true rfl) (Nat.le_refl _) (Nat.le_refl _) eX8_cell_3) ?_
  refine Gd_if_neB eX8_cell_6 (fun c6 => ?_) (fun c6 => ?_)
  · have hj0 : inr vs 4 = true := by rw [inb0 (by decide)] at c6; exact c6
    obtain ⟨j, hj, rfl⟩ := inr_t hj0 (by decide)
    refine Gd_aload_n (i := 0) rfl eX8_cell_12 ?_
    refine Gd_getR fl_RX8_41 (W_s50 hW) (W_r50_16 hW) eX8_cell_13 ?_
    refine Gd_iload_n (i := 1) rfl eX8_cell_16 ?_
    refine Gd_ialdE (W_s60 hW) (by first | omega | decide) (hS.1 j hj :) eX8_cell_17 ?_
    refine Gd_iconst ki_m1 eX8_cell_18 ?_
    refine Gd_icmp_ne eX8_cell_19 (fun c19 => ?_) (fun c19 => ?_)
    · refine Gd_iload_n (i := 2) rfl eX8_cell_25 ?_
      refine Gd_iconst ki_0 eX8_cell_26 ?_
      refine Gd_aload_n (i := 0) rfl eX8_cell_27 ?_
      refine Gd_getR fl_RX8_44 (W_s50 hW) (W_r50_17 hW) eX8_cell_28 ?_
      refine Gd_iload_n (i := 1) rfl eX8_cell_31 ?_
      refine Gd_ialdE (v := nI (sz j)) (W_s61 hW) (by first | omega | decide) (hS.2.1 j hj :) eX8_cell_32 ?_
      refine Gd_iconst ki_1 eX8_cell_33 ?_
      refine Gd_isub eX8_cell_34 ?_
      refine Gd_callP (g_cS (m_in _ _ _) ok_X8_in lk_RX8_84 rfl rfl (Nat.le_of_ble_eq_true rfl) (Nat.le_of_ble_eq_true rfl) (Nat.le_refl _) (Nat.le_refl _) eX8_cell_35) ?_
      refine Gd_if_neB eX8_cell_38 (fun c38 => ?_) (fun c38 => ?_)
      · have hz := hSI.2 j hj
        have hi0 : inr vi_ (sz j) = true := by rw [inbN (by omega)] at c38; exact c38
        obtain ⟨i, hi, rfl⟩ := inr_t hi0 (by omega)
        have hso : ¬ so j = 4294967295 := fun z => c19 (by rw [z]; decide)
        have hsl : so j ≤ 2 := (hSI.1 j hj).resolve_left hso
        have hr := rCell_u (S := (so, sz, cl)) (v := vv) hj hso hz hi
        refine Gd_aload_n (i := 0) rfl eX8_cell_44 ?_
        refine Gd_getR fl_RX8_47 (W_s50 hW) (W_r50_18 hW) eX8_cell_45 ?_
        refine Gd_bipush kb_40 eX8_cell_48 ?_
        refine Gd_iload_n (i := 1) rfl eX8_cell_50 ?_
        refine Gd_imulN eX8_cell_51 ?_
        refine Gd_iload_n (i := 2) rfl eX8_cell_52 ?_
        refine Gd_iaddN eX8_cell_53 ?_
        refine Gd_aload_n (i := 0) rfl eX8_cell_54 ?_
        refine Gd_getR fl_RX8_41 (W_s50 hW) (W_r50_16 hW) eX8_cell_55 ?_
        refine Gd_iload_n (i := 1) rfl eX8_cell_58 ?_
        refine Gd_ialdE (v := nI (so j)) (W_s60 hW) (by first | omega | decide) (hS.1 j hj :) eX8_cell_59 ?_
        refine Gd_if_neN (by first | omega | decide) eX8_cell_60 (fun c60 => ?_) (fun c60 => ?_)
        · refine Gd_aload_n (i := 0) rfl eX8_cell_68 ?_
          refine Gd_getR fl_RX8_41 (W_s50 hW) (W_r50_16 hW) eX8_cell_69 ?_
          refine Gd_iload_n (i := 1) rfl eX8_cell_72 ?_
          refine Gd_ialdE (v := nI (so j)) (W_s60 hW) (by first | omega | decide) (hS.1 j hj :) eX8_cell_73 ?_
          refine Gd_iconst ki_1 eX8_cell_74 ?_
          refine Gd_icmp_neN (by first | omega | decide) (by first | omega | decide) eX8_cell_75 (fun c75 => ?_) (fun c75 => ?_)
          · refine Gd_iload_n (i := 3) rfl eX8_cell_83 ?_
            refine Gd_iastN (W_s62 hW) (by first | omega | decide) eX8_cell_84 ?_
            refine Gd_iconst ki_1 eX8_cell_85 ?_
            exact Gd_ireturn eX8_cell_86 rfl (Nat.le_refl _) (Nat.le_refl _) (by rw [hr, show cst (so j) vv = _ from by rw [cst, if_neg c60, if_neg c75]]; exact ⟨_, rfl, rfl, MS_she hj (by omega) hS, chg_up chg_rf rfl⟩)
          · refine Gd_iload_n (i := 3) rfl eX8_cell_78 ?_
            refine Gd_i2s eX8_cell_79 ?_
            refine Gd_goto eX8_cell_80 ?_
            refine Gd_iastN (W_s62 hW) (by first | omega | decide) eX8_cell_84 ?_
            refine Gd_iconst ki_1 eX8_cell_85 ?_
            exact Gd_ireturn eX8_cell_86 rfl (Nat.le_refl _) (Nat.le_refl _) (by rw [hr, show cst (so j) vv = _ from by rw [cst, if_neg c60, if_pos c75]]; exact ⟨_, rfl, rfl, MS_she hj (by omega) hS, chg_up chg_rf rfl⟩)
        · refine Gd_iload_n (i := 3) rfl eX8_cell_63 ?_
          refine Gd_i2b eX8_cell_64 ?_
          refine Gd_goto eX8_cell_65 ?_
          refine Gd_iastN (W_s62 hW) (by first | omega | decide) eX8_cell_84 ?_
          refine Gd_iconst ki_1 eX8_cell_85 ?_
          exact Gd_ireturn eX8_cell_86 rfl (Nat.le_refl _) (Nat.le_refl _) (by rw [hr, show cst (so j) vv = _ from by rw [cst, if_pos c60]]; exact ⟨_, rfl, rfl, MS_she hj (by omega) hS, chg_up chg_rf rfl⟩)
      · refine Gd_bipush kb_m12 eX8_cell_41 ?_
        exact Gd_ireturn eX8_cell_43 rfl (Nat.le_refl _) (Nat.le_refl _) (by rw [rCell_i hj (fun z => c19 (by rw [show so j = 4294967295 from z]; decide)) (show inr vi_ (sz j) = false from by rw [← inbN (by have := hSI.2 j hj; omega)]; exact c38)]; exact ⟨a, rfl, rfl, hS, chg_rf⟩)
    · refine Gd_bipush kb_m11 eX8_cell_22 ?_
      exact Gd_ireturn eX8_cell_24 rfl (Nat.le_refl _) (Nat.le_refl _) (by rw [rCell_m hj (show so j = 4294967295 from (nI_m1_iff (by rcases hSI.1 j hj with z | z <;> omega)).mp c19)]; exact ⟨a, rfl, rfl, hS, chg_rf⟩)
  · refine Gd_bipush kb_m2 eX8_cell_9 ?_
    exact Gd_ireturn eX8_cell_11 rfl (Nat.le_refl _) (Nat.le_refl _) (by rw [rCell_s (by rw [← inb0 (k := 3) (by decide)]; exact c6)]; exact ⟨a, rfl, rfl, hS, chg_rf⟩)
theorem x_holds {sh : List (Nat × Nat)} {a : Nat → Nat → Int32} {r : Nat → Nat → Option Nat} {g : Nat → Nat → Int64} {so sz : Nat → Nat} {cl : Nat → Nat → Int32} (hW : WD sh r) (hS : SX so sz cl a) (hSI : SI so sz) {j : Nat} (hj : j < 4) (vi_ vn : Int32) : Mt YX4_holds 0 0 0 [vr (39 + 2 * j), vi vi_, vi vn] (sh, a, r, g) (g_P (some (vi (bI (hlds vi_ vn (sz j))))) (sh, a, r, g)) := by
  refine Mt_of rfl (Nat.le_of_ble_eq_true rfl) rfl ?_
  refine Gd_iload_n (i := 1) rfl eX4_holds_0 ?_
  refine Gd_if_lt eX4_holds_1 (fun c1 => ?_) (fun c1 => ?_)
  · refine Gd_iconst ki_0 eX4_holds_30 ?_
    exact Gd_zreturn eX4_holds_31 rfl (by decide) (Nat.le_refl _) (Nat.le_refl _) ⟨by rw [hlds_i c1]; rfl, rfl⟩
  · refine Gd_iload_n (i := 2) rfl eX4_holds_4 ?_
    refine Gd_if_lt eX4_holds_5 (fun c5 => ?_) (fun c5 => ?_)
    · refine Gd_iconst ki_0 eX4_holds_30 ?_
      exact Gd_zreturn eX4_holds_31 rfl (by decide) (Nat.le_refl _) (Nat.le_refl _) ⟨by rw [hlds_n c5]; rfl, rfl⟩
    · obtain ⟨i, hi, rfl⟩ := nI_of c1
      obtain ⟨m, hm, rfl⟩ := nI_of c5
      have hz := hSI.2 j hj
      refine Gd_iload_n (i := 2) rfl eX4_holds_8 ?_
      refine Gd_aload_n (i := 0) rfl eX4_holds_9 ?_
      refine Gd_getIe (v := nI (sz j)) fl_RX4_15 (W_Sj hW (j := j) (by first | omega | decide)).1 (hS.2.1 j (by first | omega | decide) :) eX4_holds_10 ?_
      refine Gd_icmp_gtN (by first | omega | decide) (by first | omega | decide) eX4_holds_13 (fun c13 => ?_) (fun c13 => ?_)
      · refine Gd_iconst ki_0 eX4_holds_30 ?_
        exact Gd_zreturn eX4_holds_31 rfl (by decide) (Nat.le_refl _) (Nat.le_refl _) ⟨by rw [show hlds (nI i) (nI m) (sz j) = false from (hlds_u (by omega) (by omega)).trans (decide_eq_false (by omega))]; rfl, rfl⟩
      · refine Gd_iload_n (i := 1) rfl eX4_holds_16 ?_
        refine Gd_aload_n (i := 0) rfl eX4_holds_17 ?_
        refine Gd_getIe (v := nI (sz j)) fl_RX4_15 (W_Sj hW (j := j) (by first | omega | decide)).1 (hS.2.1 j (by first | omega | decide) :) eX4_holds_18 ?_
        refine Gd_iload_n (i := 2) rfl eX4_holds_21 ?_
        refine Gd_isubN (by first | omega | decide) eX4_holds_22 ?_
        refine Gd_icmp_gtN (by first | omega | decide) (by first | omega | decide) eX4_holds_23 (fun c23 => ?_) (fun c23 => ?_)
        · refine Gd_iconst ki_0 eX4_holds_30 ?_
          exact Gd_zreturn eX4_holds_31 rfl (by decide) (Nat.le_refl _) (Nat.le_refl _) ⟨by rw [show hlds (nI i) (nI m) (sz j) = false from (hlds_u (by omega) (by omega)).trans (decide_eq_false (by omega))]; rfl, rfl⟩
        · refine Gd_iconst ki_1 eX4_holds_26 ?_
          refine Gd_goto eX4_holds_27 ?_
          exact Gd_zreturn eX4_holds_31 rfl (by decide) (Nat.le_refl _) (Nat.le_refl _) ⟨by rw [show hlds (nI i) (nI m) (sz j) = true from (hlds_u (by omega) (by omega)).trans (decide_eq_true (by omega))]; rfl, rfl⟩
theorem x_set {sh : List (Nat × Nat)} {a : Nat → Nat → Int32} {r : Nat → Nat → Option Nat} {g : Nat → Nat → Int64} {so sz : Nat → Nat} {cl : Nat → Nat → Int32} (hW : WD sh r) (hS : SX so sz cl a) (hSI : SI so sz) {j i : Nat} (hj : j < 4) (hso : so j ≤ 2) (hi : i < 40) (vv : Int32) : Mt YX4_set 0 0 0 [vr (39 + 2 * j), vi (nI i), vi vv] (sh, a, r, g) (g_E0 sh r g (fun a' => SX (she (so, sz, cl) j i (cst (so j) vv)).1 (she (so, sz, cl) j i (cst (so j) vv)).2.1 (she (so, sz, cl) j i (cst (so j) vv)).2.2 a' ∧ chg (sJ j) a a')) := by
  refine Mt_of rfl (Nat.le_of_ble_eq_true rfl) rfl ?_
  refine Gd_aload_n (i := 0) rfl eX4_set_0 ?_
  refine Gd_getIe (v := nI (so j)) fl_RX4_9 (W_Sj hW (j := j) (by first | omega | decide)).1 (hS.1 j hj :) eX4_set_1 ?_
  refine Gd_if_neN (by first | omega | decide) eX4_set_4 (fun c4 => ?_) (fun c4 => ?_)
  · refine Gd_aload_n (i := 0) rfl eX4_set_18 ?_
    refine Gd_getIe (v := nI (so j)) fl_RX4_9 (W_Sj hW (j := j) (by first | omega | decide)).1 (hS.1 j hj :) eX4_set_19 ?_
    refine Gd_iconst ki_1 eX4_set_22 ?_
    refine Gd_icmp_neN (by first | omega | decide) (by first | omega | decide) eX4_set_23 (fun c23 => ?_) (fun c23 => ?_)
    · refine Gd_aload_n (i := 0) rfl eX4_set_37 ?_
      refine Gd_getR fl_RX4_18 (W_Sj hW (j := j) (by first | omega | decide)).1 (W_Sj hW (j := j) (by first | omega | decide)).2.2 eX4_set_38 ?_
      refine Gd_iload_n (i := 1) rfl eX4_set_41 ?_
      refine Gd_iload_n (i := 2) rfl eX4_set_42 ?_
      refine Gd_iastN (W_Sj hW (j := j) (by first | omega | decide)).2.1 (by first | omega | decide) eX4_set_43 ?_
      exact Gd_return eX4_set_44 rfl (Nat.le_refl _) (Nat.le_refl _) (by rw [show cst (so j) vv = _ from by rw [cst, if_neg c4, if_neg c23]]; exact ⟨_, rfl, rfl, SX_she hj (by omega) hS, chg_up chg_rf (by simp [sJ])⟩)
    · refine Gd_aload_n (i := 0) rfl eX4_set_26 ?_
      refine Gd_getR fl_RX4_18 (W_Sj hW (j := j) (by first | omega | decide)).1 (W_Sj hW (j := j) (by first | omega | decide)).2.2 eX4_set_27 ?_
      refine Gd_iload_n (i := 1) rfl eX4_set_30 ?_
      refine Gd_iload_n (i := 2) rfl eX4_set_31 ?_
      refine Gd_i2s eX4_set_32 ?_
      refine Gd_iastN (W_Sj hW (j := j) (by first | omega | decide)).2.1 (by first | omega | decide) eX4_set_33 ?_
      refine Gd_goto eX4_set_34 ?_
      exact Gd_return eX4_set_44 rfl (Nat.le_refl _) (Nat.le_refl _) (by rw [show cst (so j) vv = _ from by rw [cst, if_neg c4, if_pos c23]]; exact ⟨_, rfl, rfl, SX_she hj (by omega) hS, chg_up chg_rf (by simp [sJ])⟩)
  · refine Gd_aload_n (i := 0) rfl eX4_set_7 ?_
    refine Gd_getR fl_RX4_18 (W_Sj hW (j := j) (by first | omega | decide)).1 (W_Sj hW (j := j) (by first | omega | decide)).2.2 eX4_set_8 ?_
    refine Gd_iload_n (i := 1) rfl eX4_set_11 ?_
    refine Gd_iload_n (i := 2) rfl eX4_set_12 ?_
    refine Gd_i2b eX4_set_13 ?_
    refine Gd_iastN (W_Sj hW (j := j) (by first | omega | decide)).2.1 (by first | omega | decide) eX4_set_14 ?_
    refine Gd_goto eX4_set_15 ?_
    exact Gd_return eX4_set_44 rfl (Nat.le_refl _) (Nat.le_refl _) (by rw [show cst (so j) vv = _ from by rw [cst, if_pos c4]]; exact ⟨_, rfl, rfl, SX_she hj (by omega) hS, chg_up chg_rf (by simp [sJ])⟩)
theorem x_cell {sh : List (Nat × Nat)} {a : Nat → Nat → Int32} {r : Nat → Nat → Option Nat} {g : Nat → Nat → Int64} {so sz : Nat → Nat} {cl : Nat → Nat → Int32} (hW : WD sh r) (hS : SX so sz cl a) (hSI : SI so sz) (vs vi_ vv : Int32) : Mt YX7_cell 1 0 0 [vr 0, vi vs, vi vi_, vi vv] (sh, a, r, g) (g_EV sh r g (vi (rCell (so, sz, cl) vs vi_ vv).1) (fun a' => SX (rCell (so, sz, cl) vs vi_ vv).2.1 (rCell (so, sz, cl) vs vi_ vv).2.2.1 (rCell (so, sz, cl) vs vi_ vv).2.2.2 a' ∧ chg scCx a a')) := by
  refine Mt_of rfl (Nat.le_of_ble_eq_true rfl) rfl ?_
  refine Gd_iload_n (i := 1) rfl eX7_cell_0 ?_
  refine Gd_callP (g_cS (x_isSheet _) ok_X7_isSheet lk_RX7_264 rfl rfl (Nat.le_of_ble_eq_true rfl) (Nat.le_of_ble_eq_true rfl) (Nat.le_refl _) (Nat.le_refl _) eX7_cell_1) ?_
  refine Gd_if_neB eX7_cell_4 (fun c4 => ?_) (fun c4 => ?_)
  · have hj0 := c4
    obtain ⟨j, hj, rfl⟩ := inr_t hj0 (by decide)
    refine Gd_aload_n (i := 0) rfl eX7_cell_10 ?_
    refine Gd_getR fl_RX7_56 (W_s0 hW) (W_r0_8 hW) eX7_cell_11 ?_
    refine Gd_iload_n (i := 1) rfl eX7_cell_14 ?_
    refine Gd_aaldN (Or.inl ⟨rfl, rfl, rfl⟩ : g_rc 21 1 4) (W_s38 hW) (by first | omega | decide) (W_r38 hW (j := j) (by first | omega | decide)) eX7_cell_15 ?_
    refine Gd_callP (g_cV (x_isMissing hW hS hSI (j := j) (by first | omega | decide)) ok_X4_isMissing lk_RX7_280 (W_Sj hW (j := j) (by first | omega | decide)).1 ⟨_, _, rfl⟩ rfl rfl (Nat.le_of_ble_eq_true rfl) (Nat.le_of_ble_eq_true rfl) (Nat.le_refl _) (Nat.le_refl _) eX7_cell_16) ?_
    refine Gd_if_eqB eX7_cell_19 (fun c19 => ?_) (fun c19 => ?_)
    · have hso : ¬ so j = 4294967295 := of_decide_eq_false c19
      have hz := hSI.2 j hj
      have hsl : so j ≤ 2 := (hSI.1 j hj).resolve_left hso
      refine Gd_aload_n (i := 0) rfl eX7_cell_25 ?_
      refine Gd_getR fl_RX7_56 (W_s0 hW) (W_r0_8 hW) eX7_cell_26 ?_
      refine Gd_iload_n (i := 1) rfl eX7_cell_29 ?_
      refine Gd_aaldN (Or.inl ⟨rfl, rfl, rfl⟩ : g_rc 21 1 4) (W_s38 hW) (by first | omega | decide) (W_r38 hW (j := j) (by first | omega | decide)) eX7_cell_30 ?_
      refine Gd_iload_n (i := 2) rfl eX7_cell_31 ?_
      refine Gd_iconst ki_1 eX7_cell_32 ?_
      refine Gd_callP (g_cV (x_holds hW hS hSI (j := j) (by first | omega | decide) _ _) ok_X4_holds lk_RX7_284 (W_Sj hW (j := j) (by first | omega | decide)).1 ⟨_, _, rfl⟩ rfl rfl (Nat.le_of_ble_eq_true rfl) (Nat.le_of_ble_eq_true rfl) (Nat.le_refl _) (Nat.le_refl _) eX7_cell_33) ?_
      refine Gd_if_neB eX7_cell_36 (fun c36 => ?_) (fun c36 => ?_)
      · have hi0 : inr vi_ (sz j) = true := by rw [hlds_1 hz] at c36; exact c36
        obtain ⟨i, hi, rfl⟩ := inr_t hi0 (by omega)
        have hr := rCell_u (S := (so, sz, cl)) (v := vv) hj hso hz hi
        refine Gd_aload_n (i := 0) rfl eX7_cell_42 ?_
        refine Gd_getR fl_RX7_56 (W_s0 hW) (W_r0_8 hW) eX7_cell_43 ?_
        refine Gd_iload_n (i := 1) rfl eX7_cell_46 ?_
        refine Gd_aaldN (Or.inl ⟨rfl, rfl, rfl⟩ : g_rc 21 1 4) (W_s38 hW) (by first | omega | decide) (W_r38 hW (j := j) (by first | omega | decide)) eX7_cell_47 ?_
        refine Gd_iload_n (i := 2) rfl eX7_cell_48 ?_
        refine Gd_iload_n (i := 3) rfl eX7_cell_49 ?_
        refine Gd_callE0 (g_cV (x_set hW hS hSI (j := j) (i := i) hj hsl (by omega) _) ok_X4_set lk_RX7_273 (W_Sj hW (j := j) (by first | omega | decide)).1 ⟨_, _, rfl⟩ rfl rfl (Nat.le_of_ble_eq_true rfl) (Nat.le_of_ble_eq_true rfl) (Nat.le_refl _) (Nat.le_refl _) eX7_cell_50) (fun a2 hq => ?_)
        obtain ⟨hS2, hq⟩ := hq
        refine Gd_iconst ki_1 eX7_cell_53 ?_
        exact Gd_ireturn eX7_cell_54 rfl (Nat.le_refl _) (Nat.le_refl _) (by rw [hr]; exact ⟨a2, rfl, rfl, hS2, chg_mono2 (scCx_J hj) hq⟩)
      · refine Gd_bipush kb_m12 eX7_cell_39 ?_
        exact Gd_ireturn eX7_cell_41 rfl (Nat.le_refl _) (Nat.le_refl _) (by rw [rCell_i hj hso (by rw [← hlds_1 hz]; exact c36)]; exact ⟨a, rfl, rfl, hS, chg_rf⟩)
    · refine Gd_bipush kb_m11 eX7_cell_22 ?_
      exact Gd_ireturn eX7_cell_24 rfl (Nat.le_refl _) (Nat.le_refl _) (by rw [rCell_m hj (of_decide_eq_true c19)]; exact ⟨a, rfl, rfl, hS, chg_rf⟩)
  · refine Gd_bipush kb_m2 eX7_cell_7 ?_
    exact Gd_ireturn eX7_cell_9 rfl (Nat.le_refl _) (Nat.le_refl _) (by rw [rCell_s c4]; exact ⟨a, rfl, rfl, hS, chg_rf⟩)
