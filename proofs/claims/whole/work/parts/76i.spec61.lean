theorem x_join_L {sh : List (Nat × Nat)} {r : Nat → Nat → Option Nat} {g : Nat → Nat → Int64} {tq pl : Nat → Nat} {M : Nat} (hW : WC sh r) (hM : M ≤ 160) (htq : ∀ j, tq j < 10106) (hpl : ∀ j, pl j ≤ 160) {d : Nat} (hJ : JH sh r g tq pl M d) {rk oo lim : Nat} (ho : oo ≤ 5) (hr4 : rk ≤ 4) (hd : 6 * (5 - oo) + (5 - rk) + 1 ≤ d + 1) (hl : lim ≤ 160) {Q : Option g_V → g_H → Prop} {N0 : Nat} {a0 : Nat → Nat → Int32} : ∀ (n i : Nat) (s : g_Ps) (a : Nat → Nat → Int32) (x5 : Option g_V), i + n = lim → s.2.1 ≤ 161 → PSx tq pl M s a → chg scJ a0 a → (∀ a', PSx tq pl M (plp tq M (jn tq pl M d (rk + 1) oo) rk n s) a' → chg scJ a0 a' → Q none (sh, a', r, g)) → Gd YX2_join (z0 (2 * (d + 1) + 3) N0 Q) 0 0 72 [some (vr 25), some (vi (nI rk)), some (vi (nI oo)), some (vi (nI lim)), some (vi (nI i)), x5] [] (sh, a, r, g)
  | 0, i, s, a, x5, hn, hf2, hS, hc, kq => by
    have hpt := ptk_lt htq s
    refine Gd_iload (i := 4) rfl eX2_join_72 ?_
    refine Gd_iload_n (i := 3) rfl eX2_join_74 ?_
    refine Gd_icmp_geN (by first | omega | decide) (by first | omega | decide) eX2_join_75 (fun c75 => ?_) (fun c75 => ?_)
    · exact Gd_return eX2_join_120 rfl (Nat.le_refl _) (Nat.le_refl _) (kq _ hS hc)
    · exact absurd c75 (by omega)
  | n + 1, i, s, a, x5, hn, hf2, hS, hc, kq => by
    have hpt := ptk_lt htq s
    refine Gd_iload (i := 4) rfl eX2_join_72 ?_
    refine Gd_iload_n (i := 3) rfl eX2_join_74 ?_
    refine Gd_icmp_geN (by first | omega | decide) (by first | omega | decide) eX2_join_75 (fun c75 => ?_) (fun c75 => ?_)
    · exact absurd c75 (by omega)
    · refine Gd_aload_n (i := 0) rfl eX2_join_78 ?_
      refine Gd_getIe (v := nI (ptk tq s)) fl_RX2_31 (V_s25 hW) (hS.2.2.1 :) eX2_join_79 ?_
      refine Gd_callP (g_cS (x_rankOf (t := ptk tq s) hpt) ok_X2_rankOf lk_RX2_135 rfl rfl (Nat.le_of_ble_eq_true rfl) (by show _ ≤ 2 * (d + 1) + 3; omega) (Nat.le_refl _) (Nat.le_refl _) eX2_join_82) ?_
      refine Gd_iload_n (i := 1) rfl eX2_join_85 ?_
      refine Gd_icmp_ne eX2_join_86 (fun c86 => ?_) (fun c86 => ?_)
      · exact Gd_return eX2_join_120 rfl (Nat.le_refl _) (Nat.le_refl _) (kq _ (by rw [plp, if_neg (fun z => c86 ((rki_eq hr4).mpr z))]; exact hS) hc)
      · have hrx : rkx (ptk tq s) = rk := (rki_eq hr4).mp c86
        have hf : s.2.1 = 0 := f_of (tq := tq) (t := ptk tq s) rfl (fun z => by rw [z, show rkx 1 = 9 by decide] at hrx; omega)
        refine Gd_aload_n (i := 0) rfl eX2_join_89 ?_
        refine Gd_getIe (v := nI (ptk tq s)) fl_RX2_31 (V_s25 hW) (hS.2.2.1 :) eX2_join_90 ?_
        refine Gd_istore5 rfl eX2_join_93 ?_
        refine Gd_aload_n (i := 0) rfl eX2_join_95 ?_
        refine Gd_callE0 (g_cV (x_advance hW hM htq hpl (ps0 hf hS)) ok_X2_advance lk_RX2_120 (V_s25 hW) ⟨_, _, rfl⟩ rfl rfl (Nat.le_of_ble_eq_true rfl) (by show _ ≤ 2 * (d + 1) + 3; omega) (Nat.le_refl _) (Nat.le_refl _) eX2_join_96) (fun a21 hq11 => ?_)
        obtain ⟨hS11, hq11⟩ := hq11
        have hc11 : chg scJ a a21 := chg_tr chg_rf hq11
        rw [ps0e hf] at hS11
        refine Gd_aload_n (i := 0) rfl eX2_join_99 ?_
        refine Gd_iload_n (i := 1) rfl eX2_join_100 ?_
        refine Gd_iconst ki_1 eX2_join_101 ?_
        refine Gd_iaddN eX2_join_102 ?_
        refine Gd_iload_n (i := 2) rfl eX2_join_103 ?_
        refine Gd_callE0 (g_cV (hJ (rk + 1) oo (pav M s) _ (by omega) ho (by omega) hf2 hS11) ok_X2_join lk_RX2_53 (V_s25 hW) ⟨_, _, rfl⟩ rfl rfl (Nat.le_of_ble_eq_true rfl) (by show _ ≤ 2 * (d + 1) + 3; omega) (Nat.le_refl _) (Nat.le_refl _) eX2_join_104) (fun a22 hq12 => ?_)
        obtain ⟨hS12, hq12⟩ := hq12
        have hc12 : chg scJ a a22 := chg_tr hc11 hq12
        refine Gd_aload_n (i := 0) rfl eX2_join_107 ?_
        refine Gd_iload (i := 5) rfl eX2_join_108 ?_
        refine Gd_ineg eX2_join_110 ?_
        refine Gd_callE0 (g_cV (x_emit hW hM htq hpl (v := (sgc (ptk tq s))) (xcd_sg (by rw [hrx]; omega)).symm hS12) ok_X2_emit lk_RX2_132 (V_s25 hW) ⟨_, _, rfl⟩ rfl rfl (Nat.le_of_ble_eq_true rfl) (by show _ ≤ 2 * (d + 1) + 3; omega) (Nat.le_refl _) (Nat.le_refl _) eX2_join_111) (fun a23 hq13 => ?_)
        obtain ⟨hS13, hq13⟩ := hq13
        have hc13 : chg scJ a a23 := chg_tr hc12 hq13
        refine Gd_iinc4 (ho := rfl) (he := nI_inc _) eX2_join_114 ?_
        refine Gd_goto eX2_join_117 ?_
        exact x_join_L hW hM htq hpl hJ ho hr4 hd hl n (i + 1) _ _ _ (by omega) (pem_b (jn_b hpl d (rk + 1) oo (pav M s) hf2)) hS13 (chg_tr hc hc13) (fun a' q1 q2 => kq a' (by rw [plp, if_pos hrx]; exact q1) q2)
theorem x_join_s {sh : List (Nat × Nat)} {a : Nat → Nat → Int32} {r : Nat → Nat → Option Nat} {g : Nat → Nat → Int64} {tq pl : Nat → Nat} {M : Nat} (hW : WC sh r) (hM : M ≤ 160) (htq : ∀ j, tq j < 10106) (hpl : ∀ j, pl j ≤ 160) {d : Nat} (hJ : JH sh r g tq pl M d) (hO : OH sh r g tq pl M (d + 1)) {rk oo : Nat} {s : g_Ps} (hrk : rk ≤ 5) (ho : oo ≤ 5) (hd : 6 * (5 - oo) + (5 - rk) + 1 ≤ d + 1) (hf2 : s.2.1 ≤ 161) (hS : PSx tq pl M s a) : Mt YX2_join (2 * (d + 1) + 3) 0 0 [vr 25, vi (nI rk), vi (nI oo)] (sh, a, r, g) (g_E0 sh r g (fun a' => PSx tq pl M (jn tq pl M (d + 1) rk oo s) a' ∧ chg scJ a a')) := by
  refine Mt_of rfl (Nat.le_of_ble_eq_true rfl) rfl ?_
  have hpt := ptk_lt htq s
  refine Gd_iload_n (i := 1) rfl eX2_join_0 ?_
  refine Gd_iconst ki_4 eX2_join_1 ?_
  refine Gd_icmp_leN (by first | omega | decide) (by first | omega | decide) eX2_join_2 (fun c2 => ?_) (fun c2 => ?_)
  · refine Gd_iload_n (i := 1) rfl eX2_join_11 ?_
    refine Gd_iconst ki_2 eX2_join_12 ?_
    refine Gd_icmp_neN (by first | omega | decide) (by first | omega | decide) eX2_join_13 (fun c13 => ?_) (fun c13 => ?_)
    · refine Gd_aload_n (i := 0) rfl eX2_join_48 ?_
      refine Gd_iload_n (i := 1) rfl eX2_join_49 ?_
      refine Gd_iconst ki_1 eX2_join_50 ?_
      refine Gd_iaddN eX2_join_51 ?_
      refine Gd_iload_n (i := 2) rfl eX2_join_52 ?_
      refine Gd_callE0 (g_cV (hJ (rk + 1) oo s _ (by omega) ho (by omega) hf2 hS) ok_X2_join lk_RX2_53 (V_s25 hW) ⟨_, _, rfl⟩ rfl rfl (Nat.le_of_ble_eq_true rfl) (by show _ ≤ 2 * (d + 1) + 3; omega) (Nat.le_refl _) (Nat.le_refl _) eX2_join_53) (fun a24 hq14 => ?_)
      obtain ⟨hS14, hq14⟩ := hq14
      have hc14 : chg scJ a a24 := chg_tr chg_rf hq14
      refine Gd_iload_n (i := 1) rfl eX2_join_56 ?_
      refine Gd_iconst ki_2 eX2_join_57 ?_
      refine Gd_icmp_neN (by first | omega | decide) (by first | omega | decide) eX2_join_58 (fun c58 => ?_) (fun c58 => ?_)
      · refine Gd_sipush ks_160 eX2_join_65 ?_
        refine Gd_istore_n3 rfl eX2_join_68 ?_
        refine Gd_iconst ki_0 eX2_join_69 ?_
        refine Gd_istore4 rfl eX2_join_70 ?_
        exact x_join_L hW hM htq hpl hJ ho c2 hd (lim := 160) (by decide) 160 0 _ _ _ (by omega) (jn_b hpl d (rk + 1) oo s hf2) hS14 hc14 (fun a' q1 q2 => ⟨a', rfl, rfl, by rw [jn, if_pos c2, if_neg (fun z => c13 z.1), if_neg c58]; exact q1, q2⟩)
      · exact absurd c58 c13
    · refine Gd_aload_n (i := 0) rfl eX2_join_16 ?_
      refine Gd_getIe (v := nI (ptk tq s)) fl_RX2_31 (V_s25 hW) (hS.2.2.1 :) eX2_join_17 ?_
      refine Gd_bipush kb_7 eX2_join_20 ?_
      refine Gd_icmp_neN (by first | omega | decide) (by first | omega | decide) eX2_join_22 (fun c22 => ?_) (fun c22 => ?_)
      · refine Gd_aload_n (i := 0) rfl eX2_join_48 ?_
        refine Gd_iload_n (i := 1) rfl eX2_join_49 ?_
        refine Gd_iconst ki_1 eX2_join_50 ?_
        refine Gd_iaddN eX2_join_51 ?_
        refine Gd_iload_n (i := 2) rfl eX2_join_52 ?_
        refine Gd_callE0 (g_cV (hJ (rk + 1) oo s _ (by omega) ho (by omega) hf2 hS) ok_X2_join lk_RX2_53 (V_s25 hW) ⟨_, _, rfl⟩ rfl rfl (Nat.le_of_ble_eq_true rfl) (by show _ ≤ 2 * (d + 1) + 3; omega) (Nat.le_refl _) (Nat.le_refl _) eX2_join_53) (fun a25 hq15 => ?_)
        obtain ⟨hS15, hq15⟩ := hq15
        have hc15 : chg scJ a a25 := chg_tr chg_rf hq15
        refine Gd_iload_n (i := 1) rfl eX2_join_56 ?_
        refine Gd_iconst ki_2 eX2_join_57 ?_
        refine Gd_icmp_neN (by first | omega | decide) (by first | omega | decide) eX2_join_58 (fun c58 => ?_) (fun c58 => ?_)
        · exact absurd c13 c58
        · refine Gd_iconst ki_1 eX2_join_61 ?_
          refine Gd_goto eX2_join_62 ?_
          refine Gd_istore_n3 rfl eX2_join_68 ?_
          refine Gd_iconst ki_0 eX2_join_69 ?_
          refine Gd_istore4 rfl eX2_join_70 ?_
          exact x_join_L hW hM htq hpl hJ ho c2 hd (lim := 1) (by decide) 1 0 _ _ _ (by omega) (jn_b hpl d (rk + 1) oo s hf2) hS15 hc15 (fun a' q1 q2 => ⟨a', rfl, rfl, by rw [jn, if_pos c2, if_neg (fun z => c22 z.2), if_pos c58]; exact q1, q2⟩)
      · have hf : s.2.1 = 0 := f_of c22 (by decide)
        refine Gd_aload_n (i := 0) rfl eX2_join_25 ?_
        refine Gd_iload_n (i := 2) rfl eX2_join_26 ?_
        refine Gd_callEV (g_cV (x_opens hW hM htq hpl (o := oo) ho (ps0 hf hS)) ok_X2_opens lk_RX2_129 (V_s25 hW) ⟨_, _, rfl⟩ rfl rfl (Nat.le_of_ble_eq_true rfl) (by show _ ≤ 2 * (d + 1) + 3; omega) (Nat.le_refl _) (Nat.le_refl _) eX2_join_27) (fun a26 hq16 => ?_)
        obtain ⟨hS16, hq16⟩ := hq16
        have hc16 : chg scJ a a26 := hq16
        rw [ps0e hf] at hS16
        refine Gd_if_eqB eX2_join_30 (fun c30 => ?_) (fun c30 => ?_)
        · exact Gd_return eX2_join_47 rfl (Nat.le_refl _) (Nat.le_refl _) ⟨_, rfl, rfl, by have h5 : 5 ≤ oo := (by simpa using c30); rw [if_pos h5] at hS16; rw [jn, if_pos c2, if_pos ⟨c13, c22⟩, if_pos h5]; exact hS16, hc16⟩
        · have h5 : ¬ 5 ≤ oo := by simpa using c30
          rw [if_neg h5] at hS16
          refine Gd_aload_n (i := 0) rfl eX2_join_33 ?_
          refine Gd_iconst ki_2 eX2_join_34 ?_
          refine Gd_iload_n (i := 2) rfl eX2_join_35 ?_
          refine Gd_iconst ki_1 eX2_join_36 ?_
          refine Gd_iaddN eX2_join_37 ?_
          refine Gd_callE0 (g_cV (hJ 2 (oo + 1) (pav M s) _ (by omega) (by omega) (by omega) hf2 hS16) ok_X2_join lk_RX2_53 (V_s25 hW) ⟨_, _, rfl⟩ rfl rfl (Nat.le_of_ble_eq_true rfl) (by show _ ≤ 2 * (d + 1) + 3; omega) (Nat.le_refl _) (Nat.le_refl _) eX2_join_38) (fun a27 hq17 => ?_)
          obtain ⟨hS17, hq17⟩ := hq17
          have hc17 : chg scJ a a27 := chg_tr hc16 hq17
          refine Gd_aload_n (i := 0) rfl eX2_join_41 ?_
          refine Gd_bipush kb_m7 eX2_join_42 ?_
          refine Gd_callE0 (g_cV (x_emit hW hM htq hpl (v := 13) (by decide) hS17) ok_X2_emit lk_RX2_132 (V_s25 hW) ⟨_, _, rfl⟩ rfl rfl (Nat.le_of_ble_eq_true rfl) (by show _ ≤ 2 * (d + 1) + 3; omega) (Nat.le_refl _) (Nat.le_refl _) eX2_join_44) (fun a28 hq18 => ?_)
          obtain ⟨hS18, hq18⟩ := hq18
          have hc18 : chg scJ a a28 := chg_tr hc17 hq18
          exact Gd_return eX2_join_47 rfl (Nat.le_refl _) (Nat.le_refl _) ⟨_, rfl, rfl, by rw [jn, if_pos c2, if_pos ⟨c13, c22⟩, if_neg h5]; exact hS18, hc18⟩
  · refine Gd_aload_n (i := 0) rfl eX2_join_5 ?_
    refine Gd_iload_n (i := 2) rfl eX2_join_6 ?_
    refine Gd_callE0 (g_cV (hO oo s _ ho (by omega) hf2 hS) ok_X2_one lk_RX2_126 (V_s25 hW) ⟨_, _, rfl⟩ rfl rfl (Nat.le_of_ble_eq_true rfl) (by show _ ≤ 2 * (d + 1) + 3; omega) (Nat.le_refl _) (Nat.le_refl _) eX2_join_7) (fun a29 hq19 => ?_)
    obtain ⟨hS19, hq19⟩ := hq19
    have hc19 : chg scJ a a29 := chg_tr chg_rf hq19
    exact Gd_return eX2_join_10 rfl (Nat.le_refl _) (Nat.le_refl _) ⟨_, rfl, rfl, by rw [show rk = 5 by omega]; exact hS19, hc19⟩
theorem x_jall {sh : List (Nat × Nat)} {r : Nat → Nat → Option Nat} {g : Nat → Nat → Int64} {tq pl : Nat → Nat} {M : Nat} (hW : WC sh r) (hM : M ≤ 160) (htq : ∀ j, tq j < 10106) (hpl : ∀ j, pl j ≤ 160) : ∀ d, JH sh r g tq pl M d ∧ OH sh r g tq pl M d
  | 0 => ⟨fun _ _ _ _ _ _ h => absurd h (by omega), fun _ _ _ _ h => absurd h (by omega)⟩
  | d + 1 => by
    obtain ⟨hJ, hO⟩ := x_jall hW hM htq hpl d
    have hO1 : OH sh r g tq pl M (d + 1) := fun oo s a ho hd hf hS => x_one_s hW hM htq hpl hJ hO ho hd hf hS
    exact ⟨fun rk oo s a hr ho hd hf hS => x_join_s hW hM htq hpl hJ hO1 hr ho hd hf hS, hO1⟩
