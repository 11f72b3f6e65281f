section JB
variable {tq pl : Nat → Nat} {M : Nat}
theorem pav_b {s : g_Ps} : (pav M s).2 = s.2 := rfl
theorem pfl_b (hpl : ∀ j, pl j ≤ 160) {s : g_Ps} (h : s.2.1 ≤ 161) : (pfl pl s).2.1 ≤ 161 := by
  rw [pfl]; split
  · have := hpl s.1; show pl s.1 + 1 ≤ 161; omega
  · exact h
theorem pem_b {s : g_Ps} {v : Nat} (h : s.2.1 ≤ 161) : (pem v s).2.1 ≤ 161 := by rw [(pem_f v s).1]; exact h
theorem pex_b (hpl : ∀ j, pl j ≤ 160) {s : g_Ps} {t : Nat} (h : s.2.1 ≤ 161) : (pex tq pl M t s).2.1 ≤ 161 := by
  rw [pex]; split
  · exact h
  · exact pfl_b hpl h
theorem plp_b {g : g_Ps → g_Ps} {r : Nat} (hg : ∀ s, s.2.1 ≤ 161 → (g s).2.1 ≤ 161) : ∀ m s, s.2.1 ≤ 161 → (plp tq M g r m s).2.1 ≤ 161
  | 0, s, h => h
  | m + 1, s, h => by
    rw [plp]; split
    · exact plp_b hg m _ (pem_b (hg _ h))
    · exact h
theorem jn_b (hpl : ∀ j, pl j ≤ 160) : ∀ d r o s, s.2.1 ≤ 161 → (jn tq pl M d r o s).2.1 ≤ 161
  | 0, _, _, s, h => h
  | d + 1, r, o, s, h => by
    have IH := jn_b hpl d
    rw [jn]
    split
    · split
      · split
        · exact pfl_b hpl h
        · exact pem_b (IH _ _ _ h)
      · exact plp_b (fun s hs => IH _ _ s hs) _ _ (IH _ _ _ h)
    · split
      · exact pem_b (s := s) h
      · split
        · split
          · exact pfl_b hpl h
          · exact pem_b (IH _ _ _ h)
        · split
          · split
            · exact pfl_b hpl h
            · exact pex_b hpl (IH _ _ _ h)
          · exact pfl_b hpl h
theorem f_of {s : g_Ps} {t : Nat} (h : ptk tq s = t) (ht : t ≠ 1) : s.2.1 = 0 := by
  rcases Nat.eq_zero_or_pos s.2.1 with z | z
  · exact z
  · exact absurd ((ptk_f (by omega)).symm.trans h).symm ht
def JH (sh : List (Nat × Nat)) (r : Nat → Nat → Option Nat) (g : Nat → Nat → Int64) (tq pl : Nat → Nat) (M d : Nat) : Prop := ∀ (rk oo : Nat) (s : g_Ps) (a : Nat → Nat → Int32), rk ≤ 5 → oo ≤ 5 → 6 * (5 - oo) + (5 - rk) + 1 ≤ d → s.2.1 ≤ 161 → PSx tq pl M s a → Mt YX2_join (2 * d + 3) 0 0 [vr 25, vi (nI rk), vi (nI oo)] (sh, a, r, g) (g_E0 sh r g (fun a' => PSx tq pl M (jn tq pl M d rk oo s) a' ∧ chg scJ a a'))
def OH (sh : List (Nat × Nat)) (r : Nat → Nat → Option Nat) (g : Nat → Nat → Int64) (tq pl : Nat → Nat) (M d : Nat) : Prop := ∀ (oo : Nat) (s : g_Ps) (a : Nat → Nat → Int32), oo ≤ 5 → 6 * (5 - oo) + 1 ≤ d → s.2.1 ≤ 161 → PSx tq pl M s a → Mt YX2_one (2 * d + 2) 0 0 [vr 25, vi (nI oo)] (sh, a, r, g) (g_E0 sh r g (fun a' => PSx tq pl M (jn tq pl M d 5 oo s) a' ∧ chg scJ a a'))
theorem ptk_lt (htq : ∀ j, tq j < 10106) (s : g_Ps) : ptk tq s < 10106 := by
  rw [ptk]; split
  · exact htq _
  · decide
end JB
theorem x_one_s {sh : List (Nat × Nat)} {a : Nat → Nat → Int32} {r : Nat → Nat → Option Nat} {g : Nat → Nat → Int64} {tq pl : Nat → Nat} {M : Nat} (hW : WC sh r) (hM : M ≤ 160) (htq : ∀ j, tq j < 10106) (hpl : ∀ j, pl j ≤ 160) {d : Nat} (hJ : JH sh r g tq pl M d) (hO : OH sh r g tq pl M d) {oo : Nat} {s : g_Ps} (ho : oo ≤ 5) (hd : 6 * (5 - oo) + 1 ≤ d + 1) (hf2 : s.2.1 ≤ 161) (hS : PSx tq pl M s a) : Mt YX2_one (2 * (d + 1) + 2) 0 0 [vr 25, vi (nI oo)] (sh, a, r, g) (g_E0 sh r g (fun a' => PSx tq pl M (jn tq pl M (d + 1) 5 oo s) a' ∧ chg scJ a a')) := by
  refine Mt_of rfl (Nat.le_of_ble_eq_true rfl) rfl ?_
  have hpt := ptk_lt htq s
  refine Gd_aload_n (i := 0) rfl eX2_one_0 ?_
  refine Gd_getIe (v := nI (ptk tq s)) fl_RX2_31 (V_s25 hW) (hS.2.2.1 :) eX2_one_1 ?_
  refine Gd_bipush kb_100 eX2_one_4 ?_
  refine Gd_icmp_ltN (by first | omega | decide) (by first | omega | decide) eX2_one_6 (fun c6 => ?_) (fun c6 => ?_)
  · refine Gd_aload_n (i := 0) rfl eX2_one_27 ?_
    refine Gd_getIe (v := nI (ptk tq s)) fl_RX2_31 (V_s25 hW) (hS.2.2.1 :) eX2_one_28 ?_
    refine Gd_bipush kb_45 eX2_one_31 ?_
    refine Gd_icmp_neN (by first | omega | decide) (by first | omega | decide) eX2_one_33 (fun c33 => ?_) (fun c33 => ?_)
    · refine Gd_aload_n (i := 0) rfl eX2_one_60 ?_
      refine Gd_getIe (v := nI (ptk tq s)) fl_RX2_31 (V_s25 hW) (hS.2.2.1 :) eX2_one_61 ?_
      refine Gd_bipush kb_40 eX2_one_64 ?_
      refine Gd_icmp_neN (by first | omega | decide) (by first | omega | decide) eX2_one_66 (fun c66 => ?_) (fun c66 => ?_)
      · rcases Nat.eq_zero_or_pos s.2.1 with hf | hf
        · refine Gd_aload_n (i := 0) rfl eX2_one_94 ?_
          refine Gd_callE0 (g_cV (x_fail0 hW hM htq hpl (ps0 hf hS)) ok_X2_fail lk_RX2_123 (V_s25 hW) ⟨_, _, rfl⟩ rfl rfl (Nat.le_of_ble_eq_true rfl) (by show _ ≤ 2 * (d + 1) + 2; omega) (Nat.le_refl _) (Nat.le_refl _) eX2_one_95) (fun a11 hq1 => ?_)
          obtain ⟨hS1, hq1⟩ := hq1
          have hc1 : chg scJ a a11 := chg_tr chg_rf hq1
          exact Gd_return eX2_one_98 rfl (Nat.le_refl _) (Nat.le_refl _) ⟨_, rfl, rfl, by rw [jn, if_neg (by omega), if_neg (by omega), if_neg c33, if_neg c66]; rw [ps0e hf] at hS1; exact hS1, hc1⟩
        · have hf1 : s.2.1 ≠ 0 := by omega
          refine Gd_aload_n (i := 0) rfl eX2_one_94 ?_
          refine Gd_callE0 (g_cV (x_failf hW hM htq hpl hf1 hf2 hS) ok_X2_fail lk_RX2_123 (V_s25 hW) ⟨_, _, rfl⟩ rfl rfl (Nat.le_of_ble_eq_true rfl) (by show _ ≤ 2 * (d + 1) + 2; omega) (Nat.le_refl _) (Nat.le_refl _) eX2_one_95) (fun a12 hq2 => ?_)
          obtain ⟨hS2, hq2⟩ := hq2
          have hc2 : chg scJ a a12 := chg_tr chg_rf hq2
          exact Gd_return eX2_one_98 rfl (Nat.le_refl _) (Nat.le_refl _) ⟨_, rfl, rfl, by rw [jn, if_neg (by omega), if_neg (by omega), if_neg c33, if_neg c66]; exact hS2, hc2⟩
      · have hf : s.2.1 = 0 := f_of c66 (by decide)
        refine Gd_aload_n (i := 0) rfl eX2_one_69 ?_
        refine Gd_iload_n (i := 1) rfl eX2_one_70 ?_
        refine Gd_callEV (g_cV (x_opens hW hM htq hpl (o := oo) ho (ps0 hf hS)) ok_X2_opens lk_RX2_129 (V_s25 hW) ⟨_, _, rfl⟩ rfl rfl (Nat.le_of_ble_eq_true rfl) (by show _ ≤ 2 * (d + 1) + 2; omega) (Nat.le_refl _) (Nat.le_refl _) eX2_one_71) (fun a13 hq3 => ?_)
        obtain ⟨hS3, hq3⟩ := hq3
        have hc3 : chg scJ a a13 := hq3
        rw [ps0e hf] at hS3
        refine Gd_if_eqB eX2_one_74 (fun c74 => ?_) (fun c74 => ?_)
        · exact Gd_return eX2_one_98 rfl (Nat.le_refl _) (Nat.le_refl _) ⟨_, rfl, rfl, by have h5 : 5 ≤ oo := (by simpa using c74); rw [if_pos h5] at hS3; rw [jn, if_neg (by omega), if_neg (by omega), if_neg c33, if_pos c66, if_pos h5]; exact hS3, hc3⟩
        · have h5 : ¬ 5 ≤ oo := by simpa using c74
          rw [if_neg h5] at hS3
          refine Gd_aload_n (i := 0) rfl eX2_one_77 ?_
          refine Gd_iconst ki_0 eX2_one_78 ?_
          refine Gd_iload_n (i := 1) rfl eX2_one_79 ?_
          refine Gd_iconst ki_1 eX2_one_80 ?_
          refine Gd_iaddN eX2_one_81 ?_
          refine Gd_callE0 (g_cV (hJ 0 (oo + 1) (pav M s) _ (by omega) (by omega) (by omega) hf2 hS3) ok_X2_join lk_RX2_53 (V_s25 hW) ⟨_, _, rfl⟩ rfl rfl (Nat.le_of_ble_eq_true rfl) (by show _ ≤ 2 * (d + 1) + 2; omega) (Nat.le_refl _) (Nat.le_refl _) eX2_one_82) (fun a14 hq4 => ?_)
          obtain ⟨hS4, hq4⟩ := hq4
          have hc4 : chg scJ a a14 := chg_tr hc3 hq4
          refine Gd_aload_n (i := 0) rfl eX2_one_85 ?_
          refine Gd_bipush kb_41 eX2_one_86 ?_
          refine Gd_callE0 (g_cV (x_expect hW hM htq hpl (t := 41) (by decide) (by decide) (jn_b hpl d 0 (oo + 1) (pav M s) hf2) hS4) ok_X2_expect lk_RX2_49 (V_s25 hW) ⟨_, _, rfl⟩ rfl rfl (Nat.le_of_ble_eq_true rfl) (by show _ ≤ 2 * (d + 1) + 2; omega) (Nat.le_refl _) (Nat.le_refl _) eX2_one_88) (fun a15 hq5 => ?_)
          obtain ⟨hS5, hq5⟩ := hq5
          have hc5 : chg scJ a a15 := chg_tr hc4 hq5
          refine Gd_goto eX2_one_91 ?_
          exact Gd_return eX2_one_98 rfl (Nat.le_refl _) (Nat.le_refl _) ⟨_, rfl, rfl, by rw [jn, if_neg (by omega), if_neg (by omega), if_neg c33, if_pos c66, if_neg h5]; exact hS5, hc5⟩
    · have hf : s.2.1 = 0 := f_of c33 (by decide)
      have hop : True := trivial
      refine Gd_aload_n (i := 0) rfl eX2_one_36 ?_
      refine Gd_iload_n (i := 1) rfl eX2_one_37 ?_
      refine Gd_callEV (g_cV (x_opens hW hM htq hpl (o := oo) ho (ps0 hf hS)) ok_X2_opens lk_RX2_129 (V_s25 hW) ⟨_, _, rfl⟩ rfl rfl (Nat.le_of_ble_eq_true rfl) (by show _ ≤ 2 * (d + 1) + 2; omega) (Nat.le_refl _) (Nat.le_refl _) eX2_one_38) (fun a16 hq6 => ?_)
      obtain ⟨hS6, hq6⟩ := hq6
      have hc6 : chg scJ a a16 := hq6
      rw [ps0e hf] at hS6
      refine Gd_if_eqB eX2_one_41 (fun c41 => ?_) (fun c41 => ?_)
      · exact Gd_return eX2_one_98 rfl (Nat.le_refl _) (Nat.le_refl _) ⟨_, rfl, rfl, by have h5 : 5 ≤ oo := (by simpa using c41); rw [if_pos h5] at hS6; rw [jn, if_neg (by omega), if_neg (by omega), if_pos c33, if_pos h5]; exact hS6, hc6⟩
      · have h5 : ¬ 5 ≤ oo := by simpa using c41
        rw [if_neg h5] at hS6
        refine Gd_aload_n (i := 0) rfl eX2_one_44 ?_
        refine Gd_iload_n (i := 1) rfl eX2_one_45 ?_
        refine Gd_iconst ki_1 eX2_one_46 ?_
        refine Gd_iaddN eX2_one_47 ?_
        refine Gd_callE0 (g_cV (hO (oo + 1) (pav M s) _ (by omega) (by omega) hf2 hS6) ok_X2_one lk_RX2_126 (V_s25 hW) ⟨_, _, rfl⟩ rfl rfl (Nat.le_of_ble_eq_true rfl) (by show _ ≤ 2 * (d + 1) + 2; omega) (Nat.le_refl _) (Nat.le_refl _) eX2_one_48) (fun a17 hq7 => ?_)
        obtain ⟨hS7, hq7⟩ := hq7
        have hc7 : chg scJ a a17 := chg_tr hc6 hq7
        refine Gd_aload_n (i := 0) rfl eX2_one_51 ?_
        refine Gd_bipush kb_m8 eX2_one_52 ?_
        refine Gd_callE0 (g_cV (x_emit hW hM htq hpl (v := 19) (by decide) hS7) ok_X2_emit lk_RX2_132 (V_s25 hW) ⟨_, _, rfl⟩ rfl rfl (Nat.le_of_ble_eq_true rfl) (by show _ ≤ 2 * (d + 1) + 2; omega) (Nat.le_refl _) (Nat.le_refl _) eX2_one_54) (fun a18 hq8 => ?_)
        obtain ⟨hS8, hq8⟩ := hq8
        have hc8 : chg scJ a a18 := chg_tr hc7 hq8
        refine Gd_goto eX2_one_57 ?_
        exact Gd_return eX2_one_98 rfl (Nat.le_refl _) (Nat.le_refl _) ⟨_, rfl, rfl, by rw [jn, if_neg (by omega), if_neg (by omega), if_pos c33, if_neg h5]; exact hS8, hc8⟩
  · have hf : s.2.1 = 0 := f_of (tq := tq) (t := ptk tq s) rfl (by omega)
    refine Gd_aload_n (i := 0) rfl eX2_one_9 ?_
    refine Gd_aload_n (i := 0) rfl eX2_one_10 ?_
    refine Gd_getIe (v := nI (ptk tq s)) fl_RX2_31 (V_s25 hW) (hS.2.2.1 :) eX2_one_11 ?_
    refine Gd_bipush kb_100 eX2_one_14 ?_
    refine Gd_isubN (by first | omega | decide) eX2_one_16 ?_
    refine Gd_callE0 (g_cV (x_emit hW hM htq hpl (v := (opc (ptk tq s))) (xcd_opc c6 hpt).symm hS) ok_X2_emit lk_RX2_132 (V_s25 hW) ⟨_, _, rfl⟩ rfl rfl (Nat.le_of_ble_eq_true rfl) (by show _ ≤ 2 * (d + 1) + 2; omega) (Nat.le_refl _) (Nat.le_refl _) eX2_one_17) (fun a19 hq9 => ?_)
    obtain ⟨hS9, hq9⟩ := hq9
    have hc9 : chg scJ a a19 := chg_tr chg_rf hq9
    refine Gd_aload_n (i := 0) rfl eX2_one_20 ?_
    refine Gd_callE0 (g_cV (x_advance hW hM htq hpl (ps0 (by rw [(pem_f _ _).1]; exact hf) hS9)) ok_X2_advance lk_RX2_120 (V_s25 hW) ⟨_, _, rfl⟩ rfl rfl (Nat.le_of_ble_eq_true rfl) (by show _ ≤ 2 * (d + 1) + 2; omega) (Nat.le_refl _) (Nat.le_refl _) eX2_one_21) (fun a20 hq10 => ?_)
    obtain ⟨hS10, hq10⟩ := hq10
    have hc10 : chg scJ a a20 := chg_tr hc9 hq10
    rw [ps0e (by rw [(pem_f _ _).1]; exact hf)] at hS10
    refine Gd_goto eX2_one_24 ?_
    exact Gd_return eX2_one_98 rfl (Nat.le_refl _) (Nat.le_refl _) ⟨_, rfl, rfl, by rw [jn, if_neg (by omega), if_pos c6]; exact hS10, hc10⟩
