theorem scS_53 {k j : Nat} (h : scS k j = false) : s53 k j = false := by simp [scS] at h; simp [s53]; exact h.1.1.2
theorem twoH_r {φ : g_Fo} {p : Nat} {q : Int32} (hh : φ 7 3 ≤ 6) (hp : p < φ 7 3) (h : twoH φ (nI p) q = true) : ∃ j, j < φ 7 3 ∧ p ≠ j ∧ q = nI j := by
  obtain ⟨i, j, hi, hj, hne, e1, rfl⟩ := twoH_t hh h
  have := nI_inj (by omega) (by omega) e1
  subst this
  exact ⟨j, hj, hne, rfl⟩
/-- what a call may change on the class's side: the forests of truth and thought, scratch -/
def scU (k j : Nat) : Bool := decide (1 ≤ k ∧ k ≤ 16) || decide (k = 33 ∨ k = 34 ∨ k = 36) || (decide (k = 35) && decide (j = 0))
theorem scU_R {k j : Nat} (h : scU k j = false) : scR k j = false := by simp [scU] at h; simp [scR]; omega
theorem scU_T {f k j : Nat} (hf : 1 ≤ f ∧ f ≤ 9) (h : scU k j = false) : scT f k j = false := by
  simp [scU] at h
  have h1 : k ≠ f + 1 := by omega
  have h2 : k ≠ f + 4 := by omega
  have h3 : k ≠ f := by omega
  exact scT_ne (by omega) (by omega) h1 h2 h3
theorem scU_r {K k j : Nat} (hK : 1 ≤ K ∧ K ≤ 16) (h : scU k j = false) : sR K k j = false := by simp [scU] at h; simp [sR]; omega
theorem scU_V {k j : Nat} (h : scU k j = false) : scV k j = false := by
  simp [scU] at h; simp [scV, scR]; omega
theorem TX_U {nt : Nat} {ts cd : g_Fo} {sh : List (Nat × Nat)} {a a' : Nat → Nat → Int32} {r : Nat → Nat → Option Nat} (h : TX nt ts cd sh a r) (hc : chg scU a a') : TX nt ts cd sh a' r := TX_ch h hc rfl (fun k j hk => by simp [scU]; omega)
theorem SX_U {so sz : Nat → Nat} {cl : Nat → Nat → Int32} {a a' : Nat → Nat → Int32} (h : SX so sz cl a) (hc : chg scU a a') : SX so sz cl a' := SX_ch h hc (fun j h1 h2 => by simp [scU]; omega)
theorem m_meet {sh : List (Nat × Nat)} {a : Nat → Nat → Int32} {r : Nat → Nat → Option Nat} {g : Nat → Nat → Int64} {φ ts cd : Nat → Nat → Nat} {nt : Nat} (hW : WD sh r) (hM : MA φ a) (hI : FI φ) (hT : TM nt ts cd a) (hTI : TI nt ts cd) (hlt : φ 7 2 < nt) (vt vp vq : Int32) : Mt YX8_meet 5 0 0 [vr 50, vi vt, vi vp, vi vq] (sh, a, r, g) (g_EV sh r g (vi (rMeet φ ts cd vt vp vq).1) (fun a' => MA (rMeet φ ts cd vt vp vq).2 a' ∧ chg scS a a')) := by
  refine Mt_of rfl (Nat.le_of_ble_eq_true rfl) rfl ?_
  have hhu := FI_hu hI
  have hch : chg scM a a := chg_rf
  refine Gd_aload_n (i := 0) rfl eX8_meet_0 ?_
  refine Gd_iload_n (i := 1) rfl eX8_meet_1 ?_
  refine Gd_iload_n (i := 2) rfl eX8_meet_2 ?_
  refine Gd_callP (g_cV (m_areTwo hW hM hI _ _) ok_X8_areTwo lk_RX8_189 (W_s50 hW) ⟨_, _, rfl⟩ rfl rfl (Nat.le_of_ble_eq_true rfl) (Nat.le_of_ble_eq_true rfl) (Nat.le_refl _) (Nat.le_refl _) eX8_meet_3) ?_
  refine Gd_if_eqB eX8_meet_6 (fun c6 => ?_) (fun c6 => ?_)
  · refine Gd_bipush kb_m5 eX8_meet_23 ?_
    exact Gd_ireturn eX8_meet_25 rfl (Nat.le_refl _) (Nat.le_refl _) (by rw [rMeet_n (by simp [show twoH φ vt vp = false from c6])]; exact ⟨a, rfl, rfl, hM, chg_rf⟩)
  · refine Gd_aload_n (i := 0) rfl eX8_meet_9 ?_
    refine Gd_iload_n (i := 1) rfl eX8_meet_10 ?_
    refine Gd_iload_n (i := 3) rfl eX8_meet_11 ?_
    refine Gd_callP (g_cV (m_areTwo hW hM hI _ _) ok_X8_areTwo lk_RX8_189 (W_s50 hW) ⟨_, _, rfl⟩ rfl rfl (Nat.le_of_ble_eq_true rfl) (Nat.le_of_ble_eq_true rfl) (Nat.le_refl _) (Nat.le_refl _) eX8_meet_12) ?_
    refine Gd_if_eqB eX8_meet_15 (fun c15 => ?_) (fun c15 => ?_)
    · refine Gd_bipush kb_m5 eX8_meet_23 ?_
      exact Gd_ireturn eX8_meet_25 rfl (Nat.le_refl _) (Nat.le_refl _) (by rw [rMeet_n (by simp [show twoH φ vt vq = false from c15])]; exact ⟨a, rfl, rfl, hM, chg_rf⟩)
    · refine Gd_iload_n (i := 2) rfl eX8_meet_18 ?_
      refine Gd_iload_n (i := 3) rfl eX8_meet_19 ?_
      refine Gd_icmp_ne eX8_meet_20 (fun c20 => ?_) (fun c20 => ?_)
      · obtain ⟨t, p, ht, hp, htp, rfl, rfl⟩ := twoH_t (φ := φ) hhu c6
        obtain ⟨q, hqn, htq, rfl⟩ := twoH_r (φ := φ) hhu ht c15
        have hpq : p ≠ q := fun e => c20 (by rw [e])
        have hr := rMeet_u (φ := φ) (ts := ts) (cd := cd) hhu ht hp hqn htp htq hpq
        refine Gd_aload_n (i := 0) rfl eX8_meet_26 ?_
        refine Gd_iload_n (i := 1) rfl eX8_meet_27 ?_
        refine Gd_iload_n (i := 2) rfl eX8_meet_28 ?_
        refine Gd_callP (g_cV (m_haveMet hW hM hI (by first | omega | decide) (by first | omega | decide)) ok_X8_haveMet lk_RX8_192 (W_s50 hW) ⟨_, _, rfl⟩ rfl rfl (Nat.le_of_ble_eq_true rfl) (Nat.le_of_ble_eq_true rfl) (Nat.le_refl _) (Nat.le_refl _) eX8_meet_29) ?_
        refine Gd_if_eqB eX8_meet_32 (fun c32 => ?_) (fun c32 => ?_)
        · refine Gd_bipush kb_m3 eX8_meet_61 ?_
          exact Gd_ireturn eX8_meet_63 rfl (Nat.le_refl _) (Nat.le_refl _) (by rw [hr, if_neg (by simp [mtn, c32])]; exact ⟨a, rfl, rfl, hM, chg_mono2 scS_M hch⟩)
        · refine Gd_aload_n (i := 0) rfl eX8_meet_35 ?_
          refine Gd_iload_n (i := 1) rfl eX8_meet_36 ?_
          refine Gd_iload_n (i := 3) rfl eX8_meet_37 ?_
          refine Gd_callP (g_cV (m_haveMet hW hM hI (by first | omega | decide) (by first | omega | decide)) ok_X8_haveMet lk_RX8_192 (W_s50 hW) ⟨_, _, rfl⟩ rfl rfl (Nat.le_of_ble_eq_true rfl) (Nat.le_of_ble_eq_true rfl) (Nat.le_refl _) (Nat.le_refl _) eX8_meet_38) ?_
          refine Gd_if_eqB eX8_meet_41 (fun c41 => ?_) (fun c41 => ?_)
          · refine Gd_bipush kb_m3 eX8_meet_61 ?_
            exact Gd_ireturn eX8_meet_63 rfl (Nat.le_refl _) (Nat.le_refl _) (by rw [hr, if_neg (by simp [mtn, c32, c41])]; exact ⟨a, rfl, rfl, hM, chg_mono2 scS_M hch⟩)
          · refine Gd_aload_n (i := 0) rfl eX8_meet_44 ?_
            refine Gd_iload_n (i := 2) rfl eX8_meet_45 ?_
            refine Gd_iload_n (i := 3) rfl eX8_meet_46 ?_
            refine Gd_callP (g_cV (m_haveMet hW hM hI (by first | omega | decide) (by first | omega | decide)) ok_X8_haveMet lk_RX8_192 (W_s50 hW) ⟨_, _, rfl⟩ rfl rfl (Nat.le_of_ble_eq_true rfl) (Nat.le_of_ble_eq_true rfl) (Nat.le_refl _) (Nat.le_refl _) eX8_meet_47) ?_
            refine Gd_if_neB eX8_meet_50 (fun c50 => ?_) (fun c50 => ?_)
            · refine Gd_bipush kb_m3 eX8_meet_61 ?_
              exact Gd_ireturn eX8_meet_63 rfl (Nat.le_refl _) (Nat.le_refl _) (by rw [hr, if_neg (by simp [mtn, c32, c41, c50])]; exact ⟨a, rfl, rfl, hM, chg_mono2 scS_M hch⟩)
            · refine Gd_aload_n (i := 0) rfl eX8_meet_53 ?_
              refine Gd_iload_n (i := 1) rfl eX8_meet_54 ?_
              refine Gd_callEV (g_cV (m_doesWill hW hM hI hT hTI hlt (p := t) ht) ok_X8_doesWill lk_RX8_205 (W_s50 hW) ⟨_, _, rfl⟩ rfl rfl (Nat.le_of_ble_eq_true rfl) (Nat.le_of_ble_eq_true rfl) (Nat.le_refl _) (Nat.le_refl _) eX8_meet_55) (fun a hq => ?_)
              have hM := MA_sc hM hq
              have hT := TM_sc hT hq
              have hch := chg_tr hch hq
              refine Gd_if_neB eX8_meet_58 (fun c58 => ?_) (fun c58 => ?_)
              · refine Gd_aload_n (i := 0) rfl eX8_meet_64 ?_
                refine Gd_iload_n (i := 2) rfl eX8_meet_65 ?_
                refine Gd_iload_n (i := 3) rfl eX8_meet_66 ?_
                refine Gd_iconst ki_1 eX8_meet_67 ?_
                refine Gd_callE0 (g_cV (m_meets1 hW hM hI (p := p) (q := q) (by first | omega | decide) (by first | omega | decide) hpq) ok_X8_meets lk_RX8_195 (W_s50 hW) ⟨_, _, rfl⟩ rfl rfl (Nat.le_of_ble_eq_true rfl) (Nat.le_of_ble_eq_true rfl) (Nat.le_refl _) (Nat.le_refl _) eX8_meet_68) (fun a2 hq2 => ?_)
                obtain ⟨hM2, hq2⟩ := hq2
                refine Gd_aload_n (i := 0) rfl eX8_meet_71 ?_
                refine Gd_getR fl_RX8_16 (W_s50 hW) (W_r50_3 hW) eX8_meet_72 ?_
                refine Gd_iconst ki_4 eX8_meet_75 ?_
                refine Gd_iload_n (i := 2) rfl eX8_meet_76 ?_
                refine Gd_imulN eX8_meet_77 ?_
                refine Gd_iconst ki_3 eX8_meet_78 ?_
                refine Gd_iaddN eX8_meet_79 ?_
                refine Gd_iload_n (i := 1) rfl eX8_meet_80 ?_
                refine Gd_iastN (W_s53 hW) (by first | omega | decide) eX8_meet_81 ?_
                refine Gd_aload_n (i := 0) rfl eX8_meet_82 ?_
                refine Gd_getR fl_RX8_16 (W_s50 hW) (W_r50_3 hW) eX8_meet_83 ?_
                refine Gd_iconst ki_4 eX8_meet_86 ?_
                refine Gd_iload_n (i := 3) rfl eX8_meet_87 ?_
                refine Gd_imulN eX8_meet_88 ?_
                refine Gd_iconst ki_3 eX8_meet_89 ?_
                refine Gd_iaddN eX8_meet_90 ?_
                refine Gd_iload_n (i := 1) rfl eX8_meet_91 ?_
                refine Gd_iastN (W_s53 hW) (by first | omega | decide) eX8_meet_92 ?_
                refine Gd_aload_n (i := 0) rfl eX8_meet_93 ?_
                refine Gd_iload_n (i := 1) rfl eX8_meet_94 ?_
                have hM3 : MA (mtf φ t p q) _ := MA_setby (v := t) (p := q) (MA_setby (v := t) (p := p) hM2)
                have hc3 : chg scS a (up2 (up2 a2 53 (4 * p + 3) (nI t)) 53 (4 * q + 3) (nI t)) := chg_up (chg_up (chg_mono2 scS_53 hq2) rfl) rfl
                refine Gd_callEV (g_cV (m_gainsBy hW hM3 (FI_mtf hI (by omega) (by omega) (by omega)) (TM_scS hT hc3) hTI hlt (p := t) ht) ok_X8_gainsBy lk_RX8_226 (W_s50 hW) ⟨_, _, rfl⟩ rfl rfl (Nat.le_of_ble_eq_true rfl) (Nat.le_of_ble_eq_true rfl) (Nat.le_refl _) (Nat.le_refl _) eX8_meet_95) (fun a4 hq => ?_)
                obtain ⟨hM4, hq⟩ := hq
                exact Gd_ireturn eX8_meet_98 rfl (Nat.le_refl _) (Nat.le_refl _) (by rw [hr, if_pos (by simp [mtn, c32, c41, c50, c58])]; exact ⟨a4, rfl, rfl, hM4, chg_tr (chg_mono2 scS_M hch) (chg_tr hc3 hq)⟩)
              · refine Gd_bipush kb_m3 eX8_meet_61 ?_
                exact Gd_ireturn eX8_meet_63 rfl (Nat.le_refl _) (Nat.le_refl _) (by rw [hr, if_neg (by simp [mtn, c32, c41, c50, c58])]; exact ⟨a, rfl, rfl, hM, chg_mono2 scS_M hch⟩)
      · refine Gd_bipush kb_m5 eX8_meet_23 ?_
        exact Gd_ireturn eX8_meet_25 rfl (Nat.le_refl _) (Nat.le_refl _) (by rw [rMeet_n (by simp [show vp = vq from c20])]; exact ⟨a, rfl, rfl, hM, chg_rf⟩)
theorem x_meet {sh : List (Nat × Nat)} {a : Nat → Nat → Int32} {r : Nat → Nat → Option Nat} {g : Nat → Nat → Int64} {φ ts cd : Nat → Nat → Nat} {nt : Nat} (hW : WD sh r) (hA : FA 1 φ a) (hI : FI φ) (hT : TX nt ts cd sh a r) (hTI : TI nt ts cd) (hlt : φ 7 2 < nt) (vt vp vq : Int32) : Mt YX7_meet 5 0 0 [vr 0, vi vt, vi vp, vi vq] (sh, a, r, g) (g_EV sh r g (vi (rMeet φ ts cd vt vp vq).1) (fun a' => FA 1 (rMeet φ ts cd vt vp vq).2 a' ∧ chg scU a a')) := by
  refine Mt_of rfl (Nat.le_of_ble_eq_true rfl) rfl ?_
  have hhu := FI_hu hI
  have hch : chg scR a a := chg_rf
  refine Gd_aload_n (i := 0) rfl eX7_meet_0 ?_
  refine Gd_iload_n (i := 1) rfl eX7_meet_1 ?_
  refine Gd_callP (g_cV (x_isHunter hW hA hI _) ok_X7_isHunter lk_RX7_140 (W_s0 hW) ⟨_, _, rfl⟩ rfl rfl (Nat.le_of_ble_eq_true rfl) (Nat.le_of_ble_eq_true rfl) (Nat.le_refl _) (Nat.le_refl _) eX7_meet_2) ?_
  refine Gd_if_eqB eX7_meet_5 (fun c5 => ?_) (fun c5 => ?_)
  · refine Gd_bipush kb_m5 eX7_meet_39 ?_
    exact Gd_ireturn eX7_meet_41 rfl (Nat.le_refl _) (Nat.le_refl _) (by rw [rMeet_n (by simp [twoH, c5])]; exact ⟨a, rfl, rfl, hA, chg_rf⟩)
  · refine Gd_aload_n (i := 0) rfl eX7_meet_8 ?_
    refine Gd_iload_n (i := 2) rfl eX7_meet_9 ?_
    refine Gd_callP (g_cV (x_isHunter hW hA hI _) ok_X7_isHunter lk_RX7_140 (W_s0 hW) ⟨_, _, rfl⟩ rfl rfl (Nat.le_of_ble_eq_true rfl) (Nat.le_of_ble_eq_true rfl) (Nat.le_refl _) (Nat.le_refl _) eX7_meet_10) ?_
    refine Gd_if_eqB eX7_meet_13 (fun c13 => ?_) (fun c13 => ?_)
    · refine Gd_bipush kb_m5 eX7_meet_39 ?_
      exact Gd_ireturn eX7_meet_41 rfl (Nat.le_refl _) (Nat.le_refl _) (by rw [rMeet_n (by simp [twoH, c13])]; exact ⟨a, rfl, rfl, hA, chg_rf⟩)
    · refine Gd_aload_n (i := 0) rfl eX7_meet_16 ?_
      refine Gd_iload_n (i := 3) rfl eX7_meet_17 ?_
      refine Gd_callP (g_cV (x_isHunter hW hA hI _) ok_X7_isHunter lk_RX7_140 (W_s0 hW) ⟨_, _, rfl⟩ rfl rfl (Nat.le_of_ble_eq_true rfl) (Nat.le_of_ble_eq_true rfl) (Nat.le_refl _) (Nat.le_refl _) eX7_meet_18) ?_
      refine Gd_if_eqB eX7_meet_21 (fun c21 => ?_) (fun c21 => ?_)
      · refine Gd_bipush kb_m5 eX7_meet_39 ?_
        exact Gd_ireturn eX7_meet_41 rfl (Nat.le_refl _) (Nat.le_refl _) (by rw [rMeet_n (by simp [twoH, c21])]; exact ⟨a, rfl, rfl, hA, chg_rf⟩)
      · refine Gd_iload_n (i := 1) rfl eX7_meet_24 ?_
        refine Gd_iload_n (i := 2) rfl eX7_meet_25 ?_
        refine Gd_icmp_eq eX7_meet_26 (fun c26 => ?_) (fun c26 => ?_)
        · refine Gd_bipush kb_m5 eX7_meet_39 ?_
          exact Gd_ireturn eX7_meet_41 rfl (Nat.le_refl _) (Nat.le_refl _) (by rw [rMeet_n (by simp [twoH, c26])]; exact ⟨a, rfl, rfl, hA, chg_rf⟩)
        · refine Gd_iload_n (i := 1) rfl eX7_meet_29 ?_
          refine Gd_iload_n (i := 3) rfl eX7_meet_30 ?_
          refine Gd_icmp_eq eX7_meet_31 (fun c31 => ?_) (fun c31 => ?_)
          · refine Gd_bipush kb_m5 eX7_meet_39 ?_
            exact Gd_ireturn eX7_meet_41 rfl (Nat.le_refl _) (Nat.le_refl _) (by rw [rMeet_n (by simp [twoH, c31])]; exact ⟨a, rfl, rfl, hA, chg_rf⟩)
          · refine Gd_iload_n (i := 2) rfl eX7_meet_34 ?_
            refine Gd_iload_n (i := 3) rfl eX7_meet_35 ?_
            refine Gd_icmp_ne eX7_meet_36 (fun c36 => ?_) (fun c36 => ?_)
            · obtain ⟨t, ht, rfl⟩ := inr_t c5 (by omega)
              obtain ⟨p, hp, rfl⟩ := inr_t c13 (by omega)
              obtain ⟨q, hqn, rfl⟩ := inr_t c21 (by omega)
              have htp : t ≠ p := fun e => c26 (by rw [e])
              have htq : t ≠ q := fun e => c31 (by rw [e])
              have hpq : p ≠ q := fun e => c36 (by rw [e])
              have hr := rMeet_u (φ := φ) (ts := ts) (cd := cd) hhu ht hp hqn htp htq hpq
              refine Gd_aload_n (i := 0) rfl eX7_meet_42 ?_
              refine Gd_getR fl_RX7_10 (W_s0 hW) (W_r0_0 hW) eX7_meet_43 ?_
              refine Gd_iload_n (i := 1) rfl eX7_meet_46 ?_
              refine Gd_iload_n (i := 2) rfl eX7_meet_47 ?_
              refine Gd_callP (g_cV (x_haveMet (W_F1 hW) hA hI (by first | omega | decide) (by first | omega | decide)) ok_X0_haveMet lk_RX7_150 (W_s1 hW) ⟨_, _, rfl⟩ rfl rfl (Nat.le_of_ble_eq_true rfl) (Nat.le_of_ble_eq_true rfl) (Nat.le_refl _) (Nat.le_refl _) eX7_meet_48) ?_
              refine Gd_if_eqB eX7_meet_51 (fun c51 => ?_) (fun c51 => ?_)
              · refine Gd_bipush kb_m3 eX7_meet_93 ?_
                exact Gd_ireturn eX7_meet_95 rfl (Nat.le_refl _) (Nat.le_refl _) (by rw [hr, if_neg (by simp [mtn, c51])]; exact ⟨a, rfl, rfl, hA, chg_mono2 scU_R hch⟩)
              · refine Gd_aload_n (i := 0) rfl eX7_meet_54 ?_
                refine Gd_getR fl_RX7_10 (W_s0 hW) (W_r0_0 hW) eX7_meet_55 ?_
                refine Gd_iload_n (i := 1) rfl eX7_meet_58 ?_
                refine Gd_iload_n (i := 3) rfl eX7_meet_59 ?_
                refine Gd_callP (g_cV (x_haveMet (W_F1 hW) hA hI (by first | omega | decide) (by first | omega | decide)) ok_X0_haveMet lk_RX7_150 (W_s1 hW) ⟨_, _, rfl⟩ rfl rfl (Nat.le_of_ble_eq_true rfl) (Nat.le_of_ble_eq_true rfl) (Nat.le_refl _) (Nat.le_refl _) eX7_meet_60) ?_
                refine Gd_if_eqB eX7_meet_63 (fun c63 => ?_) (fun c63 => ?_)
                · refine Gd_bipush kb_m3 eX7_meet_93 ?_
                  exact Gd_ireturn eX7_meet_95 rfl (Nat.le_refl _) (Nat.le_refl _) (by rw [hr, if_neg (by simp [mtn, c51, c63])]; exact ⟨a, rfl, rfl, hA, chg_mono2 scU_R hch⟩)
                · refine Gd_aload_n (i := 0) rfl eX7_meet_66 ?_
                  refine Gd_getR fl_RX7_10 (W_s0 hW) (W_r0_0 hW) eX7_meet_67 ?_
                  refine Gd_iload_n (i := 2) rfl eX7_meet_70 ?_
                  refine Gd_iload_n (i := 3) rfl eX7_meet_71 ?_
                  refine Gd_callP (g_cV (x_haveMet (W_F1 hW) hA hI (by first | omega | decide) (by first | omega | decide)) ok_X0_haveMet lk_RX7_150 (W_s1 hW) ⟨_, _, rfl⟩ rfl rfl (Nat.le_of_ble_eq_true rfl) (Nat.le_of_ble_eq_true rfl) (Nat.le_refl _) (Nat.le_refl _) eX7_meet_72) ?_
                  refine Gd_if_neB eX7_meet_75 (fun c75 => ?_) (fun c75 => ?_)
                  · refine Gd_bipush kb_m3 eX7_meet_93 ?_
                    exact Gd_ireturn eX7_meet_95 rfl (Nat.le_refl _) (Nat.le_refl _) (by rw [hr, if_neg (by simp [mtn, c51, c63, c75])]; exact ⟨a, rfl, rfl, hA, chg_mono2 scU_R hch⟩)
                  · refine Gd_aload_n (i := 0) rfl eX7_meet_78 ?_
                    refine Gd_getR fl_RX7_36 (W_s0 hW) (W_r0_5 hW) eX7_meet_79 ?_
                    refine Gd_aload_n (i := 0) rfl eX7_meet_82 ?_
                    refine Gd_getR fl_RX7_10 (W_s0 hW) (W_r0_0 hW) eX7_meet_83 ?_
                    refine Gd_iload_n (i := 1) rfl eX7_meet_86 ?_
                    refine Gd_callEV (g_cV (x_isWilling hW (W_F1 hW) (by decide) hA hI hT hTI hlt (p := t) ht) ok_X3_isWilling lk_RX7_173 (W_s31 hW) ⟨_, _, rfl⟩ rfl rfl (Nat.le_of_ble_eq_true rfl) (Nat.le_of_ble_eq_true rfl) (Nat.le_refl _) (Nat.le_refl _) eX7_meet_87) (fun a hq => ?_)
                    have hA := FA_R hA (by decide) hq
                    have hT := TX_R hT hq
                    have hch := chg_tr hch hq
                    refine Gd_if_neB eX7_meet_90 (fun c90 => ?_) (fun c90 => ?_)
                    · refine Gd_aload_n (i := 0) rfl eX7_meet_96 ?_
                      refine Gd_getR fl_RX7_10 (W_s0 hW) (W_r0_0 hW) eX7_meet_97 ?_
                      refine Gd_iload_n (i := 2) rfl eX7_meet_100 ?_
                      refine Gd_iload_n (i := 3) rfl eX7_meet_101 ?_
                      refine Gd_iconst ki_1 eX7_meet_102 ?_
                      refine Gd_callE0 (g_cV (x_setMet1 (W_F1 hW) hA hI (p := p) (q := q) (by first | omega | decide) (by first | omega | decide) hpq) ok_X0_setMet lk_RX7_154 (W_s1 hW) ⟨_, _, rfl⟩ rfl rfl (Nat.le_of_ble_eq_true rfl) (Nat.le_of_ble_eq_true rfl) (Nat.le_refl _) (Nat.le_refl _) eX7_meet_103) (fun a2 hq2 => ?_)
                      obtain ⟨hA2, hq2⟩ := hq2
                      refine Gd_aload_n (i := 0) rfl eX7_meet_106 ?_
                      refine Gd_getR fl_RX7_10 (W_s0 hW) (W_r0_0 hW) eX7_meet_107 ?_
                      refine Gd_getR fl_RX7_181 (W_s1 hW) (W_r1_10 hW) eX7_meet_110 ?_
                      refine Gd_iload_n (i := 2) rfl eX7_meet_113 ?_
                      refine Gd_iload_n (i := 1) rfl eX7_meet_114 ?_
                      refine Gd_iastN (W_s8 hW) (by first | omega | decide) eX7_meet_115 ?_
                      refine Gd_aload_n (i := 0) rfl eX7_meet_116 ?_
                      refine Gd_getR fl_RX7_10 (W_s0 hW) (W_r0_0 hW) eX7_meet_117 ?_
                      refine Gd_getR fl_RX7_181 (W_s1 hW) (W_r1_10 hW) eX7_meet_120 ?_
                      refine Gd_iload_n (i := 3) rfl eX7_meet_123 ?_
                      refine Gd_iload_n (i := 1) rfl eX7_meet_124 ?_
                      refine Gd_iastN (W_s8 hW) (by first | omega | decide) eX7_meet_125 ?_
                      refine Gd_aload_n (i := 0) rfl eX7_meet_126 ?_
                      refine Gd_getR fl_RX7_36 (W_s0 hW) (W_r0_5 hW) eX7_meet_127 ?_
                      refine Gd_aload_n (i := 0) rfl eX7_meet_130 ?_
                      refine Gd_getR fl_RX7_10 (W_s0 hW) (W_r0_0 hW) eX7_meet_131 ?_
                      refine Gd_iload_n (i := 1) rfl eX7_meet_134 ?_
                      have hA3 : FA 1 (mtf φ t p q) _ := FA_setby (v := t) (p := q) (FA_setby (v := t) (p := p) hA2)
                      have hc3 : chg scU a (up2 (up2 a2 8 p (nI t)) 8 q (nI t)) := chg_up (chg_up (chg_mono2 (scU_r (by decide)) hq2) rfl) rfl
                      refine Gd_callEV (g_cV (x_reward hW (W_F1 hW) (by decide) hA3 (FI_mtf hI (by omega) (by omega) (by omega)) (TX_U hT hc3) hTI hlt (p := t) ht) ok_X3_reward lk_RX7_192 (W_s31 hW) ⟨_, _, rfl⟩ rfl rfl (Nat.le_of_ble_eq_true rfl) (Nat.le_of_ble_eq_true rfl) (Nat.le_refl _) (Nat.le_refl _) eX7_meet_135) (fun a4 hq => ?_)
                      obtain ⟨hA4, hq⟩ := hq
                      exact Gd_ireturn eX7_meet_138 rfl (Nat.le_refl _) (Nat.le_refl _) (by rw [hr, if_pos (by simp [mtn, c51, c63, c75, c90])]; exact ⟨a4, rfl, rfl, hA4, chg_tr (chg_mono2 scU_R hch) (chg_tr hc3 (chg_mono2 (scU_T (by decide)) hq))⟩)
                    · refine Gd_bipush kb_m3 eX7_meet_93 ?_
                      exact Gd_ireturn eX7_meet_95 rfl (Nat.le_refl _) (Nat.le_refl _) (by rw [hr, if_neg (by simp [mtn, c51, c63, c75, c90])]; exact ⟨a, rfl, rfl, hA, chg_mono2 scU_R hch⟩)
            · refine Gd_bipush kb_m5 eX7_meet_39 ?_
              exact Gd_ireturn eX7_meet_41 rfl (Nat.le_refl _) (Nat.le_refl _) (by rw [rMeet_n (by simp [twoH, c36])]; exact ⟨a, rfl, rfl, hA, chg_rf⟩)
