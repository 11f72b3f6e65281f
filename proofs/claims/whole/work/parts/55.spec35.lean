theorem m_turned_L {sh : List (Nat × Nat)} {r : Nat → Nat → Option Nat} {g : Nat → Nat → Int64} {φ ts cd : Nat → Nat → Nat} {nt : Nat} {so sz : Nat → Nat} {cl : Nat → Nat → Int32} (hW : WD sh r) (hI : FI φ) (hTI : TI nt ts cd) (hlt : φ 7 2 < nt) {i j p : Nat} (hi : i < 4) (hj : j < 4) (hal : allD (cl i) (sz i) = true) (hle : sz j ≤ sz i) (hz : sz i ≤ 40) (hpn : p < φ 7 3) {T : Nat → Bool} (hTd : ∀ k, T k = ok1 ts cd p (cl i) (cl j) (sz j) (fu φ 5 p (φ 5 p ^^^ 2 ^ k))) {x4 : Int32} (hBN : True) {Q : Option g_V → g_H → Prop} {N0 : Nat} {a0 : Nat → Nat → Int32} : ∀ (n k x : Nat) (b : Nat) (a : Nat → Nat → Int32), k + n = 10 → MA (fu φ 5 p x) a → TM nt ts cd a → MS so sz cl a → b = fitB T k → chg scZ a0 a → (∀ a', MA φ a' → chg scZ a0 a' → Q (some (vi (nI (fitB T 10)))) (sh, a', r, g)) → Gd YX8_turned (z0 7 N0 Q) 0 0 35 [some (vr 50), some (vi (nI (i))), some (vi (nI (j))), some (vi (nI (p))), some (vi x4), some (vi (nI (φ 5 p))), some (vi (nI (b))), some (vi (nI (k)))] [] (sh, a, r, g)
  | 0, k, x, b, a, hn, hM, hT, hS, hb, hc, kq => by
    subst hb
    have hhu := FI_hu hI
    have hp6 : p < 6 := by omega
    refine Gd_iload (i := 7) rfl eX8_turned_35 ?_
    refine Gd_bipush kb_10 eX8_turned_37 ?_
    refine Gd_icmp_geN (by first | omega | decide) (by first | omega | decide) eX8_turned_39 (fun c39 => ?_) (fun c39 => ?_)
    · refine Gd_aload_n (i := 0) rfl eX8_turned_89 ?_
      refine Gd_getR fl_RX8_16 (W_s50 hW) (W_r50_3 hW) eX8_turned_90 ?_
      refine Gd_iconst ki_4 eX8_turned_93 ?_
      refine Gd_iload_n (i := 3) rfl eX8_turned_94 ?_
      refine Gd_imulN eX8_turned_95 ?_
      refine Gd_iconst ki_1 eX8_turned_96 ?_
      refine Gd_iaddN eX8_turned_97 ?_
      refine Gd_iload (i := 5) rfl eX8_turned_98 ?_
      refine Gd_iastN (W_s53 hW) (by first | omega | decide) eX8_turned_100 ?_
      refine Gd_iload (i := 6) rfl eX8_turned_101 ?_
      exact Gd_ireturn eX8_turned_103 rfl (Nat.le_refl _) (Nat.le_refl _) (by rw [show k = 10 by omega] at *; exact kq _ (MA_fid (MA_ca2 hM)) (chg_up hc rfl))
    · exact absurd c39 (by omega)
  | n + 1, k, x, b, a, hn, hM, hT, hS, hb, hc, kq => by
    subst hb
    have hhu := FI_hu hI
    have hp6 : p < 6 := by omega
    refine Gd_iload (i := 7) rfl eX8_turned_35 ?_
    refine Gd_bipush kb_10 eX8_turned_37 ?_
    refine Gd_icmp_geN (by first | omega | decide) (by first | omega | decide) eX8_turned_39 (fun c39 => ?_) (fun c39 => ?_)
    · exact absurd c39 (by omega)
    · refine Gd_aload_n (i := 0) rfl eX8_turned_42 ?_
      refine Gd_getR fl_RX8_16 (W_s50 hW) (W_r50_3 hW) eX8_turned_43 ?_
      refine Gd_iconst ki_4 eX8_turned_46 ?_
      refine Gd_iload_n (i := 3) rfl eX8_turned_47 ?_
      refine Gd_imulN eX8_turned_48 ?_
      refine Gd_iconst ki_1 eX8_turned_49 ?_
      refine Gd_iaddN eX8_turned_50 ?_
      refine Gd_iload (i := 5) rfl eX8_turned_51 ?_
      refine Gd_iconst ki_1 eX8_turned_53 ?_
      refine Gd_iload (i := 7) rfl eX8_turned_54 ?_
      refine Gd_ishl1 (by first | omega | decide) eX8_turned_56 ?_
      refine Gd_ixorN eX8_turned_57 ?_
      refine Gd_iastN (W_s53 hW) (by first | omega | decide) eX8_turned_58 ?_
      refine Gd_iload (i := 6) rfl eX8_turned_59 ?_
      refine Gd_aload_n (i := 0) rfl eX8_turned_61 ?_
      refine Gd_iload_n (i := 1) rfl eX8_turned_62 ?_
      refine Gd_iload_n (i := 2) rfl eX8_turned_63 ?_
      refine Gd_iload_n (i := 3) rfl eX8_turned_64 ?_
      have hM1 : MA (fu φ 5 p (φ 5 p ^^^ 2 ^ k)) _ := MA_ca2 hM
      have hc1 : chg scZ a (up2 a 53 (4 * p + 1) (nI (φ 5 p ^^^ 2 ^ k))) := chg_up chg_rf rfl
      refine Gd_callEV (g_cV (m_unlike (φ := fu φ 5 p (φ 5 p ^^^ 2 ^ k)) hW hM1 (FI_setca hI (xor_lt10n (by omega) (FI_ca hI hp6))) (TM_Z hT hc1) hTI (hlt) (MS_Z hS hc1) (s := i) (t := j) (p := p) hi hj hal hle hz (hpn)) ok_X8_unlike lk_RX8_269 (W_s50 hW) ⟨_, _, rfl⟩ rfl rfl (Nat.le_of_ble_eq_true rfl) (Nat.le_of_ble_eq_true rfl) (Nat.le_refl _) (Nat.le_refl _) eX8_turned_65) (fun a3 hq3 => ?_)
      obtain ⟨hM3, hq3⟩ := hq3
      have hc3 : chg scZ a a3 := chg_tr hc1 (chg_mono2 scZ_K hq3)
      refine Gd_iconst ki_m1 eX8_turned_68 ?_
      refine Gd_icmp_ne eX8_turned_69 (fun c69 => ?_) (fun c69 => ?_)
      · refine Gd_iconst ki_0 eX8_turned_79 ?_
        refine Gd_iorN eX8_turned_80 ?_
        refine Gd_istore6 rfl eX8_turned_81 ?_
        refine Gd_iinc7 (ho := rfl) (he := nI_inc _) eX8_turned_83 ?_
        refine Gd_goto eX8_turned_86 ?_
        exact m_turned_L hW hI hTI hlt hi hj hal hle hz hpn hTd hBN n (k + 1) _ _ a3 (by omega) hM3 (TM_Z hT hc3) (MS_Z hS hc3) (fitB_n0 (by rw [hTd]; exact ok1_f c69)) (chg_tr hc hc3) kq
      · refine Gd_iconst ki_1 eX8_turned_72 ?_
        refine Gd_iload (i := 7) rfl eX8_turned_73 ?_
        refine Gd_ishl1 (by first | omega | decide) eX8_turned_75 ?_
        refine Gd_goto eX8_turned_76 ?_
        refine Gd_iorN eX8_turned_80 ?_
        refine Gd_istore6 rfl eX8_turned_81 ?_
        refine Gd_iinc7 (ho := rfl) (he := nI_inc _) eX8_turned_83 ?_
        refine Gd_goto eX8_turned_86 ?_
        exact m_turned_L hW hI hTI hlt hi hj hal hle hz hpn hTd hBN n (k + 1) _ _ a3 (by omega) hM3 (TM_Z hT hc3) (MS_Z hS hc3) (fitB_y (by rw [hTd]; exact ok1_t c69)) (chg_tr hc hc3) kq
theorem x_turned_L {sh : List (Nat × Nat)} {r : Nat → Nat → Option Nat} {g : Nat → Nat → Int64} {φ ts cd : Nat → Nat → Nat} {nt : Nat} {so sz : Nat → Nat} {cl : Nat → Nat → Int32} (hW : WD sh r) (hI : FI φ) (hTI : TI nt ts cd) (hlt : φ 7 2 < nt) {i j p : Nat} (hi : i < 4) (hj : j < 4) (hal : allD (cl i) (sz i) = true) (hle : sz j ≤ sz i) (hz : sz i ≤ 40) (hpn : p < φ 7 3) {T : Nat → Bool} (hTd : ∀ k, T k = ok1 ts cd p (cl i) (cl j) (sz j) (fu φ 5 p (φ 5 p ^^^ 2 ^ k))) {x4 : Int32} (hBN : True) {Q : Option g_V → g_H → Prop} {N0 : Nat} {a0 : Nat → Nat → Int32} : ∀ (n k : Nat) (b : Nat) (a : Nat → Nat → Int32), k + n = 10 → FA 1 φ a → TX nt ts cd sh a r → SX so sz cl a → b = fitB T k → chg scX a0 a → (∀ a', chg scX a0 a' → Q (some (vi (nI (fitB T 10)))) (sh, a', r, g)) → Gd YX7_turned (z0 7 N0 Q) 0 0 23 [some (vr 0), some (vi (nI (i))), some (vi (nI (j))), some (vi (nI (p))), some (vi x4), some (vi (nI (b))), some (vi (nI (k)))] [] (sh, a, r, g)
  | 0, k, b, a, hn, hA, hT, hS, hb, hc, kq => by
    subst hb
    have hhu := FI_hu hI
    have hp6 : p < 6 := by omega
    refine Gd_iload (i := 6) rfl eX7_turned_23 ?_
    refine Gd_bipush kb_10 eX7_turned_25 ?_
    refine Gd_icmp_geN (by first | omega | decide) (by first | omega | decide) eX7_turned_27 (fun c27 => ?_) (fun c27 => ?_)
    · refine Gd_iload (i := 5) rfl eX7_turned_87 ?_
      exact Gd_ireturn eX7_turned_89 rfl (Nat.le_refl _) (Nat.le_refl _) (by rw [show k = 10 by omega] at *; exact kq _ hc)
    · exact absurd c27 (by omega)
  | n + 1, k, b, a, hn, hA, hT, hS, hb, hc, kq => by
    subst hb
    have hhu := FI_hu hI
    have hp6 : p < 6 := by omega
    refine Gd_iload (i := 6) rfl eX7_turned_23 ?_
    refine Gd_bipush kb_10 eX7_turned_25 ?_
    refine Gd_icmp_geN (by first | omega | decide) (by first | omega | decide) eX7_turned_27 (fun c27 => ?_) (fun c27 => ?_)
    · exact absurd c27 (by omega)
    · refine Gd_aload_n (i := 0) rfl eX7_turned_30 ?_
      refine Gd_getR fl_RX7_16 (W_s0 hW) (W_r0_1 hW) eX7_turned_31 ?_
      refine Gd_aload_n (i := 0) rfl eX7_turned_34 ?_
      refine Gd_getR fl_RX7_10 (W_s0 hW) (W_r0_0 hW) eX7_turned_35 ?_
      refine Gd_callE0 (g_cV (x_become9 hW hA) ok_X0_become lk_RX7_232 (W_s9 hW) ⟨_, _, rfl⟩ rfl rfl (Nat.le_of_ble_eq_true rfl) (Nat.le_of_ble_eq_true rfl) (Nat.le_refl _) (Nat.le_refl _) eX7_turned_38) (fun a2 hq2 => ?_)
      obtain ⟨hA2, hq2⟩ := hq2
      have hc2 : chg scX a a2 := chg_mono2 scX_9 hq2
      have hT2 := TX_X hT hc2
      have hS2 := SX_X hS hc2
      refine Gd_aload_n (i := 0) rfl eX7_turned_41 ?_
      refine Gd_getR fl_RX7_16 (W_s0 hW) (W_r0_1 hW) eX7_turned_42 ?_
      refine Gd_iload_n (i := 3) rfl eX7_turned_45 ?_
      refine Gd_iload (i := 6) rfl eX7_turned_46 ?_
      refine Gd_callP0 (g_cV (x_turnCard (W_F9 hW) hA2 hI (p := p) (d := k) hp6 (by omega)) ok_X0_turnCard lk_RX7_198 (W_s9 hW) ⟨_, _, rfl⟩ rfl rfl (Nat.le_of_ble_eq_true rfl) (Nat.le_of_ble_eq_true rfl) (Nat.le_refl _) (Nat.le_refl _) eX7_turned_48) rfl ?_
      refine Gd_aload_n (i := 0) rfl eX7_turned_51 ?_
      refine Gd_aload_n (i := 0) rfl eX7_turned_52 ?_
      refine Gd_getR fl_RX7_56 (W_s0 hW) (W_r0_8 hW) eX7_turned_53 ?_
      refine Gd_iload_n (i := 1) rfl eX7_turned_56 ?_
      refine Gd_aaldN (Or.inl ⟨rfl, rfl, rfl⟩ : g_rc 21 1 4) (W_s38 hW) (by first | omega | decide) (W_r38 hW (j := i) (by first | omega | decide)) eX7_turned_57 ?_
      refine Gd_aload_n (i := 0) rfl eX7_turned_58 ?_
      refine Gd_getR fl_RX7_56 (W_s0 hW) (W_r0_8 hW) eX7_turned_59 ?_
      refine Gd_iload_n (i := 2) rfl eX7_turned_62 ?_
      refine Gd_aaldN (Or.inl ⟨rfl, rfl, rfl⟩ : g_rc 21 1 4) (W_s38 hW) (by first | omega | decide) (W_r38 hW (j := j) (by first | omega | decide)) eX7_turned_63 ?_
      refine Gd_iload_n (i := 3) rfl eX7_turned_64 ?_
      have hA3 : FA 9 (fu φ 5 p (φ 5 p ^^^ 2 ^ k)) _ := FA_setca hA2
      have hc3 : chg scX a (up2 a2 15 p (nI (φ 5 p ^^^ 2 ^ k))) := chg_up hc2 rfl
      refine Gd_callEV (g_cV (x_firstOtherwise (φ := fu φ 5 p (φ 5 p ^^^ 2 ^ k)) hW hA3 (FI_setca hI (xor_lt10n (by omega) (FI_ca hI hp6))) (TX_X hT hc3) hTI (hlt) (SX_X hS hc3) (s := i) (t := j) (p := p) hi hj hal hle hz (hpn)) ok_X7_firstOtherwise lk_RX7_257 (W_s0 hW) ⟨_, _, rfl⟩ rfl rfl (Nat.le_of_ble_eq_true rfl) (Nat.le_of_ble_eq_true rfl) (Nat.le_refl _) (Nat.le_refl _) eX7_turned_65) (fun a3 hq3 => ?_)
      have hc4 : chg scX a a3 := chg_tr hc3 (chg_mono2 scX_T hq3)
      refine Gd_iconst ki_m1 eX7_turned_68 ?_
      refine Gd_icmp_ne eX7_turned_69 (fun c69 => ?_) (fun c69 => ?_)
      · refine Gd_iinc6 (ho := rfl) (he := nI_inc _) eX7_turned_81 ?_
        refine Gd_goto eX7_turned_84 ?_
        exact x_turned_L hW hI hTI hlt hi hj hal hle hz hpn hTd hBN n (k + 1) _ a3 (by omega) (FA_X hA hc4) (TX_X hT hc4) (SX_X hS hc4) (fitB_n (by rw [hTd]; exact ok1_f c69)) (chg_tr hc hc4) kq
      · refine Gd_iload (i := 5) rfl eX7_turned_72 ?_
        refine Gd_iconst ki_1 eX7_turned_74 ?_
        refine Gd_iload (i := 6) rfl eX7_turned_75 ?_
        refine Gd_ishl1 (by first | omega | decide) eX7_turned_77 ?_
        refine Gd_iorN eX7_turned_78 ?_
        refine Gd_istore5 rfl eX7_turned_79 ?_
        refine Gd_iinc6 (ho := rfl) (he := nI_inc _) eX7_turned_81 ?_
        refine Gd_goto eX7_turned_84 ?_
        exact x_turned_L hW hI hTI hlt hi hj hal hle hz hpn hTd hBN n (k + 1) _ a3 (by omega) (FA_X hA hc4) (TX_X hT hc4) (SX_X hS hc4) (fitB_y (by rw [hTd]; exact ok1_t c69)) (chg_tr hc hc4) kq
theorem m_turned {sh : List (Nat × Nat)} {a : Nat → Nat → Int32} {r : Nat → Nat → Option Nat} {g : Nat → Nat → Int64} {φ ts cd : Nat → Nat → Nat} {nt : Nat} {so sz : Nat → Nat} {cl : Nat → Nat → Int32} (hW : WD sh r) (hM : MA φ a) (hI : FI φ) (hT : TM nt ts cd a) (hTI : TI nt ts cd) (hlt : φ 7 2 < nt) (hS : MS so sz cl a) (hSI : SI so sz) (v0 v1 v2 : Int32) : Mt YX8_turned 7 0 0 [vr 50, vi v0, vi v1, vi v2] (sh, a, r, g) (g_EV sh r g (vi (oTurned φ ts cd so sz cl v0 v1 v2)) (fun a' => MA φ a' ∧ chg scZ a a')) := by
  refine Mt_of rfl (Nat.le_of_ble_eq_true rfl) rfl ?_
  have hhu := FI_hu hI
  refine Gd_aload_n (i := 0) rfl eX8_turned_0 ?_
  refine Gd_iload_n (i := 1) rfl eX8_turned_1 ?_
  refine Gd_iload_n (i := 2) rfl eX8_turned_2 ?_
  refine Gd_iload_n (i := 3) rfl eX8_turned_3 ?_
  refine Gd_callP (g_cV (m_toldWrong hW hM hI hS hSI _ _ _) ok_X8_toldWrong lk_RX8_266 (W_s50 hW) ⟨_, _, rfl⟩ rfl rfl (Nat.le_of_ble_eq_true rfl) (Nat.le_of_ble_eq_true rfl) (Nat.le_refl _) (Nat.le_refl _) eX8_turned_4) ?_
  refine Gd_istore4 rfl eX8_turned_7 ?_
  refine Gd_iload (i := 4) rfl eX8_turned_9 ?_
  refine Gd_if_eq eX8_turned_11 (fun c11 => ?_) (fun c11 => ?_)
  · obtain ⟨i, j, p, hi, hj, hpn, rfl, rfl, rfl, hso, hal, hle⟩ := tlw_ok hhu c11
    have hz := hSI.2 i hi
    have hp6 : p < 6 := by omega
    have hr := oTurned_u (ts := ts) (cd := cd) c11 hi hj hp6
    refine Gd_aload_n (i := 0) rfl eX8_turned_17 ?_
    refine Gd_getR fl_RX8_16 (W_s50 hW) (W_r50_3 hW) eX8_turned_18 ?_
    refine Gd_iconst ki_4 eX8_turned_21 ?_
    refine Gd_iload_n (i := 3) rfl eX8_turned_22 ?_
    refine Gd_imulN eX8_turned_23 ?_
    refine Gd_iconst ki_1 eX8_turned_24 ?_
    refine Gd_iaddN eX8_turned_25 ?_
    refine Gd_ialdE (v := nI (φ 5 p)) (W_s53 hW) (by first | omega | decide) (MA_ca hM (p := p) (by first | omega | decide) :) eX8_turned_26 ?_
    refine Gd_istore5 rfl eX8_turned_27 ?_
    refine Gd_iconst ki_0 eX8_turned_29 ?_
    refine Gd_istore6 rfl eX8_turned_30 ?_
    refine Gd_iconst ki_0 eX8_turned_32 ?_
    refine Gd_istore7 rfl eX8_turned_33 ?_
    exact m_turned_L hW hI hTI hlt hi hj hal hle hz hpn (T := fun k => ok1 ts cd p (cl i) (cl j) (sz j) (fu φ 5 p (φ 5 p ^^^ 2 ^ k))) (fun _ => rfl) trivial 10 0 (φ 5 p) 0 a (by omega) (MA_fdi hM) hT hS rfl chg_rf (fun a' k1 k2 => ⟨a', by rw [hr], rfl, k1, k2⟩)
  · refine Gd_iload (i := 4) rfl eX8_turned_14 ?_
    exact Gd_ireturn eX8_turned_16 rfl (Nat.le_refl _) (Nat.le_refl _) ⟨a, by rw [oTurned_r c11], rfl, hM, chg_rf⟩
theorem x_turned {sh : List (Nat × Nat)} {a : Nat → Nat → Int32} {r : Nat → Nat → Option Nat} {g : Nat → Nat → Int64} {φ ts cd : Nat → Nat → Nat} {nt : Nat} {so sz : Nat → Nat} {cl : Nat → Nat → Int32} (hW : WD sh r) (hA : FA 1 φ a) (hI : FI φ) (hT : TX nt ts cd sh a r) (hTI : TI nt ts cd) (hlt : φ 7 2 < nt) (hS : SX so sz cl a) (hSI : SI so sz) (v0 v1 v2 : Int32) : Mt YX7_turned 7 0 0 [vr 0, vi v0, vi v1, vi v2] (sh, a, r, g) (g_EV sh r g (vi (oTurned φ ts cd so sz cl v0 v1 v2)) (fun a' => chg scX a a')) := by
  refine Mt_of rfl (Nat.le_of_ble_eq_true rfl) rfl ?_
  have hhu := FI_hu hI
  refine Gd_aload_n (i := 0) rfl eX7_turned_0 ?_
  refine Gd_iload_n (i := 1) rfl eX7_turned_1 ?_
  refine Gd_iload_n (i := 2) rfl eX7_turned_2 ?_
  refine Gd_iload_n (i := 3) rfl eX7_turned_3 ?_
  refine Gd_callP (g_cV (x_judgeRefusal hW hS hSI hA hI _ _ _) ok_X7_judgeRefusal lk_RX7_253 (W_s0 hW) ⟨_, _, rfl⟩ rfl rfl (Nat.le_of_ble_eq_true rfl) (Nat.le_of_ble_eq_true rfl) (Nat.le_refl _) (Nat.le_refl _) eX7_turned_4) ?_
  refine Gd_istore4 rfl eX7_turned_7 ?_
  refine Gd_iload (i := 4) rfl eX7_turned_9 ?_
  refine Gd_if_eq eX7_turned_11 (fun c11 => ?_) (fun c11 => ?_)
  · obtain ⟨i, j, p, hi, hj, hpn, rfl, rfl, rfl, hso, hal, hle⟩ := tlw_ok hhu c11
    have hz := hSI.2 i hi
    have hp6 : p < 6 := by omega
    have hr := oTurned_u (ts := ts) (cd := cd) c11 hi hj hp6
    refine Gd_iconst ki_0 eX7_turned_17 ?_
    refine Gd_istore5 rfl eX7_turned_18 ?_
    refine Gd_iconst ki_0 eX7_turned_20 ?_
    refine Gd_istore6 rfl eX7_turned_21 ?_
    exact x_turned_L hW hI hTI hlt hi hj hal hle hz hpn (T := fun k => ok1 ts cd p (cl i) (cl j) (sz j) (fu φ 5 p (φ 5 p ^^^ 2 ^ k))) (fun _ => rfl) trivial 10 0 0 a (by omega) hA hT hS rfl chg_rf (fun a' k2 => ⟨a', by rw [hr], rfl, k2⟩)
  · refine Gd_iload (i := 4) rfl eX7_turned_14 ?_
    exact Gd_ireturn eX7_turned_16 rfl (Nat.le_refl _) (Nat.le_refl _) ⟨a, by rw [oTurned_r c11], rfl, chg_rf⟩
theorem m_laws_L {sh : List (Nat × Nat)} {r : Nat → Nat → Option Nat} {g : Nat → Nat → Int64} {φ ts cd : Nat → Nat → Nat} {nt : Nat} {so sz : Nat → Nat} {cl : Nat → Nat → Int32} (hW : WD sh r) (hI : FI φ) (hTI : TI nt ts cd) (hlt : φ 7 2 < nt) {i j p : Nat} (hi : i < 4) (hj : j < 4) (hal : allD (cl i) (sz i) = true) (hle : sz j ≤ sz i) (hz : sz i ≤ 40) (hpn : p < φ 7 3) {T : Nat → Bool} (hTd : ∀ k, T k = ok1 ts cd p (cl i) (cl j) (sz j) (fu φ 7 2 k)) {x4 : Int32} (hBN : True) {Q : Option g_V → g_H → Prop} {N0 : Nat} {a0 : Nat → Nat → Int32} : ∀ (n k x : Nat) (b : Nat) (a : Nat → Nat → Int32), k + n = nt → MA (fu φ 7 2 x) a → TM nt ts cd a → MS so sz cl a → b = fitB T k → chg scZ a0 a → (∀ a', MA φ a' → chg scZ a0 a' → Q (some (vi (nI (fitB T nt)))) (sh, a', r, g)) → Gd YX8_laws (z0 7 N0 Q) 0 0 29 [some (vr 50), some (vi (nI (i))), some (vi (nI (j))), some (vi (nI (p))), some (vi x4), some (vi (nI (φ 7 2))), some (vi (nI (b))), some (vi (nI (k)))] [] (sh, a, r, g)
  | 0, k, x, b, a, hn, hM, hT, hS, hb, hc, kq => by
    subst hb
    have hhu := FI_hu hI
    have hp6 : p < 6 := by omega
    have hnt6 := hTI.2.1
    refine Gd_iload (i := 7) rfl eX8_laws_29 ?_
    refine Gd_aload_n (i := 0) rfl eX8_laws_31 ?_
    refine Gd_getIe (v := nI (nt)) fl_RX8_99 (W_s50 hW) (hT.1 :) eX8_laws_32 ?_
    refine Gd_icmp_geN (by first | omega | decide) (by first | omega | decide) eX8_laws_35 (fun c35 => ?_) (fun c35 => ?_)
    · refine Gd_aload_n (i := 0) rfl eX8_laws_74 ?_
      refine Gd_iload (i := 5) rfl eX8_laws_75 ?_
      refine Gd_putI fl_RX8_102 (W_s50 hW) eX8_laws_77 ?_
      refine Gd_iload (i := 6) rfl eX8_laws_80 ?_
      exact Gd_ireturn eX8_laws_82 rfl (Nat.le_refl _) (Nat.le_refl _) (by rw [show k = nt by omega] at *; exact kq _ (MA_fid (MA_la2 hM)) (chg_up hc rfl))
    · exact absurd c35 (by omega)
  | n + 1, k, x, b, a, hn, hM, hT, hS, hb, hc, kq => by
    subst hb
    have hhu := FI_hu hI
    have hp6 : p < 6 := by omega
    have hnt6 := hTI.2.1
    refine Gd_iload (i := 7) rfl eX8_laws_29 ?_
    refine Gd_aload_n (i := 0) rfl eX8_laws_31 ?_
    refine Gd_getIe (v := nI (nt)) fl_RX8_99 (W_s50 hW) (hT.1 :) eX8_laws_32 ?_
    refine Gd_icmp_geN (by first | omega | decide) (by first | omega | decide) eX8_laws_35 (fun c35 => ?_) (fun c35 => ?_)
    · exact absurd c35 (by omega)
    · refine Gd_aload_n (i := 0) rfl eX8_laws_38 ?_
      refine Gd_iload (i := 7) rfl eX8_laws_39 ?_
      refine Gd_putI fl_RX8_102 (W_s50 hW) eX8_laws_41 ?_
      refine Gd_iload (i := 6) rfl eX8_laws_44 ?_
      refine Gd_aload_n (i := 0) rfl eX8_laws_46 ?_
      refine Gd_iload_n (i := 1) rfl eX8_laws_47 ?_
      refine Gd_iload_n (i := 2) rfl eX8_laws_48 ?_
      refine Gd_iload_n (i := 3) rfl eX8_laws_49 ?_
      have hM1 : MA (fu φ 7 2 k) _ := MA_la2 hM
      have hc1 : chg scZ a (up2 a 50 12 (nI k)) := chg_up chg_rf rfl
      refine Gd_callEV (g_cV (m_unlike (φ := fu φ 7 2 k) hW hM1 (FI_setla hI (by omega)) (TM_Z hT hc1) hTI (show k < nt by omega) (MS_Z hS hc1) (s := i) (t := j) (p := p) hi hj hal hle hz (hpn)) ok_X8_unlike lk_RX8_269 (W_s50 hW) ⟨_, _, rfl⟩ rfl rfl (Nat.le_of_ble_eq_true rfl) (Nat.le_of_ble_eq_true rfl) (Nat.le_refl _) (Nat.le_refl _) eX8_laws_50) (fun a3 hq3 => ?_)
      obtain ⟨hM3, hq3⟩ := hq3
      have hc3 : chg scZ a a3 := chg_tr hc1 (chg_mono2 scZ_K hq3)
      refine Gd_iconst ki_m1 eX8_laws_53 ?_
      refine Gd_icmp_ne eX8_laws_54 (fun c54 => ?_) (fun c54 => ?_)
      · refine Gd_iconst ki_0 eX8_laws_64 ?_
        refine Gd_iorN eX8_laws_65 ?_
        refine Gd_istore6 rfl eX8_laws_66 ?_
        refine Gd_iinc7 (ho := rfl) (he := nI_inc _) eX8_laws_68 ?_
        refine Gd_goto eX8_laws_71 ?_
        exact m_laws_L hW hI hTI hlt hi hj hal hle hz hpn hTd hBN n (k + 1) _ _ a3 (by omega) hM3 (TM_Z hT hc3) (MS_Z hS hc3) (fitB_n0 (by rw [hTd]; exact ok1_f c54)) (chg_tr hc hc3) kq
      · refine Gd_iconst ki_1 eX8_laws_57 ?_
        refine Gd_iload (i := 7) rfl eX8_laws_58 ?_
        refine Gd_ishl1 (by first | omega | decide) eX8_laws_60 ?_
        refine Gd_goto eX8_laws_61 ?_
        refine Gd_iorN eX8_laws_65 ?_
        refine Gd_istore6 rfl eX8_laws_66 ?_
        refine Gd_iinc7 (ho := rfl) (he := nI_inc _) eX8_laws_68 ?_
        refine Gd_goto eX8_laws_71 ?_
        exact m_laws_L hW hI hTI hlt hi hj hal hle hz hpn hTd hBN n (k + 1) _ _ a3 (by omega) hM3 (TM_Z hT hc3) (MS_Z hS hc3) (fitB_y (by rw [hTd]; exact ok1_t c54)) (chg_tr hc hc3) kq
theorem x_laws_L {sh : List (Nat × Nat)} {r : Nat → Nat → Option Nat} {g : Nat → Nat → Int64} {φ ts cd : Nat → Nat → Nat} {nt : Nat} {so sz : Nat → Nat} {cl : Nat → Nat → Int32} (hW : WD sh r) (hI : FI φ) (hTI : TI nt ts cd) (hlt : φ 7 2 < nt) {i j p : Nat} (hi : i < 4) (hj : j < 4) (hal : allD (cl i) (sz i) = true) (hle : sz j ≤ sz i) (hz : sz i ≤ 40) (hpn : p < φ 7 3) {T : Nat → Bool} (hTd : ∀ k, T k = ok1 ts cd p (cl i) (cl j) (sz j) (fu φ 7 2 k)) {x4 : Int32} (hBN : True) {Q : Option g_V → g_H → Prop} {N0 : Nat} {a0 : Nat → Nat → Int32} : ∀ (n k : Nat) (b : Nat) (a : Nat → Nat → Int32), k + n = nt → FA 1 φ a → TX nt ts cd sh a r → SX so sz cl a → b = fitB T k → chg scX a0 a → (∀ a', chg scX a0 a' → Q (some (vi (nI (fitB T nt)))) (sh, a', r, g)) → Gd YX7_laws (z0 7 N0 Q) 0 0 23 [some (vr 0), some (vi (nI (i))), some (vi (nI (j))), some (vi (nI (p))), some (vi x4), some (vi (nI (b))), some (vi (nI (k)))] [] (sh, a, r, g)
  | 0, k, b, a, hn, hA, hT, hS, hb, hc, kq => by
    subst hb
    have hhu := FI_hu hI
    have hp6 : p < 6 := by omega
    have hnt6 := hTI.2.1
    refine Gd_iload (i := 6) rfl eX7_laws_23 ?_
    refine Gd_aload_n (i := 0) rfl eX7_laws_25 ?_
    refine Gd_getR fl_RX7_36 (W_s0 hW) (W_r0_5 hW) eX7_laws_26 ?_
    refine Gd_getIe (v := nI (nt)) fl_RX7_106 (W_s31 hW) (hT.1 :) eX7_laws_29 ?_
    refine Gd_icmp_geN (by first | omega | decide) (by first | omega | decide) eX7_laws_32 (fun c32 => ?_) (fun c32 => ?_)
    · refine Gd_iload (i := 5) rfl eX7_laws_91 ?_
      exact Gd_ireturn eX7_laws_93 rfl (Nat.le_refl _) (Nat.le_refl _) (by rw [show k = nt by omega] at *; exact kq _ hc)
    · exact absurd c32 (by omega)
  | n + 1, k, b, a, hn, hA, hT, hS, hb, hc, kq => by
    subst hb
    have hhu := FI_hu hI
    have hp6 : p < 6 := by omega
    have hnt6 := hTI.2.1
    refine Gd_iload (i := 6) rfl eX7_laws_23 ?_
    refine Gd_aload_n (i := 0) rfl eX7_laws_25 ?_
    refine Gd_getR fl_RX7_36 (W_s0 hW) (W_r0_5 hW) eX7_laws_26 ?_
    refine Gd_getIe (v := nI (nt)) fl_RX7_106 (W_s31 hW) (hT.1 :) eX7_laws_29 ?_
    refine Gd_icmp_geN (by first | omega | decide) (by first | omega | decide) eX7_laws_32 (fun c32 => ?_) (fun c32 => ?_)
    · exact absurd c32 (by omega)
    · refine Gd_aload_n (i := 0) rfl eX7_laws_35 ?_
      refine Gd_getR fl_RX7_16 (W_s0 hW) (W_r0_1 hW) eX7_laws_36 ?_
      refine Gd_aload_n (i := 0) rfl eX7_laws_39 ?_
      refine Gd_getR fl_RX7_10 (W_s0 hW) (W_r0_0 hW) eX7_laws_40 ?_
      refine Gd_callE0 (g_cV (x_become9 hW hA) ok_X0_become lk_RX7_232 (W_s9 hW) ⟨_, _, rfl⟩ rfl rfl (Nat.le_of_ble_eq_true rfl) (Nat.le_of_ble_eq_true rfl) (Nat.le_refl _) (Nat.le_refl _) eX7_laws_43) (fun a2 hq2 => ?_)
      obtain ⟨hA2, hq2⟩ := hq2
      have hc2 : chg scX a a2 := chg_mono2 scX_9 hq2
      have hT2 := TX_X hT hc2
      have hS2 := SX_X hS hc2
      refine Gd_aload_n (i := 0) rfl eX7_laws_46 ?_
      refine Gd_getR fl_RX7_16 (W_s0 hW) (W_r0_1 hW) eX7_laws_47 ?_
      refine Gd_iload (i := 6) rfl eX7_laws_50 ?_
      refine Gd_putI fl_RX7_109 (W_s9 hW) eX7_laws_52 ?_
      refine Gd_aload_n (i := 0) rfl eX7_laws_55 ?_
      refine Gd_aload_n (i := 0) rfl eX7_laws_56 ?_
      refine Gd_getR fl_RX7_56 (W_s0 hW) (W_r0_8 hW) eX7_laws_57 ?_
      refine Gd_iload_n (i := 1) rfl eX7_laws_60 ?_
      refine Gd_aaldN (Or.inl ⟨rfl, rfl, rfl⟩ : g_rc 21 1 4) (W_s38 hW) (by first | omega | decide) (W_r38 hW (j := i) (by first | omega | decide)) eX7_laws_61 ?_
      refine Gd_aload_n (i := 0) rfl eX7_laws_62 ?_
      refine Gd_getR fl_RX7_56 (W_s0 hW) (W_r0_8 hW) eX7_laws_63 ?_
      refine Gd_iload_n (i := 2) rfl eX7_laws_66 ?_
      refine Gd_aaldN (Or.inl ⟨rfl, rfl, rfl⟩ : g_rc 21 1 4) (W_s38 hW) (by first | omega | decide) (W_r38 hW (j := j) (by first | omega | decide)) eX7_laws_67 ?_
      refine Gd_iload_n (i := 3) rfl eX7_laws_68 ?_
      have hA3 : FA 9 (fu φ 7 2 k) _ := FA_setla hA2
      have hc3 : chg scX a (up2 a2 9 3 (nI k)) := chg_up hc2 rfl
      refine Gd_callEV (g_cV (x_firstOtherwise (φ := fu φ 7 2 k) hW hA3 (FI_setla hI (by omega)) (TX_X hT hc3) hTI (show k < nt by omega) (SX_X hS hc3) (s := i) (t := j) (p := p) hi hj hal hle hz (hpn)) ok_X7_firstOtherwise lk_RX7_257 (W_s0 hW) ⟨_, _, rfl⟩ rfl rfl (Nat.le_of_ble_eq_true rfl) (Nat.le_of_ble_eq_true rfl) (Nat.le_refl _) (Nat.le_refl _) eX7_laws_69) (fun a3 hq3 => ?_)
      have hc4 : chg scX a a3 := chg_tr hc3 (chg_mono2 scX_T hq3)
      refine Gd_iconst ki_m1 eX7_laws_72 ?_
      refine Gd_icmp_ne eX7_laws_73 (fun c73 => ?_) (fun c73 => ?_)
      · refine Gd_iinc6 (ho := rfl) (he := nI_inc _) eX7_laws_85 ?_
        refine Gd_goto eX7_laws_88 ?_
        exact x_laws_L hW hI hTI hlt hi hj hal hle hz hpn hTd hBN n (k + 1) _ a3 (by omega) (FA_X hA hc4) (TX_X hT hc4) (SX_X hS hc4) (fitB_n (by rw [hTd]; exact ok1_f c73)) (chg_tr hc hc4) kq
      · refine Gd_iload (i := 5) rfl eX7_laws_76 ?_
        refine Gd_iconst ki_1 eX7_laws_78 ?_
        refine Gd_iload (i := 6) rfl eX7_laws_79 ?_
        refine Gd_ishl1 (by first | omega | decide) eX7_laws_81 ?_
        refine Gd_iorN eX7_laws_82 ?_
        refine Gd_istore5 rfl eX7_laws_83 ?_
        refine Gd_iinc6 (ho := rfl) (he := nI_inc _) eX7_laws_85 ?_
        refine Gd_goto eX7_laws_88 ?_
        exact x_laws_L hW hI hTI hlt hi hj hal hle hz hpn hTd hBN n (k + 1) _ a3 (by omega) (FA_X hA hc4) (TX_X hT hc4) (SX_X hS hc4) (fitB_y (by rw [hTd]; exact ok1_t c73)) (chg_tr hc hc4) kq
theorem m_laws {sh : List (Nat × Nat)} {a : Nat → Nat → Int32} {r : Nat → Nat → Option Nat} {g : Nat → Nat → Int64} {φ ts cd : Nat → Nat → Nat} {nt : Nat} {so sz : Nat → Nat} {cl : Nat → Nat → Int32} (hW : WD sh r) (hM : MA φ a) (hI : FI φ) (hT : TM nt ts cd a) (hTI : TI nt ts cd) (hlt : φ 7 2 < nt) (hS : MS so sz cl a) (hSI : SI so sz) (v0 v1 v2 : Int32) : Mt YX8_laws 7 0 0 [vr 50, vi v0, vi v1, vi v2] (sh, a, r, g) (g_EV sh r g (vi (oLaws φ ts cd nt so sz cl v0 v1 v2)) (fun a' => MA φ a' ∧ chg scZ a a')) := by
  refine Mt_of rfl (Nat.le_of_ble_eq_true rfl) rfl ?_
  have hhu := FI_hu hI
  refine Gd_aload_n (i := 0) rfl eX8_laws_0 ?_
  refine Gd_iload_n (i := 1) rfl eX8_laws_1 ?_
  refine Gd_iload_n (i := 2) rfl eX8_laws_2 ?_
  refine Gd_iload_n (i := 3) rfl eX8_laws_3 ?_
  refine Gd_callP (g_cV (m_toldWrong hW hM hI hS hSI _ _ _) ok_X8_toldWrong lk_RX8_266 (W_s50 hW) ⟨_, _, rfl⟩ rfl rfl (Nat.le_of_ble_eq_true rfl) (Nat.le_of_ble_eq_true rfl) (Nat.le_refl _) (Nat.le_refl _) eX8_laws_4) ?_
  refine Gd_istore4 rfl eX8_laws_7 ?_
  refine Gd_iload (i := 4) rfl eX8_laws_9 ?_
  refine Gd_if_eq eX8_laws_11 (fun c11 => ?_) (fun c11 => ?_)
  · obtain ⟨i, j, p, hi, hj, hpn, rfl, rfl, rfl, hso, hal, hle⟩ := tlw_ok hhu c11
    have hz := hSI.2 i hi
    have hp6 : p < 6 := by omega
    have hr := oLaws_u (ts := ts) (cd := cd) (nt := nt) c11 hi hj hp6
    refine Gd_aload_n (i := 0) rfl eX8_laws_17 ?_
    refine Gd_getIe (v := nI (φ 7 2)) fl_RX8_102 (W_s50 hW) (MA_la hM :) eX8_laws_18 ?_
    refine Gd_istore5 rfl eX8_laws_21 ?_
    refine Gd_iconst ki_0 eX8_laws_23 ?_
    refine Gd_istore6 rfl eX8_laws_24 ?_
    refine Gd_iconst ki_0 eX8_laws_26 ?_
    refine Gd_istore7 rfl eX8_laws_27 ?_
    exact m_laws_L hW hI hTI hlt hi hj hal hle hz hpn (T := fun k => ok1 ts cd p (cl i) (cl j) (sz j) (fu φ 7 2 k)) (fun _ => rfl) trivial nt 0 (φ 7 2) 0 a (by omega) (MA_fdi hM) hT hS rfl chg_rf (fun a' k1 k2 => ⟨a', by rw [hr], rfl, k1, k2⟩)
  · refine Gd_iload (i := 4) rfl eX8_laws_14 ?_
    exact Gd_ireturn eX8_laws_16 rfl (Nat.le_refl _) (Nat.le_refl _) ⟨a, by rw [oLaws_r c11], rfl, hM, chg_rf⟩
theorem x_laws {sh : List (Nat × Nat)} {a : Nat → Nat → Int32} {r : Nat → Nat → Option Nat} {g : Nat → Nat → Int64} {φ ts cd : Nat → Nat → Nat} {nt : Nat} {so sz : Nat → Nat} {cl : Nat → Nat → Int32} (hW : WD sh r) (hA : FA 1 φ a) (hI : FI φ) (hT : TX nt ts cd sh a r) (hTI : TI nt ts cd) (hlt : φ 7 2 < nt) (hS : SX so sz cl a) (hSI : SI so sz) (v0 v1 v2 : Int32) : Mt YX7_laws 7 0 0 [vr 0, vi v0, vi v1, vi v2] (sh, a, r, g) (g_EV sh r g (vi (oLaws φ ts cd nt so sz cl v0 v1 v2)) (fun a' => chg scX a a')) := by
  refine Mt_of rfl (Nat.le_of_ble_eq_true rfl) rfl ?_
  have hhu := FI_hu hI
  refine Gd_aload_n (i := 0) rfl eX7_laws_0 ?_
  refine Gd_iload_n (i := 1) rfl eX7_laws_1 ?_
  refine Gd_iload_n (i := 2) rfl eX7_laws_2 ?_
  refine Gd_iload_n (i := 3) rfl eX7_laws_3 ?_
  refine Gd_callP (g_cV (x_judgeRefusal hW hS hSI hA hI _ _ _) ok_X7_judgeRefusal lk_RX7_253 (W_s0 hW) ⟨_, _, rfl⟩ rfl rfl (Nat.le_of_ble_eq_true rfl) (Nat.le_of_ble_eq_true rfl) (Nat.le_refl _) (Nat.le_refl _) eX7_laws_4) ?_
  refine Gd_istore4 rfl eX7_laws_7 ?_
  refine Gd_iload (i := 4) rfl eX7_laws_9 ?_
  refine Gd_if_eq eX7_laws_11 (fun c11 => ?_) (fun c11 => ?_)
  · obtain ⟨i, j, p, hi, hj, hpn, rfl, rfl, rfl, hso, hal, hle⟩ := tlw_ok hhu c11
    have hz := hSI.2 i hi
    have hp6 : p < 6 := by omega
    have hr := oLaws_u (ts := ts) (cd := cd) (nt := nt) c11 hi hj hp6
    refine Gd_iconst ki_0 eX7_laws_17 ?_
    refine Gd_istore5 rfl eX7_laws_18 ?_
    refine Gd_iconst ki_0 eX7_laws_20 ?_
    refine Gd_istore6 rfl eX7_laws_21 ?_
    exact x_laws_L hW hI hTI hlt hi hj hal hle hz hpn (T := fun k => ok1 ts cd p (cl i) (cl j) (sz j) (fu φ 7 2 k)) (fun _ => rfl) trivial nt 0 0 a (by omega) hA hT hS rfl chg_rf (fun a' k2 => ⟨a', by rw [hr], rfl, k2⟩)
  · refine Gd_iload (i := 4) rfl eX7_laws_14 ?_
    exact Gd_ireturn eX7_laws_16 rfl (Nat.le_refl _) (Nat.le_refl _) ⟨a, by rw [oLaws_r c11], rfl, chg_rf⟩
theorem m_whose_L {sh : List (Nat × Nat)} {r : Nat → Nat → Option Nat} {g : Nat → Nat → Int64} {φ ts cd : Nat → Nat → Nat} {nt : Nat} {so sz : Nat → Nat} {cl : Nat → Nat → Int32} (hW : WD sh r) (hI : FI φ) (hTI : TI nt ts cd) (hlt : φ 7 2 < nt) {i j : Nat} (hi : i < 4) (hj : j < 4) (hal : allD (cl i) (sz i) = true) (hle : sz j ≤ sz i) (hz : sz i ≤ 40) {T : Nat → Bool} (hTd : ∀ k, T k = ok1 ts cd k (cl i) (cl j) (sz j) (φ)) {x3 : Int32} (hBN : True) {Q : Option g_V → g_H → Prop} {N0 : Nat} {a0 : Nat → Nat → Int32} : ∀ (n k : Nat) (b : Nat) (a : Nat → Nat → Int32), k + n = φ 7 3 → MA (φ) a → TM nt ts cd a → MS so sz cl a → b = fitB T k → chg scZ a0 a → (∀ a', MA φ a' → chg scZ a0 a' → Q (some (vi (nI (fitB T (φ 7 3))))) (sh, a', r, g)) → Gd YX8_whose (z0 7 N0 Q) 0 0 19 [some (vr 50), some (vi (nI (i))), some (vi (nI (j))), some (vi x3), some (vi (nI (b))), some (vi (nI (k)))] [] (sh, a, r, g)
  | 0, k, b, a, hn, hM, hT, hS, hb, hc, kq => by
    subst hb
    have hhu := FI_hu hI
    refine Gd_iload (i := 5) rfl eX8_whose_19 ?_
    refine Gd_aload_n (i := 0) rfl eX8_whose_21 ?_
    refine Gd_getIe (v := nI (φ 7 3)) fl_RX8_81 (W_s50 hW) (MA_hu hM :) eX8_whose_22 ?_
    refine Gd_icmp_geN (by first | omega | decide) (by first | omega | decide) eX8_whose_25 (fun c25 => ?_) (fun c25 => ?_)
    · refine Gd_iload (i := 4) rfl eX8_whose_59 ?_
      exact Gd_ireturn eX8_whose_61 rfl (Nat.le_refl _) (Nat.le_refl _) (by rw [show k = φ 7 3 by omega] at *; exact kq _ hM hc)
    · exact absurd c25 (by omega)
  | n + 1, k, b, a, hn, hM, hT, hS, hb, hc, kq => by
    subst hb
    have hhu := FI_hu hI
    refine Gd_iload (i := 5) rfl eX8_whose_19 ?_
    refine Gd_aload_n (i := 0) rfl eX8_whose_21 ?_
    refine Gd_getIe (v := nI (φ 7 3)) fl_RX8_81 (W_s50 hW) (MA_hu hM :) eX8_whose_22 ?_
    refine Gd_icmp_geN (by first | omega | decide) (by first | omega | decide) eX8_whose_25 (fun c25 => ?_) (fun c25 => ?_)
    · exact absurd c25 (by omega)
    · refine Gd_iload (i := 4) rfl eX8_whose_28 ?_
      refine Gd_aload_n (i := 0) rfl eX8_whose_30 ?_
      refine Gd_iload_n (i := 1) rfl eX8_whose_31 ?_
      refine Gd_iload_n (i := 2) rfl eX8_whose_32 ?_
      refine Gd_iload (i := 5) rfl eX8_whose_33 ?_
      have hM1 : MA (φ) _ := hM
      have hc1 : chg scZ a (a) := chg_rf
      refine Gd_callEV (g_cV (m_unlike (φ := φ) hW hM1 (hI) (TM_Z hT hc1) hTI (hlt) (MS_Z hS hc1) (s := i) (t := j) (p := k) hi hj hal hle hz (by omega)) ok_X8_unlike lk_RX8_269 (W_s50 hW) ⟨_, _, rfl⟩ rfl rfl (Nat.le_of_ble_eq_true rfl) (Nat.le_of_ble_eq_true rfl) (Nat.le_refl _) (Nat.le_refl _) eX8_whose_35) (fun a3 hq3 => ?_)
      obtain ⟨hM3, hq3⟩ := hq3
      have hc3 : chg scZ a a3 := chg_tr hc1 (chg_mono2 scZ_K hq3)
      refine Gd_iconst ki_m1 eX8_whose_38 ?_
      refine Gd_icmp_ne eX8_whose_39 (fun c39 => ?_) (fun c39 => ?_)
      · refine Gd_iconst ki_0 eX8_whose_49 ?_
        refine Gd_iorN eX8_whose_50 ?_
        refine Gd_istore4 rfl eX8_whose_51 ?_
        refine Gd_iinc5 (ho := rfl) (he := nI_inc _) eX8_whose_53 ?_
        refine Gd_goto eX8_whose_56 ?_
        exact m_whose_L hW hI hTI hlt hi hj hal hle hz hTd hBN n (k + 1)  _ a3 (by omega) hM3 (TM_Z hT hc3) (MS_Z hS hc3) (fitB_n0 (by rw [hTd]; exact ok1_f c39)) (chg_tr hc hc3) kq
      · refine Gd_iconst ki_1 eX8_whose_42 ?_
        refine Gd_iload (i := 5) rfl eX8_whose_43 ?_
        refine Gd_ishl1 (by first | omega | decide) eX8_whose_45 ?_
        refine Gd_goto eX8_whose_46 ?_
        refine Gd_iorN eX8_whose_50 ?_
        refine Gd_istore4 rfl eX8_whose_51 ?_
        refine Gd_iinc5 (ho := rfl) (he := nI_inc _) eX8_whose_53 ?_
        refine Gd_goto eX8_whose_56 ?_
        exact m_whose_L hW hI hTI hlt hi hj hal hle hz hTd hBN n (k + 1)  _ a3 (by omega) hM3 (TM_Z hT hc3) (MS_Z hS hc3) (fitB_y (by rw [hTd]; exact ok1_t c39)) (chg_tr hc hc3) kq
theorem x_whose_L {sh : List (Nat × Nat)} {r : Nat → Nat → Option Nat} {g : Nat → Nat → Int64} {φ ts cd : Nat → Nat → Nat} {nt : Nat} {so sz : Nat → Nat} {cl : Nat → Nat → Int32} (hW : WD sh r) (hI : FI φ) (hTI : TI nt ts cd) (hlt : φ 7 2 < nt) {i j : Nat} (hi : i < 4) (hj : j < 4) (hal : allD (cl i) (sz i) = true) (hle : sz j ≤ sz i) (hz : sz i ≤ 40) {T : Nat → Bool} (hTd : ∀ k, T k = ok1 ts cd k (cl i) (cl j) (sz j) (φ)) {x3 : Int32} (hBN : True) {Q : Option g_V → g_H → Prop} {N0 : Nat} {a0 : Nat → Nat → Int32} : ∀ (n k : Nat) (b : Nat) (a : Nat → Nat → Int32), k + n = φ 7 3 → FA 1 φ a → TX nt ts cd sh a r → SX so sz cl a → b = fitB T k → chg scX a0 a → (∀ a', chg scX a0 a' → Q (some (vi (nI (fitB T (φ 7 3))))) (sh, a', r, g)) → Gd YX7_whose (z0 7 N0 Q) 0 0 19 [some (vr 0), some (vi (nI (i))), some (vi (nI (j))), some (vi x3), some (vi (nI (b))), some (vi (nI (k)))] [] (sh, a, r, g)
  | 0, k, b, a, hn, hA, hT, hS, hb, hc, kq => by
    subst hb
    have hhu := FI_hu hI
    refine Gd_iload (i := 5) rfl eX7_whose_19 ?_
    refine Gd_aload_n (i := 0) rfl eX7_whose_21 ?_
    refine Gd_getR fl_RX7_10 (W_s0 hW) (W_r0_0 hW) eX7_whose_22 ?_
    refine Gd_getIe (v := nI (φ 7 3)) fl_RX7_90 (W_s1 hW) (FA_hu hA :) eX7_whose_25 ?_
    refine Gd_icmp_geN (by first | omega | decide) (by first | omega | decide) eX7_whose_28 (fun c28 => ?_) (fun c28 => ?_)
    · refine Gd_iload (i := 4) rfl eX7_whose_79 ?_
      exact Gd_ireturn eX7_whose_81 rfl (Nat.le_refl _) (Nat.le_refl _) (by rw [show k = φ 7 3 by omega] at *; exact kq _ hc)
    · exact absurd c28 (by omega)
  | n + 1, k, b, a, hn, hA, hT, hS, hb, hc, kq => by
    subst hb
    have hhu := FI_hu hI
    refine Gd_iload (i := 5) rfl eX7_whose_19 ?_
    refine Gd_aload_n (i := 0) rfl eX7_whose_21 ?_
    refine Gd_getR fl_RX7_10 (W_s0 hW) (W_r0_0 hW) eX7_whose_22 ?_
    refine Gd_getIe (v := nI (φ 7 3)) fl_RX7_90 (W_s1 hW) (FA_hu hA :) eX7_whose_25 ?_
    refine Gd_icmp_geN (by first | omega | decide) (by first | omega | decide) eX7_whose_28 (fun c28 => ?_) (fun c28 => ?_)
    · exact absurd c28 (by omega)
    · refine Gd_aload_n (i := 0) rfl eX7_whose_31 ?_
      refine Gd_getR fl_RX7_16 (W_s0 hW) (W_r0_1 hW) eX7_whose_32 ?_
      refine Gd_aload_n (i := 0) rfl eX7_whose_35 ?_
      refine Gd_getR fl_RX7_10 (W_s0 hW) (W_r0_0 hW) eX7_whose_36 ?_
      refine Gd_callE0 (g_cV (x_become9 hW hA) ok_X0_become lk_RX7_232 (W_s9 hW) ⟨_, _, rfl⟩ rfl rfl (Nat.le_of_ble_eq_true rfl) (Nat.le_of_ble_eq_true rfl) (Nat.le_refl _) (Nat.le_refl _) eX7_whose_39) (fun a2 hq2 => ?_)
      obtain ⟨hA2, hq2⟩ := hq2
      have hc2 : chg scX a a2 := chg_mono2 scX_9 hq2
      have hT2 := TX_X hT hc2
      have hS2 := SX_X hS hc2
      refine Gd_aload_n (i := 0) rfl eX7_whose_42 ?_
      refine Gd_aload_n (i := 0) rfl eX7_whose_43 ?_
      refine Gd_getR fl_RX7_56 (W_s0 hW) (W_r0_8 hW) eX7_whose_44 ?_
      refine Gd_iload_n (i := 1) rfl eX7_whose_47 ?_
      refine Gd_aaldN (Or.inl ⟨rfl, rfl, rfl⟩ : g_rc 21 1 4) (W_s38 hW) (by first | omega | decide) (W_r38 hW (j := i) (by first | omega | decide)) eX7_whose_48 ?_
      refine Gd_aload_n (i := 0) rfl eX7_whose_49 ?_
      refine Gd_getR fl_RX7_56 (W_s0 hW) (W_r0_8 hW) eX7_whose_50 ?_
      refine Gd_iload_n (i := 2) rfl eX7_whose_53 ?_
      refine Gd_aaldN (Or.inl ⟨rfl, rfl, rfl⟩ : g_rc 21 1 4) (W_s38 hW) (by first | omega | decide) (W_r38 hW (j := j) (by first | omega | decide)) eX7_whose_54 ?_
      refine Gd_iload (i := 5) rfl eX7_whose_55 ?_
      have hA3 : FA 9 (φ) _ := hA2
      have hc3 : chg scX a (a2) := hc2
      refine Gd_callEV (g_cV (x_firstOtherwise (φ := φ) hW hA3 (hI) (TX_X hT hc3) hTI (hlt) (SX_X hS hc3) (s := i) (t := j) (p := k) hi hj hal hle hz (by omega)) ok_X7_firstOtherwise lk_RX7_257 (W_s0 hW) ⟨_, _, rfl⟩ rfl rfl (Nat.le_of_ble_eq_true rfl) (Nat.le_of_ble_eq_true rfl) (Nat.le_refl _) (Nat.le_refl _) eX7_whose_57) (fun a3 hq3 => ?_)
      have hc4 : chg scX a a3 := chg_tr hc3 (chg_mono2 scX_T hq3)
      refine Gd_iconst ki_m1 eX7_whose_60 ?_
      refine Gd_icmp_ne eX7_whose_61 (fun c61 => ?_) (fun c61 => ?_)
      · refine Gd_iinc5 (ho := rfl) (he := nI_inc _) eX7_whose_73 ?_
        refine Gd_goto eX7_whose_76 ?_
        exact x_whose_L hW hI hTI hlt hi hj hal hle hz hTd hBN n (k + 1) _ a3 (by omega) (FA_X hA hc4) (TX_X hT hc4) (SX_X hS hc4) (fitB_n (by rw [hTd]; exact ok1_f c61)) (chg_tr hc hc4) kq
      · refine Gd_iload (i := 4) rfl eX7_whose_64 ?_
        refine Gd_iconst ki_1 eX7_whose_66 ?_
        refine Gd_iload (i := 5) rfl eX7_whose_67 ?_
        refine Gd_ishl1 (by first | omega | decide) eX7_whose_69 ?_
        refine Gd_iorN eX7_whose_70 ?_
        refine Gd_istore4 rfl eX7_whose_71 ?_
        refine Gd_iinc5 (ho := rfl) (he := nI_inc _) eX7_whose_73 ?_
        refine Gd_goto eX7_whose_76 ?_
        exact x_whose_L hW hI hTI hlt hi hj hal hle hz hTd hBN n (k + 1) _ a3 (by omega) (FA_X hA hc4) (TX_X hT hc4) (SX_X hS hc4) (fitB_y (by rw [hTd]; exact ok1_t c61)) (chg_tr hc hc4) kq
theorem m_whose {sh : List (Nat × Nat)} {a : Nat → Nat → Int32} {r : Nat → Nat → Option Nat} {g : Nat → Nat → Int64} {φ ts cd : Nat → Nat → Nat} {nt : Nat} {so sz : Nat → Nat} {cl : Nat → Nat → Int32} (hW : WD sh r) (hM : MA φ a) (hI : FI φ) (hT : TM nt ts cd a) (hTI : TI nt ts cd) (hlt : φ 7 2 < nt) (hS : MS so sz cl a) (hSI : SI so sz) (v0 v1 : Int32) : Mt YX8_whose 7 0 0 [vr 50, vi v0, vi v1] (sh, a, r, g) (g_EV sh r g (vi (oWhose φ ts cd so sz cl v0 v1)) (fun a' => MA φ a' ∧ chg scZ a a')) := by
  refine Mt_of rfl (Nat.le_of_ble_eq_true rfl) rfl ?_
  have hhu := FI_hu hI
  refine Gd_aload_n (i := 0) rfl eX8_whose_0 ?_
  refine Gd_iload_n (i := 1) rfl eX8_whose_1 ?_
  refine Gd_iload_n (i := 2) rfl eX8_whose_2 ?_
  refine Gd_callP (g_cV (m_twoWrong hW hS hSI _ _) ok_X8_twoWrong lk_RX8_263 (W_s50 hW) ⟨_, _, rfl⟩ rfl rfl (Nat.le_of_ble_eq_true rfl) (Nat.le_of_ble_eq_true rfl) (Nat.le_refl _) (Nat.le_refl _) eX8_whose_3) ?_
  refine Gd_istore_n3 rfl eX8_whose_6 ?_
  refine Gd_iload_n (i := 3) rfl eX8_whose_7 ?_
  refine Gd_if_eq eX8_whose_8 (fun c8 => ?_) (fun c8 => ?_)
  · obtain ⟨i, j, hi, hj, rfl, rfl, hso, hal, hle⟩ := twr_ok c8
    have hz := hSI.2 i hi
    have hr := oWhose_u (φ := φ) (ts := ts) (cd := cd) c8 hi hj
    refine Gd_iconst ki_0 eX8_whose_13 ?_
    refine Gd_istore4 rfl eX8_whose_14 ?_
    refine Gd_iconst ki_0 eX8_whose_16 ?_
    refine Gd_istore5 rfl eX8_whose_17 ?_
    exact m_whose_L hW hI hTI hlt hi hj hal hle hz (T := fun k => ok1 ts cd k (cl i) (cl j) (sz j) φ) (fun _ => rfl) trivial (φ 7 3) 0 0 a (by omega) hM hT hS rfl chg_rf (fun a' k1 k2 => ⟨a', by rw [hr], rfl, k1, k2⟩)
  · refine Gd_iload_n (i := 3) rfl eX8_whose_11 ?_
    exact Gd_ireturn eX8_whose_12 rfl (Nat.le_refl _) (Nat.le_refl _) ⟨a, by rw [oWhose_r c8], rfl, hM, chg_rf⟩
theorem x_whose {sh : List (Nat × Nat)} {a : Nat → Nat → Int32} {r : Nat → Nat → Option Nat} {g : Nat → Nat → Int64} {φ ts cd : Nat → Nat → Nat} {nt : Nat} {so sz : Nat → Nat} {cl : Nat → Nat → Int32} (hW : WD sh r) (hA : FA 1 φ a) (hI : FI φ) (hT : TX nt ts cd sh a r) (hTI : TI nt ts cd) (hlt : φ 7 2 < nt) (hS : SX so sz cl a) (hSI : SI so sz) (v0 v1 : Int32) : Mt YX7_whose 7 0 0 [vr 0, vi v0, vi v1] (sh, a, r, g) (g_EV sh r g (vi (oWhose φ ts cd so sz cl v0 v1)) (fun a' => chg scX a a')) := by
  refine Mt_of rfl (Nat.le_of_ble_eq_true rfl) rfl ?_
  have hhu := FI_hu hI
  refine Gd_aload_n (i := 0) rfl eX7_whose_0 ?_
  refine Gd_iload_n (i := 1) rfl eX7_whose_1 ?_
  refine Gd_iload_n (i := 2) rfl eX7_whose_2 ?_
  refine Gd_callP (g_cV (x_tellingRefusal hW hS hSI _ _) ok_X7_tellingRefusal lk_RX7_261 (W_s0 hW) ⟨_, _, rfl⟩ rfl rfl (Nat.le_of_ble_eq_true rfl) (Nat.le_of_ble_eq_true rfl) (Nat.le_refl _) (Nat.le_refl _) eX7_whose_3) ?_
  refine Gd_istore_n3 rfl eX7_whose_6 ?_
  refine Gd_iload_n (i := 3) rfl eX7_whose_7 ?_
  refine Gd_if_eq eX7_whose_8 (fun c8 => ?_) (fun c8 => ?_)
  · obtain ⟨i, j, hi, hj, rfl, rfl, hso, hal, hle⟩ := twr_ok c8
    have hz := hSI.2 i hi
    have hr := oWhose_u (φ := φ) (ts := ts) (cd := cd) c8 hi hj
    refine Gd_iconst ki_0 eX7_whose_13 ?_
    refine Gd_istore4 rfl eX7_whose_14 ?_
    refine Gd_iconst ki_0 eX7_whose_16 ?_
    refine Gd_istore5 rfl eX7_whose_17 ?_
    exact x_whose_L hW hI hTI hlt hi hj hal hle hz (T := fun k => ok1 ts cd k (cl i) (cl j) (sz j) φ) (fun _ => rfl) trivial (φ 7 3) 0 0 a (by omega) hA hT hS rfl chg_rf (fun a' k2 => ⟨a', by rw [hr], rfl, k2⟩)
  · refine Gd_iload_n (i := 3) rfl eX7_whose_11 ?_
    exact Gd_ireturn eX7_whose_12 rfl (Nat.le_refl _) (Nat.le_refl _) ⟨a, by rw [oWhose_r c8], rfl, chg_rf⟩
