def scXC (k j : Nat) : Bool := scX k j || scCx k j
theorem scXC_X {k j : Nat} (h : scXC k j = false) : scX k j = false := by simp [scXC] at h; exact h.1
theorem scXC_C {k j : Nat} (h : scXC k j = false) : scCx k j = false := by simp [scXC] at h; exact h.2
theorem runs_s0 {ts cd φ : g_Fo} {p k : Nat} {f : Nat → Int32} : runs ts cd p f (k + 1) 0 φ = shot (runs ts cd p f k 0 φ) ts cd p (cN f k) := by rw [runs_sn, Nat.zero_add]
theorem TX_C {nt : Nat} {ts cd : g_Fo} {sh : List (Nat × Nat)} {a a' : Nat → Nat → Int32} {r : Nat → Nat → Option Nat} (h : TX nt ts cd sh a r) (hc : chg scCx a a') : TX nt ts cd sh a' r := TX_ch h hc rfl (fun k j hk => by simp [scCx]; omega)
theorem flg_n {φ ts cd : g_Fo} {p n : Nat} {f : Nat → Int32} : flg φ ts cd p f n = flf φ ts cd p f n := rfl
theorem x_film_L {sh : List (Nat × Nat)} {r : Nat → Nat → Option Nat} {g : Nat → Nat → Int64} {φ ts cd : Nat → Nat → Nat} {nt : Nat} {so sz : Nat → Nat} {cl : Nat → Nat → Int32} (hW : WD sh r) (hI : FI φ) (hTI : TI nt ts cd) (hlt : φ 7 2 < nt) {i j p : Nat} (hi : i < 4) (hj : j < 4) (hij : i ≠ j) (hal : allD (cl i) (sz i) = true) (hz : sz i ≤ 40) (hpn : p < φ 7 3) (hSI : SI so sz) {x4 : Int32} {Q : Option g_V → g_H → Prop} {N0 : Nat} {a0 : Nat → Nat → Int32} : ∀ (n k : Nat) (a : Nat → Nat → Int32), k + n = sz i → FA 9 (runs ts cd p (cl i) k 0 φ) a → TX nt ts cd sh a r → SX (shw (so, sz, cl) j 0 (sz i) (flg φ ts cd p (cl i) k)).1 (shw (so, sz, cl) j 0 (sz i) (flg φ ts cd p (cl i) k)).2.1 (shw (so, sz, cl) j 0 (sz i) (flg φ ts cd p (cl i) k)).2.2 a → chg scXC a0 a → (∀ a', SX (shw (so, sz, cl) j 0 (sz i) (flg φ ts cd p (cl i) (sz i))).1 (shw (so, sz, cl) j 0 (sz i) (flg φ ts cd p (cl i) (sz i))).2.1 (shw (so, sz, cl) j 0 (sz i) (flg φ ts cd p (cl i) (sz i))).2.2 a' → chg scXC a0 a' → Q (some (vi (nI (sz i)))) (sh, a', r, g)) → Gd YX7_film (z0 6 N0 Q) 0 0 82 [some (vr 0), some (vi (nI i)), some (vi (nI j)), some (vi (nI p)), some (vi x4), some (vr (39 + 2 * i)), some (vr (39 + 2 * j)), some (vi (nI k))] [] (sh, a, r, g)
  | 0, k, a, hn, hA, hT, hS, hc, kq => by
    have hhu := FI_hu hI
    have hp6 : p < 6 := by omega
    refine Gd_iload (i := 7) rfl eX7_film_82 ?_
    refine Gd_aload (i := 5) rfl eX7_film_84 ?_
    refine Gd_getIe (v := nI (sz i)) fl_RX7_267 (W_Sj hW (j := i) (by first | omega | decide)).1 ((hS.2.1 i hi).trans (congrArg nI (va_up_n _ _ hij)) :) eX7_film_86 ?_
    refine Gd_icmp_geN (by first | omega | decide) (by first | omega | decide) eX7_film_89 (fun c89 => ?_) (fun c89 => ?_)
    · refine Gd_aload (i := 5) rfl eX7_film_135 ?_
      refine Gd_getIe (v := nI (sz i)) fl_RX7_267 (W_Sj hW (j := i) (by first | omega | decide)).1 ((hS.2.1 i hi).trans (congrArg nI (va_up_n _ _ hij)) :) eX7_film_137 ?_
      exact Gd_ireturn eX7_film_140 rfl (Nat.le_refl _) (Nat.le_refl _) (by rw [show k = sz i by omega] at *; exact kq _ hS hc)
    · exact absurd c89 (by omega)
  | n + 1, k, a, hn, hA, hT, hS, hc, kq => by
    have hhu := FI_hu hI
    have hp6 : p < 6 := by omega
    refine Gd_iload (i := 7) rfl eX7_film_82 ?_
    refine Gd_aload (i := 5) rfl eX7_film_84 ?_
    refine Gd_getIe (v := nI (sz i)) fl_RX7_267 (W_Sj hW (j := i) (by first | omega | decide)).1 ((hS.2.1 i hi).trans (congrArg nI (va_up_n _ _ hij)) :) eX7_film_86 ?_
    refine Gd_icmp_geN (by first | omega | decide) (by first | omega | decide) eX7_film_89 (fun c89 => ?_) (fun c89 => ?_)
    · exact absurd c89 (by omega)
    · have hci := allD_cN hal (i := k) (by omega)
      have hIk : FI (runs ts cd p (cl i) k 0 φ) := FI_runs hp6 _ 0 φ hI (by rw [Nat.zero_add]; exact allD_le (by omega) hal)
      have hltk : (runs ts cd p (cl i) k 0 φ) 7 2 < nt := by rw [runs_k (by decide) (by decide) (by decide)]; exact hlt
      have hpk : p < (runs ts cd p (cl i) k 0 φ) 7 3 := by rw [runs_k (by decide) (by decide) (by decide)]; exact hpn
      refine Gd_aload_n (i := 0) rfl eX7_film_92 ?_
      refine Gd_getR fl_RX7_36 (W_s0 hW) (W_r0_5 hW) eX7_film_93 ?_
      refine Gd_aload_n (i := 0) rfl eX7_film_96 ?_
      refine Gd_getR fl_RX7_16 (W_s0 hW) (W_r0_1 hW) eX7_film_97 ?_
      refine Gd_iload_n (i := 3) rfl eX7_film_100 ?_
      refine Gd_aload (i := 5) rfl eX7_film_101 ?_
      refine Gd_getR fl_RX7_270 (W_Sj hW (j := i) (by first | omega | decide)).1 (W_Sj hW (j := i) (by first | omega | decide)).2.2 eX7_film_103 ?_
      refine Gd_iload (i := 7) rfl eX7_film_106 ?_
      refine Gd_ialdE (v := nI (cN (cl i) k)) (W_Sj hW (j := i) (by first | omega | decide)).2.1 (by first | omega | decide) ((hS.2.2 i hi k (by omega)).trans ((congrFun (va_up_n _ _ hij) k).trans hci.1) :) eX7_film_108 ?_
      refine Gd_callEV (g_cV (x_shot (φ := runs ts cd p (cl i) k 0 φ) hW (W_F9 hW) (by decide) hA hIk hT hTI hltk hpk hci.2) ok_X3_shot lk_RX7_223 (W_s31 hW) ⟨_, _, rfl⟩ rfl rfl (Nat.le_of_ble_eq_true rfl) (Nat.le_of_ble_eq_true rfl) (Nat.le_refl _) (Nat.le_refl _) eX7_film_109) (fun a2 hq => ?_)
      obtain ⟨hA2, hq⟩ := hq
      have hIk2 := FI_shot (ts := ts) (cd := cd) (p := p) (d := cN (cl i) k) hIk hp6 hci.2
      rw [← runs_s0] at hA2 hIk2
      have hho := FI_ho hIk2 hp6
      have hS2 : SX (shw (so, sz, cl) j 0 (sz i) (flg φ ts cd p (cl i) k)).1 (shw (so, sz, cl) j 0 (sz i) (flg φ ts cd p (cl i) k)).2.1 (shw (so, sz, cl) j 0 (sz i) (flg φ ts cd p (cl i) k)).2.2 a2 := SX_X hS (chg_mono2 scX_T hq)
      refine Gd_pop rfl eX7_film_112 ?_
      refine Gd_aload (i := 6) rfl eX7_film_113 ?_
      refine Gd_iload (i := 7) rfl eX7_film_115 ?_
      refine Gd_aload_n (i := 0) rfl eX7_film_117 ?_
      refine Gd_getR fl_RX7_16 (W_s0 hW) (W_r0_1 hW) eX7_film_118 ?_
      refine Gd_getR fl_RX7_158 (W_s9 hW) (W_r9_7 hW) eX7_film_121 ?_
      refine Gd_iload_n (i := 3) rfl eX7_film_124 ?_
      refine Gd_ialdE (v := nI (runs ts cd p (cl i) (k + 1) 0 φ 3 p)) (W_s13 hW) (by first | omega | decide) (FA_ho hA2 (p := p) hp6 :) eX7_film_125 ?_
      refine Gd_callE0 (g_cV (x_set hW hS2 (SI_shw hSI (Or.inr (by decide)) hz) (j := j) (i := k) hj (by rw [show (shw (so, sz, cl) j 0 (sz i) (flg φ ts cd p (cl i) k)).1 j = 0 from va_up_s _ _ _]; omega) (by omega) _) ok_X4_set lk_RX7_273 (W_Sj hW (j := j) (by first | omega | decide)).1 ⟨_, _, rfl⟩ rfl rfl (Nat.le_of_ble_eq_true rfl) (Nat.le_of_ble_eq_true rfl) (Nat.le_refl _) (Nat.le_refl _) eX7_film_126) (fun a3 hq3 => ?_)
      obtain ⟨hS3, hq3⟩ := hq3
      have hcs : cst ((shw (so, sz, cl) j 0 (sz i) (flg φ ts cd p (cl i) k)).1 j) (nI (runs ts cd p (cl i) (k + 1) 0 φ 3 p)) = nI (runs ts cd p (cl i) (k + 1) 0 φ 3 p) := by rw [show (shw (so, sz, cl) j 0 (sz i) (flg φ ts cd p (cl i) k)).1 j = 0 from va_up_s _ _ _, cst, if_pos rfl, i8_99 _ (by omega)]
      rw [hcs] at hS3
      have hS4 : SX (shw (so, sz, cl) j 0 (sz i) (flg φ ts cd p (cl i) (k + 1))).1 (shw (so, sz, cl) j 0 (sz i) (flg φ ts cd p (cl i) (k + 1))).2.1 (shw (so, sz, cl) j 0 (sz i) (flg φ ts cd p (cl i) (k + 1))).2.2 a3 := by rw [← shw_she]; exact hS3
      have hc3 := chg_mono2 (T := scCx) (scCx_J hj) hq3
      refine Gd_iinc7 (ho := rfl) (he := nI_inc _) eX7_film_129 ?_
      refine Gd_goto eX7_film_132 ?_
      exact x_film_L hW hI hTI hlt hi hj hij hal hz hpn hSI n (k + 1) a3 (by omega) (FA_ch hA2 hc3 (fun i j hi => by simp [scCx]; omega)) (TX_C (TX_T hT (by decide) hq) hc3) hS4 (chg_tr hc (chg_tr (chg_mono2 (fun q => scX_T (scXC_X q)) hq) (chg_mono2 scXC_C hc3))) kq
theorem x_film {sh : List (Nat × Nat)} {a : Nat → Nat → Int32} {r : Nat → Nat → Option Nat} {g : Nat → Nat → Int64} {φ ts cd : Nat → Nat → Nat} {nt : Nat} {so sz : Nat → Nat} {cl : Nat → Nat → Int32} (hW : WD sh r) (hA : FA 1 φ a) (hI : FI φ) (hT : TX nt ts cd sh a r) (hTI : TI nt ts cd) (hlt : φ 7 2 < nt) (hS : SX so sz cl a) (hSI : SI so sz) (vs vt vp : Int32) : Mt YX7_film 6 0 0 [vr 0, vi vs, vi vt, vi vp] (sh, a, r, g) (g_EV sh r g (vi (rFilm φ ts cd (so, sz, cl) vs vt vp).1) (fun a' => SX (rFilm φ ts cd (so, sz, cl) vs vt vp).2.1 (rFilm φ ts cd (so, sz, cl) vs vt vp).2.2.1 (rFilm φ ts cd (so, sz, cl) vs vt vp).2.2.2 a' ∧ chg scXC a a')) := by
  refine Mt_of rfl (Nat.le_of_ble_eq_true rfl) rfl ?_
  have hhu := FI_hu hI
  refine Gd_iload_n (i := 2) rfl eX7_film_0 ?_
  refine Gd_callP (g_cS (x_isSheet _) ok_X7_isSheet lk_RX7_264 rfl rfl (Nat.le_of_ble_eq_true rfl) (Nat.le_of_ble_eq_true rfl) (Nat.le_refl _) (Nat.le_refl _) eX7_film_1) ?_
  refine Gd_if_eqB eX7_film_4 (fun c4 => ?_) (fun c4 => ?_)
  · refine Gd_bipush kb_m2 eX7_film_12 ?_
    exact Gd_ireturn eX7_film_14 rfl (Nat.le_refl _) (Nat.le_refl _) (by rw [rFilm_t (Or.inl c4)]; exact ⟨a, rfl, rfl, hS, chg_rf⟩)
  · refine Gd_iload_n (i := 2) rfl eX7_film_7 ?_
    refine Gd_iload_n (i := 1) rfl eX7_film_8 ?_
    refine Gd_icmp_ne eX7_film_9 (fun c9 => ?_) (fun c9 => ?_)
    · have hj0 := c4
      obtain ⟨j, hj, rfl⟩ := inr_t hj0 (by decide)
      have hrt : ¬ (inr (nI j) 4 = false ∨ vs = nI j) := fun z => z.elim (fun z => by rw [hj0] at z; exact absurd z (by decide)) (fun z => c9 z.symm)
      refine Gd_aload_n (i := 0) rfl eX7_film_15 ?_
      refine Gd_iload_n (i := 1) rfl eX7_film_16 ?_
      refine Gd_callP (g_cV (x_seasonRefusal hW hS hSI _) ok_X7_seasonRefusal lk_RX7_229 (W_s0 hW) ⟨_, _, rfl⟩ rfl rfl (Nat.le_of_ble_eq_true rfl) (Nat.le_of_ble_eq_true rfl) (Nat.le_refl _) (Nat.le_refl _) eX7_film_17) ?_
      refine Gd_istore4 rfl eX7_film_20 ?_
      refine Gd_iload (i := 4) rfl eX7_film_22 ?_
      refine Gd_if_eq eX7_film_24 (fun c24 => ?_) (fun c24 => ?_)
      · refine Gd_aload_n (i := 0) rfl eX7_film_30 ?_
        refine Gd_iload_n (i := 3) rfl eX7_film_31 ?_
        refine Gd_callP (g_cV (x_isHunter hW hA hI _) ok_X7_isHunter lk_RX7_140 (W_s0 hW) ⟨_, _, rfl⟩ rfl rfl (Nat.le_of_ble_eq_true rfl) (Nat.le_of_ble_eq_true rfl) (Nat.le_refl _) (Nat.le_refl _) eX7_film_32) ?_
        refine Gd_if_neB eX7_film_35 (fun c35 => ?_) (fun c35 => ?_)
        · have hown : owr so sz cl (φ 7 3) vs vp = 0 := by rw [owr, if_pos c24, if_pos c35, nI_0]
          obtain ⟨i, p, hi, hpn, rfl, rfl, hso, hal⟩ := owr_ok hhu hown
          have hz := hSI.2 i hi
          have hp6 : p < 6 := by omega
          have hij : i ≠ j := fun e => c9 (by rw [e])
          have hr := rFilm_u (φ := φ) (ts := ts) (cd := cd) (S := (so, sz, cl)) hi hj hij hp6 hown
          refine Gd_aload_n (i := 0) rfl eX7_film_41 ?_
          refine Gd_getR fl_RX7_56 (W_s0 hW) (W_r0_8 hW) eX7_film_42 ?_
          refine Gd_iload_n (i := 1) rfl eX7_film_45 ?_
          refine Gd_aaldN (Or.inl ⟨rfl, rfl, rfl⟩ : g_rc 21 1 4) (W_s38 hW) (by first | omega | decide) (W_r38 hW (j := i) (by first | omega | decide)) eX7_film_46 ?_
          refine Gd_astore5 rfl eX7_film_47 ?_
          refine Gd_aload_n (i := 0) rfl eX7_film_49 ?_
          refine Gd_getR fl_RX7_56 (W_s0 hW) (W_r0_8 hW) eX7_film_50 ?_
          refine Gd_iload_n (i := 2) rfl eX7_film_53 ?_
          refine Gd_aaldN (Or.inl ⟨rfl, rfl, rfl⟩ : g_rc 21 1 4) (W_s38 hW) (by first | omega | decide) (W_r38 hW (j := j) (by first | omega | decide)) eX7_film_54 ?_
          refine Gd_astore6 rfl eX7_film_55 ?_
          refine Gd_aload (i := 6) rfl eX7_film_57 ?_
          refine Gd_iconst ki_0 eX7_film_59 ?_
          refine Gd_aload (i := 5) rfl eX7_film_60 ?_
          refine Gd_getIe (v := nI (sz i)) fl_RX7_267 (W_Sj hW (j := i) (by first | omega | decide)).1 (hS.2.1 i (by first | omega | decide) :) eX7_film_62 ?_
          refine Gd_callE0 (g_cV (x_sbecome hW hS (j := j) (o := 0) (n := sz i) hj rfl) ok_X4_become lk_RX7_268 (W_Sj hW (j := j) (by first | omega | decide)).1 ⟨_, _, rfl⟩ rfl rfl (Nat.le_of_ble_eq_true rfl) (Nat.le_of_ble_eq_true rfl) (Nat.le_refl _) (Nat.le_refl _) eX7_film_65) (fun a2 hq2 => ?_)
          obtain ⟨hS2, hq2⟩ := hq2
          rw [shz_shw (φ := φ) (ts := ts) (cd := cd) (p := p) (f := cl i)] at hS2
          have hc2 := chg_mono2 (T := scCx) (scCx_J hj) hq2
          refine Gd_aload_n (i := 0) rfl eX7_film_68 ?_
          refine Gd_getR fl_RX7_16 (W_s0 hW) (W_r0_1 hW) eX7_film_69 ?_
          refine Gd_aload_n (i := 0) rfl eX7_film_72 ?_
          refine Gd_getR fl_RX7_10 (W_s0 hW) (W_r0_0 hW) eX7_film_73 ?_
          refine Gd_callE0 (g_cV (x_become9 hW (FA_ch hA hc2 (fun i j hi => by simp [scCx]; omega))) ok_X0_become lk_RX7_232 (W_s9 hW) ⟨_, _, rfl⟩ rfl rfl (Nat.le_of_ble_eq_true rfl) (Nat.le_of_ble_eq_true rfl) (Nat.le_refl _) (Nat.le_refl _) eX7_film_76) (fun a3 hq3 => ?_)
          obtain ⟨hA3, hq3⟩ := hq3
          have hc3 : chg scX a2 a3 := chg_mono2 scX_9 hq3
          refine Gd_iconst ki_0 eX7_film_79 ?_
          refine Gd_istore7 rfl eX7_film_80 ?_
          exact x_film_L hW hI hTI hlt hi hj hij hal hz hpn hSI (sz i) 0 a3 (by omega) hA3 (TX_X (TX_C hT hc2) hc3) (SX_X hS2 hc3) (chg_tr (chg_mono2 scXC_C hc2) (chg_mono2 scXC_X hc3)) (fun a' k1 k2 => by rw [hr]; exact ⟨a', rfl, rfl, k1, k2⟩)
        · refine Gd_bipush kb_m5 eX7_film_38 ?_
          exact Gd_ireturn eX7_film_40 rfl (Nat.le_refl _) (Nat.le_refl _) (by rw [rFilm_r hrt (by show ¬ owr so sz cl (φ 7 3) vs vp = 0; rw [owr, if_pos c24, if_neg (by rw [c35]; decide)]; decide)]; exact ⟨a, by rw [owr, if_pos c24, if_neg (by rw [c35]; decide)], rfl, hS, chg_rf⟩)
      · refine Gd_iload (i := 4) rfl eX7_film_27 ?_
        exact Gd_ireturn eX7_film_29 rfl (Nat.le_refl _) (Nat.le_refl _) (by rw [rFilm_r hrt (by show ¬ owr so sz cl (φ 7 3) vs vp = 0; rw [owr, if_neg c24]; exact c24)]; exact ⟨a, by rw [owr, if_neg c24], rfl, hS, chg_rf⟩)
    · refine Gd_bipush kb_m2 eX7_film_12 ?_
      exact Gd_ireturn eX7_film_14 rfl (Nat.le_refl _) (Nat.le_refl _) (by rw [rFilm_t (Or.inr c9.symm)]; exact ⟨a, rfl, rfl, hS, chg_rf⟩)
