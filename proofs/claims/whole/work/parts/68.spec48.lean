def scQ (k j : Nat) : Bool := scZ k j || decide (k = 62)
theorem scQ_Z {k j : Nat} (h : scQ k j = false) : scZ k j = false := by simp [scQ] at h; exact h.1
theorem scQ_62 {k j : Nat} (h : scQ k j = false) : sR 62 k j = false := by simp [scQ] at h; simp [sR]; exact h.2
def scFi (k j : Nat) : Bool := scQ k j || decide (k = 60 ∨ k = 61)
theorem scFi_Q {k j : Nat} (h : scFi k j = false) : scQ k j = false := by simp [scFi] at h; exact h.1
theorem runs_mn {ts cd φ : g_Fo} {p n k : Nat} {f : Nat → Int32} (h : n ≤ k) : runs ts cd p f (min k n) 0 φ = runs ts cd p f n 0 φ := by rw [Nat.min_eq_right h]
theorem runs_mk {ts cd φ : g_Fo} {p n k : Nat} {f : Nat → Int32} (h : k < n) : runs ts cd p f (min (k + 1) n) 0 φ = shot (runs ts cd p f (min k n) 0 φ) ts cd p (cN f k) := by
  rw [Nat.min_eq_left (by omega), Nat.min_eq_left (by omega), runs_sn, Nat.zero_add]
theorem allD_le {f : Nat → Int32} {m : Nat} : ∀ {n : Nat}, m ≤ n → allD f n = true → allD f m = true
  | 0, h, q => by rw [show m = 0 by omega]; exact q
  | n + 1, h, q => by
    by_cases e : m = n + 1
    · rw [e]; exact q
    · simp only [allD, Bool.and_eq_true] at q
      exact allD_le (n := n) (by omega) q.1
def scQS (k j : Nat) : Bool := scS k j || decide (k = 62)
theorem scQS_S {k j : Nat} (h : scQS k j = false) : scS k j = false := by simp [scQS] at h; exact h.1
theorem m_film_L {sh : List (Nat × Nat)} {r : Nat → Nat → Option Nat} {g : Nat → Nat → Int64} {φ ts cd : Nat → Nat → Nat} {nt : Nat} {sz : Nat → Nat} {cl : Nat → Nat → Int32} (hW : WD sh r) (hI : FI φ) (hTI : TI nt ts cd) (hlt : φ 7 2 < nt) {i j p : Nat} (hi : i < 4) (hj : j < 4) (hij : i ≠ j) (hal : allD (cl i) (sz i) = true) (hz : sz i ≤ 40) (hpn : p < φ 7 3) {x4 : Int32} {Q : Option g_V → g_H → Prop} {N0 : Nat} {a0 : Nat → Nat → Int32} : ∀ (n k : Nat) (a : Nat → Nat → Int32), k + n = 40 → MA (runs ts cd p (cl i) (min k (sz i)) 0 φ) a → TM nt ts cd a → KA φ a → a 61 i = nI (sz i) → (∀ x, x < 40 → a 62 (40 * i + x) = cl i x) → (∀ x, x < k → a 62 (40 * j + x) = flf φ ts cd p (cl i) (sz i) x) → (∀ y, y < 40 * j ∨ 40 * j + 40 ≤ y → a 62 y = a0 62 y) → chg scQ a0 a → (∀ a', MA φ a' → (∀ x, x < 40 → a' 62 (40 * j + x) = flf φ ts cd p (cl i) (sz i) x) → (∀ y, y < 40 * j ∨ 40 * j + 40 ≤ y → a' 62 y = a0 62 y) → chg scQ a0 a' → Q (some (vi (nI (sz i)))) (sh, a', r, g)) → Gd YX8_film (z0 6 N0 Q) 0 0 59 [some (vr 50), some (vi (nI i)), some (vi (nI j)), some (vi (nI p)), some (vi x4), some (vi (nI k))] [] (sh, a, r, g)
  | 0, k, a, hn, hM, hT, hK, h61, hcl, hrow, hoth, hc, kq => by
    have hhu := FI_hu hI
    have hp6 : p < 6 := by omega
    refine Gd_iload (i := 5) rfl eX8_film_59 ?_
    refine Gd_bipush kb_40 eX8_film_61 ?_
    refine Gd_icmp_geN (by first | omega | decide) (by first | omega | decide) eX8_film_63 (fun c63 => ?_) (fun c63 => ?_)
    · rw [show k = 40 by omega] at *
      rw [runs_mn (by omega)] at hM
      refine Gd_aload_n (i := 0) rfl eX8_film_140 ?_
      refine Gd_callE0 (g_cV (m_lays hW hM hK) ok_X8_lays lk_RX8_251 (W_s50 hW) ⟨_, _, rfl⟩ rfl rfl (Nat.le_of_ble_eq_true rfl) (Nat.le_of_ble_eq_true rfl) (Nat.le_refl _) (Nat.le_refl _) eX8_film_141) (fun a4 hq4 => ?_)
      obtain ⟨hM4, hq4⟩ := hq4
      rw [lay_like like_runs] at hM4
      refine Gd_aload_n (i := 0) rfl eX8_film_144 ?_
      refine Gd_getR fl_RX8_44 (W_s50 hW) (W_r50_17 hW) eX8_film_145 ?_
      refine Gd_iload_n (i := 1) rfl eX8_film_148 ?_
      refine Gd_ialdE (v := nI (sz i)) (W_s61 hW) (by first | omega | decide) ((hq4 _ _ rfl).trans h61 :) eX8_film_149 ?_
      exact Gd_ireturn eX8_film_150 rfl (Nat.le_refl _) (Nat.le_refl _) (kq a4 hM4 (fun x hx => (hq4 _ _ rfl).trans (hrow x hx)) (fun y hy => (hq4 _ _ rfl).trans (hoth y hy)) (chg_tr hc (chg_mono2 (fun q => scZ_L (scQ_Z q)) hq4)))
    · exact absurd c63 (by omega)
  | n + 1, k, a, hn, hM, hT, hK, h61, hcl, hrow, hoth, hc, kq => by
    have hhu := FI_hu hI
    have hp6 : p < 6 := by omega
    refine Gd_iload (i := 5) rfl eX8_film_59 ?_
    refine Gd_bipush kb_40 eX8_film_61 ?_
    refine Gd_icmp_geN (by first | omega | decide) (by first | omega | decide) eX8_film_63 (fun c63 => ?_) (fun c63 => ?_)
    · exact absurd c63 (by omega)
    · refine Gd_aload_n (i := 0) rfl eX8_film_66 ?_
      refine Gd_getR fl_RX8_47 (W_s50 hW) (W_r50_18 hW) eX8_film_67 ?_
      refine Gd_bipush kb_40 eX8_film_70 ?_
      refine Gd_iload_n (i := 2) rfl eX8_film_72 ?_
      refine Gd_imulN eX8_film_73 ?_
      refine Gd_iload (i := 5) rfl eX8_film_74 ?_
      refine Gd_iaddN eX8_film_76 ?_
      refine Gd_iconst ki_0 eX8_film_77 ?_
      refine Gd_iastN (W_s62 hW) (by first | omega | decide) eX8_film_78 ?_
      have hc1 : chg scQ a (up2 a 62 (40 * j + k) (nI 0)) := chg_up chg_rf (by simp [scQ])
      refine Gd_iload (i := 5) rfl eX8_film_79 ?_
      refine Gd_aload_n (i := 0) rfl eX8_film_81 ?_
      refine Gd_getR fl_RX8_44 (W_s50 hW) (W_r50_17 hW) eX8_film_82 ?_
      refine Gd_iload_n (i := 1) rfl eX8_film_85 ?_
      refine Gd_ialdE (v := nI (sz i)) (W_s61 hW) (by first | omega | decide) (h61 :) eX8_film_86 ?_
      refine Gd_icmp_geN (by first | omega | decide) (by first | omega | decide) eX8_film_87 (fun c87 => ?_) (fun c87 => ?_)
      · refine Gd_iinc5 (ho := rfl) (he := nI_inc _) eX8_film_134 ?_
        refine Gd_goto eX8_film_137 ?_
        have hf : flf φ ts cd p (cl i) (sz i) k = nI 0 := by rw [flf, if_neg (by omega)]
        exact m_film_L hW hI hTI hlt hi hj hij hal hz hpn n (k + 1) (up2 a 62 (40 * j + k) (nI 0)) (by omega) (by rw [runs_mn (by omega)]; rw [runs_mn (by omega)] at hM; exact MA_row (by decide) hM) (TM_row (by decide) hT) (KA_ch hK (chg_row (K := 62)) (fun j => rfl)) ((chg_row (K := 62) _ _ rfl).trans h61) (fun x hx => (up2_j _ _ (by omega)).trans (hcl x hx)) (fun x hx => if e : x = k then (by rw [e, up2_s, hf]) else (up2_j _ _ (by omega)).trans (hrow x (by omega))) (fun y hy => (up2_j _ _ (by omega)).trans (hoth y hy)) (chg_tr hc hc1) kq
      · have hci := allD_cN hal (i := k) (by omega)
        have hM1 : MA (runs ts cd p (cl i) (min k (sz i)) 0 φ) (up2 a 62 (40 * j + k) (nI 0)) := MA_row (by decide) hM
        have hT1 : TM nt ts cd (up2 a 62 (40 * j + k) (nI 0)) := TM_row (by decide) hT
        have hIk : FI (runs ts cd p (cl i) (min k (sz i)) 0 φ) := FI_runs hp6 _ 0 φ hI (by rw [Nat.zero_add]; exact allD_le (by omega) hal)
        have hltk : (runs ts cd p (cl i) (min k (sz i)) 0 φ) 7 2 < nt := by rw [runs_k (by decide) (by decide) (by decide)]; exact hlt
        have hpk : p < (runs ts cd p (cl i) (min k (sz i)) 0 φ) 7 3 := by rw [runs_k (by decide) (by decide) (by decide)]; exact hpn
        refine Gd_aload_n (i := 0) rfl eX8_film_90 ?_
        refine Gd_iload_n (i := 3) rfl eX8_film_91 ?_
        refine Gd_aload_n (i := 0) rfl eX8_film_92 ?_
        refine Gd_getR fl_RX8_47 (W_s50 hW) (W_r50_18 hW) eX8_film_93 ?_
        refine Gd_bipush kb_40 eX8_film_96 ?_
        refine Gd_iload_n (i := 1) rfl eX8_film_98 ?_
        refine Gd_imulN eX8_film_99 ?_
        refine Gd_iload (i := 5) rfl eX8_film_100 ?_
        refine Gd_iaddN eX8_film_102 ?_
        refine Gd_ialdE (v := nI (cN (cl i) k)) (W_s62 hW) (by first | omega | decide) ((up2_j a (nI 0) (show 40 * i + k ≠ 40 * j + k by omega)).trans ((hcl k (by omega)).trans hci.1) :) eX8_film_103 ?_
        refine Gd_iconst ki_0 eX8_film_104 ?_
        refine Gd_bipush kb_9 eX8_film_105 ?_
        refine Gd_callP (g_cS (m_within _ _ _) ok_X8_within lk_RX8_183 rfl rfl (Nat.le_of_ble_eq_true rfl) (Nat.le_of_ble_eq_true rfl) (Nat.le_refl _) (Nat.le_refl _) eX8_film_107) ?_
        rw [wth_d hci.2]
        refine Gd_callEV (g_cV (m_shotOf (φ := runs ts cd p (cl i) (min k (sz i)) 0 φ) hW hM1 hIk hT1 hTI hltk (d := cN (cl i) k) hpk hci.2) ok_X8_shotOf lk_RX8_235 (W_s50 hW) ⟨_, _, rfl⟩ rfl rfl (Nat.le_of_ble_eq_true rfl) (Nat.le_of_ble_eq_true rfl) (Nat.le_refl _) (Nat.le_refl _) eX8_film_110) (fun a2 hq => ?_)
        obtain ⟨hM2, hq⟩ := hq
        have hc2 : chg scQ a a2 := chg_tr hc1 (chg_mono2 (fun q => scZ_S (scQ_Z q)) hq)
        rw [← runs_mk (by omega)] at hM2
        refine Gd_pop rfl eX8_film_113 ?_
        refine Gd_aload_n (i := 0) rfl eX8_film_114 ?_
        refine Gd_getR fl_RX8_47 (W_s50 hW) (W_r50_18 hW) eX8_film_115 ?_
        refine Gd_bipush kb_40 eX8_film_118 ?_
        refine Gd_iload_n (i := 2) rfl eX8_film_120 ?_
        refine Gd_imulN eX8_film_121 ?_
        refine Gd_iload (i := 5) rfl eX8_film_122 ?_
        refine Gd_iaddN eX8_film_124 ?_
        refine Gd_aload_n (i := 0) rfl eX8_film_125 ?_
        refine Gd_getR fl_RX8_16 (W_s50 hW) (W_r50_3 hW) eX8_film_126 ?_
        refine Gd_iconst ki_4 eX8_film_129 ?_
        refine Gd_iload_n (i := 3) rfl eX8_film_130 ?_
        refine Gd_imulN eX8_film_131 ?_
        refine Gd_ialdE (v := nI (runs ts cd p (cl i) (min (k + 1) (sz i)) 0 φ 3 p)) (W_s53 hW) (by first | omega | decide) (MA_ho hM2 (p := p) hp6 :) eX8_film_132 ?_
        refine Gd_iastN (W_s62 hW) (by first | omega | decide) eX8_film_133 ?_
        refine Gd_iinc5 (ho := rfl) (he := nI_inc _) eX8_film_134 ?_
        refine Gd_goto eX8_film_137 ?_
        have hf : flf φ ts cd p (cl i) (sz i) k = nI (runs ts cd p (cl i) (min (k + 1) (sz i)) 0 φ 3 p) := by rw [flf, if_pos (by omega), Nat.min_eq_left (by omega)]
        exact m_film_L hW hI hTI hlt hi hj hij hal hz hpn n (k + 1) (up2 a2 62 (40 * j + k) (nI (runs ts cd p (cl i) (min (k + 1) (sz i)) 0 φ 3 p))) (by omega) (MA_row (by decide) hM2) (TM_row (by decide) (TM_scS hT1 hq)) (KA_ch (KA_ch hK (chg_row (K := 62)) (fun j => rfl)) (chg_up (S := scQS) (chg_mono2 scQS_S hq) rfl) (fun j => rfl)) ((hq _ _ rfl).trans h61) (fun x hx => (up2_j _ _ (by omega)).trans ((hq _ _ rfl).trans ((up2_j _ _ (by omega)).trans (hcl x hx)))) (fun x hx => if e : x = k then (by rw [e, up2_s, hf]) else (up2_j _ _ (by omega)).trans ((hq _ _ rfl).trans ((up2_j _ _ (by omega)).trans (hrow x (by omega))))) (fun y hy => (up2_j _ _ (by omega)).trans ((hq _ _ rfl).trans ((up2_j _ _ (by omega)).trans (hoth y hy)))) (chg_up (chg_tr hc hc2) (by simp [scQ])) kq
theorem m_film {sh : List (Nat × Nat)} {a : Nat → Nat → Int32} {r : Nat → Nat → Option Nat} {g : Nat → Nat → Int64} {φ ts cd : Nat → Nat → Nat} {nt : Nat} {so sz : Nat → Nat} {cl : Nat → Nat → Int32} (hW : WD sh r) (hM : MA φ a) (hI : FI φ) (hT : TM nt ts cd a) (hTI : TI nt ts cd) (hlt : φ 7 2 < nt) (hS : MS so sz cl a) (hSI : SI so sz) (vs vt vp : Int32) : Mt YX8_film 6 0 0 [vr 50, vi vs, vi vt, vi vp] (sh, a, r, g) (g_EV sh r g (vi (rFilm φ ts cd (so, sz, cl) vs vt vp).1) (fun a' => MA φ a' ∧ MS (rFilm φ ts cd (so, sz, cl) vs vt vp).2.1 (rFilm φ ts cd (so, sz, cl) vs vt vp).2.2.1 (rFilm φ ts cd (so, sz, cl) vs vt vp).2.2.2 a' ∧ chg scFi a a')) := by
  refine Mt_of rfl (Nat.le_of_ble_eq_true rfl) rfl ?_
  have hhu := FI_hu hI
  refine Gd_iload_n (i := 2) rfl eX8_film_0 ?_
  refine Gd_iconst ki_0 eX8_film_1 ?_
  refine Gd_iconst ki_3 eX8_film_2 ?_
  refine Gd_callP (g_cS (m_in _ _ _) ok_X8_in lk_RX8_84 rfl rfl (Nat.le_of_ble_eq_true rfl) (Nat.le_of_ble_eq_true rfl) (Nat.le_refl _) (Nat.le_refl _) eX8_film_3) ?_
  refine Gd_if_eqB eX8_film_6 (fun c6 => ?_) (fun c6 => ?_)
  · refine Gd_bipush kb_m2 eX8_film_14 ?_
    exact Gd_ireturn eX8_film_16 rfl (Nat.le_refl _) (Nat.le_refl _) (by rw [rFilm_t (Or.inl (by rw [← inb0 (k := 3) (by decide)]; exact c6))]; exact ⟨a, rfl, rfl, hM, hS, chg_rf⟩)
  · refine Gd_iload_n (i := 1) rfl eX8_film_9 ?_
    refine Gd_iload_n (i := 2) rfl eX8_film_10 ?_
    refine Gd_icmp_ne eX8_film_11 (fun c11 => ?_) (fun c11 => ?_)
    · have hj0 : inr vt 4 = true := by rw [inb0 (by decide)] at c6; exact c6
      obtain ⟨j, hj, rfl⟩ := inr_t hj0 (by decide)
      have hrt : ¬ (inr (nI j) 4 = false ∨ vs = nI j) := fun z => z.elim (fun z => by rw [hj0] at z; exact absurd z (by decide)) c11
      refine Gd_aload_n (i := 0) rfl eX8_film_17 ?_
      refine Gd_iload_n (i := 1) rfl eX8_film_18 ?_
      refine Gd_iload_n (i := 3) rfl eX8_film_19 ?_
      refine Gd_callP (g_cV (m_oneWrong hW hM hI hS hSI _ _) ok_X8_oneWrong lk_RX8_241 (W_s50 hW) ⟨_, _, rfl⟩ rfl rfl (Nat.le_of_ble_eq_true rfl) (Nat.le_of_ble_eq_true rfl) (Nat.le_refl _) (Nat.le_refl _) eX8_film_20) ?_
      refine Gd_istore4 rfl eX8_film_23 ?_
      refine Gd_iload (i := 4) rfl eX8_film_25 ?_
      refine Gd_if_eq eX8_film_27 (fun c27 => ?_) (fun c27 => ?_)
      · obtain ⟨i, p, hi, hpn, rfl, rfl, hso, hal⟩ := owr_ok hhu c27
        have hz := hSI.2 i hi
        have hp6 : p < 6 := by omega
        have hij : i ≠ j := fun e => c11 (by rw [e])
        have hr := rFilm_u (φ := φ) (ts := ts) (cd := cd) (S := (so, sz, cl)) hi hj hij hp6 c27
        refine Gd_aload_n (i := 0) rfl eX8_film_33 ?_
        refine Gd_getR fl_RX8_41 (W_s50 hW) (W_r50_16 hW) eX8_film_34 ?_
        refine Gd_iload_n (i := 2) rfl eX8_film_37 ?_
        refine Gd_iconst ki_0 eX8_film_38 ?_
        refine Gd_iastN (W_s60 hW) (by first | omega | decide) eX8_film_39 ?_
        refine Gd_aload_n (i := 0) rfl eX8_film_40 ?_
        refine Gd_getR fl_RX8_44 (W_s50 hW) (W_r50_17 hW) eX8_film_41 ?_
        refine Gd_iload_n (i := 2) rfl eX8_film_44 ?_
        refine Gd_aload_n (i := 0) rfl eX8_film_45 ?_
        refine Gd_getR fl_RX8_44 (W_s50 hW) (W_r50_17 hW) eX8_film_46 ?_
        refine Gd_iload_n (i := 1) rfl eX8_film_49 ?_
        refine Gd_ialdE (v := nI (sz i)) (W_s61 hW) (by first | omega | decide) ((hS.2.1 i hi) :) eX8_film_50 ?_
        refine Gd_iastN (W_s61 hW) (by first | omega | decide) eX8_film_51 ?_
        refine Gd_aload_n (i := 0) rfl eX8_film_52 ?_
        have hMs : MA φ (up2 (up2 a 60 j (nI 0)) 61 j (nI (sz i))) := MA_row (by decide) (MA_row (by decide) hM)
        have hTs : TM nt ts cd (up2 (up2 a 60 j (nI 0)) 61 j (nI (sz i))) := TM_row (by decide) (TM_row (by decide) hT)
        refine Gd_callE0 (g_cV (m_keeps hW hMs) ok_X8_keeps lk_RX8_244 (W_s50 hW) ⟨_, _, rfl⟩ rfl rfl (Nat.le_of_ble_eq_true rfl) (Nat.le_of_ble_eq_true rfl) (Nat.le_refl _) (Nat.le_refl _) eX8_film_53) (fun a2 hq2 => ?_)
        obtain ⟨hK, hq2⟩ := hq2
        refine Gd_iconst ki_0 eX8_film_56 ?_
        refine Gd_istore5 rfl eX8_film_57 ?_
        exact m_film_L hW hI hTI hlt hi hj hij hal hz hpn 40 0 a2 (by omega) (by rw [Nat.zero_min]; exact MA_K69 hMs hq2) (TM_ch hTs hq2 (fun k j q => by simp [rT] at q; simp [s69]; omega)) hK ((hq2 _ _ rfl).trans ((up2_j _ _ hij).trans (hS.2.1 i hi))) (fun x hx => (hq2 _ _ rfl).trans (hS.2.2 i hi x hx)) (fun x hx => absurd hx (by omega)) (fun y hy => rfl) chg_rf (fun a' k1 k2 k3 k4 => by rw [hr]; exact ⟨a', rfl, rfl, k1, MS_shw hj hS ((k4 _ _ rfl).trans ((hq2 _ _ rfl).trans (by simp [up2]))) ((k4 _ _ rfl).trans ((hq2 _ _ rfl).trans (up2_s _ _ _ _))) k2 (fun x hx => (k4 _ _ rfl).trans ((hq2 _ _ rfl).trans (by simp [up2, hx]))) (fun x hx => (k4 _ _ rfl).trans ((hq2 _ _ rfl).trans (by simp [up2, hx]))) (fun x hx => (k3 x hx).trans (hq2 _ _ rfl)), chg_tr (chg_up (chg_up chg_rf (by simp [scFi])) (by simp [scFi])) (chg_tr (chg_mono2 (fun q => scZ_69 (scQ_Z (scFi_Q q))) hq2) (chg_mono2 scFi_Q k4))⟩)
      · refine Gd_iload (i := 4) rfl eX8_film_30 ?_
        exact Gd_ireturn eX8_film_32 rfl (Nat.le_refl _) (Nat.le_refl _) (by rw [rFilm_r hrt c27]; exact ⟨a, rfl, rfl, hM, hS, chg_rf⟩)
    · refine Gd_bipush kb_m2 eX8_film_14 ?_
      exact Gd_ireturn eX8_film_16 rfl (Nat.le_refl _) (Nat.le_refl _) (by rw [rFilm_t (Or.inr c11)]; exact ⟨a, rfl, rfl, hM, hS, chg_rf⟩)
