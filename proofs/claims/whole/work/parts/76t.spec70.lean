theorem rnk0 {y : Nat} (h : y < 20) (hr : rnk y = 0) : y = 0 := by
  have key : ∀ y, y < 20 → rnk y = 0 → y = 0 := by decide +kernel
  exact key y h hr
theorem m_eR_L {sh : List (Nat × Nat)} {r : Nat → Nat → Option Nat} {g : Nat → Nat → Int64} {nt : Nat} {tp : Nat → Nat} {nb M : Nat} (hW : WD sh r) (h6 : nt < 6) (hnb : nb ≤ 160) (h256 : ∀ i, i < nb → tp i < 256) (hMn : M ≤ nb) (hM0 : tqf tp nb M = 0) {Q : Option g_V → g_H → Prop} {N0 : Nat} {a0 : Nat → Nat → Int32} : ∀ (fu m k : Nat) (H : List Nat) (n : Nat) (c : Nat → Nat) (a : Nat → Nat → Int32) (s1 s2 : Int32) (x3 : Option g_V), k ≤ M → M < k + fu → H.length + n ≤ k → ((m = 0 ∧ s1 = nI 0) ∨ (m = 1 ∧ s1 = nI 1 ∧ s2 = nI 0) ∨ (m = 2 ∧ s1 = nI 1 ∧ s2 = nI 1)) → RSx nt tp nb k (H, n, c) a → chg (scER nt) a0 a → (∀ a', ERp nt tp nb (eR (tqf tp nb) fu m k (H, n, c)) a' → chg (scER nt) a0 a' → Q (some (vi (bI (eR (tqf tp nb) fu m k (H, n, c)).1))) (sh, a', r, g)) → Gd YX8_eRead (z0 3 N0 Q) 0 0 14 [some (vr 50), some (vi s1), some (vi s2), x3] [] (sh, a, r, g)
  | 0, m, k, H, n, c, a, s1, s2, x3, hk, hfu, hln, hm, hS, hc, kq => absurd hfu (by omega)
  | fu + 1, m, k, H, n, c, a, s1, s2, x3, hk, hfu, hln, hm, hS, hc, kq => by
    obtain ⟨hP, hWT, hnt, hPM, p, hp, hat, hsk⟩ := hS
    have hT := tkn_lt (b := bs tp nb k) h256
    refine Gd_aload_n (i := 0) rfl eX8_eRead_14 ?_
    refine Gd_callE0 (g_cV (m_next hW hnb h256 hWT hP hp hat hsk) ok_X8_next lk_RX8_159 (W_s50 hW) ⟨_, _, rfl⟩ rfl rfl (Nat.le_of_ble_eq_true rfl) (Nat.le_of_ble_eq_true rfl) (Nat.le_refl _) (Nat.le_refl _) eX8_eRead_15) (fun a1 hq => ?_)
    obtain ⟨⟨hbg, htk0, hva0, p1, hp1, hat1, hsk1⟩, hc1⟩ := hq
    rw [bs_nx] at hsk1
    have hPM1 := PM_nx hPM hc1
    have hnt1 : a1 50 11 = nI nt := (hc1 _ _ rfl).trans hnt
    have hP1 : TP 50 8 55 nb tp a1 := TP_ch hP hc1 rfl (fun _ => rfl)
    have hWT1 := WT_ch hWT hc1 (fun _ => rfl)
    obtain ⟨t, ht⟩ : ∃ t, t = tqf tp nb k := ⟨_, rfl⟩
    have htok : a1 50 22 = tkr t := by rw [ht]; exact htk0
    have hval : (2 ≤ t ∧ t < 5) ∨ 100 ≤ t → a1 50 23 = nI (tkv t) := by rw [ht]; exact hva0
    have htl : t < 10106 := by rw [ht]; exact hT
    obtain ⟨r1, r2, r6, r45, r40, r59, r41⟩ := tkr_v htl
    have hkM : t ≠ 0 → k + 1 ≤ M := fun z => by rcases Nat.lt_or_ge k M with q | q; exact q; exact absurd (by rw [ht, show k = M by omega]; exact hM0) z
    rcases hm with ⟨rfl, rfl⟩ | ⟨rfl, rfl, rfl⟩ | ⟨rfl, rfl, rfl⟩
    · refine Gd_iload_n (i := 1) rfl eX8_eRead_18 ?_
      refine Gd_if_eq eX8_eRead_19 (fun _ => ?_) (fun q => by first | exact absurd q (by decide) | exact absurd (by decide) q)
      refine Gd_aload_n (i := 0) rfl eX8_eRead_150 ?_
      refine Gd_getIe fl_RX8_128 (W_s50 hW) (htok :) eX8_eRead_151 ?_
      refine Gd_bipush kb_59 eX8_eRead_154 ?_
      refine Gd_icmp_ne eX8_eRead_156 (fun c156 => ?_) (fun c156 => ?_)
      · have f156 := mt r59.mpr c156
        refine Gd_aload_n (i := 0) rfl eX8_eRead_177 ?_
        refine Gd_getIe fl_RX8_128 (W_s50 hW) (htok :) eX8_eRead_178 ?_
        refine Gd_bipush kb_41 eX8_eRead_181 ?_
        refine Gd_icmp_ne eX8_eRead_183 (fun c183 => ?_) (fun c183 => ?_)
        · have f183 := mt r41.mpr c183
          refine Gd_aload_n (i := 0) rfl eX8_eRead_229 ?_
          refine Gd_callP (g_cV (m_signOf hW) ok_X8_signOf lk_RX8_166 (W_s50 hW) ⟨_, _, rfl⟩ rfl rfl (Nat.le_of_ble_eq_true rfl) (Nat.le_of_ble_eq_true rfl) (Nat.le_refl _) (Nat.le_refl _) eX8_eRead_230) ?_
          rw [htok, sgr_tk htl]
          by_cases h9 : rkx t = 9
          · rw [if_pos h9]
            refine Gd_istore_n3 rfl eX8_eRead_233 ?_
            refine Gd_iload_n (i := 3) rfl eX8_eRead_234 ?_
            refine Gd_iconst ki_m1 eX8_eRead_235 ?_
            refine Gd_icmp_eq eX8_eRead_236 (fun _ => ?_) (fun q => by first | exact absurd q (by decide) | exact absurd (by decide) q)
            refine Gd_iconst ki_0 eX8_eRead_247 ?_
            exact Gd_zreturn eX8_eRead_248 rfl (by decide) (Nat.le_refl _) (Nat.le_refl _) (by rw [eR_no (by omega) (by omega) (by rw [← ht]; exact h9)] at kq; exact kq _ ⟨((chg_rf : chg (scPm nt) a1 a1) _ _ rfl).trans hbg, ⟨p1, hp1, ((chg_rf : chg (scPm nt) a1 a1) _ _ rfl).trans hat1, hsk1⟩, fun z => (Bool.false_ne_true z).elim⟩ (chg_tr (chg_tr hc (chg_mono2 scER_N hc1)) (chg_mono2 scER_P (chg_rf : chg (scPm nt) a1 a1))))
          · rw [if_neg h9]
            have hsg := sg_f (t := t) rfl h9
            obtain ⟨⟨H1, n1, c1⟩, hC⟩ : ∃ C, unw (if rnk (sgc t) = 4 then 5 else rnk (sgc t)) H n c = C := ⟨_, rfl⟩
            have hln2 := unw_len (l := (if rnk (sgc t) = 4 then 5 else rnk (sgc t))) H n c
            rw [hC] at hln2
            have hln3 : H1.length + n1 = H.length + n := hln2
            refine Gd_istore_n3 rfl eX8_eRead_233 ?_
            refine Gd_iload_n (i := 3) rfl eX8_eRead_234 ?_
            refine Gd_iconst ki_m1 eX8_eRead_235 ?_
            refine Gd_icmp_eqM0 (by first | omega | decide) eX8_eRead_236 ?_
            refine Gd_aload_n (i := 0) rfl eX8_eRead_239 ?_
            refine Gd_iload_n (i := 3) rfl eX8_eRead_240 ?_
            refine Gd_callEV (g_cV (m_between hW h6 hnt1 hPM1 hsg.2.2.2.1 (by omega) hC) ok_X8_between lk_RX8_169 (W_s50 hW) ⟨_, _, rfl⟩ rfl rfl (Nat.le_of_ble_eq_true rfl) (Nat.le_of_ble_eq_true rfl) (Nat.le_refl _) (Nat.le_refl _) eX8_eRead_241) (fun a2 hq => ?_)
            obtain ⟨hPM2, hcB⟩ := hq
            refine Gd_if_neB eX8_eRead_244 (fun c244 => ?_) (fun c244 => ?_)
            · have hbt : ¬ (rnk (sgc t) = 4 ∧ topL H1 = 4) := by intro z; rw [decide_eq_true z] at c244; exact absurd c244 (by decide)
              rw [if_neg hbt] at hPM2
              refine Gd_iconst ki_1 eX8_eRead_249 ?_
              refine Gd_istore_n1 rfl eX8_eRead_250 ?_
              refine Gd_iload_n (i := 3) rfl eX8_eRead_251 ?_
              refine Gd_bipush kb_12 eX8_eRead_252 ?_
              refine Gd_icmp_gtN (by first | omega | decide) (by first | omega | decide) eX8_eRead_254 (fun c254 => ?_) (fun c254 => ?_)
              · refine Gd_iconst ki_0 eX8_eRead_261 ?_
                refine Gd_istore_n2 rfl eX8_eRead_262 ?_
                refine Gd_goto eX8_eRead_263 ?_
                exact m_eR_L hW h6 hnb h256 hMn hM0 fu 1 (k + 1) _ _ _ _ _ _ _ (hkM (by omega)) (by omega) (by show (H1.length + 1) + n1 ≤ k + 1; omega) (Or.inr (Or.inl ⟨rfl, rfl, rfl⟩)) ⟨TP_ch hP1 hcB rfl (fun _ => rfl), WT_ch hWT1 hcB (fun _ => rfl), (hcB _ _ rfl).trans hnt1, hPM2, p1, hp1, (hcB _ _ rfl).trans hat1, hsk1⟩ (chg_tr (chg_tr hc (chg_mono2 scER_N hc1)) (chg_mono2 scER_P hcB)) (fun a9 q1 q2 => by rw [eR_sg (r := rkx t) (by rw [ht]) h9, ← ht, show unwC (if rnk (sgc t) = 4 then 5 else rnk (sgc t)) (H, n, c) = (H1, n1, c1) from hC, if_neg hbt, if_neg (by omega)] at kq; exact kq a9 q1 q2)
              · refine Gd_iconst ki_1 eX8_eRead_257 ?_
                refine Gd_goto eX8_eRead_258 ?_
                refine Gd_istore_n2 rfl eX8_eRead_262 ?_
                refine Gd_goto eX8_eRead_263 ?_
                exact m_eR_L hW h6 hnb h256 hMn hM0 fu 2 (k + 1) _ _ _ _ _ _ _ (hkM (by omega)) (by omega) (by show (H1.length + 1) + n1 ≤ k + 1; omega) (Or.inr (Or.inr ⟨rfl, rfl, rfl⟩)) ⟨TP_ch hP1 hcB rfl (fun _ => rfl), WT_ch hWT1 hcB (fun _ => rfl), (hcB _ _ rfl).trans hnt1, hPM2, p1, hp1, (hcB _ _ rfl).trans hat1, hsk1⟩ (chg_tr (chg_tr hc (chg_mono2 scER_N hc1)) (chg_mono2 scER_P hcB)) (fun a9 q1 q2 => by rw [eR_sg (r := rkx t) (by rw [ht]) h9, ← ht, show unwC (if rnk (sgc t) = 4 then 5 else rnk (sgc t)) (H, n, c) = (H1, n1, c1) from hC, if_neg hbt, if_pos (by omega)] at kq; exact kq a9 q1 q2)
            · have hbt : rnk (sgc t) = 4 ∧ topL H1 = 4 := by simpa using c244
              refine Gd_iconst ki_0 eX8_eRead_247 ?_
              exact Gd_zreturn eX8_eRead_248 rfl (by decide) (Nat.le_refl _) (Nat.le_refl _) (by rw [eR_sg (r := rkx t) (by rw [ht]) h9, ← ht, show unwC (if rnk (sgc t) = 4 then 5 else rnk (sgc t)) (H, n, c) = (H1, n1, c1) from hC, if_pos hbt] at kq; exact kq _ ⟨(hcB _ _ rfl).trans hbg, ⟨p1, hp1, (hcB _ _ rfl).trans hat1, hsk1⟩, fun z => (Bool.false_ne_true z).elim⟩ (chg_tr (chg_tr hc (chg_mono2 scER_N hc1)) (chg_mono2 scER_P hcB)))
        · have f183 := r41.mp c183
          refine Gd_aload_n (i := 0) rfl eX8_eRead_186 ?_
          refine Gd_iconst ki_1 eX8_eRead_187 ?_
          refine Gd_callE0 (g_cV (m_unwinds hW h6 (l := 1) (by decide) (by omega) hPM1 hnt1) ok_X8_unwinds lk_RX8_156 (W_s50 hW) ⟨_, _, rfl⟩ rfl rfl (Nat.le_of_ble_eq_true rfl) (Nat.le_of_ble_eq_true rfl) (Nat.le_refl _) (Nat.le_refl _) eX8_eRead_188) (fun a2 hq => ?_)
          obtain ⟨hPM2, hcU⟩ := hq
          have hln2 := unw_len (l := 1) H n c
          generalize hC : unw 1 H n c = C1 at hPM2 hln2
          obtain ⟨H1, n1, c1⟩ := C1
          have hln3 : H1.length + n1 = H.length + n := hln2
          refine Gd_aload_n (i := 0) rfl eX8_eRead_191 ?_
          refine Gd_getIe (v := nI (H1.length)) fl_RX8_140 (W_s50 hW) (hPM2.1 :) eX8_eRead_192 ?_
          refine Gd_if_neN (by first | omega | decide) eX8_eRead_195 (fun c195 => ?_) (fun c195 => ?_)
          · obtain ⟨y, H2, rfl⟩ : ∃ y H2, H1 = y :: H2 := (by cases H1 with | nil => exact absurd rfl c195 | cons y H2 => exact ⟨y, H2, rfl⟩)
            have hy20 : y < 20 := hPM2.2.1.2.1
            have hy0 : y = 0 := rnk0 hy20 (unw_zero rfl H n c hC)
            have hln3 : (H2.length + 1) + n1 = H.length + n := hln2
            have hct : cnt (y :: H2) = cnt H2 + 1 := by rw [cnt, if_pos (Or.inl hy0)]
            refine Gd_aload_n (i := 0) rfl eX8_eRead_200 ?_
            refine Gd_dup rfl eX8_eRead_201 ?_
            refine Gd_getIe (v := nI (H2.length + 1)) fl_RX8_140 (W_s50 hW) (hPM2.1 :) eX8_eRead_202 ?_
            refine Gd_iconst ki_1 eX8_eRead_205 ?_
            refine Gd_isubN (by first | omega | decide) eX8_eRead_206 ?_
            refine Gd_putI fl_RX8_140 (W_s50 hW) eX8_eRead_207 ?_
            refine Gd_aload_n (i := 0) rfl eX8_eRead_210 ?_
            refine Gd_dup rfl eX8_eRead_211 ?_
            refine Gd_getIe (v := nI (cnt (y :: H2))) fl_RX8_146 (W_s50 hW) (hPM2.2.2.1 :) eX8_eRead_212 ?_
            refine Gd_iconst ki_1 eX8_eRead_215 ?_
            refine Gd_isubN (by first | omega | decide) eX8_eRead_216 ?_
            refine Gd_putI fl_RX8_146 (W_s50 hW) eX8_eRead_217 ?_
            refine Gd_aload_n (i := 0) rfl eX8_eRead_220 ?_
            refine Gd_bipush kb_7 eX8_eRead_221 ?_
            refine Gd_callE0 (g_cV (m_unwinds hW h6 (l := 7) (by decide) (H := H2) (n := n1) (c := c1) (by omega) (PM_cls (u := cnt (y :: H2) - 1) hPM2 (by omega)) ((hcU _ _ rfl).trans hnt1)) ok_X8_unwinds lk_RX8_156 (W_s50 hW) ⟨_, _, rfl⟩ rfl rfl (Nat.le_of_ble_eq_true rfl) (Nat.le_of_ble_eq_true rfl) (Nat.le_refl _) (Nat.le_refl _) eX8_eRead_223) (fun a3 hq => ?_)
            obtain ⟨hPM3, hcV⟩ := hq
            refine Gd_goto eX8_eRead_226 ?_
            have hcB : chg (scPm nt) a1 a3 := chg_tr (chg_up (chg_up hcU rfl) rfl) hcV
            have hln4 := unw_len (l := 7) H2 n1 c1
            generalize hU : unw 7 H2 n1 c1 = U at hPM3 hln4
            obtain ⟨H5, n5, c5⟩ := U
            have hln5 : H5.length + n5 = H2.length + n1 := hln4
            exact m_eR_L hW h6 hnb h256 hMn hM0 fu 0 (k + 1) _ _ _ _ _ _ _ (hkM (by omega)) (by omega) (by omega) (Or.inl ⟨rfl, rfl⟩) ⟨TP_ch hP1 hcB rfl (fun _ => rfl), WT_ch hWT1 hcB (fun _ => rfl), (hcB _ _ rfl).trans hnt1, hPM3, p1, hp1, (hcB _ _ rfl).trans hat1, hsk1⟩ (chg_tr (chg_tr hc (chg_mono2 scER_N hc1)) (chg_mono2 scER_P hcB)) (fun a9 q1 q2 => by rw [eR_cl (by omega), show unwC 1 (H, n, c) = (y :: H2, n1, c1) from hC, if_neg (List.cons_ne_nil _ _)] at kq; rw [← hU] at q1 ⊢; exact kq a9 q1 q2)
          · refine Gd_iconst ki_0 eX8_eRead_198 ?_
            exact Gd_zreturn eX8_eRead_199 rfl (by decide) (Nat.le_refl _) (Nat.le_refl _) (by have e1 : H1 = [] := List.length_eq_zero_iff.mp c195; subst e1; rw [eR_cl (by omega), show unwC 1 (H, n, c) = ([], n1, c1) from hC, if_pos rfl] at kq; exact kq _ ⟨(hcU _ _ rfl).trans hbg, ⟨p1, hp1, (hcU _ _ rfl).trans hat1, hsk1⟩, fun z => (Bool.false_ne_true z).elim⟩ (chg_tr (chg_tr hc (chg_mono2 scER_N hc1)) (chg_mono2 scER_P hcU)))
      · have f156 := r59.mp c156
        refine Gd_aload_n (i := 0) rfl eX8_eRead_159 ?_
        refine Gd_iconst ki_1 eX8_eRead_160 ?_
        refine Gd_callE0 (g_cV (m_unwinds hW h6 (l := 1) (by decide) (by omega) hPM1 hnt1) ok_X8_unwinds lk_RX8_156 (W_s50 hW) ⟨_, _, rfl⟩ rfl rfl (Nat.le_of_ble_eq_true rfl) (Nat.le_of_ble_eq_true rfl) (Nat.le_refl _) (Nat.le_refl _) eX8_eRead_161) (fun a2 hq => ?_)
        obtain ⟨hPM2, hcU⟩ := hq
        have hln2 := unw_len (l := 1) H n c
        generalize hC : unw 1 H n c = C1 at hPM2 hln2
        obtain ⟨H1, n1, c1⟩ := C1
        have hln3 : H1.length + n1 = H.length + n := hln2
        refine Gd_aload_n (i := 0) rfl eX8_eRead_164 ?_
        refine Gd_getIe (v := nI (H1.length)) fl_RX8_140 (W_s50 hW) (hPM2.1 :) eX8_eRead_165 ?_
        refine Gd_if_neN (by first | omega | decide) eX8_eRead_168 (fun c168 => ?_) (fun c168 => ?_)
        · refine Gd_iconst ki_0 eX8_eRead_175 ?_
          exact Gd_zreturn eX8_eRead_176 rfl (by decide) (Nat.le_refl _) (Nat.le_refl _) (by obtain ⟨y, H2, rfl⟩ : ∃ y H2, H1 = y :: H2 := (by cases H1 with | nil => exact absurd rfl c168 | cons y H2 => exact ⟨y, H2, rfl⟩); rw [eR_sc (by omega), show unwC 1 (H, n, c) = (y :: H2, n1, c1) from hC] at kq; exact kq _ ⟨(hcU _ _ rfl).trans hbg, ⟨p1, hp1, (hcU _ _ rfl).trans hat1, hsk1⟩, fun z => (Bool.false_ne_true z).elim⟩ (chg_tr (chg_tr hc (chg_mono2 scER_N hc1)) (chg_mono2 scER_P hcU)))
        · refine Gd_iconst ki_1 eX8_eRead_171 ?_
          refine Gd_goto eX8_eRead_172 ?_
          exact Gd_zreturn eX8_eRead_176 rfl (by decide) (Nat.le_refl _) (Nat.le_refl _) (by have e1 : H1 = [] := List.length_eq_zero_iff.mp c168; subst e1; rw [eR_sc (by omega), show unwC 1 (H, n, c) = ([], n1, c1) from hC] at kq; exact kq _ ⟨(hcU _ _ rfl).trans hbg, ⟨p1, hp1, (hcU _ _ rfl).trans hat1, hsk1⟩, fun _ => ⟨hPM2.2.2.2.1, hPM2.2.2.2.2⟩⟩ (chg_tr (chg_tr hc (chg_mono2 scER_N hc1)) (chg_mono2 scER_P hcU)))
    · refine Gd_iload_n (i := 1) rfl eX8_eRead_18 ?_
      refine Gd_if_eq eX8_eRead_19 (fun q => by first | exact absurd q (by decide) | exact absurd (by decide) q) (fun _ => ?_)
      refine Gd_aload_n (i := 0) rfl eX8_eRead_22 ?_
      refine Gd_getIe fl_RX8_128 (W_s50 hW) (htok :) eX8_eRead_23 ?_
      refine Gd_iconst ki_1 eX8_eRead_26 ?_
      refine Gd_icmp_eq eX8_eRead_27 (fun c27 => ?_) (fun c27 => ?_)
      · have f27 := r1.mp c27
        have hv1 : a1 50 23 = nI (tkv t) := hval (by omega)
        refine Gd_aload_n (i := 0) rfl eX8_eRead_38 ?_
        refine Gd_aload_n (i := 0) rfl eX8_eRead_39 ?_
        refine Gd_getIe fl_RX8_128 (W_s50 hW) (htok :) eX8_eRead_40 ?_
        refine Gd_iconst ki_1 eX8_eRead_43 ?_
        refine Gd_icmp_ne eX8_eRead_44 (fun c44 => ?_) (fun c44 => ?_)
        · have f44 := mt r1.mpr c44
          exact absurd f27 (by omega)
        · have f44 := r1.mp c44
          refine Gd_ldc (v := nI 100000) ct_RX8_162 eX8_eRead_47 ?_
          refine Gd_aload_n (i := 0) rfl eX8_eRead_49 ?_
          refine Gd_getIe (v := nI (tkv t)) fl_RX8_131 (W_s50 hW) (hv1 :) eX8_eRead_50 ?_
          refine Gd_iaddN eX8_eRead_53 ?_
          refine Gd_goto eX8_eRead_54 ?_
          have ho := (opc_tkv htl).1 f27.1 f27.2
          rw [ho]
          refine Gd_callP0 (g_cV (m_puts hW hnt1 h6 (n := n) (v := opc t) hPM1.2.2.2.1 (by omega)) ok_X8_puts lk_RX8_149 (W_s50 hW) ⟨_, _, rfl⟩ rfl rfl (Nat.le_of_ble_eq_true rfl) (Nat.le_of_ble_eq_true rfl) (Nat.le_refl _) (Nat.le_refl _) eX8_eRead_61) rfl ?_
          refine Gd_aload_n (i := 0) rfl eX8_eRead_64 ?_
          refine Gd_bipush kb_7 eX8_eRead_65 ?_
          refine Gd_callE0 (g_cV (m_unwinds hW h6 (l := 7) (by decide) (H := H) (n := n + 1) (c := va_up c n (opc t)) (by omega) (PM_put hPM1) hnt1) ok_X8_unwinds lk_RX8_156 (W_s50 hW) ⟨_, _, rfl⟩ rfl rfl (Nat.le_of_ble_eq_true rfl) (Nat.le_of_ble_eq_true rfl) (Nat.le_refl _) (Nat.le_refl _) eX8_eRead_67) (fun a2 hq => ?_)
          obtain ⟨hPM2, hcU⟩ := hq
          refine Gd_iconst ki_0 eX8_eRead_70 ?_
          refine Gd_istore_n1 rfl eX8_eRead_71 ?_
          refine Gd_goto eX8_eRead_72 ?_
          have hcB : chg (scPm nt) a1 a2 := chg_tr (chg_up (chg_up chg_rf (by simp [scPm])) rfl) hcU
          have hln2 := unw_len (l := 7) H (n + 1) (va_up c n (opc t))
          generalize hU : unw 7 H (n + 1) (va_up c n (opc t)) = U at hPM2 hln2
          obtain ⟨H5, n5, c5⟩ := U
          have hln5 : H5.length + n5 = H.length + (n + 1) := hln2
          exact m_eR_L hW h6 hnb h256 hMn hM0 fu 0 (k + 1) _ _ _ _ _ _ _ (hkM (by omega)) (by omega) (by omega) (Or.inl ⟨rfl, rfl⟩) ⟨TP_ch hP1 hcB rfl (fun _ => rfl), WT_ch hWT1 hcB (fun _ => rfl), (hcB _ _ rfl).trans hnt1, hPM2, p1, hp1, (hcB _ _ rfl).trans hat1, hsk1⟩ (chg_tr (chg_tr hc (chg_mono2 scER_N hc1)) (chg_mono2 scER_P hcB)) (fun a9 q1 q2 => by rw [eR_op (by decide) (by omega), ← ht] at kq; rw [← hU] at q1 ⊢; exact kq a9 q1 q2)
      · refine Gd_aload_n (i := 0) rfl eX8_eRead_30 ?_
        refine Gd_getIe fl_RX8_128 (W_s50 hW) (htok :) eX8_eRead_31 ?_
        refine Gd_iconst ki_2 eX8_eRead_34 ?_
        refine Gd_icmp_ne eX8_eRead_35 (fun c35 => ?_) (fun c35 => ?_)
        · refine Gd_aload_n (i := 0) rfl eX8_eRead_75 ?_
          refine Gd_getIe fl_RX8_128 (W_s50 hW) (htok :) eX8_eRead_76 ?_
          refine Gd_bipush kb_6 eX8_eRead_79 ?_
          refine Gd_icmp_ne eX8_eRead_81 (fun c81 => ?_) (fun c81 => ?_)
          · refine Gd_aload_n (i := 0) rfl eX8_eRead_99 ?_
            refine Gd_getIe fl_RX8_128 (W_s50 hW) (htok :) eX8_eRead_100 ?_
            refine Gd_bipush kb_45 eX8_eRead_103 ?_
            refine Gd_icmp_ne eX8_eRead_105 (fun c105 => ?_) (fun c105 => ?_)
            · refine Gd_aload_n (i := 0) rfl eX8_eRead_124 ?_
              refine Gd_getIe fl_RX8_128 (W_s50 hW) (htok :) eX8_eRead_125 ?_
              refine Gd_bipush kb_40 eX8_eRead_128 ?_
              refine Gd_icmp_ne eX8_eRead_130 (fun c130 => ?_) (fun c130 => ?_)
              · have f27 := mt r1.mpr c27
                have f35 := mt r2.mpr c35
                have f81 := mt r6.mpr c81
                have f105 := mt r45.mpr c105
                have f130 := mt r40.mpr c130
                refine Gd_iconst ki_0 eX8_eRead_148 ?_
                exact Gd_zreturn eX8_eRead_149 rfl (by decide) (Nat.le_refl _) (Nat.le_refl _) (by rw [eR_bad (by decide) (by omega) (by omega) (by omega) (by omega)] at kq; exact kq _ ⟨((chg_rf : chg (scPm nt) a1 a1) _ _ rfl).trans hbg, ⟨p1, hp1, ((chg_rf : chg (scPm nt) a1 a1) _ _ rfl).trans hat1, hsk1⟩, fun z => (Bool.false_ne_true z).elim⟩ (chg_tr (chg_tr hc (chg_mono2 scER_N hc1)) (chg_mono2 scER_P (chg_rf : chg (scPm nt) a1 a1))))
              · refine Gd_aload_n (i := 0) rfl eX8_eRead_133 ?_
                refine Gd_iconst ki_0 eX8_eRead_134 ?_
                refine Gd_callEV (g_cV (m_opensOne hW (x := 0) hPM1 (by decide) (by omega)) ok_X8_opensOne lk_RX8_163 (W_s50 hW) ⟨_, _, rfl⟩ rfl rfl (Nat.le_of_ble_eq_true rfl) (Nat.le_of_ble_eq_true rfl) (Nat.le_refl _) (Nat.le_refl _) eX8_eRead_135) (fun a2 hq => ?_)
                obtain ⟨hPM2, hcB⟩ := hq
                refine Gd_if_neB eX8_eRead_138 (fun c138 => ?_) (fun c138 => ?_)
                · have hcn : ¬ cnt H = 5 := by simpa using c138
                  rw [if_neg hcn] at hPM2
                  have f27 := mt r1.mpr c27
                  have f35 := mt r2.mpr c35
                  have f81 := mt r6.mpr c81
                  have f105 := mt r45.mpr c105
                  have f130 := r40.mp c130
                  refine Gd_iconst ki_1 eX8_eRead_143 ?_
                  refine Gd_istore_n2 rfl eX8_eRead_144 ?_
                  refine Gd_goto eX8_eRead_145 ?_
                  exact m_eR_L hW h6 hnb h256 hMn hM0 fu 2 (k + 1) _ _ _ _ _ _ _ (hkM (by omega)) (by omega) (by show (H.length + 1) + n ≤ k + 1; omega) (Or.inr (Or.inr ⟨rfl, rfl, rfl⟩)) ⟨TP_ch hP1 hcB rfl (fun _ => rfl), WT_ch hWT1 hcB (fun _ => rfl), (hcB _ _ rfl).trans hnt1, hPM2, p1, hp1, (hcB _ _ rfl).trans hat1, hsk1⟩ (chg_tr (chg_tr hc (chg_mono2 scER_N hc1)) (chg_mono2 scER_P hcB)) (fun a9 q1 q2 => by rw [eR_par (by decide) (by omega), if_neg hcn] at kq; exact kq a9 q1 q2)
                · have hcn : cnt H = 5 := by simpa using c138
                  have f27 := mt r1.mpr c27
                  have f35 := mt r2.mpr c35
                  have f81 := mt r6.mpr c81
                  have f105 := mt r45.mpr c105
                  have f130 := r40.mp c130
                  refine Gd_iconst ki_0 eX8_eRead_141 ?_
                  exact Gd_zreturn eX8_eRead_142 rfl (by decide) (Nat.le_refl _) (Nat.le_refl _) (by rw [eR_par (by decide) (by omega), if_pos hcn] at kq; exact kq _ ⟨(hcB _ _ rfl).trans hbg, ⟨p1, hp1, (hcB _ _ rfl).trans hat1, hsk1⟩, fun z => (Bool.false_ne_true z).elim⟩ (chg_tr (chg_tr hc (chg_mono2 scER_N hc1)) (chg_mono2 scER_P hcB)))
            · refine Gd_aload_n (i := 0) rfl eX8_eRead_108 ?_
              refine Gd_bipush kb_19 eX8_eRead_109 ?_
              refine Gd_callEV (g_cV (m_opensOne hW (x := 19) hPM1 (by decide) (by omega)) ok_X8_opensOne lk_RX8_163 (W_s50 hW) ⟨_, _, rfl⟩ rfl rfl (Nat.le_of_ble_eq_true rfl) (Nat.le_of_ble_eq_true rfl) (Nat.le_refl _) (Nat.le_refl _) eX8_eRead_111) (fun a2 hq => ?_)
              obtain ⟨hPM2, hcB⟩ := hq
              refine Gd_if_neB eX8_eRead_114 (fun c114 => ?_) (fun c114 => ?_)
              · have hcn : ¬ cnt H = 5 := by simpa using c114
                rw [if_neg hcn] at hPM2
                have f27 := mt r1.mpr c27
                have f35 := mt r2.mpr c35
                have f81 := mt r6.mpr c81
                have f105 := r45.mp c105
                refine Gd_iconst ki_0 eX8_eRead_119 ?_
                refine Gd_istore_n2 rfl eX8_eRead_120 ?_
                refine Gd_goto eX8_eRead_121 ?_
                exact m_eR_L hW h6 hnb h256 hMn hM0 fu 1 (k + 1) _ _ _ _ _ _ _ (hkM (by omega)) (by omega) (by show (H.length + 1) + n ≤ k + 1; omega) (Or.inr (Or.inl ⟨rfl, rfl, rfl⟩)) ⟨TP_ch hP1 hcB rfl (fun _ => rfl), WT_ch hWT1 hcB (fun _ => rfl), (hcB _ _ rfl).trans hnt1, hPM2, p1, hp1, (hcB _ _ rfl).trans hat1, hsk1⟩ (chg_tr (chg_tr hc (chg_mono2 scER_N hc1)) (chg_mono2 scER_P hcB)) (fun a9 q1 q2 => by rw [eR_neg (by decide) (by omega), if_neg hcn] at kq; exact kq a9 q1 q2)
              · have hcn : cnt H = 5 := by simpa using c114
                have f27 := mt r1.mpr c27
                have f35 := mt r2.mpr c35
                have f81 := mt r6.mpr c81
                have f105 := r45.mp c105
                refine Gd_iconst ki_0 eX8_eRead_117 ?_
                exact Gd_zreturn eX8_eRead_118 rfl (by decide) (Nat.le_refl _) (Nat.le_refl _) (by rw [eR_neg (by decide) (by omega), if_pos hcn] at kq; exact kq _ ⟨(hcB _ _ rfl).trans hbg, ⟨p1, hp1, (hcB _ _ rfl).trans hat1, hsk1⟩, fun z => (Bool.false_ne_true z).elim⟩ (chg_tr (chg_tr hc (chg_mono2 scER_N hc1)) (chg_mono2 scER_P hcB)))
          · refine Gd_iload_n (i := 2) rfl eX8_eRead_84 ?_
            refine Gd_if_eq eX8_eRead_85 (fun _ => ?_) (fun q => by first | exact absurd q (by decide) | exact absurd (by decide) q)
            refine Gd_aload_n (i := 0) rfl eX8_eRead_99 ?_
            refine Gd_getIe fl_RX8_128 (W_s50 hW) (htok :) eX8_eRead_100 ?_
            refine Gd_bipush kb_45 eX8_eRead_103 ?_
            refine Gd_icmp_ne eX8_eRead_105 (fun c105 => ?_) (fun c105 => ?_)
            · refine Gd_aload_n (i := 0) rfl eX8_eRead_124 ?_
              refine Gd_getIe fl_RX8_128 (W_s50 hW) (htok :) eX8_eRead_125 ?_
              refine Gd_bipush kb_40 eX8_eRead_128 ?_
              refine Gd_icmp_ne eX8_eRead_130 (fun c130 => ?_) (fun c130 => ?_)
              · have f27 := mt r1.mpr c27
                have f35 := mt r2.mpr c35
                have f81 := r6.mp c81
                have f105 := mt r45.mpr c105
                have f130 := mt r40.mpr c130
                refine Gd_iconst ki_0 eX8_eRead_148 ?_
                exact Gd_zreturn eX8_eRead_149 rfl (by decide) (Nat.le_refl _) (Nat.le_refl _) (by rw [eR_bad (by decide) (by omega) (by omega) (by omega) (by omega)] at kq; exact kq _ ⟨((chg_rf : chg (scPm nt) a1 a1) _ _ rfl).trans hbg, ⟨p1, hp1, ((chg_rf : chg (scPm nt) a1 a1) _ _ rfl).trans hat1, hsk1⟩, fun z => (Bool.false_ne_true z).elim⟩ (chg_tr (chg_tr hc (chg_mono2 scER_N hc1)) (chg_mono2 scER_P (chg_rf : chg (scPm nt) a1 a1))))
              · refine Gd_aload_n (i := 0) rfl eX8_eRead_133 ?_
                refine Gd_iconst ki_0 eX8_eRead_134 ?_
                refine Gd_callEV (g_cV (m_opensOne hW (x := 0) hPM1 (by decide) (by omega)) ok_X8_opensOne lk_RX8_163 (W_s50 hW) ⟨_, _, rfl⟩ rfl rfl (Nat.le_of_ble_eq_true rfl) (Nat.le_of_ble_eq_true rfl) (Nat.le_refl _) (Nat.le_refl _) eX8_eRead_135) (fun a2 hq => ?_)
                obtain ⟨hPM2, hcB⟩ := hq
                refine Gd_if_neB eX8_eRead_138 (fun c138 => ?_) (fun c138 => ?_)
                · have hcn : ¬ cnt H = 5 := by simpa using c138
                  rw [if_neg hcn] at hPM2
                  have f27 := mt r1.mpr c27
                  have f35 := mt r2.mpr c35
                  have f81 := r6.mp c81
                  have f105 := mt r45.mpr c105
                  have f130 := r40.mp c130
                  refine Gd_iconst ki_1 eX8_eRead_143 ?_
                  refine Gd_istore_n2 rfl eX8_eRead_144 ?_
                  refine Gd_goto eX8_eRead_145 ?_
                  exact m_eR_L hW h6 hnb h256 hMn hM0 fu 2 (k + 1) _ _ _ _ _ _ _ (hkM (by omega)) (by omega) (by show (H.length + 1) + n ≤ k + 1; omega) (Or.inr (Or.inr ⟨rfl, rfl, rfl⟩)) ⟨TP_ch hP1 hcB rfl (fun _ => rfl), WT_ch hWT1 hcB (fun _ => rfl), (hcB _ _ rfl).trans hnt1, hPM2, p1, hp1, (hcB _ _ rfl).trans hat1, hsk1⟩ (chg_tr (chg_tr hc (chg_mono2 scER_N hc1)) (chg_mono2 scER_P hcB)) (fun a9 q1 q2 => by rw [eR_par (by decide) (by omega), if_neg hcn] at kq; exact kq a9 q1 q2)
                · have hcn : cnt H = 5 := by simpa using c138
                  have f27 := mt r1.mpr c27
                  have f35 := mt r2.mpr c35
                  have f81 := r6.mp c81
                  have f105 := mt r45.mpr c105
                  have f130 := r40.mp c130
                  refine Gd_iconst ki_0 eX8_eRead_141 ?_
                  exact Gd_zreturn eX8_eRead_142 rfl (by decide) (Nat.le_refl _) (Nat.le_refl _) (by rw [eR_par (by decide) (by omega), if_pos hcn] at kq; exact kq _ ⟨(hcB _ _ rfl).trans hbg, ⟨p1, hp1, (hcB _ _ rfl).trans hat1, hsk1⟩, fun z => (Bool.false_ne_true z).elim⟩ (chg_tr (chg_tr hc (chg_mono2 scER_N hc1)) (chg_mono2 scER_P hcB)))
            · refine Gd_aload_n (i := 0) rfl eX8_eRead_108 ?_
              refine Gd_bipush kb_19 eX8_eRead_109 ?_
              refine Gd_callEV (g_cV (m_opensOne hW (x := 19) hPM1 (by decide) (by omega)) ok_X8_opensOne lk_RX8_163 (W_s50 hW) ⟨_, _, rfl⟩ rfl rfl (Nat.le_of_ble_eq_true rfl) (Nat.le_of_ble_eq_true rfl) (Nat.le_refl _) (Nat.le_refl _) eX8_eRead_111) (fun a2 hq => ?_)
              obtain ⟨hPM2, hcB⟩ := hq
              refine Gd_if_neB eX8_eRead_114 (fun c114 => ?_) (fun c114 => ?_)
              · have hcn : ¬ cnt H = 5 := by simpa using c114
                rw [if_neg hcn] at hPM2
                have f27 := mt r1.mpr c27
                have f35 := mt r2.mpr c35
                have f81 := r6.mp c81
                have f105 := r45.mp c105
                refine Gd_iconst ki_0 eX8_eRead_119 ?_
                refine Gd_istore_n2 rfl eX8_eRead_120 ?_
                refine Gd_goto eX8_eRead_121 ?_
                exact m_eR_L hW h6 hnb h256 hMn hM0 fu 1 (k + 1) _ _ _ _ _ _ _ (hkM (by omega)) (by omega) (by show (H.length + 1) + n ≤ k + 1; omega) (Or.inr (Or.inl ⟨rfl, rfl, rfl⟩)) ⟨TP_ch hP1 hcB rfl (fun _ => rfl), WT_ch hWT1 hcB (fun _ => rfl), (hcB _ _ rfl).trans hnt1, hPM2, p1, hp1, (hcB _ _ rfl).trans hat1, hsk1⟩ (chg_tr (chg_tr hc (chg_mono2 scER_N hc1)) (chg_mono2 scER_P hcB)) (fun a9 q1 q2 => by rw [eR_neg (by decide) (by omega), if_neg hcn] at kq; exact kq a9 q1 q2)
              · have hcn : cnt H = 5 := by simpa using c114
                have f27 := mt r1.mpr c27
                have f35 := mt r2.mpr c35
                have f81 := r6.mp c81
                have f105 := r45.mp c105
                refine Gd_iconst ki_0 eX8_eRead_117 ?_
                exact Gd_zreturn eX8_eRead_118 rfl (by decide) (Nat.le_refl _) (Nat.le_refl _) (by rw [eR_neg (by decide) (by omega), if_pos hcn] at kq; exact kq _ ⟨(hcB _ _ rfl).trans hbg, ⟨p1, hp1, (hcB _ _ rfl).trans hat1, hsk1⟩, fun z => (Bool.false_ne_true z).elim⟩ (chg_tr (chg_tr hc (chg_mono2 scER_N hc1)) (chg_mono2 scER_P hcB)))
        · have f27 := mt r1.mpr c27
          have f35 := r2.mp c35
          have hv1 : a1 50 23 = nI (tkv t) := hval (by omega)
          refine Gd_aload_n (i := 0) rfl eX8_eRead_38 ?_
          refine Gd_aload_n (i := 0) rfl eX8_eRead_39 ?_
          refine Gd_getIe fl_RX8_128 (W_s50 hW) (htok :) eX8_eRead_40 ?_
          refine Gd_iconst ki_1 eX8_eRead_43 ?_
          refine Gd_icmp_ne eX8_eRead_44 (fun c44 => ?_) (fun c44 => ?_)
          · have f44 := mt r1.mpr c44
            refine Gd_aload_n (i := 0) rfl eX8_eRead_57 ?_
            refine Gd_getIe (v := nI (tkv t)) fl_RX8_131 (W_s50 hW) (hv1 :) eX8_eRead_58 ?_
            have ho := (opc_tkv htl).2 f35
            rw [ho.1]
            refine Gd_callP0 (g_cV (m_puts hW hnt1 h6 (n := n) (v := opc t) hPM1.2.2.2.1 (by omega)) ok_X8_puts lk_RX8_149 (W_s50 hW) ⟨_, _, rfl⟩ rfl rfl (Nat.le_of_ble_eq_true rfl) (Nat.le_of_ble_eq_true rfl) (Nat.le_refl _) (Nat.le_refl _) eX8_eRead_61) rfl ?_
            refine Gd_aload_n (i := 0) rfl eX8_eRead_64 ?_
            refine Gd_bipush kb_7 eX8_eRead_65 ?_
            refine Gd_callE0 (g_cV (m_unwinds hW h6 (l := 7) (by decide) (H := H) (n := n + 1) (c := va_up c n (opc t)) (by omega) (PM_put hPM1) hnt1) ok_X8_unwinds lk_RX8_156 (W_s50 hW) ⟨_, _, rfl⟩ rfl rfl (Nat.le_of_ble_eq_true rfl) (Nat.le_of_ble_eq_true rfl) (Nat.le_refl _) (Nat.le_refl _) eX8_eRead_67) (fun a2 hq => ?_)
            obtain ⟨hPM2, hcU⟩ := hq
            refine Gd_iconst ki_0 eX8_eRead_70 ?_
            refine Gd_istore_n1 rfl eX8_eRead_71 ?_
            refine Gd_goto eX8_eRead_72 ?_
            have hcB : chg (scPm nt) a1 a2 := chg_tr (chg_up (chg_up chg_rf (by simp [scPm])) rfl) hcU
            have hln2 := unw_len (l := 7) H (n + 1) (va_up c n (opc t))
            generalize hU : unw 7 H (n + 1) (va_up c n (opc t)) = U at hPM2 hln2
            obtain ⟨H5, n5, c5⟩ := U
            have hln5 : H5.length + n5 = H.length + (n + 1) := hln2
            exact m_eR_L hW h6 hnb h256 hMn hM0 fu 0 (k + 1) _ _ _ _ _ _ _ (hkM (by omega)) (by omega) (by omega) (Or.inl ⟨rfl, rfl⟩) ⟨TP_ch hP1 hcB rfl (fun _ => rfl), WT_ch hWT1 hcB (fun _ => rfl), (hcB _ _ rfl).trans hnt1, hPM2, p1, hp1, (hcB _ _ rfl).trans hat1, hsk1⟩ (chg_tr (chg_tr hc (chg_mono2 scER_N hc1)) (chg_mono2 scER_P hcB)) (fun a9 q1 q2 => by rw [eR_op (by decide) (by omega), ← ht] at kq; rw [← hU] at q1 ⊢; exact kq a9 q1 q2)
          · have f44 := r1.mp c44
            exact absurd f35 (by omega)
    · refine Gd_iload_n (i := 1) rfl eX8_eRead_18 ?_
      refine Gd_if_eq eX8_eRead_19 (fun q => by first | exact absurd q (by decide) | exact absurd (by decide) q) (fun _ => ?_)
      refine Gd_aload_n (i := 0) rfl eX8_eRead_22 ?_
      refine Gd_getIe fl_RX8_128 (W_s50 hW) (htok :) eX8_eRead_23 ?_
      refine Gd_iconst ki_1 eX8_eRead_26 ?_
      refine Gd_icmp_eq eX8_eRead_27 (fun c27 => ?_) (fun c27 => ?_)
      · have f27 := r1.mp c27
        have hv1 : a1 50 23 = nI (tkv t) := hval (by omega)
        refine Gd_aload_n (i := 0) rfl eX8_eRead_38 ?_
        refine Gd_aload_n (i := 0) rfl eX8_eRead_39 ?_
        refine Gd_getIe fl_RX8_128 (W_s50 hW) (htok :) eX8_eRead_40 ?_
        refine Gd_iconst ki_1 eX8_eRead_43 ?_
        refine Gd_icmp_ne eX8_eRead_44 (fun c44 => ?_) (fun c44 => ?_)
        · have f44 := mt r1.mpr c44
          exact absurd f27 (by omega)
        · have f44 := r1.mp c44
          refine Gd_ldc (v := nI 100000) ct_RX8_162 eX8_eRead_47 ?_
          refine Gd_aload_n (i := 0) rfl eX8_eRead_49 ?_
          refine Gd_getIe (v := nI (tkv t)) fl_RX8_131 (W_s50 hW) (hv1 :) eX8_eRead_50 ?_
          refine Gd_iaddN eX8_eRead_53 ?_
          refine Gd_goto eX8_eRead_54 ?_
          have ho := (opc_tkv htl).1 f27.1 f27.2
          rw [ho]
          refine Gd_callP0 (g_cV (m_puts hW hnt1 h6 (n := n) (v := opc t) hPM1.2.2.2.1 (by omega)) ok_X8_puts lk_RX8_149 (W_s50 hW) ⟨_, _, rfl⟩ rfl rfl (Nat.le_of_ble_eq_true rfl) (Nat.le_of_ble_eq_true rfl) (Nat.le_refl _) (Nat.le_refl _) eX8_eRead_61) rfl ?_
          refine Gd_aload_n (i := 0) rfl eX8_eRead_64 ?_
          refine Gd_bipush kb_7 eX8_eRead_65 ?_
          refine Gd_callE0 (g_cV (m_unwinds hW h6 (l := 7) (by decide) (H := H) (n := n + 1) (c := va_up c n (opc t)) (by omega) (PM_put hPM1) hnt1) ok_X8_unwinds lk_RX8_156 (W_s50 hW) ⟨_, _, rfl⟩ rfl rfl (Nat.le_of_ble_eq_true rfl) (Nat.le_of_ble_eq_true rfl) (Nat.le_refl _) (Nat.le_refl _) eX8_eRead_67) (fun a2 hq => ?_)
          obtain ⟨hPM2, hcU⟩ := hq
          refine Gd_iconst ki_0 eX8_eRead_70 ?_
          refine Gd_istore_n1 rfl eX8_eRead_71 ?_
          refine Gd_goto eX8_eRead_72 ?_
          have hcB : chg (scPm nt) a1 a2 := chg_tr (chg_up (chg_up chg_rf (by simp [scPm])) rfl) hcU
          have hln2 := unw_len (l := 7) H (n + 1) (va_up c n (opc t))
          generalize hU : unw 7 H (n + 1) (va_up c n (opc t)) = U at hPM2 hln2
          obtain ⟨H5, n5, c5⟩ := U
          have hln5 : H5.length + n5 = H.length + (n + 1) := hln2
          exact m_eR_L hW h6 hnb h256 hMn hM0 fu 0 (k + 1) _ _ _ _ _ _ _ (hkM (by omega)) (by omega) (by omega) (Or.inl ⟨rfl, rfl⟩) ⟨TP_ch hP1 hcB rfl (fun _ => rfl), WT_ch hWT1 hcB (fun _ => rfl), (hcB _ _ rfl).trans hnt1, hPM2, p1, hp1, (hcB _ _ rfl).trans hat1, hsk1⟩ (chg_tr (chg_tr hc (chg_mono2 scER_N hc1)) (chg_mono2 scER_P hcB)) (fun a9 q1 q2 => by rw [eR_op (by decide) (by omega), ← ht] at kq; rw [← hU] at q1 ⊢; exact kq a9 q1 q2)
      · refine Gd_aload_n (i := 0) rfl eX8_eRead_30 ?_
        refine Gd_getIe fl_RX8_128 (W_s50 hW) (htok :) eX8_eRead_31 ?_
        refine Gd_iconst ki_2 eX8_eRead_34 ?_
        refine Gd_icmp_ne eX8_eRead_35 (fun c35 => ?_) (fun c35 => ?_)
        · refine Gd_aload_n (i := 0) rfl eX8_eRead_75 ?_
          refine Gd_getIe fl_RX8_128 (W_s50 hW) (htok :) eX8_eRead_76 ?_
          refine Gd_bipush kb_6 eX8_eRead_79 ?_
          refine Gd_icmp_ne eX8_eRead_81 (fun c81 => ?_) (fun c81 => ?_)
          · refine Gd_aload_n (i := 0) rfl eX8_eRead_99 ?_
            refine Gd_getIe fl_RX8_128 (W_s50 hW) (htok :) eX8_eRead_100 ?_
            refine Gd_bipush kb_45 eX8_eRead_103 ?_
            refine Gd_icmp_ne eX8_eRead_105 (fun c105 => ?_) (fun c105 => ?_)
            · refine Gd_aload_n (i := 0) rfl eX8_eRead_124 ?_
              refine Gd_getIe fl_RX8_128 (W_s50 hW) (htok :) eX8_eRead_125 ?_
              refine Gd_bipush kb_40 eX8_eRead_128 ?_
              refine Gd_icmp_ne eX8_eRead_130 (fun c130 => ?_) (fun c130 => ?_)
              · have f27 := mt r1.mpr c27
                have f35 := mt r2.mpr c35
                have f81 := mt r6.mpr c81
                have f105 := mt r45.mpr c105
                have f130 := mt r40.mpr c130
                refine Gd_iconst ki_0 eX8_eRead_148 ?_
                exact Gd_zreturn eX8_eRead_149 rfl (by decide) (Nat.le_refl _) (Nat.le_refl _) (by rw [eR_bad (by decide) (by omega) (by omega) (by omega) (by omega)] at kq; exact kq _ ⟨((chg_rf : chg (scPm nt) a1 a1) _ _ rfl).trans hbg, ⟨p1, hp1, ((chg_rf : chg (scPm nt) a1 a1) _ _ rfl).trans hat1, hsk1⟩, fun z => (Bool.false_ne_true z).elim⟩ (chg_tr (chg_tr hc (chg_mono2 scER_N hc1)) (chg_mono2 scER_P (chg_rf : chg (scPm nt) a1 a1))))
              · refine Gd_aload_n (i := 0) rfl eX8_eRead_133 ?_
                refine Gd_iconst ki_0 eX8_eRead_134 ?_
                refine Gd_callEV (g_cV (m_opensOne hW (x := 0) hPM1 (by decide) (by omega)) ok_X8_opensOne lk_RX8_163 (W_s50 hW) ⟨_, _, rfl⟩ rfl rfl (Nat.le_of_ble_eq_true rfl) (Nat.le_of_ble_eq_true rfl) (Nat.le_refl _) (Nat.le_refl _) eX8_eRead_135) (fun a2 hq => ?_)
                obtain ⟨hPM2, hcB⟩ := hq
                refine Gd_if_neB eX8_eRead_138 (fun c138 => ?_) (fun c138 => ?_)
                · have hcn : ¬ cnt H = 5 := by simpa using c138
                  rw [if_neg hcn] at hPM2
                  have f27 := mt r1.mpr c27
                  have f35 := mt r2.mpr c35
                  have f81 := mt r6.mpr c81
                  have f105 := mt r45.mpr c105
                  have f130 := r40.mp c130
                  refine Gd_iconst ki_1 eX8_eRead_143 ?_
                  refine Gd_istore_n2 rfl eX8_eRead_144 ?_
                  refine Gd_goto eX8_eRead_145 ?_
                  exact m_eR_L hW h6 hnb h256 hMn hM0 fu 2 (k + 1) _ _ _ _ _ _ _ (hkM (by omega)) (by omega) (by show (H.length + 1) + n ≤ k + 1; omega) (Or.inr (Or.inr ⟨rfl, rfl, rfl⟩)) ⟨TP_ch hP1 hcB rfl (fun _ => rfl), WT_ch hWT1 hcB (fun _ => rfl), (hcB _ _ rfl).trans hnt1, hPM2, p1, hp1, (hcB _ _ rfl).trans hat1, hsk1⟩ (chg_tr (chg_tr hc (chg_mono2 scER_N hc1)) (chg_mono2 scER_P hcB)) (fun a9 q1 q2 => by rw [eR_par (by decide) (by omega), if_neg hcn] at kq; exact kq a9 q1 q2)
                · have hcn : cnt H = 5 := by simpa using c138
                  have f27 := mt r1.mpr c27
                  have f35 := mt r2.mpr c35
                  have f81 := mt r6.mpr c81
                  have f105 := mt r45.mpr c105
                  have f130 := r40.mp c130
                  refine Gd_iconst ki_0 eX8_eRead_141 ?_
                  exact Gd_zreturn eX8_eRead_142 rfl (by decide) (Nat.le_refl _) (Nat.le_refl _) (by rw [eR_par (by decide) (by omega), if_pos hcn] at kq; exact kq _ ⟨(hcB _ _ rfl).trans hbg, ⟨p1, hp1, (hcB _ _ rfl).trans hat1, hsk1⟩, fun z => (Bool.false_ne_true z).elim⟩ (chg_tr (chg_tr hc (chg_mono2 scER_N hc1)) (chg_mono2 scER_P hcB)))
            · refine Gd_aload_n (i := 0) rfl eX8_eRead_108 ?_
              refine Gd_bipush kb_19 eX8_eRead_109 ?_
              refine Gd_callEV (g_cV (m_opensOne hW (x := 19) hPM1 (by decide) (by omega)) ok_X8_opensOne lk_RX8_163 (W_s50 hW) ⟨_, _, rfl⟩ rfl rfl (Nat.le_of_ble_eq_true rfl) (Nat.le_of_ble_eq_true rfl) (Nat.le_refl _) (Nat.le_refl _) eX8_eRead_111) (fun a2 hq => ?_)
              obtain ⟨hPM2, hcB⟩ := hq
              refine Gd_if_neB eX8_eRead_114 (fun c114 => ?_) (fun c114 => ?_)
              · have hcn : ¬ cnt H = 5 := by simpa using c114
                rw [if_neg hcn] at hPM2
                have f27 := mt r1.mpr c27
                have f35 := mt r2.mpr c35
                have f81 := mt r6.mpr c81
                have f105 := r45.mp c105
                refine Gd_iconst ki_0 eX8_eRead_119 ?_
                refine Gd_istore_n2 rfl eX8_eRead_120 ?_
                refine Gd_goto eX8_eRead_121 ?_
                exact m_eR_L hW h6 hnb h256 hMn hM0 fu 1 (k + 1) _ _ _ _ _ _ _ (hkM (by omega)) (by omega) (by show (H.length + 1) + n ≤ k + 1; omega) (Or.inr (Or.inl ⟨rfl, rfl, rfl⟩)) ⟨TP_ch hP1 hcB rfl (fun _ => rfl), WT_ch hWT1 hcB (fun _ => rfl), (hcB _ _ rfl).trans hnt1, hPM2, p1, hp1, (hcB _ _ rfl).trans hat1, hsk1⟩ (chg_tr (chg_tr hc (chg_mono2 scER_N hc1)) (chg_mono2 scER_P hcB)) (fun a9 q1 q2 => by rw [eR_neg (by decide) (by omega), if_neg hcn] at kq; exact kq a9 q1 q2)
              · have hcn : cnt H = 5 := by simpa using c114
                have f27 := mt r1.mpr c27
                have f35 := mt r2.mpr c35
                have f81 := mt r6.mpr c81
                have f105 := r45.mp c105
                refine Gd_iconst ki_0 eX8_eRead_117 ?_
                exact Gd_zreturn eX8_eRead_118 rfl (by decide) (Nat.le_refl _) (Nat.le_refl _) (by rw [eR_neg (by decide) (by omega), if_pos hcn] at kq; exact kq _ ⟨(hcB _ _ rfl).trans hbg, ⟨p1, hp1, (hcB _ _ rfl).trans hat1, hsk1⟩, fun z => (Bool.false_ne_true z).elim⟩ (chg_tr (chg_tr hc (chg_mono2 scER_N hc1)) (chg_mono2 scER_P hcB)))
          · refine Gd_iload_n (i := 2) rfl eX8_eRead_84 ?_
            refine Gd_if_eq eX8_eRead_85 (fun q => by first | exact absurd q (by decide) | exact absurd (by decide) q) (fun _ => ?_)
            refine Gd_aload_n (i := 0) rfl eX8_eRead_88 ?_
            refine Gd_bipush kb_13 eX8_eRead_89 ?_
            refine Gd_callEV (g_cV (m_opensOne hW (x := 13) hPM1 (by decide) (by omega)) ok_X8_opensOne lk_RX8_163 (W_s50 hW) ⟨_, _, rfl⟩ rfl rfl (Nat.le_of_ble_eq_true rfl) (Nat.le_of_ble_eq_true rfl) (Nat.le_refl _) (Nat.le_refl _) eX8_eRead_91) (fun a2 hq => ?_)
            obtain ⟨hPM2, hcB⟩ := hq
            refine Gd_if_neB eX8_eRead_94 (fun c94 => ?_) (fun c94 => ?_)
            · have hcn : ¬ cnt H = 5 := by simpa using c94
              rw [if_neg hcn] at hPM2
              have f27 := mt r1.mpr c27
              have f35 := mt r2.mpr c35
              have f81 := r6.mp c81
              exact m_eR_L hW h6 hnb h256 hMn hM0 fu 2 (k + 1) _ _ _ _ _ _ _ (hkM (by omega)) (by omega) (by show (H.length + 1) + n ≤ k + 1; omega) (Or.inr (Or.inr ⟨rfl, rfl, rfl⟩)) ⟨TP_ch hP1 hcB rfl (fun _ => rfl), WT_ch hWT1 hcB (fun _ => rfl), (hcB _ _ rfl).trans hnt1, hPM2, p1, hp1, (hcB _ _ rfl).trans hat1, hsk1⟩ (chg_tr (chg_tr hc (chg_mono2 scER_N hc1)) (chg_mono2 scER_P hcB)) (fun a9 q1 q2 => by rw [eR_not (by omega), if_neg hcn] at kq; exact kq a9 q1 q2)
            · have hcn : cnt H = 5 := by simpa using c94
              have f27 := mt r1.mpr c27
              have f35 := mt r2.mpr c35
              have f81 := r6.mp c81
              refine Gd_iconst ki_0 eX8_eRead_97 ?_
              exact Gd_zreturn eX8_eRead_98 rfl (by decide) (Nat.le_refl _) (Nat.le_refl _) (by rw [eR_not (by omega), if_pos hcn] at kq; exact kq _ ⟨(hcB _ _ rfl).trans hbg, ⟨p1, hp1, (hcB _ _ rfl).trans hat1, hsk1⟩, fun z => (Bool.false_ne_true z).elim⟩ (chg_tr (chg_tr hc (chg_mono2 scER_N hc1)) (chg_mono2 scER_P hcB)))
        · have f27 := mt r1.mpr c27
          have f35 := r2.mp c35
          have hv1 : a1 50 23 = nI (tkv t) := hval (by omega)
          refine Gd_aload_n (i := 0) rfl eX8_eRead_38 ?_
          refine Gd_aload_n (i := 0) rfl eX8_eRead_39 ?_
          refine Gd_getIe fl_RX8_128 (W_s50 hW) (htok :) eX8_eRead_40 ?_
          refine Gd_iconst ki_1 eX8_eRead_43 ?_
          refine Gd_icmp_ne eX8_eRead_44 (fun c44 => ?_) (fun c44 => ?_)
          · have f44 := mt r1.mpr c44
            refine Gd_aload_n (i := 0) rfl eX8_eRead_57 ?_
            refine Gd_getIe (v := nI (tkv t)) fl_RX8_131 (W_s50 hW) (hv1 :) eX8_eRead_58 ?_
            have ho := (opc_tkv htl).2 f35
            rw [ho.1]
            refine Gd_callP0 (g_cV (m_puts hW hnt1 h6 (n := n) (v := opc t) hPM1.2.2.2.1 (by omega)) ok_X8_puts lk_RX8_149 (W_s50 hW) ⟨_, _, rfl⟩ rfl rfl (Nat.le_of_ble_eq_true rfl) (Nat.le_of_ble_eq_true rfl) (Nat.le_refl _) (Nat.le_refl _) eX8_eRead_61) rfl ?_
            refine Gd_aload_n (i := 0) rfl eX8_eRead_64 ?_
            refine Gd_bipush kb_7 eX8_eRead_65 ?_
            refine Gd_callE0 (g_cV (m_unwinds hW h6 (l := 7) (by decide) (H := H) (n := n + 1) (c := va_up c n (opc t)) (by omega) (PM_put hPM1) hnt1) ok_X8_unwinds lk_RX8_156 (W_s50 hW) ⟨_, _, rfl⟩ rfl rfl (Nat.le_of_ble_eq_true rfl) (Nat.le_of_ble_eq_true rfl) (Nat.le_refl _) (Nat.le_refl _) eX8_eRead_67) (fun a2 hq => ?_)
            obtain ⟨hPM2, hcU⟩ := hq
            refine Gd_iconst ki_0 eX8_eRead_70 ?_
            refine Gd_istore_n1 rfl eX8_eRead_71 ?_
            refine Gd_goto eX8_eRead_72 ?_
            have hcB : chg (scPm nt) a1 a2 := chg_tr (chg_up (chg_up chg_rf (by simp [scPm])) rfl) hcU
            have hln2 := unw_len (l := 7) H (n + 1) (va_up c n (opc t))
            generalize hU : unw 7 H (n + 1) (va_up c n (opc t)) = U at hPM2 hln2
            obtain ⟨H5, n5, c5⟩ := U
            have hln5 : H5.length + n5 = H.length + (n + 1) := hln2
            exact m_eR_L hW h6 hnb h256 hMn hM0 fu 0 (k + 1) _ _ _ _ _ _ _ (hkM (by omega)) (by omega) (by omega) (Or.inl ⟨rfl, rfl⟩) ⟨TP_ch hP1 hcB rfl (fun _ => rfl), WT_ch hWT1 hcB (fun _ => rfl), (hcB _ _ rfl).trans hnt1, hPM2, p1, hp1, (hcB _ _ rfl).trans hat1, hsk1⟩ (chg_tr (chg_tr hc (chg_mono2 scER_N hc1)) (chg_mono2 scER_P hcB)) (fun a9 q1 q2 => by rw [eR_op (by decide) (by omega), ← ht] at kq; rw [← hU] at q1 ⊢; exact kq a9 q1 q2)
          · have f44 := r1.mp c44
            exact absurd f35 (by omega)
theorem m_eRead {sh : List (Nat × Nat)} {a : Nat → Nat → Int32} {r : Nat → Nat → Option Nat} {g : Nat → Nat → Int64} {nt : Nat} {tp : Nat → Nat} {nb M : Nat} (hW : WD sh r) (h6 : nt < 6) (hnb : nb ≤ 160) (h256 : ∀ i, i < nb → tp i < 256) (hMn : M ≤ nb) (hM0 : tqf tp nb M = 0) {fu k n p : Nat} {c : Nat → Nat} (hk : k ≤ M) (hfu : M < k + fu) (hn : n ≤ k) (hP : TP 50 8 55 nb tp a) (hWT : WT a) (hnt : a 50 11 = nI nt) (hout : a 50 28 = nI n) (hcd : ∀ i, i < n → a 56 (200 * nt + i) = nI (c i)) (hp : p ≤ nb) (hat : a 50 20 = nI p) (hsk : sk tp nb p = bs tp nb k) : Mt YX8_eRead 3 0 0 [vr 50] (sh, a, r, g) (g_EV sh r g (vi (bI (eR (tqf tp nb) fu 2 k ([], n, c)).1)) (fun a' => ERp nt tp nb (eR (tqf tp nb) fu 2 k ([], n, c)) a' ∧ chg (scER nt) a a')) := by
  refine Mt_of rfl (Nat.le_of_ble_eq_true rfl) rfl ?_
  refine Gd_aload_n (i := 0) rfl eX8_eRead_0 ?_
  refine Gd_iconst ki_0 eX8_eRead_1 ?_
  refine Gd_putI fl_RX8_140 (W_s50 hW) eX8_eRead_2 ?_
  refine Gd_aload_n (i := 0) rfl eX8_eRead_5 ?_
  refine Gd_iconst ki_0 eX8_eRead_6 ?_
  refine Gd_putI fl_RX8_146 (W_s50 hW) eX8_eRead_7 ?_
  have hcB : chg (scPm nt) a (up2 (up2 a 50 26 (nI 0)) 50 27 (nI 0)) := chg_up (chg_up chg_rf rfl) rfl
  refine Gd_iconst ki_1 eX8_eRead_10 ?_
  refine Gd_istore_n1 rfl eX8_eRead_11 ?_
  refine Gd_iconst ki_1 eX8_eRead_12 ?_
  refine Gd_istore_n2 rfl eX8_eRead_13 ?_
  exact m_eR_L hW h6 hnb h256 hMn hM0 fu 2 k [] n c _ _ _ _ hk hfu (by rw [List.length_nil]; omega) (Or.inr (Or.inr ⟨rfl, rfl, rfl⟩)) ⟨TP_ch hP (S := scPm nt) hcB rfl (fun _ => rfl), WT_ch hWT hcB (fun _ => rfl), (hcB _ _ rfl).trans hnt, ⟨by simp [up2], trivial, by simp [up2, cnt], hout, hcd⟩, p, hp, hat, hsk⟩ (chg_mono2 scER_P hcB) (fun a9 q1 q2 => ⟨a9, rfl, rfl, q1, q2⟩)
