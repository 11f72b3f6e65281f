theorem inb_iff {t lo hi : Nat} (ht : t < 256) (hh : hi < 256) (hl : lo ≤ hi) : inb (nI t) (nI lo) (nI hi) = decide (lo ≤ t ∧ t ≤ hi) := by
  by_cases h : lo ≤ t ∧ t ≤ hi
  · rw [decide_eq_true h]; exact inb_nI h.1 h.2 (by omega)
  · rw [decide_eq_false h]
    cases q : inb (nI t) (nI lo) (nI hi) with
    | false => rfl
    | true =>
      obtain ⟨j, h1, h2, h3⟩ := inb_r (by omega) hl q
      exact absurd ⟨by rw [nI_inj (by omega) (by omega) h3]; exact h1, by rw [nI_inj (by omega) (by omega) h3]; exact h2⟩ h
theorem m_inN {h : g_H} {t lo hi : Nat} (ht : t < 256) (hh : hi < 256) (hl : lo ≤ hi) : Mt YX8_in 0 0 0 [vi (nI t), vi (nI lo), vi (nI hi)] h (g_P (some (vi (bI (decide (lo ≤ t ∧ t ≤ hi))))) h) := by
  rw [← inb_iff ht hh hl]; exact m_in _ _ _
def scAt (k j : Nat) : Bool := decide (k = 50) && decide (j = 20)
def scAv (k j : Nat) : Bool := decide (k = 50) && decide (j = 20 ∨ j = 23)
def scNx (k j : Nat) : Bool := decide (k = 50) && decide (j = 20 ∨ j = 21 ∨ j = 22 ∨ j = 23)
theorem scAt_x {k j : Nat} (h : scNx k j = false) : scAt k j = false := by
  simp only [scNx, scAt, Bool.and_eq_false_iff, decide_eq_false_iff_not] at h ⊢; omega
theorem scAv_x {k j : Nat} (h : scNx k j = false) : scAv k j = false := by
  simp only [scNx, scAv, Bool.and_eq_false_iff, decide_eq_false_iff_not] at h ⊢; omega
/-- digits' value so far -/
def dgv (tp : Nat → Nat) (b q : Nat) : Nat := if q ≤ 4 then nmv tp b q else 0
theorem m_nx_A {sh : List (Nat × Nat)} {r : Nat → Nat → Option Nat} {g : Nat → Nat → Int64} {tp : Nat → Nat} {nb : Nat} (hW : WD sh r) (hnb : nb ≤ 160) (h256 : ∀ i, i < nb → tp i < 256) {Q : Option g_V → g_H → Prop} {N0 B : Nat} {x1 x2 : Option g_V} {a0 : Nat → Nat → Int32} : ∀ (m i : Nat) (a : Nat → Nat → Int32), i + m = nb → sk tp nb i = B → TP 50 8 55 nb tp a → a 50 20 = nI i → chg scAt a0 a → (∀ a', TP 50 8 55 nb tp a' → a' 50 20 = nI B → chg scAt a0 a' → Gd YX8_next (z0 1 N0 Q) 0 0 52 [some (vr 50), x1, x2] [] (sh, a', r, g)) → Gd YX8_next (z0 1 N0 Q) 0 0 0 [some (vr 50), x1, x2] [] (sh, a, r, g)
  | 0, i, a, hn, hB, hP, hat, hc, kq => by
    refine Gd_aload_n (i := 0) rfl eX8_next_0 ?_
    refine Gd_getIe (v := nI (i)) fl_RX8_122 (W_s50 hW) (hat :) eX8_next_1 ?_
    refine Gd_aload_n (i := 0) rfl eX8_next_4 ?_
    refine Gd_getIe (v := nI (nb)) fl_RX8_74 (W_s50 hW) (hP.1 :) eX8_next_5 ?_
    refine Gd_icmp_geN (by first | omega | decide) (by first | omega | decide) eX8_next_8 (fun c8 => ?_) (fun c8 => ?_)
    · exact kq a hP (by rw [hat, ← hB, show i = nb by omega, sk_e]) hc
    · exact absurd c8 (by omega)
  | m + 1, i, a, hn, hB, hP, hat, hc, kq => by
    refine Gd_aload_n (i := 0) rfl eX8_next_0 ?_
    refine Gd_getIe (v := nI (i)) fl_RX8_122 (W_s50 hW) (hat :) eX8_next_1 ?_
    refine Gd_aload_n (i := 0) rfl eX8_next_4 ?_
    refine Gd_getIe (v := nI (nb)) fl_RX8_74 (W_s50 hW) (hP.1 :) eX8_next_5 ?_
    refine Gd_icmp_geN (by first | omega | decide) (by first | omega | decide) eX8_next_8 (fun c8 => ?_) (fun c8 => ?_)
    · exact kq a hP (by rw [hat, ← hB, show i = nb by omega, sk_e]) hc
    · have hti := h256 i (by omega)
      refine Gd_aload_n (i := 0) rfl eX8_next_11 ?_
      refine Gd_getR fl_RX8_26 (W_s50 hW) (W_r50_7 hW) eX8_next_12 ?_
      refine Gd_aload_n (i := 0) rfl eX8_next_15 ?_
      refine Gd_getIe (v := nI (i)) fl_RX8_122 (W_s50 hW) (hat :) eX8_next_16 ?_
      refine Gd_ialdE (v := nI (tp i)) (W_s55 hW) (by first | omega | decide) (hP.2 i (by omega) :) eX8_next_19 ?_
      refine Gd_bipush kb_32 eX8_next_20 ?_
      refine Gd_icmp_eqN (by first | omega | decide) (by first | omega | decide) eX8_next_22 (fun c22 => ?_) (fun c22 => ?_)
      · refine Gd_aload_n (i := 0) rfl eX8_next_39 ?_
        refine Gd_dup rfl eX8_next_40 ?_
        refine Gd_getIe (v := nI (i)) fl_RX8_122 (W_s50 hW) (hat :) eX8_next_41 ?_
        refine Gd_iconst ki_1 eX8_next_44 ?_
        refine Gd_iaddN eX8_next_45 ?_
        refine Gd_putI fl_RX8_122 (W_s50 hW) eX8_next_46 ?_
        refine Gd_goto eX8_next_49 ?_
        exact m_nx_A hW hnb h256 m (i + 1) _ (by omega) (by rw [← sk_s (by omega) (Or.inl c22)]; exact hB) (TP_ch hP (S := scAt) (chg_up chg_rf rfl) rfl (fun _ => rfl)) (up2_s _ _ _ _) (chg_up hc rfl) kq
      · refine Gd_aload_n (i := 0) rfl eX8_next_25 ?_
        refine Gd_getR fl_RX8_26 (W_s50 hW) (W_r50_7 hW) eX8_next_26 ?_
        refine Gd_aload_n (i := 0) rfl eX8_next_29 ?_
        refine Gd_getIe (v := nI (i)) fl_RX8_122 (W_s50 hW) (hat :) eX8_next_30 ?_
        refine Gd_ialdE (v := nI (tp i)) (W_s55 hW) (by first | omega | decide) (hP.2 i (by omega) :) eX8_next_33 ?_
        refine Gd_bipush kb_10 eX8_next_34 ?_
        refine Gd_icmp_neN (by first | omega | decide) (by first | omega | decide) eX8_next_36 (fun c36 => ?_) (fun c36 => ?_)
        · exact kq a hP (by rw [hat, ← hB, sk_n (fun z => z.elim c22 c36)]) hc
        · refine Gd_aload_n (i := 0) rfl eX8_next_39 ?_
          refine Gd_dup rfl eX8_next_40 ?_
          refine Gd_getIe (v := nI (i)) fl_RX8_122 (W_s50 hW) (hat :) eX8_next_41 ?_
          refine Gd_iconst ki_1 eX8_next_44 ?_
          refine Gd_iaddN eX8_next_45 ?_
          refine Gd_putI fl_RX8_122 (W_s50 hW) eX8_next_46 ?_
          refine Gd_goto eX8_next_49 ?_
          exact m_nx_A hW hnb h256 m (i + 1) _ (by omega) (by rw [← sk_s (by omega) (Or.inr c36)]; exact hB) (TP_ch hP (S := scAt) (chg_up chg_rf rfl) rfl (fun _ => rfl)) (up2_s _ _ _ _) (chg_up hc rfl) kq
theorem m_nx_B {sh : List (Nat × Nat)} {r : Nat → Nat → Option Nat} {g : Nat → Nat → Int64} {tp : Nat → Nat} {nb : Nat} (hW : WD sh r) (hnb : nb ≤ 160) (h256 : ∀ i, i < nb → tp i < 256) {Q : Option g_V → g_H → Prop} {N0 B : Nat} {x1 x2 : Option g_V} {a0 : Nat → Nat → Int32} : ∀ (m i : Nat) (a : Nat → Nat → Int32), i + m = nb → run tp 1 m i = B → TP 50 8 55 nb tp a → a 50 20 = nI i → chg scAt a0 a → (∀ a', TP 50 8 55 nb tp a' → a' 50 20 = nI B → chg scAt a0 a' → Gd YX8_next (z0 1 N0 Q) 0 0 146 [some (vr 50), x1, x2] [] (sh, a', r, g)) → Gd YX8_next (z0 1 N0 Q) 0 0 103 [some (vr 50), x1, x2] [] (sh, a, r, g)
  | 0, i, a, hn, hB, hP, hat, hc, kq => by
    refine Gd_aload_n (i := 0) rfl eX8_next_103 ?_
    refine Gd_getIe (v := nI (i)) fl_RX8_122 (W_s50 hW) (hat :) eX8_next_104 ?_
    refine Gd_aload_n (i := 0) rfl eX8_next_107 ?_
    refine Gd_getIe (v := nI (nb)) fl_RX8_74 (W_s50 hW) (hP.1 :) eX8_next_108 ?_
    refine Gd_icmp_geN (by first | omega | decide) (by first | omega | decide) eX8_next_111 (fun c111 => ?_) (fun c111 => ?_)
    · exact kq a hP (by rw [hat, ← hB]; rfl) hc
    · exact absurd c111 (by omega)
  | m + 1, i, a, hn, hB, hP, hat, hc, kq => by
    refine Gd_aload_n (i := 0) rfl eX8_next_103 ?_
    refine Gd_getIe (v := nI (i)) fl_RX8_122 (W_s50 hW) (hat :) eX8_next_104 ?_
    refine Gd_aload_n (i := 0) rfl eX8_next_107 ?_
    refine Gd_getIe (v := nI (nb)) fl_RX8_74 (W_s50 hW) (hP.1 :) eX8_next_108 ?_
    refine Gd_icmp_geN (by first | omega | decide) (by first | omega | decide) eX8_next_111 (fun c111 => ?_) (fun c111 => ?_)
    · exact absurd c111 (by omega)
    · have hti := h256 i (by omega)
      refine Gd_aload_n (i := 0) rfl eX8_next_114 ?_
      refine Gd_getR fl_RX8_26 (W_s50 hW) (W_r50_7 hW) eX8_next_115 ?_
      refine Gd_aload_n (i := 0) rfl eX8_next_118 ?_
      refine Gd_getIe (v := nI (i)) fl_RX8_122 (W_s50 hW) (hat :) eX8_next_119 ?_
      refine Gd_ialdE (v := nI (tp i)) (W_s55 hW) (by first | omega | decide) (hP.2 i (by omega) :) eX8_next_122 ?_
      refine Gd_bipush kb_97 eX8_next_123 ?_
      refine Gd_bipush kb_122 eX8_next_125 ?_
      refine Gd_callP (g_cS (m_inN (t := tp i) (lo := 97) (hi := 122) (by omega) (by decide) (by decide)) ok_X8_in lk_RX8_84 rfl rfl (Nat.le_of_ble_eq_true rfl) (Nat.le_of_ble_eq_true rfl) (Nat.le_refl _) (Nat.le_refl _) eX8_next_127) ?_
      refine Gd_if_eqB eX8_next_130 (fun c130 => ?_) (fun c130 => ?_)
      · exact kq a hP (by rw [hat, ← hB, run_x (fun z => of_decide_eq_false c130 (srt_1.mp z))]) hc
      · refine Gd_aload_n (i := 0) rfl eX8_next_133 ?_
        refine Gd_dup rfl eX8_next_134 ?_
        refine Gd_getIe (v := nI (i)) fl_RX8_122 (W_s50 hW) (hat :) eX8_next_135 ?_
        refine Gd_iconst ki_1 eX8_next_138 ?_
        refine Gd_iaddN eX8_next_139 ?_
        refine Gd_putI fl_RX8_122 (W_s50 hW) eX8_next_140 ?_
        refine Gd_goto eX8_next_143 ?_
        exact m_nx_B hW hnb h256 m (i + 1) _ (by omega) (by rw [← run_o (srt_1.mpr (of_decide_eq_true c130))]; exact hB) (TP_ch hP (S := scAt) (chg_up chg_rf rfl) rfl (fun _ => rfl)) (up2_s _ _ _ _) (chg_up hc rfl) kq
theorem m_nx_C {sh : List (Nat × Nat)} {r : Nat → Nat → Option Nat} {g : Nat → Nat → Int64} {tp : Nat → Nat} {nb : Nat} (hW : WD sh r) (hnb : nb ≤ 160) (h256 : ∀ i, i < nb → tp i < 256) {Q : Option g_V → g_H → Prop} {N0 B b : Nat} (hbn : b ≤ nb) {y1 : Int32} {a0 : Nat → Nat → Int32} : ∀ (m i : Nat) (a : Nat → Nat → Int32), i + m = nb → b ≤ i → run tp 2 m i = B → TP 50 8 55 nb tp a → a 50 20 = nI i → a 50 23 = nI (dgv tp b (i - b)) → chg scAv a0 a → (∀ a', TP 50 8 55 nb tp a' → a' 50 20 = nI B → a' 50 23 = nI (dgv tp b (B - b)) → chg scAv a0 a' → Gd YX8_next (z0 1 N0 Q) 0 0 309 [some (vr 50), some (vi y1), some (vi (nI (B - b)))] [] (sh, a', r, g)) → Gd YX8_next (z0 1 N0 Q) 0 0 230 [some (vr 50), some (vi y1), some (vi (nI (i - b)))] [] (sh, a, r, g)
  | 0, i, a, hn, hbi, hB, hP, hat, hv, hc, kq => by
    refine Gd_aload_n (i := 0) rfl eX8_next_230 ?_
    refine Gd_getIe (v := nI (i)) fl_RX8_122 (W_s50 hW) (hat :) eX8_next_231 ?_
    refine Gd_aload_n (i := 0) rfl eX8_next_234 ?_
    refine Gd_getIe (v := nI (nb)) fl_RX8_74 (W_s50 hW) (hP.1 :) eX8_next_235 ?_
    refine Gd_icmp_geN (by first | omega | decide) (by first | omega | decide) eX8_next_238 (fun c238 => ?_) (fun c238 => ?_)
    · obtain rfl : i = B := hB
      exact kq a hP hat hv hc
    · exact absurd c238 (by omega)
  | m + 1, i, a, hn, hbi, hB, hP, hat, hv, hc, kq => by
    refine Gd_aload_n (i := 0) rfl eX8_next_230 ?_
    refine Gd_getIe (v := nI (i)) fl_RX8_122 (W_s50 hW) (hat :) eX8_next_231 ?_
    refine Gd_aload_n (i := 0) rfl eX8_next_234 ?_
    refine Gd_getIe (v := nI (nb)) fl_RX8_74 (W_s50 hW) (hP.1 :) eX8_next_235 ?_
    refine Gd_icmp_geN (by first | omega | decide) (by first | omega | decide) eX8_next_238 (fun c238 => ?_) (fun c238 => ?_)
    · exact absurd c238 (by omega)
    · have hti := h256 i (by omega)
      refine Gd_aload_n (i := 0) rfl eX8_next_241 ?_
      refine Gd_getR fl_RX8_26 (W_s50 hW) (W_r50_7 hW) eX8_next_242 ?_
      refine Gd_aload_n (i := 0) rfl eX8_next_245 ?_
      refine Gd_getIe (v := nI (i)) fl_RX8_122 (W_s50 hW) (hat :) eX8_next_246 ?_
      refine Gd_ialdE (v := nI (tp i)) (W_s55 hW) (by first | omega | decide) (hP.2 i (by omega) :) eX8_next_249 ?_
      refine Gd_bipush kb_48 eX8_next_250 ?_
      refine Gd_bipush kb_57 eX8_next_252 ?_
      refine Gd_callP (g_cS (m_inN (t := tp i) (lo := 48) (hi := 57) (by omega) (by decide) (by decide)) ok_X8_in lk_RX8_84 rfl rfl (Nat.le_of_ble_eq_true rfl) (Nat.le_of_ble_eq_true rfl) (Nat.le_refl _) (Nat.le_refl _) eX8_next_254) ?_
      refine Gd_if_eqB eX8_next_257 (fun c257 => ?_) (fun c257 => ?_)
      · obtain rfl : i = B := by rw [← hB, run_x (fun z => of_decide_eq_false c257 (srt_2.mp z))]
        exact kq a hP hat hv hc
      · have hdg := of_decide_eq_true c257
        refine Gd_aload_n (i := 0) rfl eX8_next_260 ?_
        refine Gd_iload_n (i := 2) rfl eX8_next_261 ?_
        refine Gd_iconst ki_4 eX8_next_262 ?_
        refine Gd_icmp_geN (by first | omega | decide) (by first | omega | decide) eX8_next_263 (fun c263 => ?_) (fun c263 => ?_)
        · refine Gd_iconst ki_0 eX8_next_289 ?_
          refine Gd_putI fl_RX8_131 (W_s50 hW) eX8_next_290 ?_
          have hvn0 : nI 0 = nI (dgv tp b ((i - b) + 1)) := by rw [dgv, if_neg (by omega)]
          refine Gd_iinc2 (ho := rfl) (he := nI_inc _) eX8_next_293 ?_
          refine Gd_aload_n (i := 0) rfl eX8_next_296 ?_
          refine Gd_dup rfl eX8_next_297 ?_
          refine Gd_getIe (v := nI (i)) fl_RX8_122 (W_s50 hW) (hat :) eX8_next_298 ?_
          refine Gd_iconst ki_1 eX8_next_301 ?_
          refine Gd_iaddN eX8_next_302 ?_
          refine Gd_putI fl_RX8_122 (W_s50 hW) eX8_next_303 ?_
          refine Gd_goto eX8_next_306 ?_
          rw [show i - b + 1 = i + 1 - b by omega] at hvn0 ⊢
          exact m_nx_C hW hnb h256 hbn m (i + 1) _ (by omega) (by omega) (by rw [← run_o (srt_2.mpr hdg)]; exact hB) (TP_ch hP (S := scAv) (chg_up (chg_up chg_rf rfl) rfl) rfl (fun _ => rfl)) (up2_s _ _ _ _) (by rw [← hvn0]; simp [up2]) (chg_up (chg_up hc rfl) rfl) (fun a1 k1 k2 k3 k4 => kq a1 k1 k2 k3 k4)
        · refine Gd_bipush kb_10 eX8_next_266 ?_
          refine Gd_aload_n (i := 0) rfl eX8_next_268 ?_
          refine Gd_getIe (v := nI (dgv tp b (i - b))) fl_RX8_131 (W_s50 hW) (hv :) eX8_next_269 ?_
          refine Gd_imulN eX8_next_272 ?_
          refine Gd_aload_n (i := 0) rfl eX8_next_273 ?_
          refine Gd_getR fl_RX8_26 (W_s50 hW) (W_r50_7 hW) eX8_next_274 ?_
          refine Gd_aload_n (i := 0) rfl eX8_next_277 ?_
          refine Gd_getIe (v := nI (i)) fl_RX8_122 (W_s50 hW) (hat :) eX8_next_278 ?_
          refine Gd_ialdE (v := nI (tp i)) (W_s55 hW) (by first | omega | decide) (hP.2 i (by omega) :) eX8_next_281 ?_
          refine Gd_iaddN eX8_next_282 ?_
          refine Gd_bipush kb_48 eX8_next_283 ?_
          refine Gd_isubN (by first | omega | decide) eX8_next_285 ?_
          refine Gd_goto eX8_next_286 ?_
          refine Gd_putI fl_RX8_131 (W_s50 hW) eX8_next_290 ?_
          have hvn0 : nI (10 * dgv tp b (i - b) + tp i - 48) = nI (dgv tp b ((i - b) + 1)) := by rw [dgv, dgv, if_pos (by omega), if_pos (by omega), nmv, show b + (i - b) = i by omega]
          refine Gd_iinc2 (ho := rfl) (he := nI_inc _) eX8_next_293 ?_
          refine Gd_aload_n (i := 0) rfl eX8_next_296 ?_
          refine Gd_dup rfl eX8_next_297 ?_
          refine Gd_getIe (v := nI (i)) fl_RX8_122 (W_s50 hW) (hat :) eX8_next_298 ?_
          refine Gd_iconst ki_1 eX8_next_301 ?_
          refine Gd_iaddN eX8_next_302 ?_
          refine Gd_putI fl_RX8_122 (W_s50 hW) eX8_next_303 ?_
          refine Gd_goto eX8_next_306 ?_
          rw [show i - b + 1 = i + 1 - b by omega] at hvn0 ⊢
          exact m_nx_C hW hnb h256 hbn m (i + 1) _ (by omega) (by omega) (by rw [← run_o (srt_2.mpr hdg)]; exact hB) (TP_ch hP (S := scAv) (chg_up (chg_up chg_rf rfl) rfl) rfl (fun _ => rfl)) (up2_s _ _ _ _) (by rw [← hvn0]; simp [up2]) (chg_up (chg_up hc rfl) rfl) (fun a1 k1 k2 k3 k4 => kq a1 k1 k2 k3 k4)
