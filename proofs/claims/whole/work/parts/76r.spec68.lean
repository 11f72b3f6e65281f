theorem m_nx_C0 {sh : List (Nat × Nat)} {r : Nat → Nat → Option Nat} {g : Nat → Nat → Int64} {tp : Nat → Nat} {nb : Nat} (hW : WD sh r) (hnb : nb ≤ 160) (h256 : ∀ i, i < nb → tp i < 256) {Q : Option g_V → g_H → Prop} {N0 B b : Nat} (hbn : b ≤ nb) {y1 : Int32} {a : Nat → Nat → Int32} (hB : run tp 2 (nb - b) b = B) (hP : TP 50 8 55 nb tp a) (hat : a 50 20 = nI b) (hv : a 50 23 = nI 0)
    (kq : ∀ a', TP 50 8 55 nb tp a' → a' 50 20 = nI B → a' 50 23 = nI (dgv tp b (B - b)) → chg scAv a a' → Gd YX8_next (z0 1 N0 Q) 0 0 309 [some (vr 50), some (vi y1), some (vi (nI (B - b)))] [] (sh, a', r, g)) : Gd YX8_next (z0 1 N0 Q) 0 0 230 [some (vr 50), some (vi y1), some (vi (nI 0))] [] (sh, a, r, g) := by
  have h := m_nx_C (a0 := a) hW hnb h256 hbn (nb - b) b a (by omega) (Nat.le_refl _) hB hP hat (by rw [Nat.sub_self]; exact hv) chg_rf kq
  rw [Nat.sub_self] at h
  exact h
theorem en_run {tp : Nat → Nat} {nb B s : Nat} (h : B < nb) (hs : srt (tp B) = s) (h3 : s ≠ 3) : run tp s (nb - B) B = en tp nb B := by
  rw [show nb - B = (nb - (B + 1)) + 1 by omega, run_o hs, en, if_neg (by omega), hs]
theorem WT_ch {S : Nat → Nat → Bool} {a a' : Nat → Nat → Int32} (h : WT a) (hc : chg S a a') (hS : ∀ j, S 64 j = false) : WT a' := fun w hw i hi => (hc _ _ (hS _)).trans (h w hw i hi)
theorem kix_tk : ∀ q, q < 13 → kix q ≤ 12 ∧ (kix q < 3 → tkr (kof q) = nI 3 ∧ tkv (kof q) = kix q) ∧ (3 ≤ kix q → kix q < 9 → tkr (kof q) = nI 2 ∧ tkv (kof q) = kix q - 3) ∧ (9 ≤ kix q → kix q ≠ 12 → tkr (kof q) = nI (4 + kix q - 9) ∧ 5 ≤ kof q ∧ kof q < 8) ∧ (kix q = 12 → tkr (kof q) = -1 ∧ kof q = 1) := by
  intro q hq
  rcases (show q = 0 ∨ q = 1 ∨ q = 2 ∨ q = 3 ∨ q = 4 ∨ q = 5 ∨ q = 6 ∨ q = 7 ∨ q = 8 ∨ q = 9 ∨ q = 10 ∨ q = 11 ∨ q = 12 by omega) with rfl | rfl | rfl | rfl | rfl | rfl | rfl | rfl | rfl | rfl | rfl | rfl | rfl <;> exact ⟨by decide, by decide, by decide, by decide, by decide⟩
/-- the reference's next token, which begins at B -/
def NXp (tp : Nat → Nat) (nb B : Nat) (a' : Nat → Nat → Int32) : Prop := a' 50 21 = nI B ∧ a' 50 22 = tkr (tkn tp nb B) ∧ ((2 ≤ tkn tp nb B ∧ tkn tp nb B < 5) ∨ 100 ≤ tkn tp nb B → a' 50 23 = nI (tkv (tkn tp nb B))) ∧ ∃ p', p' ≤ nb ∧ a' 50 20 = nI p' ∧ sk tp nb p' = if B < nb then sk tp nb (en tp nb B) else nb
theorem tk_hi {t : Nat} (h : 100 ≤ t) (h2 : t < 10100) : tkr t = nI 1 ∧ tkv t = t - 100 := ⟨by rw [tkr, if_neg (by omega), if_neg (by omega), if_neg (by omega), if_neg (by omega), if_neg (by omega), if_pos h2], by rw [tkv, if_neg (by omega), if_neg (by omega), if_neg (by omega), if_pos h2]⟩
theorem tk_sg {t : Nat} (h : 8 ≤ t) (h2 : t < 100) : tkr t = nI t := by rw [tkr, if_neg (by omega), if_neg (by omega), if_neg (by omega), if_neg (by omega), if_pos h2]
theorem m_next {sh : List (Nat × Nat)} {a : Nat → Nat → Int32} {r : Nat → Nat → Option Nat} {g : Nat → Nat → Int64} {tp : Nat → Nat} {nb p B : Nat} (hW : WD sh r) (hnb : nb ≤ 160) (h256 : ∀ i, i < nb → tp i < 256) (hWT : WT a) (hP : TP 50 8 55 nb tp a) (hp : p ≤ nb) (hat : a 50 20 = nI p) (hB : sk tp nb p = B) : Mt YX8_next 1 0 0 [vr 50] (sh, a, r, g) (g_E0 sh r g (fun a' => NXp tp nb B a' ∧ chg scNx a a')) := by
  refine Mt_of rfl (Nat.le_of_ble_eq_true rfl) rfl ?_
  have hBn : B ≤ nb := by rw [← hB]; exact (sk_le hp).2
  refine m_nx_A hW hnb h256 (nb - p) p _ (by omega) hB hP hat chg_rf (fun a1 hP1 hat1 hc1 => ?_)
  refine Gd_aload_n (i := 0) rfl eX8_next_52 ?_
  refine Gd_aload_n (i := 0) rfl eX8_next_53 ?_
  refine Gd_getIe (v := nI (B)) fl_RX8_122 (W_s50 hW) (hat1 :) eX8_next_54 ?_
  refine Gd_putI fl_RX8_125 (W_s50 hW) eX8_next_57 ?_
  refine Gd_aload_n (i := 0) rfl eX8_next_60 ?_
  refine Gd_iconst ki_0 eX8_next_61 ?_
  refine Gd_putI fl_RX8_128 (W_s50 hW) eX8_next_62 ?_
  refine Gd_aload_n (i := 0) rfl eX8_next_65 ?_
  refine Gd_iconst ki_0 eX8_next_66 ?_
  refine Gd_putI fl_RX8_131 (W_s50 hW) eX8_next_67 ?_
  refine Gd_aload_n (i := 0) rfl eX8_next_70 ?_
  refine Gd_getIe (v := nI (B)) fl_RX8_122 (W_s50 hW) (hat1 :) eX8_next_71 ?_
  refine Gd_aload_n (i := 0) rfl eX8_next_74 ?_
  refine Gd_getIe (v := nI (nb)) fl_RX8_74 (W_s50 hW) (hP1.1 :) eX8_next_75 ?_
  refine Gd_icmp_neN (by first | omega | decide) (by first | omega | decide) eX8_next_78 (fun c78 => ?_) (fun c78 => ?_)
  · have hlt : B < nb := by omega
    have htb := h256 B hlt
    have hen := en_le (tp := tp) hlt
    refine Gd_aload_n (i := 0) rfl eX8_next_82 ?_
    refine Gd_getR fl_RX8_26 (W_s50 hW) (W_r50_7 hW) eX8_next_83 ?_
    refine Gd_aload_n (i := 0) rfl eX8_next_86 ?_
    refine Gd_getIe (v := nI (B)) fl_RX8_122 (W_s50 hW) (hat1 :) eX8_next_87 ?_
    refine Gd_ialdE (v := nI (tp B)) (W_s55 hW) (by first | omega | decide) (hP1.2 B (by omega) :) eX8_next_90 ?_
    refine Gd_istore_n1 rfl eX8_next_91 ?_
    refine Gd_iload_n (i := 1) rfl eX8_next_92 ?_
    refine Gd_bipush kb_97 eX8_next_93 ?_
    refine Gd_bipush kb_122 eX8_next_95 ?_
    refine Gd_callP (g_cS (m_inN (t := tp B) (lo := 97) (hi := 122) (by omega) (by decide) (by decide)) ok_X8_in lk_RX8_84 rfl rfl (Nat.le_of_ble_eq_true rfl) (Nat.le_of_ble_eq_true rfl) (Nat.le_refl _) (Nat.le_refl _) eX8_next_97) ?_
    refine Gd_if_eqB eX8_next_100 (fun c100 => ?_) (fun c100 => ?_)
    · refine Gd_iload_n (i := 1) rfl eX8_next_217 ?_
      refine Gd_bipush kb_48 eX8_next_218 ?_
      refine Gd_bipush kb_57 eX8_next_220 ?_
      refine Gd_callP (g_cS (m_inN (t := tp B) (lo := 48) (hi := 57) (by omega) (by decide) (by decide)) ok_X8_in lk_RX8_84 rfl rfl (Nat.le_of_ble_eq_true rfl) (Nat.le_of_ble_eq_true rfl) (Nat.le_refl _) (Nat.le_refl _) eX8_next_222) ?_
      refine Gd_if_eqB eX8_next_225 (fun c225 => ?_) (fun c225 => ?_)
      · refine Gd_iload_n (i := 1) rfl eX8_next_326 ?_
        refine Gd_bipush kb_40 eX8_next_327 ?_
        refine Gd_icmp_eqN (by first | omega | decide) (by first | omega | decide) eX8_next_329 (fun c329 => ?_) (fun c329 => ?_)
        · refine Gd_iconst ki_1 eX8_next_374 ?_
          refine Gd_goto eX8_next_375 ?_
          refine Gd_istore_n2 rfl eX8_next_379 ?_
          refine Gd_aload_n (i := 0) rfl eX8_next_380 ?_
          refine Gd_iload_n (i := 2) rfl eX8_next_381 ?_
          refine Gd_if_eq eX8_next_382 (fun q => by first | exact absurd q (by decide) | exact absurd (by decide) q) (fun _ => ?_)
          refine Gd_iload_n (i := 1) rfl eX8_next_385 ?_
          refine Gd_goto eX8_next_386 ?_
          refine Gd_putI fl_RX8_128 (W_s50 hW) eX8_next_390 ?_
          refine Gd_aload_n (i := 0) rfl eX8_next_393 ?_
          refine Gd_dup rfl eX8_next_394 ?_
          refine Gd_getIe (v := nI (B)) fl_RX8_122 (W_s50 hW) (hat1 :) eX8_next_395 ?_
          refine Gd_iconst ki_1 eX8_next_398 ?_
          refine Gd_iaddN eX8_next_399 ?_
          refine Gd_putI fl_RX8_122 (W_s50 hW) eX8_next_400 ?_
          have hs3 : srt (tp B) = 3 := srt_3.mpr ⟨of_decide_eq_false c100, of_decide_eq_false c225⟩
          have hee : en tp nb B = B + 1 := by rw [en, if_pos hs3]
          have htk : tkn tp nb B = if isg (tp B) = true then tp B else 1 := by rw [tkn, if_neg (by omega), if_neg (by omega), if_neg (by omega)]
          rw [if_pos (show isg (tp B) = true from decide_eq_true (by omega))] at htk
          exact Gd_return eX8_next_403 rfl (Nat.le_refl _) (Nat.le_refl _) ⟨_, rfl, rfl, ⟨by simp [up2], by rw [htk, tk_sg (by omega) (by omega)]; simp [up2], fun z => absurd z (by omega), ⟨en tp nb B, hen.2, by rw [hee]; exact up2_s _ _ _ _, by rw [if_pos hlt]⟩⟩, (chg_up (chg_up (chg_up (chg_up (chg_up (chg_mono2 scAt_x hc1) rfl) rfl) rfl) rfl) rfl)⟩
        · refine Gd_iload_n (i := 1) rfl eX8_next_332 ?_
          refine Gd_bipush kb_41 eX8_next_333 ?_
          refine Gd_icmp_eqN (by first | omega | decide) (by first | omega | decide) eX8_next_335 (fun c335 => ?_) (fun c335 => ?_)
          · refine Gd_iconst ki_1 eX8_next_374 ?_
            refine Gd_goto eX8_next_375 ?_
            refine Gd_istore_n2 rfl eX8_next_379 ?_
            refine Gd_aload_n (i := 0) rfl eX8_next_380 ?_
            refine Gd_iload_n (i := 2) rfl eX8_next_381 ?_
            refine Gd_if_eq eX8_next_382 (fun q => by first | exact absurd q (by decide) | exact absurd (by decide) q) (fun _ => ?_)
            refine Gd_iload_n (i := 1) rfl eX8_next_385 ?_
            refine Gd_goto eX8_next_386 ?_
            refine Gd_putI fl_RX8_128 (W_s50 hW) eX8_next_390 ?_
            refine Gd_aload_n (i := 0) rfl eX8_next_393 ?_
            refine Gd_dup rfl eX8_next_394 ?_
            refine Gd_getIe (v := nI (B)) fl_RX8_122 (W_s50 hW) (hat1 :) eX8_next_395 ?_
            refine Gd_iconst ki_1 eX8_next_398 ?_
            refine Gd_iaddN eX8_next_399 ?_
            refine Gd_putI fl_RX8_122 (W_s50 hW) eX8_next_400 ?_
            have hs3 : srt (tp B) = 3 := srt_3.mpr ⟨of_decide_eq_false c100, of_decide_eq_false c225⟩
            have hee : en tp nb B = B + 1 := by rw [en, if_pos hs3]
            have htk : tkn tp nb B = if isg (tp B) = true then tp B else 1 := by rw [tkn, if_neg (by omega), if_neg (by omega), if_neg (by omega)]
            rw [if_pos (show isg (tp B) = true from decide_eq_true (by omega))] at htk
            exact Gd_return eX8_next_403 rfl (Nat.le_refl _) (Nat.le_refl _) ⟨_, rfl, rfl, ⟨by simp [up2], by rw [htk, tk_sg (by omega) (by omega)]; simp [up2], fun z => absurd z (by omega), ⟨en tp nb B, hen.2, by rw [hee]; exact up2_s _ _ _ _, by rw [if_pos hlt]⟩⟩, (chg_up (chg_up (chg_up (chg_up (chg_up (chg_mono2 scAt_x hc1) rfl) rfl) rfl) rfl) rfl)⟩
          · refine Gd_iload_n (i := 1) rfl eX8_next_338 ?_
            refine Gd_bipush kb_59 eX8_next_339 ?_
            refine Gd_icmp_eqN (by first | omega | decide) (by first | omega | decide) eX8_next_341 (fun c341 => ?_) (fun c341 => ?_)
            · refine Gd_iconst ki_1 eX8_next_374 ?_
              refine Gd_goto eX8_next_375 ?_
              refine Gd_istore_n2 rfl eX8_next_379 ?_
              refine Gd_aload_n (i := 0) rfl eX8_next_380 ?_
              refine Gd_iload_n (i := 2) rfl eX8_next_381 ?_
              refine Gd_if_eq eX8_next_382 (fun q => by first | exact absurd q (by decide) | exact absurd (by decide) q) (fun _ => ?_)
              refine Gd_iload_n (i := 1) rfl eX8_next_385 ?_
              refine Gd_goto eX8_next_386 ?_
              refine Gd_putI fl_RX8_128 (W_s50 hW) eX8_next_390 ?_
              refine Gd_aload_n (i := 0) rfl eX8_next_393 ?_
              refine Gd_dup rfl eX8_next_394 ?_
              refine Gd_getIe (v := nI (B)) fl_RX8_122 (W_s50 hW) (hat1 :) eX8_next_395 ?_
              refine Gd_iconst ki_1 eX8_next_398 ?_
              refine Gd_iaddN eX8_next_399 ?_
              refine Gd_putI fl_RX8_122 (W_s50 hW) eX8_next_400 ?_
              have hs3 : srt (tp B) = 3 := srt_3.mpr ⟨of_decide_eq_false c100, of_decide_eq_false c225⟩
              have hee : en tp nb B = B + 1 := by rw [en, if_pos hs3]
              have htk : tkn tp nb B = if isg (tp B) = true then tp B else 1 := by rw [tkn, if_neg (by omega), if_neg (by omega), if_neg (by omega)]
              rw [if_pos (show isg (tp B) = true from decide_eq_true (by omega))] at htk
              exact Gd_return eX8_next_403 rfl (Nat.le_refl _) (Nat.le_refl _) ⟨_, rfl, rfl, ⟨by simp [up2], by rw [htk, tk_sg (by omega) (by omega)]; simp [up2], fun z => absurd z (by omega), ⟨en tp nb B, hen.2, by rw [hee]; exact up2_s _ _ _ _, by rw [if_pos hlt]⟩⟩, (chg_up (chg_up (chg_up (chg_up (chg_up (chg_mono2 scAt_x hc1) rfl) rfl) rfl) rfl) rfl)⟩
            · refine Gd_iload_n (i := 1) rfl eX8_next_344 ?_
              refine Gd_bipush kb_43 eX8_next_345 ?_
              refine Gd_icmp_eqN (by first | omega | decide) (by first | omega | decide) eX8_next_347 (fun c347 => ?_) (fun c347 => ?_)
              · refine Gd_iconst ki_1 eX8_next_374 ?_
                refine Gd_goto eX8_next_375 ?_
                refine Gd_istore_n2 rfl eX8_next_379 ?_
                refine Gd_aload_n (i := 0) rfl eX8_next_380 ?_
                refine Gd_iload_n (i := 2) rfl eX8_next_381 ?_
                refine Gd_if_eq eX8_next_382 (fun q => by first | exact absurd q (by decide) | exact absurd (by decide) q) (fun _ => ?_)
                refine Gd_iload_n (i := 1) rfl eX8_next_385 ?_
                refine Gd_goto eX8_next_386 ?_
                refine Gd_putI fl_RX8_128 (W_s50 hW) eX8_next_390 ?_
                refine Gd_aload_n (i := 0) rfl eX8_next_393 ?_
                refine Gd_dup rfl eX8_next_394 ?_
                refine Gd_getIe (v := nI (B)) fl_RX8_122 (W_s50 hW) (hat1 :) eX8_next_395 ?_
                refine Gd_iconst ki_1 eX8_next_398 ?_
                refine Gd_iaddN eX8_next_399 ?_
                refine Gd_putI fl_RX8_122 (W_s50 hW) eX8_next_400 ?_
                have hs3 : srt (tp B) = 3 := srt_3.mpr ⟨of_decide_eq_false c100, of_decide_eq_false c225⟩
                have hee : en tp nb B = B + 1 := by rw [en, if_pos hs3]
                have htk : tkn tp nb B = if isg (tp B) = true then tp B else 1 := by rw [tkn, if_neg (by omega), if_neg (by omega), if_neg (by omega)]
                rw [if_pos (show isg (tp B) = true from decide_eq_true (by omega))] at htk
                exact Gd_return eX8_next_403 rfl (Nat.le_refl _) (Nat.le_refl _) ⟨_, rfl, rfl, ⟨by simp [up2], by rw [htk, tk_sg (by omega) (by omega)]; simp [up2], fun z => absurd z (by omega), ⟨en tp nb B, hen.2, by rw [hee]; exact up2_s _ _ _ _, by rw [if_pos hlt]⟩⟩, (chg_up (chg_up (chg_up (chg_up (chg_up (chg_mono2 scAt_x hc1) rfl) rfl) rfl) rfl) rfl)⟩
              · refine Gd_iload_n (i := 1) rfl eX8_next_350 ?_
                refine Gd_bipush kb_45 eX8_next_351 ?_
                refine Gd_icmp_eqN (by first | omega | decide) (by first | omega | decide) eX8_next_353 (fun c353 => ?_) (fun c353 => ?_)
                · refine Gd_iconst ki_1 eX8_next_374 ?_
                  refine Gd_goto eX8_next_375 ?_
                  refine Gd_istore_n2 rfl eX8_next_379 ?_
                  refine Gd_aload_n (i := 0) rfl eX8_next_380 ?_
                  refine Gd_iload_n (i := 2) rfl eX8_next_381 ?_
                  refine Gd_if_eq eX8_next_382 (fun q => by first | exact absurd q (by decide) | exact absurd (by decide) q) (fun _ => ?_)
                  refine Gd_iload_n (i := 1) rfl eX8_next_385 ?_
                  refine Gd_goto eX8_next_386 ?_
                  refine Gd_putI fl_RX8_128 (W_s50 hW) eX8_next_390 ?_
                  refine Gd_aload_n (i := 0) rfl eX8_next_393 ?_
                  refine Gd_dup rfl eX8_next_394 ?_
                  refine Gd_getIe (v := nI (B)) fl_RX8_122 (W_s50 hW) (hat1 :) eX8_next_395 ?_
                  refine Gd_iconst ki_1 eX8_next_398 ?_
                  refine Gd_iaddN eX8_next_399 ?_
                  refine Gd_putI fl_RX8_122 (W_s50 hW) eX8_next_400 ?_
                  have hs3 : srt (tp B) = 3 := srt_3.mpr ⟨of_decide_eq_false c100, of_decide_eq_false c225⟩
                  have hee : en tp nb B = B + 1 := by rw [en, if_pos hs3]
                  have htk : tkn tp nb B = if isg (tp B) = true then tp B else 1 := by rw [tkn, if_neg (by omega), if_neg (by omega), if_neg (by omega)]
                  rw [if_pos (show isg (tp B) = true from decide_eq_true (by omega))] at htk
                  exact Gd_return eX8_next_403 rfl (Nat.le_refl _) (Nat.le_refl _) ⟨_, rfl, rfl, ⟨by simp [up2], by rw [htk, tk_sg (by omega) (by omega)]; simp [up2], fun z => absurd z (by omega), ⟨en tp nb B, hen.2, by rw [hee]; exact up2_s _ _ _ _, by rw [if_pos hlt]⟩⟩, (chg_up (chg_up (chg_up (chg_up (chg_up (chg_mono2 scAt_x hc1) rfl) rfl) rfl) rfl) rfl)⟩
                · refine Gd_iload_n (i := 1) rfl eX8_next_356 ?_
                  refine Gd_bipush kb_42 eX8_next_357 ?_
                  refine Gd_icmp_eqN (by first | omega | decide) (by first | omega | decide) eX8_next_359 (fun c359 => ?_) (fun c359 => ?_)
                  · refine Gd_iconst ki_1 eX8_next_374 ?_
                    refine Gd_goto eX8_next_375 ?_
                    refine Gd_istore_n2 rfl eX8_next_379 ?_
                    refine Gd_aload_n (i := 0) rfl eX8_next_380 ?_
                    refine Gd_iload_n (i := 2) rfl eX8_next_381 ?_
                    refine Gd_if_eq eX8_next_382 (fun q => by first | exact absurd q (by decide) | exact absurd (by decide) q) (fun _ => ?_)
                    refine Gd_iload_n (i := 1) rfl eX8_next_385 ?_
                    refine Gd_goto eX8_next_386 ?_
                    refine Gd_putI fl_RX8_128 (W_s50 hW) eX8_next_390 ?_
                    refine Gd_aload_n (i := 0) rfl eX8_next_393 ?_
                    refine Gd_dup rfl eX8_next_394 ?_
                    refine Gd_getIe (v := nI (B)) fl_RX8_122 (W_s50 hW) (hat1 :) eX8_next_395 ?_
                    refine Gd_iconst ki_1 eX8_next_398 ?_
                    refine Gd_iaddN eX8_next_399 ?_
                    refine Gd_putI fl_RX8_122 (W_s50 hW) eX8_next_400 ?_
                    have hs3 : srt (tp B) = 3 := srt_3.mpr ⟨of_decide_eq_false c100, of_decide_eq_false c225⟩
                    have hee : en tp nb B = B + 1 := by rw [en, if_pos hs3]
                    have htk : tkn tp nb B = if isg (tp B) = true then tp B else 1 := by rw [tkn, if_neg (by omega), if_neg (by omega), if_neg (by omega)]
                    rw [if_pos (show isg (tp B) = true from decide_eq_true (by omega))] at htk
                    exact Gd_return eX8_next_403 rfl (Nat.le_refl _) (Nat.le_refl _) ⟨_, rfl, rfl, ⟨by simp [up2], by rw [htk, tk_sg (by omega) (by omega)]; simp [up2], fun z => absurd z (by omega), ⟨en tp nb B, hen.2, by rw [hee]; exact up2_s _ _ _ _, by rw [if_pos hlt]⟩⟩, (chg_up (chg_up (chg_up (chg_up (chg_up (chg_mono2 scAt_x hc1) rfl) rfl) rfl) rfl) rfl)⟩
                  · refine Gd_iload_n (i := 1) rfl eX8_next_362 ?_
                    refine Gd_bipush kb_60 eX8_next_363 ?_
                    refine Gd_icmp_eqN (by first | omega | decide) (by first | omega | decide) eX8_next_365 (fun c365 => ?_) (fun c365 => ?_)
                    · refine Gd_iconst ki_1 eX8_next_374 ?_
                      refine Gd_goto eX8_next_375 ?_
                      refine Gd_istore_n2 rfl eX8_next_379 ?_
                      refine Gd_aload_n (i := 0) rfl eX8_next_380 ?_
                      refine Gd_iload_n (i := 2) rfl eX8_next_381 ?_
                      refine Gd_if_eq eX8_next_382 (fun q => by first | exact absurd q (by decide) | exact absurd (by decide) q) (fun _ => ?_)
                      refine Gd_iload_n (i := 1) rfl eX8_next_385 ?_
                      refine Gd_goto eX8_next_386 ?_
                      refine Gd_putI fl_RX8_128 (W_s50 hW) eX8_next_390 ?_
                      refine Gd_aload_n (i := 0) rfl eX8_next_393 ?_
                      refine Gd_dup rfl eX8_next_394 ?_
                      refine Gd_getIe (v := nI (B)) fl_RX8_122 (W_s50 hW) (hat1 :) eX8_next_395 ?_
                      refine Gd_iconst ki_1 eX8_next_398 ?_
                      refine Gd_iaddN eX8_next_399 ?_
                      refine Gd_putI fl_RX8_122 (W_s50 hW) eX8_next_400 ?_
                      have hs3 : srt (tp B) = 3 := srt_3.mpr ⟨of_decide_eq_false c100, of_decide_eq_false c225⟩
                      have hee : en tp nb B = B + 1 := by rw [en, if_pos hs3]
                      have htk : tkn tp nb B = if isg (tp B) = true then tp B else 1 := by rw [tkn, if_neg (by omega), if_neg (by omega), if_neg (by omega)]
                      rw [if_pos (show isg (tp B) = true from decide_eq_true (by omega))] at htk
                      exact Gd_return eX8_next_403 rfl (Nat.le_refl _) (Nat.le_refl _) ⟨_, rfl, rfl, ⟨by simp [up2], by rw [htk, tk_sg (by omega) (by omega)]; simp [up2], fun z => absurd z (by omega), ⟨en tp nb B, hen.2, by rw [hee]; exact up2_s _ _ _ _, by rw [if_pos hlt]⟩⟩, (chg_up (chg_up (chg_up (chg_up (chg_up (chg_mono2 scAt_x hc1) rfl) rfl) rfl) rfl) rfl)⟩
                    · refine Gd_iload_n (i := 1) rfl eX8_next_368 ?_
                      refine Gd_bipush kb_61 eX8_next_369 ?_
                      refine Gd_icmp_neN (by first | omega | decide) (by first | omega | decide) eX8_next_371 (fun c371 => ?_) (fun c371 => ?_)
                      · refine Gd_iconst ki_0 eX8_next_378 ?_
                        refine Gd_istore_n2 rfl eX8_next_379 ?_
                        refine Gd_aload_n (i := 0) rfl eX8_next_380 ?_
                        refine Gd_iload_n (i := 2) rfl eX8_next_381 ?_
                        refine Gd_if_eq eX8_next_382 (fun _ => ?_) (fun q => by first | exact absurd q (by decide) | exact absurd (by decide) q)
                        refine Gd_iconst ki_m1 eX8_next_389 ?_
                        refine Gd_putI fl_RX8_128 (W_s50 hW) eX8_next_390 ?_
                        refine Gd_aload_n (i := 0) rfl eX8_next_393 ?_
                        refine Gd_dup rfl eX8_next_394 ?_
                        refine Gd_getIe (v := nI (B)) fl_RX8_122 (W_s50 hW) (hat1 :) eX8_next_395 ?_
                        refine Gd_iconst ki_1 eX8_next_398 ?_
                        refine Gd_iaddN eX8_next_399 ?_
                        refine Gd_putI fl_RX8_122 (W_s50 hW) eX8_next_400 ?_
                        have hs3 : srt (tp B) = 3 := srt_3.mpr ⟨of_decide_eq_false c100, of_decide_eq_false c225⟩
                        have hee : en tp nb B = B + 1 := by rw [en, if_pos hs3]
                        have htk : tkn tp nb B = if isg (tp B) = true then tp B else 1 := by rw [tkn, if_neg (by omega), if_neg (by omega), if_neg (by omega)]
                        rw [if_neg (show ¬ isg (tp B) = true from by rw [isg, decide_eq_false (by omega)]; decide)] at htk
                        exact Gd_return eX8_next_403 rfl (Nat.le_refl _) (Nat.le_refl _) ⟨_, rfl, rfl, ⟨by simp [up2], by rw [htk]; simp [up2, tkr], fun z => absurd z (by omega), ⟨en tp nb B, hen.2, by rw [hee]; exact up2_s _ _ _ _, by rw [if_pos hlt]⟩⟩, (chg_up (chg_up (chg_up (chg_up (chg_up (chg_mono2 scAt_x hc1) rfl) rfl) rfl) rfl) rfl)⟩
                      · refine Gd_iconst ki_1 eX8_next_374 ?_
                        refine Gd_goto eX8_next_375 ?_
                        refine Gd_istore_n2 rfl eX8_next_379 ?_
                        refine Gd_aload_n (i := 0) rfl eX8_next_380 ?_
                        refine Gd_iload_n (i := 2) rfl eX8_next_381 ?_
                        refine Gd_if_eq eX8_next_382 (fun q => by first | exact absurd q (by decide) | exact absurd (by decide) q) (fun _ => ?_)
                        refine Gd_iload_n (i := 1) rfl eX8_next_385 ?_
                        refine Gd_goto eX8_next_386 ?_
                        refine Gd_putI fl_RX8_128 (W_s50 hW) eX8_next_390 ?_
                        refine Gd_aload_n (i := 0) rfl eX8_next_393 ?_
                        refine Gd_dup rfl eX8_next_394 ?_
                        refine Gd_getIe (v := nI (B)) fl_RX8_122 (W_s50 hW) (hat1 :) eX8_next_395 ?_
                        refine Gd_iconst ki_1 eX8_next_398 ?_
                        refine Gd_iaddN eX8_next_399 ?_
                        refine Gd_putI fl_RX8_122 (W_s50 hW) eX8_next_400 ?_
                        have hs3 : srt (tp B) = 3 := srt_3.mpr ⟨of_decide_eq_false c100, of_decide_eq_false c225⟩
                        have hee : en tp nb B = B + 1 := by rw [en, if_pos hs3]
                        have htk : tkn tp nb B = if isg (tp B) = true then tp B else 1 := by rw [tkn, if_neg (by omega), if_neg (by omega), if_neg (by omega)]
                        rw [if_pos (show isg (tp B) = true from decide_eq_true (by omega))] at htk
                        exact Gd_return eX8_next_403 rfl (Nat.le_refl _) (Nat.le_refl _) ⟨_, rfl, rfl, ⟨by simp [up2], by rw [htk, tk_sg (by omega) (by omega)]; simp [up2], fun z => absurd z (by omega), ⟨en tp nb B, hen.2, by rw [hee]; exact up2_s _ _ _ _, by rw [if_pos hlt]⟩⟩, (chg_up (chg_up (chg_up (chg_up (chg_up (chg_mono2 scAt_x hc1) rfl) rfl) rfl) rfl) rfl)⟩
      · refine Gd_iconst ki_0 eX8_next_228 ?_
        refine Gd_istore_n2 rfl eX8_next_229 ?_
        have hs2 : srt (tp B) = 2 := srt_2.mpr (of_decide_eq_true c225)
        refine m_nx_C0 hW hnb h256 (b := B) (by omega) (a := (up2 (up2 (up2 a1 50 21 (nI B)) 50 22 (nI 0)) 50 23 (nI 0))) (en_run hlt hs2 (by decide)) (TP_ch hP1 (S := scNx) (chg_up (chg_up (chg_up chg_rf rfl) rfl) rfl) rfl (fun _ => rfl)) hat1 (up2_s _ _ _ _) (fun a2 hP2 hat2 hv2 hc2 => ?_)
        have hbg : a2 50 21 = nI B := (hc2 50 21 rfl).trans (by simp [up2])
        refine Gd_aload_n (i := 0) rfl eX8_next_309 ?_
        refine Gd_iload_n (i := 2) rfl eX8_next_310 ?_
        refine Gd_iconst ki_4 eX8_next_311 ?_
        refine Gd_icmp_leN (by first | omega | decide) (by first | omega | decide) eX8_next_312 (fun c312 => ?_) (fun c312 => ?_)
        · refine Gd_iconst ki_1 eX8_next_319 ?_
          refine Gd_putI fl_RX8_128 (W_s50 hW) eX8_next_320 ?_
          refine Gd_goto eX8_next_323 ?_
          have htk : tkn tp nb B = if 4 < en tp nb B - B then 1 else 100 + nmv tp B (en tp nb B - B) := by rw [tkn, if_neg (by omega), if_neg (by omega), if_pos hs2]
          have hnm := nmv4 (tp := tp) (b := B) c312 (fun i h1 h2 => srt_2.mp ((en_in (nb := nb) h1 (by omega)).trans hs2))
          rw [if_neg (by omega)] at htk
          have ht1 := tk_hi (t := tkn tp nb B) (by omega) (by omega)
          exact Gd_return eX8_next_403 rfl (Nat.le_refl _) (Nat.le_refl _) ⟨_, rfl, rfl, ⟨by simp [up2, hbg], by rw [ht1.1]; simp [up2], fun _ => by rw [ht1.2, htk, Nat.add_sub_cancel_left]; rw [dgv, if_pos c312] at hv2; simp [up2, hv2], ⟨en tp nb B, hen.2, by simp [up2, hat2], by rw [if_pos hlt]⟩⟩, (chg_up (chg_tr (chg_up (chg_up (chg_up (chg_mono2 scAt_x hc1) rfl) rfl) rfl) (chg_mono2 scAv_x hc2)) rfl)⟩
        · refine Gd_iconst ki_m1 eX8_next_315 ?_
          refine Gd_goto eX8_next_316 ?_
          refine Gd_putI fl_RX8_128 (W_s50 hW) eX8_next_320 ?_
          refine Gd_goto eX8_next_323 ?_
          have htk : tkn tp nb B = if 4 < en tp nb B - B then 1 else 100 + nmv tp B (en tp nb B - B) := by rw [tkn, if_neg (by omega), if_neg (by omega), if_pos hs2]
          rw [if_pos (by omega)] at htk
          exact Gd_return eX8_next_403 rfl (Nat.le_refl _) (Nat.le_refl _) ⟨_, rfl, rfl, ⟨by simp [up2, hbg], by rw [htk]; simp [up2, tkr], fun z => absurd z (by omega), ⟨en tp nb B, hen.2, by simp [up2, hat2], by rw [if_pos hlt]⟩⟩, (chg_up (chg_tr (chg_up (chg_up (chg_up (chg_mono2 scAt_x hc1) rfl) rfl) rfl) (chg_mono2 scAv_x hc2)) rfl)⟩
    · have hs1 : srt (tp B) = 1 := srt_1.mpr (of_decide_eq_true c100)
      refine m_nx_B hW hnb h256 (a0 := (up2 (up2 (up2 a1 50 21 (nI B)) 50 22 (nI 0)) 50 23 (nI 0))) (nb - B) B _ (by omega) (en_run hlt hs1 (by decide)) (TP_ch hP1 (S := scNx) (chg_up (chg_up (chg_up chg_rf rfl) rfl) rfl) rfl (fun _ => rfl)) hat1 chg_rf (fun a2 hP2 hat2 hc2 => ?_)
      have hbg : a2 50 21 = nI B := (hc2 50 21 rfl).trans (by simp [up2])
      refine Gd_aload_n (i := 0) rfl eX8_next_146 ?_
      refine Gd_aload_n (i := 0) rfl eX8_next_147 ?_
      refine Gd_getIe (v := nI (B)) fl_RX8_125 (W_s50 hW) (hbg :) eX8_next_148 ?_
      refine Gd_aload_n (i := 0) rfl eX8_next_151 ?_
      refine Gd_getIe (v := nI (en tp nb B)) fl_RX8_122 (W_s50 hW) (hat2 :) eX8_next_152 ?_
      refine Gd_callP (g_cV (m_wordFrom hW (WT_ch (S := scNx) hWT (chg_tr (chg_up (chg_up (chg_up (chg_mono2 scAt_x hc1) rfl) rfl) rfl) (chg_mono2 scAt_x hc2)) (fun _ => rfl)) hP2 hnb h256 (b := B) (e := en tp nb B) (by omega) hen.2 (fun i h1 h2 z => by have h3 := srt_1.mp ((en_in h1 h2).trans hs1); omega)) ok_X8_wordFrom lk_RX8_134 (W_s50 hW) ⟨_, _, rfl⟩ rfl rfl (Nat.le_of_ble_eq_true rfl) (Nat.le_of_ble_eq_true rfl) (Nat.le_refl _) (Nat.le_refl _) eX8_next_155) ?_
      have htk : tkn tp nb B = kof (qfs tp B (en tp nb B)) := by rw [tkn, if_neg (by omega), if_pos hs1]
      have hq13 : qfs tp B (en tp nb B) < 13 := Nat.lt_succ_of_le qfs_le
      generalize qfs tp B (en tp nb B) = q at htk hq13 ⊢
      obtain ⟨hk0, hk1, hk2, hk3, hk4⟩ := kix_tk q hq13
      refine Gd_istore_n2 rfl eX8_next_158 ?_
      refine Gd_aload_n (i := 0) rfl eX8_next_159 ?_
      refine Gd_iload_n (i := 2) rfl eX8_next_160 ?_
      refine Gd_iconst ki_3 eX8_next_161 ?_
      refine Gd_icmp_geN (by first | omega | decide) (by first | omega | decide) eX8_next_162 (fun c162 => ?_) (fun c162 => ?_)
      · refine Gd_iload_n (i := 2) rfl eX8_next_169 ?_
        refine Gd_bipush kb_9 eX8_next_170 ?_
        refine Gd_icmp_geN (by first | omega | decide) (by first | omega | decide) eX8_next_172 (fun c172 => ?_) (fun c172 => ?_)
        · refine Gd_iload_n (i := 2) rfl eX8_next_179 ?_
          refine Gd_bipush kb_12 eX8_next_180 ?_
          refine Gd_icmp_neN (by first | omega | decide) (by first | omega | decide) eX8_next_182 (fun c182 => ?_) (fun c182 => ?_)
          · refine Gd_iconst ki_4 eX8_next_189 ?_
            refine Gd_iload_n (i := 2) rfl eX8_next_190 ?_
            refine Gd_iaddN eX8_next_191 ?_
            refine Gd_bipush kb_9 eX8_next_192 ?_
            refine Gd_isubN (by first | omega | decide) eX8_next_194 ?_
            refine Gd_putI fl_RX8_128 (W_s50 hW) eX8_next_195 ?_
            refine Gd_aload_n (i := 0) rfl eX8_next_198 ?_
            refine Gd_iload_n (i := 2) rfl eX8_next_199 ?_
            refine Gd_iconst ki_3 eX8_next_200 ?_
            refine Gd_icmp_geN (by first | omega | decide) (by first | omega | decide) eX8_next_201 (fun c201 => ?_) (fun c201 => ?_)
            · refine Gd_iload_n (i := 2) rfl eX8_next_208 ?_
              refine Gd_iconst ki_3 eX8_next_209 ?_
              refine Gd_isubN (by first | omega | decide) eX8_next_210 ?_
              refine Gd_putI fl_RX8_131 (W_s50 hW) eX8_next_211 ?_
              refine Gd_goto eX8_next_214 ?_
              exact Gd_return eX8_next_403 rfl (Nat.le_refl _) (Nat.le_refl _) ⟨_, rfl, rfl, ⟨by simp [up2, hbg], by rw [htk, (hk3 c172 c182).1]; simp [up2], fun z => absurd z (by rw [htk]; have := (hk3 c172 c182).2; omega), ⟨en tp nb B, hen.2, by simp [up2, hat2], by rw [if_pos hlt]⟩⟩, (chg_up (chg_up (chg_tr (chg_up (chg_up (chg_up (chg_mono2 scAt_x hc1) rfl) rfl) rfl) (chg_mono2 scAt_x hc2)) rfl) rfl)⟩
            · exact absurd c162 (by omega)
          · refine Gd_iconst ki_m1 eX8_next_185 ?_
            refine Gd_goto eX8_next_186 ?_
            refine Gd_putI fl_RX8_128 (W_s50 hW) eX8_next_195 ?_
            refine Gd_aload_n (i := 0) rfl eX8_next_198 ?_
            refine Gd_iload_n (i := 2) rfl eX8_next_199 ?_
            refine Gd_iconst ki_3 eX8_next_200 ?_
            refine Gd_icmp_geN (by first | omega | decide) (by first | omega | decide) eX8_next_201 (fun c201 => ?_) (fun c201 => ?_)
            · refine Gd_iload_n (i := 2) rfl eX8_next_208 ?_
              refine Gd_iconst ki_3 eX8_next_209 ?_
              refine Gd_isubN (by first | omega | decide) eX8_next_210 ?_
              refine Gd_putI fl_RX8_131 (W_s50 hW) eX8_next_211 ?_
              refine Gd_goto eX8_next_214 ?_
              exact Gd_return eX8_next_403 rfl (Nat.le_refl _) (Nat.le_refl _) ⟨_, rfl, rfl, ⟨by simp [up2, hbg], by rw [htk, (hk4 c182).1]; simp [up2], fun z => absurd z (by rw [htk, (hk4 c182).2]; omega), ⟨en tp nb B, hen.2, by simp [up2, hat2], by rw [if_pos hlt]⟩⟩, (chg_up (chg_up (chg_tr (chg_up (chg_up (chg_up (chg_mono2 scAt_x hc1) rfl) rfl) rfl) (chg_mono2 scAt_x hc2)) rfl) rfl)⟩
            · exact absurd c162 (by omega)
        · refine Gd_iconst ki_2 eX8_next_175 ?_
          refine Gd_goto eX8_next_176 ?_
          refine Gd_putI fl_RX8_128 (W_s50 hW) eX8_next_195 ?_
          refine Gd_aload_n (i := 0) rfl eX8_next_198 ?_
          refine Gd_iload_n (i := 2) rfl eX8_next_199 ?_
          refine Gd_iconst ki_3 eX8_next_200 ?_
          refine Gd_icmp_geN (by first | omega | decide) (by first | omega | decide) eX8_next_201 (fun c201 => ?_) (fun c201 => ?_)
          · refine Gd_iload_n (i := 2) rfl eX8_next_208 ?_
            refine Gd_iconst ki_3 eX8_next_209 ?_
            refine Gd_isubN (by first | omega | decide) eX8_next_210 ?_
            refine Gd_putI fl_RX8_131 (W_s50 hW) eX8_next_211 ?_
            refine Gd_goto eX8_next_214 ?_
            exact Gd_return eX8_next_403 rfl (Nat.le_refl _) (Nat.le_refl _) ⟨_, rfl, rfl, ⟨by simp [up2, hbg], by rw [htk, (hk2 c162 c172).1]; simp [up2], fun _ => by rw [htk, (hk2 c162 c172).2]; simp [up2], ⟨en tp nb B, hen.2, by simp [up2, hat2], by rw [if_pos hlt]⟩⟩, (chg_up (chg_up (chg_tr (chg_up (chg_up (chg_up (chg_mono2 scAt_x hc1) rfl) rfl) rfl) (chg_mono2 scAt_x hc2)) rfl) rfl)⟩
          · exact absurd c162 (by omega)
      · refine Gd_iconst ki_3 eX8_next_165 ?_
        refine Gd_goto eX8_next_166 ?_
        refine Gd_putI fl_RX8_128 (W_s50 hW) eX8_next_195 ?_
        refine Gd_aload_n (i := 0) rfl eX8_next_198 ?_
        refine Gd_iload_n (i := 2) rfl eX8_next_199 ?_
        refine Gd_iconst ki_3 eX8_next_200 ?_
        refine Gd_icmp_geN (by first | omega | decide) (by first | omega | decide) eX8_next_201 (fun c201 => ?_) (fun c201 => ?_)
        · exact absurd c162 (by omega)
        · refine Gd_iload_n (i := 2) rfl eX8_next_204 ?_
          refine Gd_goto eX8_next_205 ?_
          refine Gd_putI fl_RX8_131 (W_s50 hW) eX8_next_211 ?_
          refine Gd_goto eX8_next_214 ?_
          exact Gd_return eX8_next_403 rfl (Nat.le_refl _) (Nat.le_refl _) ⟨_, rfl, rfl, ⟨by simp [up2, hbg], by rw [htk, (hk1 c162).1]; simp [up2], fun _ => by rw [htk, (hk1 c162).2]; simp [up2], ⟨en tp nb B, hen.2, by simp [up2, hat2], by rw [if_pos hlt]⟩⟩, (chg_up (chg_up (chg_tr (chg_up (chg_up (chg_up (chg_mono2 scAt_x hc1) rfl) rfl) rfl) (chg_mono2 scAt_x hc2)) rfl) rfl)⟩
  · exact Gd_return eX8_next_81 rfl (Nat.le_refl _) (Nat.le_refl _) ⟨_, rfl, rfl, ⟨by simp [up2], by rw [tkn, if_pos (by omega)]; simp [up2, tkr], fun z => absurd z (by rw [tkn, if_pos (by omega)]; omega), ⟨B, by omega, hat1, by rw [if_neg (by omega), c78, sk_e]⟩⟩, (chg_up (chg_up (chg_up (chg_mono2 scAt_x hc1) rfl) rfl) rfl)⟩
