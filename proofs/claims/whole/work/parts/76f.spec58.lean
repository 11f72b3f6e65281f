theorem x_tokenOf {sh : List (Nat × Nat)} {a : Nat → Nat → Int32} {r : Nat → Nat → Option Nat} {g : Nat → Nat → Int64} {tp : Nat → Nat} {nb : Nat} (hW : WC sh r) (hP : TP 25 1 26 nb tp a) (hnb : nb ≤ 160) (h256 : ∀ i, i < nb → tp i < 256) {b e : Nat} (hb : b < nb) (he : e = en tp nb b) : Mt YX2_tokenOf 6 0 0 [vr 25, vi (nI b), vi (nI e)] (sh, a, r, g) (g_P (some (vi (nI (tkn tp nb b)))) (sh, a, r, g)) := by
  refine Mt_of rfl (Nat.le_of_ble_eq_true rfl) rfl ?_
  have hen := en_le (tp := tp) hb
  refine Gd_aload_n (i := 0) rfl eX2_tokenOf_0 ?_
  refine Gd_getR fl_RX2_9 (V_s25 hW) (V_r25_0 hW) eX2_tokenOf_1 ?_
  refine Gd_iload_n (i := 1) rfl eX2_tokenOf_4 ?_
  refine Gd_ialdE (v := nI (tp b)) (V_s26 hW) (by first | omega | decide) (hP.2 b (by omega) :) eX2_tokenOf_5 ?_
  refine Gd_callP (g_cS (x_sortOf (c := tp b) (h256 b hb)) ok_X2_sortOf lk_RX2_70 rfl rfl (Nat.le_of_ble_eq_true rfl) (Nat.le_of_ble_eq_true rfl) (Nat.le_refl _) (Nat.le_refl _) eX2_tokenOf_6) ?_
  rcases ((by have := @srt_l (tp b); omega) : srt (tp b) = 0 ∨ srt (tp b) = 1 ∨ srt (tp b) = 2 ∨ srt (tp b) = 3) with hk | hk | hk | hk
  · rw [hk]
    refine Gd_lookup (off := 41) (tgt := 50) eX2_tokenOf_9 (by decide) (by decide +kernel) (by decide) ?_
    exact absurd hk (by have := @srt_l (tp b); omega)
  · rw [hk]
    refine Gd_lookup (off := 27) (tgt := 36) eX2_tokenOf_9 (by decide) (by decide +kernel) (by decide) ?_
    refine Gd_aload_n (i := 0) rfl eX2_tokenOf_36 ?_
    refine Gd_iload_n (i := 1) rfl eX2_tokenOf_37 ?_
    refine Gd_iload_n (i := 2) rfl eX2_tokenOf_38 ?_
    refine Gd_callP (g_cV (x_wordFrom hW hP hnb h256 (b := b) (e := e) (by omega) (by omega)) ok_X2_wordFrom lk_RX2_73 (V_s25 hW) ⟨_, _, rfl⟩ rfl rfl (Nat.le_of_ble_eq_true rfl) (Nat.le_of_ble_eq_true rfl) (Nat.le_refl _) (Nat.le_refl _) eX2_tokenOf_39) ?_
    exact Gd_ireturn eX2_tokenOf_42 rfl (Nat.le_refl _) (Nat.le_refl _) ⟨by rw [tkn, if_neg (show ¬ nb ≤ b by omega), if_pos hk, ← he], rfl⟩
  · rw [hk]
    refine Gd_lookup (off := 34) (tgt := 43) eX2_tokenOf_9 (by decide) (by decide +kernel) (by decide) ?_
    refine Gd_aload_n (i := 0) rfl eX2_tokenOf_43 ?_
    refine Gd_iload_n (i := 1) rfl eX2_tokenOf_44 ?_
    refine Gd_iload_n (i := 2) rfl eX2_tokenOf_45 ?_
    refine Gd_callP (g_cV (x_number hW hP hnb h256 (b := b) (e := e) (by omega) (by omega) (fun i h1 h2 => srt_2.mp ((en_in (nb := nb) h1 (by omega)).trans hk))) ok_X2_numberFrom lk_RX2_76 (V_s25 hW) ⟨_, _, rfl⟩ rfl rfl (Nat.le_of_ble_eq_true rfl) (Nat.le_of_ble_eq_true rfl) (Nat.le_refl _) (Nat.le_refl _) eX2_tokenOf_46) ?_
    exact Gd_ireturn eX2_tokenOf_49 rfl (Nat.le_refl _) (Nat.le_refl _) ⟨by rw [tkn, if_neg (show ¬ nb ≤ b by omega), if_neg (show ¬ srt (tp b) = 1 by omega), if_pos hk, ← he], rfl⟩
  · rw [hk]
    refine Gd_lookup (off := 41) (tgt := 50) eX2_tokenOf_9 (by decide) (by decide +kernel) (by decide) ?_
    refine Gd_aload_n (i := 0) rfl eX2_tokenOf_50 ?_
    refine Gd_getR fl_RX2_9 (V_s25 hW) (V_r25_0 hW) eX2_tokenOf_51 ?_
    refine Gd_iload_n (i := 1) rfl eX2_tokenOf_54 ?_
    refine Gd_ialdE (v := nI (tp b)) (V_s26 hW) (by first | omega | decide) (hP.2 b (by omega) :) eX2_tokenOf_55 ?_
    refine Gd_callP (g_cS (x_isSign (c := tp b) (h256 b hb)) ok_X2_isSign lk_RX2_79 rfl rfl (Nat.le_of_ble_eq_true rfl) (Nat.le_of_ble_eq_true rfl) (Nat.le_refl _) (Nat.le_refl _) eX2_tokenOf_56) ?_
    refine Gd_if_eqB eX2_tokenOf_59 (fun c59 => ?_) (fun c59 => ?_)
    · refine Gd_iconst ki_1 eX2_tokenOf_71 ?_
      exact Gd_ireturn eX2_tokenOf_72 rfl (Nat.le_refl _) (Nat.le_refl _) ⟨by rw [tkn, if_neg (show ¬ nb ≤ b by omega), if_neg (show ¬ srt (tp b) = 1 by omega), if_neg (show ¬ srt (tp b) = 2 by omega), if_neg (by rw [c59]; decide)], rfl⟩
    · refine Gd_aload_n (i := 0) rfl eX2_tokenOf_62 ?_
      refine Gd_getR fl_RX2_9 (V_s25 hW) (V_r25_0 hW) eX2_tokenOf_63 ?_
      refine Gd_iload_n (i := 1) rfl eX2_tokenOf_66 ?_
      refine Gd_ialdE (v := nI (tp b)) (V_s26 hW) (by first | omega | decide) (hP.2 b (by omega) :) eX2_tokenOf_67 ?_
      refine Gd_goto eX2_tokenOf_68 ?_
      exact Gd_ireturn eX2_tokenOf_72 rfl (Nat.le_refl _) (Nat.le_refl _) ⟨by rw [tkn, if_neg (show ¬ nb ≤ b by omega), if_neg (show ¬ srt (tp b) = 1 by omega), if_neg (show ¬ srt (tp b) = 2 by omega), if_pos c59], rfl⟩
/-- the tokens and their places lie there, M of them ahead of the end -/
def PT (tq pl : Nat → Nat) (M : Nat) (a : Nat → Nat → Int32) : Prop := a 25 4 = nI (M + 1) ∧ ∀ j, j ≤ M → a 27 j = nI (tq j) ∧ a 28 j = nI (pl j)
def scTk (k j : Nat) : Bool := decide (k = 27 ∨ k = 28) || (decide (k = 25) && decide (j = 4))
theorem TP_ch {S : Nat → Nat → Bool} {R j C nb : Nat} {tp : Nat → Nat} {a a' : Nat → Nat → Int32} (h : TP R j C nb tp a) (hc : chg S a a') (h1 : S R j = false) (h2 : ∀ i, S C i = false) : TP R j C nb tp a' := ⟨(hc _ _ h1).trans h.1, fun i hi => (hc _ _ (h2 i)).trans (h.2 i hi)⟩
theorem up3_7 {a : Nat → Nat → Int32} {c j : Nat} {v w z : Int32} : up2 (up2 (up2 a 27 c v) 28 c w) 25 4 z 27 j = if j = c then v else a 27 j := by simp [up2]
theorem up3_8 {a : Nat → Nat → Int32} {c j : Nat} {v w z : Int32} : up2 (up2 (up2 a 27 c v) 28 c w) 25 4 z 28 j = if j = c then w else a 28 j := by simp [up2]
theorem tkn_e {tp : Nat → Nat} {nb : Nat} : tkn tp nb nb = 0 := by rw [tkn, if_pos (Nat.le_refl _)]
theorem x_scan_L {sh : List (Nat × Nat)} {r : Nat → Nat → Option Nat} {g : Nat → Nat → Int64} {tp : Nat → Nat} {nb : Nat} (hW : WC sh r) (hnb : nb ≤ 160) (h256 : ∀ i, i < nb → tp i < 256) {M : Nat} (hM : bs tp nb M = nb) (hlM : ∀ j, j < M → bs tp nb j < nb) {Q : Option g_V → g_H → Prop} {N0 : Nat} {a0 : Nat → Nat → Int32} : ∀ (n i e c : Nat) (a : Nat → Nat → Int32), i + n = nb → e ≤ nb → c ≤ i → sk tp nb (max i e) = bs tp nb c → (∀ j, j < c → bs tp nb j < nb) → TP 25 1 26 nb tp a → a 25 4 = nI c → (∀ j, j < c → a 27 j = nI (tqf tp nb j)) → (∀ j, j < c → a 28 j = nI (bs tp nb j)) → chg scTk a0 a → (∀ a', TP 25 1 26 nb tp a' → PT (tqf tp nb) (bs tp nb) M a' → chg scTk a0 a' → Q none (sh, a', r, g)) → Gd YX2_scan (z0 7 N0 Q) 0 0 9 [some (vr 25), some (vi (nI e)), some (vi (nI i))] [] (sh, a, r, g)
  | 0, i, e, c, a, hn, he, hci, hb, hlc, hP, h4, h27, h28, hc, kq => by
    refine Gd_iload_n (i := 2) rfl eX2_scan_9 ?_
    refine Gd_aload_n (i := 0) rfl eX2_scan_10 ?_
    refine Gd_getIe (v := nI (nb)) fl_RX2_15 (V_s25 hW) (hP.1 :) eX2_scan_11 ?_
    refine Gd_icmp_geN (by first | omega | decide) (by first | omega | decide) eX2_scan_14 (fun c14 => ?_) (fun c14 => ?_)
    · have hbc : bs tp nb c = nb := by rw [← hb, show max i e = nb by omega, sk_e]
      obtain rfl : c = M := by rcases Nat.lt_trichotomy c M with z | z | z <;> first | exact z | (have := hlM c z; omega) | (have := hlc M z; omega)
      refine Gd_aload_n (i := 0) rfl eX2_scan_91 ?_
      refine Gd_getR fl_RX2_19 (V_s25 hW) (V_r25_2 hW) eX2_scan_92 ?_
      refine Gd_aload_n (i := 0) rfl eX2_scan_95 ?_
      refine Gd_getIe (v := nI (c)) fl_RX2_25 (V_s25 hW) (h4 :) eX2_scan_96 ?_
      refine Gd_iconst ki_0 eX2_scan_99 ?_
      refine Gd_iastN (V_s27 hW) (by first | omega | decide) eX2_scan_100 ?_
      refine Gd_aload_n (i := 0) rfl eX2_scan_101 ?_
      refine Gd_getR fl_RX2_22 (V_s25 hW) (V_r25_3 hW) eX2_scan_102 ?_
      refine Gd_aload_n (i := 0) rfl eX2_scan_105 ?_
      refine Gd_getIe (v := nI (c)) fl_RX2_25 (V_s25 hW) (h4 :) eX2_scan_106 ?_
      refine Gd_aload_n (i := 0) rfl eX2_scan_109 ?_
      refine Gd_getIe (v := nI (nb)) fl_RX2_15 (V_s25 hW) (hP.1 :) eX2_scan_110 ?_
      refine Gd_iastN (V_s28 hW) (by first | omega | decide) eX2_scan_113 ?_
      refine Gd_aload_n (i := 0) rfl eX2_scan_114 ?_
      refine Gd_dup rfl eX2_scan_115 ?_
      refine Gd_getIe (v := nI (c)) fl_RX2_25 (V_s25 hW) (h4 :) eX2_scan_116 ?_
      refine Gd_iconst ki_1 eX2_scan_119 ?_
      refine Gd_iaddN eX2_scan_120 ?_
      refine Gd_putI fl_RX2_25 (V_s25 hW) eX2_scan_121 ?_
      exact Gd_return eX2_scan_124 rfl (Nat.le_refl _) (Nat.le_refl _) (kq _ (TP_ch hP (S := scTk) (chg_up (chg_up (chg_up chg_rf (by simp [scTk])) (by simp [scTk])) (by simp [scTk])) rfl (fun _ => rfl)) ⟨up2_s _ _ _ _, fun j hj => ⟨if e2 : j = c then (by rw [up3_7, if_pos e2, e2, tqf, hbc, tkn_e]) else (by rw [up3_7, if_neg e2]; exact h27 j (by omega)), if e2 : j = c then (by rw [up3_8, if_pos e2, e2, hbc]) else (by rw [up3_8, if_neg e2]; exact h28 j (by omega))⟩⟩ (chg_up (chg_up (chg_up hc (by simp [scTk])) (by simp [scTk])) (by simp [scTk])))
    · exact absurd c14 (by omega)
  | n + 1, i, e, c, a, hn, he, hci, hb, hlc, hP, h4, h27, h28, hc, kq => by
    refine Gd_iload_n (i := 2) rfl eX2_scan_9 ?_
    refine Gd_aload_n (i := 0) rfl eX2_scan_10 ?_
    refine Gd_getIe (v := nI (nb)) fl_RX2_15 (V_s25 hW) (hP.1 :) eX2_scan_11 ?_
    refine Gd_icmp_geN (by first | omega | decide) (by first | omega | decide) eX2_scan_14 (fun c14 => ?_) (fun c14 => ?_)
    · exact absurd c14 (by omega)
    · refine Gd_iload_n (i := 2) rfl eX2_scan_17 ?_
      refine Gd_iload_n (i := 1) rfl eX2_scan_18 ?_
      refine Gd_icmp_ltN (by first | omega | decide) (by first | omega | decide) eX2_scan_19 (fun c19 => ?_) (fun c19 => ?_)
      · refine Gd_iinc2 (ho := rfl) (he := nI_inc _) eX2_scan_85 ?_
        refine Gd_goto eX2_scan_88 ?_
        exact x_scan_L hW hnb h256 hM hlM n (i + 1) e c a (by omega) he (by omega) (by rw [show max (i + 1) e = max i e by omega]; exact hb) hlc hP h4 h27 h28 hc kq
      · have hti := h256 i c14
        refine Gd_aload_n (i := 0) rfl eX2_scan_22 ?_
        refine Gd_getR fl_RX2_9 (V_s25 hW) (V_r25_0 hW) eX2_scan_23 ?_
        refine Gd_iload_n (i := 2) rfl eX2_scan_26 ?_
        refine Gd_ialdE (v := nI (tp i)) (V_s26 hW) (by first | omega | decide) (hP.2 i (by omega) :) eX2_scan_27 ?_
        refine Gd_bipush kb_32 eX2_scan_28 ?_
        refine Gd_icmp_eqN (by first | omega | decide) (by first | omega | decide) eX2_scan_30 (fun c30 => ?_) (fun c30 => ?_)
        · refine Gd_iinc2 (ho := rfl) (he := nI_inc _) eX2_scan_85 ?_
          refine Gd_goto eX2_scan_88 ?_
          exact x_scan_L hW hnb h256 hM hlM n (i + 1) e c a (by omega) he (by omega) (by rw [show max (i + 1) e = i + 1 by omega, ← sk_s c14 (Or.inl c30)]; rw [show max i e = i by omega] at hb; exact hb) hlc hP h4 h27 h28 hc kq
        · refine Gd_aload_n (i := 0) rfl eX2_scan_33 ?_
          refine Gd_getR fl_RX2_9 (V_s25 hW) (V_r25_0 hW) eX2_scan_34 ?_
          refine Gd_iload_n (i := 2) rfl eX2_scan_37 ?_
          refine Gd_ialdE (v := nI (tp i)) (V_s26 hW) (by first | omega | decide) (hP.2 i (by omega) :) eX2_scan_38 ?_
          refine Gd_bipush kb_10 eX2_scan_39 ?_
          refine Gd_icmp_eqN (by first | omega | decide) (by first | omega | decide) eX2_scan_41 (fun c41 => ?_) (fun c41 => ?_)
          · refine Gd_iinc2 (ho := rfl) (he := nI_inc _) eX2_scan_85 ?_
            refine Gd_goto eX2_scan_88 ?_
            exact x_scan_L hW hnb h256 hM hlM n (i + 1) e c a (by omega) he (by omega) (by rw [show max (i + 1) e = i + 1 by omega, ← sk_s c14 (Or.inr c41)]; rw [show max i e = i by omega] at hb; exact hb) hlc hP h4 h27 h28 hc kq
          · refine Gd_aload_n (i := 0) rfl eX2_scan_44 ?_
            refine Gd_iload_n (i := 2) rfl eX2_scan_45 ?_
            refine Gd_callP (g_cV (x_endFrom hW hP hnb h256 (b := i) c14) ok_X2_endFrom lk_RX2_62 (V_s25 hW) ⟨_, _, rfl⟩ rfl rfl (Nat.le_of_ble_eq_true rfl) (Nat.le_of_ble_eq_true rfl) (Nat.le_refl _) (Nat.le_refl _) eX2_scan_46) ?_
            have hen := en_le (tp := tp) c14
            refine Gd_istore_n1 rfl eX2_scan_49 ?_
            refine Gd_aload_n (i := 0) rfl eX2_scan_50 ?_
            refine Gd_getR fl_RX2_19 (V_s25 hW) (V_r25_2 hW) eX2_scan_51 ?_
            refine Gd_aload_n (i := 0) rfl eX2_scan_54 ?_
            refine Gd_getIe (v := nI (c)) fl_RX2_25 (V_s25 hW) (h4 :) eX2_scan_55 ?_
            refine Gd_aload_n (i := 0) rfl eX2_scan_58 ?_
            refine Gd_iload_n (i := 2) rfl eX2_scan_59 ?_
            refine Gd_iload_n (i := 1) rfl eX2_scan_60 ?_
            refine Gd_callP (g_cV (x_tokenOf hW hP hnb h256 (b := i) c14 rfl) ok_X2_tokenOf lk_RX2_66 (V_s25 hW) ⟨_, _, rfl⟩ rfl rfl (Nat.le_of_ble_eq_true rfl) (Nat.le_of_ble_eq_true rfl) (Nat.le_refl _) (Nat.le_refl _) eX2_scan_61) ?_
            refine Gd_iastN (V_s27 hW) (by first | omega | decide) eX2_scan_64 ?_
            refine Gd_aload_n (i := 0) rfl eX2_scan_65 ?_
            refine Gd_getR fl_RX2_22 (V_s25 hW) (V_r25_3 hW) eX2_scan_66 ?_
            refine Gd_aload_n (i := 0) rfl eX2_scan_69 ?_
            refine Gd_getIe (v := nI (c)) fl_RX2_25 (V_s25 hW) (h4 :) eX2_scan_70 ?_
            refine Gd_iload_n (i := 2) rfl eX2_scan_73 ?_
            refine Gd_iastN (V_s28 hW) (by first | omega | decide) eX2_scan_74 ?_
            refine Gd_aload_n (i := 0) rfl eX2_scan_75 ?_
            refine Gd_dup rfl eX2_scan_76 ?_
            refine Gd_getIe (v := nI (c)) fl_RX2_25 (V_s25 hW) (h4 :) eX2_scan_77 ?_
            refine Gd_iconst ki_1 eX2_scan_80 ?_
            refine Gd_iaddN eX2_scan_81 ?_
            refine Gd_putI fl_RX2_25 (V_s25 hW) eX2_scan_82 ?_
            refine Gd_iinc2 (ho := rfl) (he := nI_inc _) eX2_scan_85 ?_
            refine Gd_goto eX2_scan_88 ?_
            have hbi : bs tp nb c = i := by rw [← hb, show max i e = i by omega, sk_n (fun z => z.elim c30 c41)]
            have hcu : chg scTk a (up2 (up2 (up2 a 27 c (nI (tkn tp nb i))) 28 c (nI i)) 25 4 (nI (c + 1))) := chg_up (chg_up (chg_up chg_rf (by simp [scTk])) (by simp [scTk])) (by simp [scTk])
            exact x_scan_L hW hnb h256 hM hlM n (i + 1) (en tp nb i) (c + 1) _ (by omega) hen.2 (by omega) (by rw [show max (i + 1) (en tp nb i) = en tp nb i by omega, bs_s (by omega), hbi]) (fun j hj => if e2 : j = c then (by rw [e2]; omega) else hlc j (by omega)) (TP_ch hP hcu rfl (fun _ => rfl)) (up2_s _ _ _ _) (fun j hj => if e2 : j = c then (by rw [up3_7, if_pos e2, e2, tqf, hbi]) else (by rw [up3_7, if_neg e2]; exact h27 j (by omega))) (fun j hj => if e2 : j = c then (by rw [up3_8, if_pos e2, e2, hbi]) else (by rw [up3_8, if_neg e2]; exact h28 j (by omega))) (chg_tr hc hcu) kq
theorem x_scan {sh : List (Nat × Nat)} {a : Nat → Nat → Int32} {r : Nat → Nat → Option Nat} {g : Nat → Nat → Int64} {tp : Nat → Nat} {nb : Nat} (hW : WC sh r) (hnb : nb ≤ 160) (h256 : ∀ i, i < nb → tp i < 256) {M : Nat} (hM : bs tp nb M = nb) (hlM : ∀ j, j < M → bs tp nb j < nb) (hP : TP 25 1 26 nb tp a) : Mt YX2_scan 7 0 0 [vr 25] (sh, a, r, g) (g_E0 sh r g (fun a' => TP 25 1 26 nb tp a' ∧ PT (tqf tp nb) (bs tp nb) M a' ∧ chg scTk a a')) := by
  refine Mt_of rfl (Nat.le_of_ble_eq_true rfl) rfl ?_
  refine Gd_aload_n (i := 0) rfl eX2_scan_0 ?_
  refine Gd_iconst ki_0 eX2_scan_1 ?_
  refine Gd_putI fl_RX2_25 (V_s25 hW) eX2_scan_2 ?_
  refine Gd_iconst ki_0 eX2_scan_5 ?_
  refine Gd_istore_n1 rfl eX2_scan_6 ?_
  refine Gd_iconst ki_0 eX2_scan_7 ?_
  refine Gd_istore_n2 rfl eX2_scan_8 ?_
  exact x_scan_L hW hnb h256 hM hlM nb 0 0 0 _ (by omega) (Nat.zero_le _) (Nat.le_refl _) rfl (fun j hj => absurd hj (by omega)) (TP_ch hP (S := scTk) (chg_up chg_rf rfl) rfl (fun _ => rfl)) (up2_s _ _ _ _) (fun j hj => absurd hj (by omega)) (fun j hj => absurd hj (by omega)) (chg_up chg_rf rfl) (fun a' k1 k2 k3 => ⟨a', rfl, rfl, k1, k2, k3⟩)
