section LEXX
variable {tp : Nat → Nat} {nb : Nat}
theorem run_o {s n j : Nat} (h : srt (tp j) = s) : run tp s (n + 1) j = run tp s n (j + 1) := by rw [run, if_pos h]
theorem run_x {s n j : Nat} (h : ¬ srt (tp j) = s) : run tp s (n + 1) j = j := by rw [run, if_neg h]
end LEXX
theorem x_sortOf {h : g_H} {c : Nat} (hc : c < 256) : Mt YX2_sortOf 0 0 0 [vi (nI c)] h (g_P (some (vi (nI (srt c)))) h) := by
  refine Mt_of rfl (Nat.le_of_ble_eq_true rfl) rfl ?_
  refine Gd_iload_n (i := 0) rfl eX2_sortOf_0 ?_
  refine Gd_bipush kb_97 eX2_sortOf_1 ?_
  refine Gd_icmp_ltN (by first | omega | decide) (by first | omega | decide) eX2_sortOf_3 (fun c3 => ?_) (fun c3 => ?_)
  · refine Gd_iload_n (i := 0) rfl eX2_sortOf_14 ?_
    refine Gd_bipush kb_48 eX2_sortOf_15 ?_
    refine Gd_icmp_ltN (by first | omega | decide) (by first | omega | decide) eX2_sortOf_17 (fun c17 => ?_) (fun c17 => ?_)
    · refine Gd_iconst ki_3 eX2_sortOf_30 ?_
      exact Gd_ireturn eX2_sortOf_31 rfl (Nat.le_refl _) (Nat.le_refl _) ⟨by rw [show srt c = 3 from srt_3.mpr (by omega)], rfl⟩
    · refine Gd_iload_n (i := 0) rfl eX2_sortOf_20 ?_
      refine Gd_bipush kb_57 eX2_sortOf_21 ?_
      refine Gd_icmp_gtN (by first | omega | decide) (by first | omega | decide) eX2_sortOf_23 (fun c23 => ?_) (fun c23 => ?_)
      · refine Gd_iconst ki_3 eX2_sortOf_30 ?_
        exact Gd_ireturn eX2_sortOf_31 rfl (Nat.le_refl _) (Nat.le_refl _) ⟨by rw [show srt c = 3 from srt_3.mpr (by omega)], rfl⟩
      · refine Gd_iconst ki_2 eX2_sortOf_26 ?_
        refine Gd_goto eX2_sortOf_27 ?_
        exact Gd_ireturn eX2_sortOf_31 rfl (Nat.le_refl _) (Nat.le_refl _) ⟨by rw [show srt c = 2 from srt_2.mpr (by omega)], rfl⟩
  · refine Gd_iload_n (i := 0) rfl eX2_sortOf_6 ?_
    refine Gd_bipush kb_122 eX2_sortOf_7 ?_
    refine Gd_icmp_gtN (by first | omega | decide) (by first | omega | decide) eX2_sortOf_9 (fun c9 => ?_) (fun c9 => ?_)
    · refine Gd_iload_n (i := 0) rfl eX2_sortOf_14 ?_
      refine Gd_bipush kb_48 eX2_sortOf_15 ?_
      refine Gd_icmp_ltN (by first | omega | decide) (by first | omega | decide) eX2_sortOf_17 (fun c17 => ?_) (fun c17 => ?_)
      · refine Gd_iconst ki_3 eX2_sortOf_30 ?_
        exact Gd_ireturn eX2_sortOf_31 rfl (Nat.le_refl _) (Nat.le_refl _) ⟨by rw [show srt c = 3 from srt_3.mpr (by omega)], rfl⟩
      · refine Gd_iload_n (i := 0) rfl eX2_sortOf_20 ?_
        refine Gd_bipush kb_57 eX2_sortOf_21 ?_
        refine Gd_icmp_gtN (by first | omega | decide) (by first | omega | decide) eX2_sortOf_23 (fun c23 => ?_) (fun c23 => ?_)
        · refine Gd_iconst ki_3 eX2_sortOf_30 ?_
          exact Gd_ireturn eX2_sortOf_31 rfl (Nat.le_refl _) (Nat.le_refl _) ⟨by rw [show srt c = 3 from srt_3.mpr (by omega)], rfl⟩
        · refine Gd_iconst ki_2 eX2_sortOf_26 ?_
          refine Gd_goto eX2_sortOf_27 ?_
          exact Gd_ireturn eX2_sortOf_31 rfl (Nat.le_refl _) (Nat.le_refl _) ⟨by rw [show srt c = 2 from srt_2.mpr (by omega)], rfl⟩
    · refine Gd_iconst ki_1 eX2_sortOf_12 ?_
      exact Gd_ireturn eX2_sortOf_13 rfl (Nat.le_refl _) (Nat.le_refl _) ⟨by rw [show srt c = 1 from srt_1.mpr (by omega)], rfl⟩
theorem x_isSign {h : g_H} {c : Nat} (hc : c < 256) : Mt YX2_isSign 0 0 0 [vi (nI c)] h (g_P (some (vi (bI (isg c)))) h) := by
  refine Mt_of rfl (Nat.le_of_ble_eq_true rfl) rfl ?_
  refine Gd_iload_n (i := 0) rfl eX2_isSign_0 ?_
  refine Gd_bipush kb_40 eX2_isSign_1 ?_
  refine Gd_icmp_eqN (by first | omega | decide) (by first | omega | decide) eX2_isSign_3 (fun c3 => ?_) (fun c3 => ?_)
  · refine Gd_iconst ki_1 eX2_isSign_48 ?_
    refine Gd_goto eX2_isSign_49 ?_
    exact Gd_zreturn eX2_isSign_53 rfl (by decide) (Nat.le_refl _) (Nat.le_refl _) ⟨by rw [show isg c = true from decide_eq_true (by omega)]; rfl, rfl⟩
  · refine Gd_iload_n (i := 0) rfl eX2_isSign_6 ?_
    refine Gd_bipush kb_41 eX2_isSign_7 ?_
    refine Gd_icmp_eqN (by first | omega | decide) (by first | omega | decide) eX2_isSign_9 (fun c9 => ?_) (fun c9 => ?_)
    · refine Gd_iconst ki_1 eX2_isSign_48 ?_
      refine Gd_goto eX2_isSign_49 ?_
      exact Gd_zreturn eX2_isSign_53 rfl (by decide) (Nat.le_refl _) (Nat.le_refl _) ⟨by rw [show isg c = true from decide_eq_true (by omega)]; rfl, rfl⟩
    · refine Gd_iload_n (i := 0) rfl eX2_isSign_12 ?_
      refine Gd_bipush kb_59 eX2_isSign_13 ?_
      refine Gd_icmp_eqN (by first | omega | decide) (by first | omega | decide) eX2_isSign_15 (fun c15 => ?_) (fun c15 => ?_)
      · refine Gd_iconst ki_1 eX2_isSign_48 ?_
        refine Gd_goto eX2_isSign_49 ?_
        exact Gd_zreturn eX2_isSign_53 rfl (by decide) (Nat.le_refl _) (Nat.le_refl _) ⟨by rw [show isg c = true from decide_eq_true (by omega)]; rfl, rfl⟩
      · refine Gd_iload_n (i := 0) rfl eX2_isSign_18 ?_
        refine Gd_bipush kb_43 eX2_isSign_19 ?_
        refine Gd_icmp_eqN (by first | omega | decide) (by first | omega | decide) eX2_isSign_21 (fun c21 => ?_) (fun c21 => ?_)
        · refine Gd_iconst ki_1 eX2_isSign_48 ?_
          refine Gd_goto eX2_isSign_49 ?_
          exact Gd_zreturn eX2_isSign_53 rfl (by decide) (Nat.le_refl _) (Nat.le_refl _) ⟨by rw [show isg c = true from decide_eq_true (by omega)]; rfl, rfl⟩
        · refine Gd_iload_n (i := 0) rfl eX2_isSign_24 ?_
          refine Gd_bipush kb_45 eX2_isSign_25 ?_
          refine Gd_icmp_eqN (by first | omega | decide) (by first | omega | decide) eX2_isSign_27 (fun c27 => ?_) (fun c27 => ?_)
          · refine Gd_iconst ki_1 eX2_isSign_48 ?_
            refine Gd_goto eX2_isSign_49 ?_
            exact Gd_zreturn eX2_isSign_53 rfl (by decide) (Nat.le_refl _) (Nat.le_refl _) ⟨by rw [show isg c = true from decide_eq_true (by omega)]; rfl, rfl⟩
          · refine Gd_iload_n (i := 0) rfl eX2_isSign_30 ?_
            refine Gd_bipush kb_42 eX2_isSign_31 ?_
            refine Gd_icmp_eqN (by first | omega | decide) (by first | omega | decide) eX2_isSign_33 (fun c33 => ?_) (fun c33 => ?_)
            · refine Gd_iconst ki_1 eX2_isSign_48 ?_
              refine Gd_goto eX2_isSign_49 ?_
              exact Gd_zreturn eX2_isSign_53 rfl (by decide) (Nat.le_refl _) (Nat.le_refl _) ⟨by rw [show isg c = true from decide_eq_true (by omega)]; rfl, rfl⟩
            · refine Gd_iload_n (i := 0) rfl eX2_isSign_36 ?_
              refine Gd_bipush kb_60 eX2_isSign_37 ?_
              refine Gd_icmp_eqN (by first | omega | decide) (by first | omega | decide) eX2_isSign_39 (fun c39 => ?_) (fun c39 => ?_)
              · refine Gd_iconst ki_1 eX2_isSign_48 ?_
                refine Gd_goto eX2_isSign_49 ?_
                exact Gd_zreturn eX2_isSign_53 rfl (by decide) (Nat.le_refl _) (Nat.le_refl _) ⟨by rw [show isg c = true from decide_eq_true (by omega)]; rfl, rfl⟩
              · refine Gd_iload_n (i := 0) rfl eX2_isSign_42 ?_
                refine Gd_bipush kb_61 eX2_isSign_43 ?_
                refine Gd_icmp_neN (by first | omega | decide) (by first | omega | decide) eX2_isSign_45 (fun c45 => ?_) (fun c45 => ?_)
                · refine Gd_iconst ki_0 eX2_isSign_52 ?_
                  exact Gd_zreturn eX2_isSign_53 rfl (by decide) (Nat.le_refl _) (Nat.le_refl _) ⟨by rw [show isg c = false from decide_eq_false (by omega)]; rfl, rfl⟩
                · refine Gd_iconst ki_1 eX2_isSign_48 ?_
                  refine Gd_goto eX2_isSign_49 ?_
                  exact Gd_zreturn eX2_isSign_53 rfl (by decide) (Nat.le_refl _) (Nat.le_refl _) ⟨by rw [show isg c = true from decide_eq_true (by omega)]; rfl, rfl⟩
theorem x_endFrom_L {sh : List (Nat × Nat)} {a : Nat → Nat → Int32} {r : Nat → Nat → Option Nat} {g : Nat → Nat → Int64} {tp : Nat → Nat} {nb : Nat} (hW : WC sh r) (hP : TP 25 1 26 nb tp a) (hnb : nb ≤ 160) (h256 : ∀ i, i < nb → tp i < 256) {b s : Nat} (hs1 : s ≤ 3) {Q : Option g_V → g_H → Prop} {N0 : Nat} : ∀ (n i : Nat), i + n = nb → Q (some (vi (nI (if s = 3 then i else run tp s n i)))) (sh, a, r, g) → Gd YX2_endFrom (z0 1 N0 Q) 0 0 17 [some (vr 25), some (vi (nI b)), some (vi (nI s)), some (vi (nI i)), some (vi (nI i))] [] (sh, a, r, g)
  | 0, i, hn, kq => by
    have hsi := @srt_l (tp i)
    refine Gd_iload (i := 4) rfl eX2_endFrom_17 ?_
    refine Gd_aload_n (i := 0) rfl eX2_endFrom_19 ?_
    refine Gd_getIe (v := nI (nb)) fl_RX2_15 (V_s25 hW) (hP.1 :) eX2_endFrom_20 ?_
    refine Gd_icmp_geN (by first | omega | decide) (by first | omega | decide) eX2_endFrom_23 (fun c23 => ?_) (fun c23 => ?_)
    · refine Gd_iload_n (i := 3) rfl eX2_endFrom_56 ?_
      exact Gd_ireturn eX2_endFrom_57 rfl (Nat.le_refl _) (Nat.le_refl _) (by rw [show (if s = 3 then i else run tp s 0 i) = i from by split <;> rfl] at kq; exact kq)
    · exact absurd c23 (by omega)
  | n + 1, i, hn, kq => by
    have hsi := @srt_l (tp i)
    refine Gd_iload (i := 4) rfl eX2_endFrom_17 ?_
    refine Gd_aload_n (i := 0) rfl eX2_endFrom_19 ?_
    refine Gd_getIe (v := nI (nb)) fl_RX2_15 (V_s25 hW) (hP.1 :) eX2_endFrom_20 ?_
    refine Gd_icmp_geN (by first | omega | decide) (by first | omega | decide) eX2_endFrom_23 (fun c23 => ?_) (fun c23 => ?_)
    · exact absurd c23 (by omega)
    · refine Gd_iload_n (i := 2) rfl eX2_endFrom_26 ?_
      refine Gd_iconst ki_3 eX2_endFrom_27 ?_
      refine Gd_icmp_eqN (by first | omega | decide) (by first | omega | decide) eX2_endFrom_28 (fun c28 => ?_) (fun c28 => ?_)
      · refine Gd_iload_n (i := 3) rfl eX2_endFrom_56 ?_
        exact Gd_ireturn eX2_endFrom_57 rfl (Nat.le_refl _) (Nat.le_refl _) (by rw [if_pos c28] at kq; exact kq)
      · refine Gd_aload_n (i := 0) rfl eX2_endFrom_31 ?_
        refine Gd_getR fl_RX2_9 (V_s25 hW) (V_r25_0 hW) eX2_endFrom_32 ?_
        refine Gd_iload (i := 4) rfl eX2_endFrom_35 ?_
        refine Gd_ialdE (v := nI (tp i)) (V_s26 hW) (by first | omega | decide) (hP.2 i (by omega) :) eX2_endFrom_37 ?_
        refine Gd_callP (g_cS (x_sortOf (c := tp i) (h256 i (by omega))) ok_X2_sortOf lk_RX2_70 rfl rfl (Nat.le_of_ble_eq_true rfl) (Nat.le_of_ble_eq_true rfl) (Nat.le_refl _) (Nat.le_refl _) eX2_endFrom_38) ?_
        refine Gd_iload_n (i := 2) rfl eX2_endFrom_41 ?_
        refine Gd_icmp_neN (by first | omega | decide) (by first | omega | decide) eX2_endFrom_42 (fun c42 => ?_) (fun c42 => ?_)
        · refine Gd_iload_n (i := 3) rfl eX2_endFrom_56 ?_
          exact Gd_ireturn eX2_endFrom_57 rfl (Nat.le_refl _) (Nat.le_refl _) (by rw [if_neg c28, run_x c42] at kq; exact kq)
        · refine Gd_iload (i := 4) rfl eX2_endFrom_45 ?_
          refine Gd_iconst ki_1 eX2_endFrom_47 ?_
          refine Gd_iaddN eX2_endFrom_48 ?_
          refine Gd_istore_n3 rfl eX2_endFrom_49 ?_
          refine Gd_iinc4 (ho := rfl) (he := nI_inc _) eX2_endFrom_50 ?_
          refine Gd_goto eX2_endFrom_53 ?_
          exact x_endFrom_L hW hP hnb h256 hs1 n (i + 1) (by omega) (by rw [if_neg c28] at kq ⊢; rw [run_o c42] at kq; exact kq)
theorem x_endFrom {sh : List (Nat × Nat)} {a : Nat → Nat → Int32} {r : Nat → Nat → Option Nat} {g : Nat → Nat → Int64} {tp : Nat → Nat} {nb : Nat} (hW : WC sh r) (hP : TP 25 1 26 nb tp a) (hnb : nb ≤ 160) (h256 : ∀ i, i < nb → tp i < 256) {b : Nat} (hb : b < nb) : Mt YX2_endFrom 1 0 0 [vr 25, vi (nI b)] (sh, a, r, g) (g_P (some (vi (nI (en tp nb b)))) (sh, a, r, g)) := by
  refine Mt_of rfl (Nat.le_of_ble_eq_true rfl) rfl ?_
  refine Gd_aload_n (i := 0) rfl eX2_endFrom_0 ?_
  refine Gd_getR fl_RX2_9 (V_s25 hW) (V_r25_0 hW) eX2_endFrom_1 ?_
  refine Gd_iload_n (i := 1) rfl eX2_endFrom_4 ?_
  refine Gd_ialdE (v := nI (tp b)) (V_s26 hW) (by first | omega | decide) (hP.2 b (by omega) :) eX2_endFrom_5 ?_
  refine Gd_callP (g_cS (x_sortOf (c := tp b) (h256 b hb)) ok_X2_sortOf lk_RX2_70 rfl rfl (Nat.le_of_ble_eq_true rfl) (Nat.le_of_ble_eq_true rfl) (Nat.le_refl _) (Nat.le_refl _) eX2_endFrom_6) ?_
  refine Gd_istore_n2 rfl eX2_endFrom_9 ?_
  refine Gd_iload_n (i := 1) rfl eX2_endFrom_10 ?_
  refine Gd_iconst ki_1 eX2_endFrom_11 ?_
  refine Gd_iaddN eX2_endFrom_12 ?_
  refine Gd_istore_n3 rfl eX2_endFrom_13 ?_
  refine Gd_iload_n (i := 3) rfl eX2_endFrom_14 ?_
  refine Gd_istore4 rfl eX2_endFrom_15 ?_
  exact x_endFrom_L hW hP hnb h256 (by have := @srt_l (tp b); omega) (nb - (b + 1)) (b + 1) (by omega) ⟨rfl, rfl⟩
theorem x_number_L {sh : List (Nat × Nat)} {a : Nat → Nat → Int32} {r : Nat → Nat → Option Nat} {g : Nat → Nat → Int64} {tp : Nat → Nat} {nb : Nat} (hW : WC sh r) (hP : TP 25 1 26 nb tp a) (hnb : nb ≤ 160) (h256 : ∀ i, i < nb → tp i < 256) {b e : Nat} (he : e ≤ nb) (h4 : e - b ≤ 4) (hd : ∀ i, b ≤ i → i < e → 48 ≤ tp i ∧ tp i ≤ 57) {Q : Option g_V → g_H → Prop} {N0 : Nat} : ∀ (n i m : Nat), i + n = e → b ≤ i → m = nmv tp b (i - b) → Q (some (vi (nI (100 + nmv tp b (e - b))))) (sh, a, r, g) → Gd YX2_numberFrom (z0 0 N0 Q) 0 0 14 [some (vr 25), some (vi (nI b)), some (vi (nI e)), some (vi (nI m)), some (vi (nI i))] [] (sh, a, r, g)
  | 0, i, m, hn, hbi, hm, kq => by
    subst hm
    refine Gd_iload (i := 4) rfl eX2_numberFrom_14 ?_
    refine Gd_iload_n (i := 2) rfl eX2_numberFrom_16 ?_
    refine Gd_icmp_geN (by first | omega | decide) (by first | omega | decide) eX2_numberFrom_17 (fun c17 => ?_) (fun c17 => ?_)
    · refine Gd_bipush kb_100 eX2_numberFrom_42 ?_
      refine Gd_iload_n (i := 3) rfl eX2_numberFrom_44 ?_
      refine Gd_iaddN eX2_numberFrom_45 ?_
      exact Gd_ireturn eX2_numberFrom_46 rfl (Nat.le_refl _) (Nat.le_refl _) (by rw [show i = e by omega] at *; exact kq)
    · exact absurd c17 (by omega)
  | n + 1, i, m, hn, hbi, hm, kq => by
    subst hm
    refine Gd_iload (i := 4) rfl eX2_numberFrom_14 ?_
    refine Gd_iload_n (i := 2) rfl eX2_numberFrom_16 ?_
    refine Gd_icmp_geN (by first | omega | decide) (by first | omega | decide) eX2_numberFrom_17 (fun c17 => ?_) (fun c17 => ?_)
    · exact absurd c17 (by omega)
    · have hdg := hd i (by omega) (by omega)
      have hnm := nmv4 (tp := tp) (b := b) (j := i - b) (by omega) (fun x h1 h2 => hd x h1 (by omega))
      refine Gd_bipush kb_10 eX2_numberFrom_20 ?_
      refine Gd_iload_n (i := 3) rfl eX2_numberFrom_22 ?_
      refine Gd_imulN eX2_numberFrom_23 ?_
      refine Gd_aload_n (i := 0) rfl eX2_numberFrom_24 ?_
      refine Gd_getR fl_RX2_9 (V_s25 hW) (V_r25_0 hW) eX2_numberFrom_25 ?_
      refine Gd_iload (i := 4) rfl eX2_numberFrom_28 ?_
      refine Gd_ialdE (v := nI (tp i)) (V_s26 hW) (by first | omega | decide) (hP.2 i (by omega) :) eX2_numberFrom_30 ?_
      refine Gd_iaddN eX2_numberFrom_31 ?_
      refine Gd_bipush kb_48 eX2_numberFrom_32 ?_
      refine Gd_isubN (by first | omega | decide) eX2_numberFrom_34 ?_
      refine Gd_istore_n3 rfl eX2_numberFrom_35 ?_
      refine Gd_iinc4 (ho := rfl) (he := nI_inc _) eX2_numberFrom_36 ?_
      refine Gd_goto eX2_numberFrom_39 ?_
      exact x_number_L hW hP hnb h256 he h4 hd n (i + 1) _ (by omega) (by omega) (by rw [show i + 1 - b = (i - b) + 1 by omega, nmv, show b + (i - b) = i by omega]) kq
theorem x_number {sh : List (Nat × Nat)} {a : Nat → Nat → Int32} {r : Nat → Nat → Option Nat} {g : Nat → Nat → Int64} {tp : Nat → Nat} {nb : Nat} (hW : WC sh r) (hP : TP 25 1 26 nb tp a) (hnb : nb ≤ 160) (h256 : ∀ i, i < nb → tp i < 256) {b e : Nat} (hbe : b ≤ e) (he : e ≤ nb) (hd : ∀ i, b ≤ i → i < e → 48 ≤ tp i ∧ tp i ≤ 57) : Mt YX2_numberFrom 0 0 0 [vr 25, vi (nI b), vi (nI e)] (sh, a, r, g) (g_P (some (vi (nI (if 4 < e - b then 1 else 100 + nmv tp b (e - b))))) (sh, a, r, g)) := by
  refine Mt_of rfl (Nat.le_of_ble_eq_true rfl) rfl ?_
  refine Gd_iload_n (i := 2) rfl eX2_numberFrom_0 ?_
  refine Gd_iload_n (i := 1) rfl eX2_numberFrom_1 ?_
  refine Gd_isubN (by first | omega | decide) eX2_numberFrom_2 ?_
  refine Gd_iconst ki_4 eX2_numberFrom_3 ?_
  refine Gd_icmp_leN (by first | omega | decide) (by first | omega | decide) eX2_numberFrom_4 (fun c4 => ?_) (fun c4 => ?_)
  · refine Gd_iconst ki_0 eX2_numberFrom_9 ?_
    refine Gd_istore_n3 rfl eX2_numberFrom_10 ?_
    refine Gd_iload_n (i := 1) rfl eX2_numberFrom_11 ?_
    refine Gd_istore4 rfl eX2_numberFrom_12 ?_
    exact x_number_L hW hP hnb h256 he (by omega) hd (e - b) b 0 (by omega) (Nat.le_refl _) (by rw [Nat.sub_self]; rfl) ⟨by rw [if_neg (by omega)], rfl⟩
  · refine Gd_iconst ki_1 eX2_numberFrom_7 ?_
    exact Gd_ireturn eX2_numberFrom_8 rfl (Nat.le_refl _) (Nat.le_refl _) ⟨by rw [if_pos (by omega)], rfl⟩
theorem x_stands_L {sh : List (Nat × Nat)} {a : Nat → Nat → Int32} {r : Nat → Nat → Option Nat} {g : Nat → Nat → Int64} {tp : Nat → Nat} {nb : Nat} (hW : WC sh r) (hP : TP 25 1 26 nb tp a) (hnb : nb ≤ 160) (h256 : ∀ i, i < nb → tp i < 256) {q b e : Nat} (hq : q < 13) (he : e ≤ nb) (hl : e = b + slq q) {Q : Option g_V → g_H → Prop} {N0 : Nat} : ∀ (n i : Nat), i + n = e → b ≤ i → (∀ j, j < i - b → tp (b + j) = byq q j) → Q (some (vi (bI (mtw tp q b e)))) (sh, a, r, g) → Gd YX2_stands (z0 4 N0 Q) 0 0 15 [some (vr 25), some (vc q), some (vi (nI b)), some (vi (nI e)), some (vi (nI i))] [] (sh, a, r, g)
  | 0, i, hn, hbi, h, kq => by
    refine Gd_iload (i := 4) rfl eX2_stands_15 ?_
    refine Gd_iload_n (i := 3) rfl eX2_stands_17 ?_
    refine Gd_icmp_geN (by first | omega | decide) (by first | omega | decide) eX2_stands_18 (fun c18 => ?_) (fun c18 => ?_)
    · refine Gd_iconst ki_1 eX2_stands_47 ?_
      exact Gd_zreturn eX2_stands_48 rfl (by decide) (Nat.le_refl _) (Nat.le_refl _) (by rw [show mtw tp q b e = true from by rw [mtw, Bool.and_eq_true]; exact ⟨decide_eq_true (by omega), mtL_t.mpr (fun j hj => h j (by omega))⟩] at kq; exact kq)
    · exact absurd c18 (by omega)
  | n + 1, i, hn, hbi, h, kq => by
    refine Gd_iload (i := 4) rfl eX2_stands_15 ?_
    refine Gd_iload_n (i := 3) rfl eX2_stands_17 ?_
    refine Gd_icmp_geN (by first | omega | decide) (by first | omega | decide) eX2_stands_18 (fun c18 => ?_) (fun c18 => ?_)
    · exact absurd c18 (by omega)
    · have hby := (by_key q hq (i - b) (by have := slq_lt q hq; omega)).2
      have htb := h256 i (by omega)
      refine Gd_aload_n (i := 0) rfl eX2_stands_21 ?_
      refine Gd_getR fl_RX2_9 (V_s25 hW) (V_r25_0 hW) eX2_stands_22 ?_
      refine Gd_iload (i := 4) rfl eX2_stands_25 ?_
      refine Gd_ialdE (v := nI (tp i)) (V_s26 hW) (by first | omega | decide) (hP.2 i (by omega) :) eX2_stands_27 ?_
      refine Gd_aload_n (i := 1) rfl eX2_stands_28 ?_
      refine Gd_iload (i := 4) rfl eX2_stands_29 ?_
      refine Gd_iload_n (i := 2) rfl eX2_stands_31 ?_
      refine Gd_isubN (by first | omega | decide) eX2_stands_32 ?_
      refine Gd_callP (g_cVt hq (j_charAt hq (i := i - b) (by omega)) ok_J0_charAt_5068e rfl lk_RX2_116 rfl rfl (Nat.le_of_ble_eq_true rfl) (Nat.le_of_ble_eq_true rfl) (Nat.le_refl _) (Nat.le_refl _) eX2_stands_33) ?_
      refine Gd_icmp_eqN (by first | omega | decide) (by first | omega | decide) eX2_stands_36 (fun c36 => ?_) (fun c36 => ?_)
      · refine Gd_iinc4 (ho := rfl) (he := nI_inc _) eX2_stands_41 ?_
        refine Gd_goto eX2_stands_44 ?_
        exact x_stands_L hW hP hnb h256 hq he hl n (i + 1) (by omega) (by omega) (fun j hj => if e2 : j = i - b then (by rw [e2, show b + (i - b) = i by omega]; exact c36) else h j (by omega)) kq
      · refine Gd_iconst ki_0 eX2_stands_39 ?_
        exact Gd_zreturn eX2_stands_40 rfl (by decide) (Nat.le_refl _) (Nat.le_refl _) (by rw [show mtw tp q b e = false from by rw [mtw, mtL_f (i := i - b) (by rw [show b + (i - b) = i by omega]; exact c36) (by omega), Bool.and_false]] at kq; exact kq)
theorem x_stands {sh : List (Nat × Nat)} {a : Nat → Nat → Int32} {r : Nat → Nat → Option Nat} {g : Nat → Nat → Int64} {tp : Nat → Nat} {nb : Nat} (hW : WC sh r) (hP : TP 25 1 26 nb tp a) (hnb : nb ≤ 160) (h256 : ∀ i, i < nb → tp i < 256) {q b e : Nat} (hq : q < 13) (hbe : b ≤ e) (he : e ≤ nb) : Mt YX2_stands 4 0 0 [vr 25, vc q, vi (nI b), vi (nI e)] (sh, a, r, g) (g_P (some (vi (bI (mtw tp q b e)))) (sh, a, r, g)) := by
  refine Mt_of rfl (Nat.le_of_ble_eq_true rfl) rfl ?_
  refine Gd_iload_n (i := 3) rfl eX2_stands_0 ?_
  refine Gd_iload_n (i := 2) rfl eX2_stands_1 ?_
  refine Gd_isubN (by first | omega | decide) eX2_stands_2 ?_
  refine Gd_aload_n (i := 1) rfl eX2_stands_3 ?_
  refine Gd_callP (g_cVt hq (j_length hq) ok_J0_length_8abf5 rfl lk_RX2_111 rfl rfl (Nat.le_of_ble_eq_true rfl) (Nat.le_of_ble_eq_true rfl) (Nat.le_refl _) (Nat.le_refl _) eX2_stands_4) ?_
  have hsl := slq_lt q hq
  refine Gd_icmp_eqN (by first | omega | decide) (by first | omega | decide) eX2_stands_7 (fun c7 => ?_) (fun c7 => ?_)
  · refine Gd_iload_n (i := 2) rfl eX2_stands_12 ?_
    refine Gd_istore4 rfl eX2_stands_13 ?_
    exact x_stands_L hW hP hnb h256 hq he (by omega) (e - b) b (by omega) (Nat.le_refl _) (fun j hj => absurd hj (by omega)) ⟨rfl, rfl⟩
  · refine Gd_iconst ki_0 eX2_stands_10 ?_
    exact Gd_zreturn eX2_stands_11 rfl (by decide) (Nat.le_refl _) (Nat.le_refl _) ⟨by rw [show mtw tp q b e = false from by rw [mtw, decide_eq_false (by omega)]; rfl]; rfl, rfl⟩
theorem x_wordFrom {sh : List (Nat × Nat)} {a : Nat → Nat → Int32} {r : Nat → Nat → Option Nat} {g : Nat → Nat → Int64} {tp : Nat → Nat} {nb : Nat} (hW : WC sh r) (hP : TP 25 1 26 nb tp a) (hnb : nb ≤ 160) (h256 : ∀ i, i < nb → tp i < 256) {b e : Nat} (hbe : b ≤ e) (he : e ≤ nb) : Mt YX2_wordFrom 5 0 0 [vr 25, vi (nI b), vi (nI e)] (sh, a, r, g) (g_P (some (vi (nI (kof (qfs tp b e))))) (sh, a, r, g)) := by
  refine Mt_of rfl (Nat.le_of_ble_eq_true rfl) rfl ?_
  refine Gd_aload_n (i := 0) rfl eX2_wordFrom_0 ?_
  refine Gd_ldcS (q := 1) (tx := "honours") (by decide) eX2_wordFrom_1 ?_
  refine Gd_iload_n (i := 1) rfl eX2_wordFrom_3 ?_
  refine Gd_iload_n (i := 2) rfl eX2_wordFrom_4 ?_
  refine Gd_callP (g_cV (x_stands hW hP hnb h256 (q := 1) (by decide) hbe he) ok_X2_stands lk_RX2_85 (V_s25 hW) ⟨_, _, rfl⟩ rfl rfl (Nat.le_of_ble_eq_true rfl) (Nat.le_of_ble_eq_true rfl) (Nat.le_refl _) (Nat.le_refl _) eX2_wordFrom_5) ?_
  refine Gd_if_eqB eX2_wordFrom_8 (fun c8 => ?_) (fun c8 => ?_)
  · refine Gd_aload_n (i := 0) rfl eX2_wordFrom_15 ?_
    refine Gd_ldcS (q := 2) (tx := "hits") (by decide) eX2_wordFrom_16 ?_
    refine Gd_iload_n (i := 1) rfl eX2_wordFrom_18 ?_
    refine Gd_iload_n (i := 2) rfl eX2_wordFrom_19 ?_
    refine Gd_callP (g_cV (x_stands hW hP hnb h256 (q := 2) (by decide) hbe he) ok_X2_stands lk_RX2_85 (V_s25 hW) ⟨_, _, rfl⟩ rfl rfl (Nat.le_of_ble_eq_true rfl) (Nat.le_of_ble_eq_true rfl) (Nat.le_refl _) (Nat.le_refl _) eX2_wordFrom_20) ?_
    refine Gd_if_eqB eX2_wordFrom_23 (fun c23 => ?_) (fun c23 => ?_)
    · refine Gd_aload_n (i := 0) rfl eX2_wordFrom_30 ?_
      refine Gd_ldcS (q := 3) (tx := "wills") (by decide) eX2_wordFrom_31 ?_
      refine Gd_iload_n (i := 1) rfl eX2_wordFrom_33 ?_
      refine Gd_iload_n (i := 2) rfl eX2_wordFrom_34 ?_
      refine Gd_callP (g_cV (x_stands hW hP hnb h256 (q := 3) (by decide) hbe he) ok_X2_stands lk_RX2_85 (V_s25 hW) ⟨_, _, rfl⟩ rfl rfl (Nat.le_of_ble_eq_true rfl) (Nat.le_of_ble_eq_true rfl) (Nat.le_refl _) (Nat.le_refl _) eX2_wordFrom_35) ?_
      refine Gd_if_eqB eX2_wordFrom_38 (fun c38 => ?_) (fun c38 => ?_)
      · refine Gd_aload_n (i := 0) rfl eX2_wordFrom_45 ?_
        refine Gd_ldcS (q := 4) (tx := "or") (by decide) eX2_wordFrom_46 ?_
        refine Gd_iload_n (i := 1) rfl eX2_wordFrom_48 ?_
        refine Gd_iload_n (i := 2) rfl eX2_wordFrom_49 ?_
        refine Gd_callP (g_cV (x_stands hW hP hnb h256 (q := 4) (by decide) hbe he) ok_X2_stands lk_RX2_85 (V_s25 hW) ⟨_, _, rfl⟩ rfl rfl (Nat.le_of_ble_eq_true rfl) (Nat.le_of_ble_eq_true rfl) (Nat.le_refl _) (Nat.le_refl _) eX2_wordFrom_50) ?_
        refine Gd_if_eqB eX2_wordFrom_53 (fun c53 => ?_) (fun c53 => ?_)
        · refine Gd_aload_n (i := 0) rfl eX2_wordFrom_60 ?_
          refine Gd_ldcS (q := 5) (tx := "and") (by decide) eX2_wordFrom_61 ?_
          refine Gd_iload_n (i := 1) rfl eX2_wordFrom_63 ?_
          refine Gd_iload_n (i := 2) rfl eX2_wordFrom_64 ?_
          refine Gd_callP (g_cV (x_stands hW hP hnb h256 (q := 5) (by decide) hbe he) ok_X2_stands lk_RX2_85 (V_s25 hW) ⟨_, _, rfl⟩ rfl rfl (Nat.le_of_ble_eq_true rfl) (Nat.le_of_ble_eq_true rfl) (Nat.le_refl _) (Nat.le_refl _) eX2_wordFrom_65) ?_
          refine Gd_if_eqB eX2_wordFrom_68 (fun c68 => ?_) (fun c68 => ?_)
          · refine Gd_aload_n (i := 0) rfl eX2_wordFrom_76 ?_
            refine Gd_ldcS (q := 6) (tx := "not") (by decide) eX2_wordFrom_77 ?_
            refine Gd_iload_n (i := 1) rfl eX2_wordFrom_79 ?_
            refine Gd_iload_n (i := 2) rfl eX2_wordFrom_80 ?_
            refine Gd_callP (g_cV (x_stands hW hP hnb h256 (q := 6) (by decide) hbe he) ok_X2_stands lk_RX2_85 (V_s25 hW) ⟨_, _, rfl⟩ rfl rfl (Nat.le_of_ble_eq_true rfl) (Nat.le_of_ble_eq_true rfl) (Nat.le_refl _) (Nat.le_refl _) eX2_wordFrom_81) ?_
            refine Gd_if_eqB eX2_wordFrom_84 (fun c84 => ?_) (fun c84 => ?_)
            · refine Gd_aload_n (i := 0) rfl eX2_wordFrom_92 ?_
              refine Gd_ldcS (q := 7) (tx := "honour") (by decide) eX2_wordFrom_93 ?_
              refine Gd_iload_n (i := 1) rfl eX2_wordFrom_95 ?_
              refine Gd_iload_n (i := 2) rfl eX2_wordFrom_96 ?_
              refine Gd_callP (g_cV (x_stands hW hP hnb h256 (q := 7) (by decide) hbe he) ok_X2_stands lk_RX2_85 (V_s25 hW) ⟨_, _, rfl⟩ rfl rfl (Nat.le_of_ble_eq_true rfl) (Nat.le_of_ble_eq_true rfl) (Nat.le_refl _) (Nat.le_refl _) eX2_wordFrom_97) ?_
              refine Gd_if_eqB eX2_wordFrom_100 (fun c100 => ?_) (fun c100 => ?_)
              · refine Gd_aload_n (i := 0) rfl eX2_wordFrom_109 ?_
                refine Gd_ldcS (q := 8) (tx := "shy") (by decide) eX2_wordFrom_110 ?_
                refine Gd_iload_n (i := 1) rfl eX2_wordFrom_112 ?_
                refine Gd_iload_n (i := 2) rfl eX2_wordFrom_113 ?_
                refine Gd_callP (g_cV (x_stands hW hP hnb h256 (q := 8) (by decide) hbe he) ok_X2_stands lk_RX2_85 (V_s25 hW) ⟨_, _, rfl⟩ rfl rfl (Nat.le_of_ble_eq_true rfl) (Nat.le_of_ble_eq_true rfl) (Nat.le_refl _) (Nat.le_refl _) eX2_wordFrom_114) ?_
                refine Gd_if_eqB eX2_wordFrom_117 (fun c117 => ?_) (fun c117 => ?_)
                · refine Gd_aload_n (i := 0) rfl eX2_wordFrom_126 ?_
                  refine Gd_ldcS (q := 9) (tx := "met") (by decide) eX2_wordFrom_127 ?_
                  refine Gd_iload_n (i := 1) rfl eX2_wordFrom_129 ?_
                  refine Gd_iload_n (i := 2) rfl eX2_wordFrom_130 ?_
                  refine Gd_callP (g_cV (x_stands hW hP hnb h256 (q := 9) (by decide) hbe he) ok_X2_stands lk_RX2_85 (V_s25 hW) ⟨_, _, rfl⟩ rfl rfl (Nat.le_of_ble_eq_true rfl) (Nat.le_of_ble_eq_true rfl) (Nat.le_refl _) (Nat.le_refl _) eX2_wordFrom_131) ?_
                  refine Gd_if_eqB eX2_wordFrom_134 (fun c134 => ?_) (fun c134 => ?_)
                  · refine Gd_aload_n (i := 0) rfl eX2_wordFrom_143 ?_
                    refine Gd_ldcS (q := 10) (tx := "cards") (by decide) eX2_wordFrom_144 ?_
                    refine Gd_iload_n (i := 1) rfl eX2_wordFrom_146 ?_
                    refine Gd_iload_n (i := 2) rfl eX2_wordFrom_147 ?_
                    refine Gd_callP (g_cV (x_stands hW hP hnb h256 (q := 10) (by decide) hbe he) ok_X2_stands lk_RX2_85 (V_s25 hW) ⟨_, _, rfl⟩ rfl rfl (Nat.le_of_ble_eq_true rfl) (Nat.le_of_ble_eq_true rfl) (Nat.le_refl _) (Nat.le_refl _) eX2_wordFrom_148) ?_
                    refine Gd_if_eqB eX2_wordFrom_151 (fun c151 => ?_) (fun c151 => ?_)
                    · refine Gd_aload_n (i := 0) rfl eX2_wordFrom_160 ?_
                      refine Gd_ldcS (q := 11) (tx := "day") (by decide) eX2_wordFrom_161 ?_
                      refine Gd_iload_n (i := 1) rfl eX2_wordFrom_163 ?_
                      refine Gd_iload_n (i := 2) rfl eX2_wordFrom_164 ?_
                      refine Gd_callP (g_cV (x_stands hW hP hnb h256 (q := 11) (by decide) hbe he) ok_X2_stands lk_RX2_85 (V_s25 hW) ⟨_, _, rfl⟩ rfl rfl (Nat.le_of_ble_eq_true rfl) (Nat.le_of_ble_eq_true rfl) (Nat.le_refl _) (Nat.le_refl _) eX2_wordFrom_165) ?_
                      refine Gd_if_eqB eX2_wordFrom_168 (fun c168 => ?_) (fun c168 => ?_)
                      · refine Gd_aload_n (i := 0) rfl eX2_wordFrom_177 ?_
                        refine Gd_ldcS (q := 12) (tx := "more") (by decide) eX2_wordFrom_178 ?_
                        refine Gd_iload_n (i := 1) rfl eX2_wordFrom_180 ?_
                        refine Gd_iload_n (i := 2) rfl eX2_wordFrom_181 ?_
                        refine Gd_callP (g_cV (x_stands hW hP hnb h256 (q := 12) (by decide) hbe he) ok_X2_stands lk_RX2_85 (V_s25 hW) ⟨_, _, rfl⟩ rfl rfl (Nat.le_of_ble_eq_true rfl) (Nat.le_of_ble_eq_true rfl) (Nat.le_refl _) (Nat.le_refl _) eX2_wordFrom_182) ?_
                        refine Gd_if_eqB eX2_wordFrom_185 (fun c185 => ?_) (fun c185 => ?_)
                        · refine Gd_iconst ki_1 eX2_wordFrom_194 ?_
                          exact Gd_ireturn eX2_wordFrom_195 rfl (Nat.le_refl _) (Nat.le_refl _) ⟨by rw [show kof (qfs tp b e) = 1 from by rw [qfs, if_neg (by rw [c8]; decide), if_neg (by rw [c23]; decide), if_neg (by rw [c38]; decide), if_neg (by rw [c53]; decide), if_neg (by rw [c68]; decide), if_neg (by rw [c84]; decide), if_neg (by rw [c100]; decide), if_neg (by rw [c117]; decide), if_neg (by rw [c134]; decide), if_neg (by rw [c151]; decide), if_neg (by rw [c168]; decide), if_neg (by rw [c185]; decide)]; rfl], rfl⟩
                        · refine Gd_sipush ks_10105 eX2_wordFrom_188 ?_
                          refine Gd_goto eX2_wordFrom_191 ?_
                          exact Gd_ireturn eX2_wordFrom_195 rfl (Nat.le_refl _) (Nat.le_refl _) ⟨by rw [show kof (qfs tp b e) = 10105 from by rw [qfs, if_neg (by rw [c8]; decide), if_neg (by rw [c23]; decide), if_neg (by rw [c38]; decide), if_neg (by rw [c53]; decide), if_neg (by rw [c68]; decide), if_neg (by rw [c84]; decide), if_neg (by rw [c100]; decide), if_neg (by rw [c117]; decide), if_neg (by rw [c134]; decide), if_neg (by rw [c151]; decide), if_neg (by rw [c168]; decide), if_pos c185]; rfl], rfl⟩
                      · refine Gd_sipush ks_10104 eX2_wordFrom_171 ?_
                        refine Gd_goto eX2_wordFrom_174 ?_
                        exact Gd_ireturn eX2_wordFrom_195 rfl (Nat.le_refl _) (Nat.le_refl _) ⟨by rw [show kof (qfs tp b e) = 10104 from by rw [qfs, if_neg (by rw [c8]; decide), if_neg (by rw [c23]; decide), if_neg (by rw [c38]; decide), if_neg (by rw [c53]; decide), if_neg (by rw [c68]; decide), if_neg (by rw [c84]; decide), if_neg (by rw [c100]; decide), if_neg (by rw [c117]; decide), if_neg (by rw [c134]; decide), if_neg (by rw [c151]; decide), if_pos c168]; rfl], rfl⟩
                    · refine Gd_sipush ks_10103 eX2_wordFrom_154 ?_
                      refine Gd_goto eX2_wordFrom_157 ?_
                      exact Gd_ireturn eX2_wordFrom_195 rfl (Nat.le_refl _) (Nat.le_refl _) ⟨by rw [show kof (qfs tp b e) = 10103 from by rw [qfs, if_neg (by rw [c8]; decide), if_neg (by rw [c23]; decide), if_neg (by rw [c38]; decide), if_neg (by rw [c53]; decide), if_neg (by rw [c68]; decide), if_neg (by rw [c84]; decide), if_neg (by rw [c100]; decide), if_neg (by rw [c117]; decide), if_neg (by rw [c134]; decide), if_pos c151]; rfl], rfl⟩
                  · refine Gd_sipush ks_10102 eX2_wordFrom_137 ?_
                    refine Gd_goto eX2_wordFrom_140 ?_
                    exact Gd_ireturn eX2_wordFrom_195 rfl (Nat.le_refl _) (Nat.le_refl _) ⟨by rw [show kof (qfs tp b e) = 10102 from by rw [qfs, if_neg (by rw [c8]; decide), if_neg (by rw [c23]; decide), if_neg (by rw [c38]; decide), if_neg (by rw [c53]; decide), if_neg (by rw [c68]; decide), if_neg (by rw [c84]; decide), if_neg (by rw [c100]; decide), if_neg (by rw [c117]; decide), if_pos c134]; rfl], rfl⟩
                · refine Gd_sipush ks_10101 eX2_wordFrom_120 ?_
                  refine Gd_goto eX2_wordFrom_123 ?_
                  exact Gd_ireturn eX2_wordFrom_195 rfl (Nat.le_refl _) (Nat.le_refl _) ⟨by rw [show kof (qfs tp b e) = 10101 from by rw [qfs, if_neg (by rw [c8]; decide), if_neg (by rw [c23]; decide), if_neg (by rw [c38]; decide), if_neg (by rw [c53]; decide), if_neg (by rw [c68]; decide), if_neg (by rw [c84]; decide), if_neg (by rw [c100]; decide), if_pos c117]; rfl], rfl⟩
              · refine Gd_sipush ks_10100 eX2_wordFrom_103 ?_
                refine Gd_goto eX2_wordFrom_106 ?_
                exact Gd_ireturn eX2_wordFrom_195 rfl (Nat.le_refl _) (Nat.le_refl _) ⟨by rw [show kof (qfs tp b e) = 10100 from by rw [qfs, if_neg (by rw [c8]; decide), if_neg (by rw [c23]; decide), if_neg (by rw [c38]; decide), if_neg (by rw [c53]; decide), if_neg (by rw [c68]; decide), if_neg (by rw [c84]; decide), if_pos c100]; rfl], rfl⟩
            · refine Gd_bipush kb_7 eX2_wordFrom_87 ?_
              refine Gd_goto eX2_wordFrom_89 ?_
              exact Gd_ireturn eX2_wordFrom_195 rfl (Nat.le_refl _) (Nat.le_refl _) ⟨by rw [show kof (qfs tp b e) = 7 from by rw [qfs, if_neg (by rw [c8]; decide), if_neg (by rw [c23]; decide), if_neg (by rw [c38]; decide), if_neg (by rw [c53]; decide), if_neg (by rw [c68]; decide), if_pos c84]; rfl], rfl⟩
          · refine Gd_bipush kb_6 eX2_wordFrom_71 ?_
            refine Gd_goto eX2_wordFrom_73 ?_
            exact Gd_ireturn eX2_wordFrom_195 rfl (Nat.le_refl _) (Nat.le_refl _) ⟨by rw [show kof (qfs tp b e) = 6 from by rw [qfs, if_neg (by rw [c8]; decide), if_neg (by rw [c23]; decide), if_neg (by rw [c38]; decide), if_neg (by rw [c53]; decide), if_pos c68]; rfl], rfl⟩
        · refine Gd_iconst ki_5 eX2_wordFrom_56 ?_
          refine Gd_goto eX2_wordFrom_57 ?_
          exact Gd_ireturn eX2_wordFrom_195 rfl (Nat.le_refl _) (Nat.le_refl _) ⟨by rw [show kof (qfs tp b e) = 5 from by rw [qfs, if_neg (by rw [c8]; decide), if_neg (by rw [c23]; decide), if_neg (by rw [c38]; decide), if_pos c53]; rfl], rfl⟩
      · refine Gd_iconst ki_4 eX2_wordFrom_41 ?_
        refine Gd_goto eX2_wordFrom_42 ?_
        exact Gd_ireturn eX2_wordFrom_195 rfl (Nat.le_refl _) (Nat.le_refl _) ⟨by rw [show kof (qfs tp b e) = 4 from by rw [qfs, if_neg (by rw [c8]; decide), if_neg (by rw [c23]; decide), if_pos c38]; rfl], rfl⟩
    · refine Gd_iconst ki_3 eX2_wordFrom_26 ?_
      refine Gd_goto eX2_wordFrom_27 ?_
      exact Gd_ireturn eX2_wordFrom_195 rfl (Nat.le_refl _) (Nat.le_refl _) ⟨by rw [show kof (qfs tp b e) = 3 from by rw [qfs, if_neg (by rw [c8]; decide), if_pos c23]; rfl], rfl⟩
  · refine Gd_iconst ki_2 eX2_wordFrom_11 ?_
    refine Gd_goto eX2_wordFrom_12 ?_
    exact Gd_ireturn eX2_wordFrom_195 rfl (Nat.le_refl _) (Nat.le_refl _) ⟨by rw [show kof (qfs tp b e) = 2 from by rw [qfs, if_pos c8]; rfl], rfl⟩
