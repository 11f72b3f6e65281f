theorem cnt_le : ∀ H : List Nat, cnt H ≤ H.length
  | [] => Nat.le_refl _
  | x :: H => by rw [cnt, List.length_cons]; have := cnt_le H; split <;> omega
/-- the reference's token for the class's -/
def tkr (t : Nat) : Int32 := if t = 0 then nI 0 else if t = 1 then -1 else if t < 5 then nI 3 else if t < 8 then nI (t - 1) else if t < 100 then nI t else if t < 10100 then nI 1 else nI 2
def tkv (t : Nat) : Nat := if t < 2 then 0 else if t < 5 then t - 2 else if t < 100 then 0 else if t < 10100 then t - 100 else t - 10100
def sgr (x : Int32) : Int32 := if x = nI 4 then nI 11 else if x = nI 5 then nI 12 else if x = nI 60 then nI 14 else if x = nI 61 then nI 15 else if x = nI 43 then nI 16 else if x = nI 45 then nI 17 else if x = nI 42 then nI 18 else -1
theorem tkr_ne {t v : Nat} (hv : v = 4 ∨ v = 5 ∨ v = 60 ∨ v = 61 ∨ v = 43 ∨ v = 45 ∨ v = 42) (h9 : rkx t = 9) (ht : t < 10106) : tkr t ≠ nI v := by
  have e1 : t ≠ 5 := fun e => by rw [e] at h9; exact absurd h9 (by decide)
  have e2 : t ≠ 6 := fun e => by rw [e] at h9; exact absurd h9 (by decide)
  have e3 : t ≠ 42 := fun e => by rw [e] at h9; exact absurd h9 (by decide)
  have e4 : t ≠ 43 := fun e => by rw [e] at h9; exact absurd h9 (by decide)
  have e5 : t ≠ 45 := fun e => by rw [e] at h9; exact absurd h9 (by decide)
  have e6 : t ≠ 60 := fun e => by rw [e] at h9; exact absurd h9 (by decide)
  have e7 : t ≠ 61 := fun e => by rw [e] at h9; exact absurd h9 (by decide)
  rw [tkr]
  intro q
  split at q
  · have := nI_inj (by omega) (by omega) q; omega
  · split at q
    · exact nI_nem1 (by omega) q.symm
    · split at q
      · have := nI_inj (by omega) (by omega) q; omega
      · split at q
        · have := nI_inj (by omega) (by omega) q; omega
        · split at q
          · have := nI_inj (by omega) (by omega) q; omega
          · split at q
            · have := nI_inj (by omega) (by omega) q; omega
            · have := nI_inj (by omega) (by omega) q; omega
theorem sgr_tk {t : Nat} (ht : t < 10106) : sgr (tkr t) = if rkx t = 9 then -1 else nI (sgc t) := by
  by_cases h9 : rkx t = 9
  · rw [if_pos h9, sgr, if_neg (tkr_ne (by omega) h9 ht), if_neg (tkr_ne (by omega) h9 ht), if_neg (tkr_ne (by omega) h9 ht), if_neg (tkr_ne (by omega) h9 ht), if_neg (tkr_ne (by omega) h9 ht), if_neg (tkr_ne (by omega) h9 ht), if_neg (tkr_ne (by omega) h9 ht)]
  · rw [if_neg h9]
    rcases rkx_c h9 with rfl | rfl | rfl | rfl | rfl | rfl | rfl <;> decide
theorem m_opensOne {sh : List (Nat × Nat)} {a : Nat → Nat → Int32} {r : Nat → Nat → Option Nat} {g : Nat → Nat → Int64} {nt : Nat} (hW : WD sh r) {H : List Nat} {n x : Nat} {c : Nat → Nat} (hS : PMx nt (H, n, c) a) (hx : x = 0 ∨ x = 13 ∨ x = 19) (hb : H.length < 200) : Mt YX8_opensOne 1 0 0 [vr 50, vi (nI x)] (sh, a, r, g) (g_EV sh r g (vi (bI (!(decide (cnt H = 5))))) (fun a' => PMx nt (if cnt H = 5 then (H, n, c) else (x :: H, n, c)) a' ∧ chg (scPm nt) a a')) := by
  refine Mt_of rfl (Nat.le_of_ble_eq_true rfl) rfl ?_
  have hcl := cnt_le H
  refine Gd_aload_n (i := 0) rfl eX8_opensOne_0 ?_
  refine Gd_getIe (v := nI (cnt H)) fl_RX8_146 (W_s50 hW) (hS.2.2.1 :) eX8_opensOne_1 ?_
  refine Gd_iconst ki_5 eX8_opensOne_4 ?_
  refine Gd_icmp_neN (by first | omega | decide) (by first | omega | decide) eX8_opensOne_5 (fun c5 => ?_) (fun c5 => ?_)
  · refine Gd_aload_n (i := 0) rfl eX8_opensOne_10 ?_
    refine Gd_dup rfl eX8_opensOne_11 ?_
    refine Gd_getIe (v := nI (cnt H)) fl_RX8_146 (W_s50 hW) (hS.2.2.1 :) eX8_opensOne_12 ?_
    refine Gd_iconst ki_1 eX8_opensOne_15 ?_
    refine Gd_iaddN eX8_opensOne_16 ?_
    refine Gd_putI fl_RX8_146 (W_s50 hW) eX8_opensOne_17 ?_
    refine Gd_aload_n (i := 0) rfl eX8_opensOne_20 ?_
    refine Gd_iload_n (i := 1) rfl eX8_opensOne_21 ?_
    refine Gd_callP0 (g_cV (m_holds (a := up2 a 50 27 (nI (cnt H + 1))) hW (m := H.length) (v := x) hS.1 (by omega)) ok_X8_holds lk_RX8_153 (W_s50 hW) ⟨_, _, rfl⟩ rfl rfl (Nat.le_of_ble_eq_true rfl) (Nat.le_of_ble_eq_true rfl) (Nat.le_refl _) (Nat.le_refl _) eX8_opensOne_22) rfl ?_
    refine Gd_iconst ki_1 eX8_opensOne_25 ?_
    exact Gd_zreturn eX8_opensOne_26 rfl (by decide) (Nat.le_refl _) (Nat.le_refl _) ⟨_, by rw [decide_eq_false c5]; rfl, rfl, by rw [if_neg c5]; exact PM_push (HLs_congr (fun i _ => rfl) hS.2.1) (by rw [up2_s, cnt, if_pos hx]) hS.2.2.2.1 hS.2.2.2.2 (by omega), chg_up (chg_up (chg_up chg_rf rfl) rfl) rfl⟩
  · refine Gd_iconst ki_0 eX8_opensOne_8 ?_
    exact Gd_zreturn eX8_opensOne_9 rfl (by decide) (Nat.le_refl _) (Nat.le_refl _) ⟨_, by rw [decide_eq_true c5]; rfl, rfl, by rw [if_pos c5]; exact hS, chg_rf⟩
theorem m_between {sh : List (Nat × Nat)} {a : Nat → Nat → Int32} {r : Nat → Nat → Option Nat} {g : Nat → Nat → Int64} {nt : Nat} (hW : WD sh r) (h6 : nt < 6) (hnt : a 50 11 = nI nt) {H H1 : List Nat} {n n1 x : Nat} {c c1 : Nat → Nat} (hS : PMx nt (H, n, c) a) (hx : 11 ≤ x ∧ x ≤ 18 ∧ x ≠ 13) (hb : n + H.length ≤ 160) (hC1 : unw (if rnk x = 4 then 5 else rnk x) H n c = (H1, n1, c1)) : Mt YX8_between 2 0 0 [vr 50, vi (nI x)] (sh, a, r, g) (g_EV sh r g (vi (bI (!(decide (rnk x = 4 ∧ topL H1 = 4))))) (fun a' => PMx nt (if rnk x = 4 ∧ topL H1 = 4 then (H1, n1, c1) else (x :: H1, n1, c1)) a' ∧ chg (scPm nt) a a')) := by
  refine Mt_of rfl (Nat.le_of_ble_eq_true rfl) rfl ?_
  have hrx := rnk_le x
  have hr1 : 1 ≤ rnk x := by obtain ⟨q1, q2, q3⟩ := hx; have : x = 11 ∨ x = 12 ∨ x = 14 ∨ x = 15 ∨ x = 16 ∨ x = 17 ∨ x = 18 := (by omega); rcases this with rfl | rfl | rfl | rfl | rfl | rfl | rfl <;> decide
  have hlen : H1.length + n1 = H.length + n := by have := unw_len (l := if rnk x = 4 then 5 else rnk x) H n c; rw [hC1] at this; exact this
  refine Gd_aload_n (i := 0) rfl eX8_between_0 ?_
  refine Gd_iload_n (i := 1) rfl eX8_between_1 ?_
  refine Gd_callP (g_cS (m_rank (t := x) (by omega)) ok_X8_rank lk_RX8_143 rfl rfl (Nat.le_of_ble_eq_true rfl) (Nat.le_of_ble_eq_true rfl) (Nat.le_refl _) (Nat.le_refl _) eX8_between_2) ?_
  refine Gd_iconst ki_4 eX8_between_5 ?_
  refine Gd_icmp_neN (by first | omega | decide) (by first | omega | decide) eX8_between_6 (fun c6 => ?_) (fun c6 => ?_)
  · refine Gd_iload_n (i := 1) rfl eX8_between_13 ?_
    refine Gd_callP (g_cS (m_rank (t := x) (by omega)) ok_X8_rank lk_RX8_143 rfl rfl (Nat.le_of_ble_eq_true rfl) (Nat.le_of_ble_eq_true rfl) (Nat.le_refl _) (Nat.le_refl _) eX8_between_14) ?_
    refine Gd_callE0 (g_cV (m_unwinds hW h6 (l := (rnk x)) (by omega) hb hS hnt) ok_X8_unwinds lk_RX8_156 (W_s50 hW) ⟨_, _, rfl⟩ rfl rfl (Nat.le_of_ble_eq_true rfl) (Nat.le_of_ble_eq_true rfl) (Nat.le_refl _) (Nat.le_refl _) eX8_between_17) (fun a1 hq => ?_)
    obtain ⟨hS1, hq1⟩ := hq
    rw [show unw (rnk x) H n c = (H1, n1, c1) by rw [← hC1, if_neg c6]] at hS1
    refine Gd_iload_n (i := 1) rfl eX8_between_20 ?_
    refine Gd_callP (g_cS (m_rank (t := x) (by omega)) ok_X8_rank lk_RX8_143 rfl rfl (Nat.le_of_ble_eq_true rfl) (Nat.le_of_ble_eq_true rfl) (Nat.le_refl _) (Nat.le_refl _) eX8_between_21) ?_
    refine Gd_iconst ki_4 eX8_between_24 ?_
    refine Gd_icmp_neN (by first | omega | decide) (by first | omega | decide) eX8_between_25 (fun c25 => ?_) (fun c25 => ?_)
    · refine Gd_aload_n (i := 0) rfl eX8_between_55 ?_
      refine Gd_iload_n (i := 1) rfl eX8_between_56 ?_
      refine Gd_callP0 (g_cV (m_holds (a := a1) hW (m := H1.length) (v := x) hS1.1 (by first | omega | (rw [List.length_cons]; omega))) ok_X8_holds lk_RX8_153 (W_s50 hW) ⟨_, _, rfl⟩ rfl rfl (Nat.le_of_ble_eq_true rfl) (Nat.le_of_ble_eq_true rfl) (Nat.le_refl _) (Nat.le_refl _) eX8_between_57) rfl ?_
      refine Gd_iconst ki_1 eX8_between_60 ?_
      exact Gd_zreturn eX8_between_61 rfl (by decide) (Nat.le_refl _) (Nat.le_refl _) ⟨_, by rw [decide_eq_false (fun z => c25 z.1)]; rfl, rfl, by rw [if_neg (fun z => c25 z.1)]; exact PM_push hS1.2.1 (by rw [cnt, if_neg (by omega)]; exact hS1.2.2.1) hS1.2.2.2.1 hS1.2.2.2.2 (by omega), chg_up (chg_up hq1 rfl) rfl⟩
    · exact absurd c25 c6
  · refine Gd_iconst ki_5 eX8_between_9 ?_
    refine Gd_goto eX8_between_10 ?_
    refine Gd_callE0 (g_cV (m_unwinds hW h6 (l := 5) (by omega) hb hS hnt) ok_X8_unwinds lk_RX8_156 (W_s50 hW) ⟨_, _, rfl⟩ rfl rfl (Nat.le_of_ble_eq_true rfl) (Nat.le_of_ble_eq_true rfl) (Nat.le_refl _) (Nat.le_refl _) eX8_between_17) (fun a1 hq => ?_)
    obtain ⟨hS1, hq1⟩ := hq
    rw [show unw 5 H n c = (H1, n1, c1) by rw [← hC1, if_pos c6]] at hS1
    refine Gd_iload_n (i := 1) rfl eX8_between_20 ?_
    refine Gd_callP (g_cS (m_rank (t := x) (by omega)) ok_X8_rank lk_RX8_143 rfl rfl (Nat.le_of_ble_eq_true rfl) (Nat.le_of_ble_eq_true rfl) (Nat.le_refl _) (Nat.le_refl _) eX8_between_21) ?_
    refine Gd_iconst ki_4 eX8_between_24 ?_
    refine Gd_icmp_neN (by first | omega | decide) (by first | omega | decide) eX8_between_25 (fun c25 => ?_) (fun c25 => ?_)
    · exact absurd c6 c25
    · refine Gd_aload_n (i := 0) rfl eX8_between_28 ?_
      refine Gd_getIe (v := nI (H1.length)) fl_RX8_140 (W_s50 hW) (hS1.1 :) eX8_between_29 ?_
      refine Gd_if_leN (by first | omega | decide) eX8_between_32 (fun c32 => ?_) (fun c32 => ?_)
      · obtain rfl : H1 = [] := List.length_eq_zero_iff.mp (by omega)
        refine Gd_aload_n (i := 0) rfl eX8_between_55 ?_
        refine Gd_iload_n (i := 1) rfl eX8_between_56 ?_
        refine Gd_callP0 (g_cV (m_holds (a := a1) hW (m := ([] : List Nat).length) (v := x) hS1.1 (by first | omega | (rw [List.length_cons]; omega))) ok_X8_holds lk_RX8_153 (W_s50 hW) ⟨_, _, rfl⟩ rfl rfl (Nat.le_of_ble_eq_true rfl) (Nat.le_of_ble_eq_true rfl) (Nat.le_refl _) (Nat.le_refl _) eX8_between_57) rfl ?_
        refine Gd_iconst ki_1 eX8_between_60 ?_
        exact Gd_zreturn eX8_between_61 rfl (by decide) (Nat.le_refl _) (Nat.le_refl _) ⟨_, by rw [decide_eq_false (fun z => absurd z.2 (by decide))]; rfl, rfl, by rw [if_neg (fun z => absurd z.2 (by decide))]; exact PM_push hS1.2.1 (by rw [cnt, if_neg (by omega)]; exact hS1.2.2.1) hS1.2.2.2.1 hS1.2.2.2.2 (by omega), chg_up (chg_up hq1 rfl) rfl⟩
      · obtain ⟨y, H2, rfl⟩ : ∃ y H2, H1 = y :: H2 := by cases H1 with | nil => exact absurd c32 (by decide) | cons y H2 => exact ⟨y, H2, rfl⟩
        have hl2 : H2.length + 1 + n1 = H.length + n := hlen
        have hy : y < 20 := hS1.2.1.2.1
        have hry := rnk_le y
        refine Gd_aload_n (i := 0) rfl eX8_between_35 ?_
        refine Gd_getR fl_RX8_56 (W_s50 hW) (W_r50_25 hW) eX8_between_36 ?_
        refine Gd_aload_n (i := 0) rfl eX8_between_39 ?_
        refine Gd_getIe (v := nI (H2.length + 1)) fl_RX8_140 (W_s50 hW) (hS1.1 :) eX8_between_40 ?_
        refine Gd_iconst ki_1 eX8_between_43 ?_
        refine Gd_isubN (by first | omega | decide) eX8_between_44 ?_
        refine Gd_ialdE (v := nI (y)) (W_s65 hW) (by first | omega | decide) (hS1.2.1.1 :) eX8_between_45 ?_
        refine Gd_callP (g_cS (m_rank (t := y) (by omega)) ok_X8_rank lk_RX8_143 rfl rfl (Nat.le_of_ble_eq_true rfl) (Nat.le_of_ble_eq_true rfl) (Nat.le_refl _) (Nat.le_refl _) eX8_between_46) ?_
        refine Gd_iconst ki_4 eX8_between_49 ?_
        refine Gd_icmp_neN (by first | omega | decide) (by first | omega | decide) eX8_between_50 (fun c50 => ?_) (fun c50 => ?_)
        · refine Gd_aload_n (i := 0) rfl eX8_between_55 ?_
          refine Gd_iload_n (i := 1) rfl eX8_between_56 ?_
          refine Gd_callP0 (g_cV (m_holds (a := a1) hW (m := (y :: H2).length) (v := x) hS1.1 (by first | omega | (rw [List.length_cons]; omega))) ok_X8_holds lk_RX8_153 (W_s50 hW) ⟨_, _, rfl⟩ rfl rfl (Nat.le_of_ble_eq_true rfl) (Nat.le_of_ble_eq_true rfl) (Nat.le_refl _) (Nat.le_refl _) eX8_between_57) rfl ?_
          refine Gd_iconst ki_1 eX8_between_60 ?_
          exact Gd_zreturn eX8_between_61 rfl (by decide) (Nat.le_refl _) (Nat.le_refl _) ⟨_, by rw [decide_eq_false (fun z => c50 z.2)]; rfl, rfl, by rw [if_neg (fun z => c50 z.2)]; exact PM_push hS1.2.1 (by rw [cnt, if_neg (by omega)]; exact hS1.2.2.1) hS1.2.2.2.1 hS1.2.2.2.2 (by omega), chg_up (chg_up hq1 rfl) rfl⟩
        · refine Gd_iconst ki_0 eX8_between_53 ?_
          exact Gd_zreturn eX8_between_54 rfl (by decide) (Nat.le_refl _) (Nat.le_refl _) ⟨_, by rw [decide_eq_true (⟨c25, c50⟩ : rnk x = 4 ∧ topL (y :: H2) = 4)]; rfl, rfl, by rw [if_pos (⟨c25, c50⟩ : rnk x = 4 ∧ topL (y :: H2) = 4)]; exact hS1, hq1⟩
theorem m_signOf {sh : List (Nat × Nat)} {a : Nat → Nat → Int32} {r : Nat → Nat → Option Nat} {g : Nat → Nat → Int64} (hW : WD sh r) : Mt YX8_signOf 0 0 0 [vr 50] (sh, a, r, g) (g_P (some (vi (sgr (a 50 22)))) (sh, a, r, g)) := by
  refine Mt_of rfl (Nat.le_of_ble_eq_true rfl) rfl ?_
  refine Gd_aload_n (i := 0) rfl eX8_signOf_0 ?_
  refine Gd_getI fl_RX8_128 (W_s50 hW) eX8_signOf_1 ?_
  refine Gd_iconst ki_4 eX8_signOf_4 ?_
  refine Gd_icmp_ne eX8_signOf_5 (fun c5 => ?_) (fun c5 => ?_)
  · refine Gd_aload_n (i := 0) rfl eX8_signOf_13 ?_
    refine Gd_getI fl_RX8_128 (W_s50 hW) eX8_signOf_14 ?_
    refine Gd_iconst ki_5 eX8_signOf_17 ?_
    refine Gd_icmp_ne eX8_signOf_18 (fun c18 => ?_) (fun c18 => ?_)
    · refine Gd_aload_n (i := 0) rfl eX8_signOf_26 ?_
      refine Gd_getI fl_RX8_128 (W_s50 hW) eX8_signOf_27 ?_
      refine Gd_bipush kb_60 eX8_signOf_30 ?_
      refine Gd_icmp_ne eX8_signOf_32 (fun c32 => ?_) (fun c32 => ?_)
      · refine Gd_aload_n (i := 0) rfl eX8_signOf_40 ?_
        refine Gd_getI fl_RX8_128 (W_s50 hW) eX8_signOf_41 ?_
        refine Gd_bipush kb_61 eX8_signOf_44 ?_
        refine Gd_icmp_ne eX8_signOf_46 (fun c46 => ?_) (fun c46 => ?_)
        · refine Gd_aload_n (i := 0) rfl eX8_signOf_54 ?_
          refine Gd_getI fl_RX8_128 (W_s50 hW) eX8_signOf_55 ?_
          refine Gd_bipush kb_43 eX8_signOf_58 ?_
          refine Gd_icmp_ne eX8_signOf_60 (fun c60 => ?_) (fun c60 => ?_)
          · refine Gd_aload_n (i := 0) rfl eX8_signOf_68 ?_
            refine Gd_getI fl_RX8_128 (W_s50 hW) eX8_signOf_69 ?_
            refine Gd_bipush kb_45 eX8_signOf_72 ?_
            refine Gd_icmp_ne eX8_signOf_74 (fun c74 => ?_) (fun c74 => ?_)
            · refine Gd_aload_n (i := 0) rfl eX8_signOf_82 ?_
              refine Gd_getI fl_RX8_128 (W_s50 hW) eX8_signOf_83 ?_
              refine Gd_bipush kb_42 eX8_signOf_86 ?_
              refine Gd_icmp_ne eX8_signOf_88 (fun c88 => ?_) (fun c88 => ?_)
              · refine Gd_iconst ki_m1 eX8_signOf_96 ?_
                exact Gd_ireturn eX8_signOf_97 rfl (Nat.le_refl _) (Nat.le_refl _) ⟨by rw [sgr, if_neg c5, if_neg c18, if_neg c32, if_neg c46, if_neg c60, if_neg c74, if_neg c88], rfl⟩
              · refine Gd_bipush kb_18 eX8_signOf_91 ?_
                refine Gd_goto eX8_signOf_93 ?_
                exact Gd_ireturn eX8_signOf_97 rfl (Nat.le_refl _) (Nat.le_refl _) ⟨by rw [sgr, if_neg c5, if_neg c18, if_neg c32, if_neg c46, if_neg c60, if_neg c74, if_pos c88], rfl⟩
            · refine Gd_bipush kb_17 eX8_signOf_77 ?_
              refine Gd_goto eX8_signOf_79 ?_
              exact Gd_ireturn eX8_signOf_97 rfl (Nat.le_refl _) (Nat.le_refl _) ⟨by rw [sgr, if_neg c5, if_neg c18, if_neg c32, if_neg c46, if_neg c60, if_pos c74], rfl⟩
          · refine Gd_bipush kb_16 eX8_signOf_63 ?_
            refine Gd_goto eX8_signOf_65 ?_
            exact Gd_ireturn eX8_signOf_97 rfl (Nat.le_refl _) (Nat.le_refl _) ⟨by rw [sgr, if_neg c5, if_neg c18, if_neg c32, if_neg c46, if_pos c60], rfl⟩
        · refine Gd_bipush kb_15 eX8_signOf_49 ?_
          refine Gd_goto eX8_signOf_51 ?_
          exact Gd_ireturn eX8_signOf_97 rfl (Nat.le_refl _) (Nat.le_refl _) ⟨by rw [sgr, if_neg c5, if_neg c18, if_neg c32, if_pos c46], rfl⟩
      · refine Gd_bipush kb_14 eX8_signOf_35 ?_
        refine Gd_goto eX8_signOf_37 ?_
        exact Gd_ireturn eX8_signOf_97 rfl (Nat.le_refl _) (Nat.le_refl _) ⟨by rw [sgr, if_neg c5, if_neg c18, if_pos c32], rfl⟩
    · refine Gd_bipush kb_12 eX8_signOf_21 ?_
      refine Gd_goto eX8_signOf_23 ?_
      exact Gd_ireturn eX8_signOf_97 rfl (Nat.le_refl _) (Nat.le_refl _) ⟨by rw [sgr, if_neg c5, if_pos c18], rfl⟩
  · refine Gd_bipush kb_11 eX8_signOf_8 ?_
    refine Gd_goto eX8_signOf_10 ?_
    exact Gd_ireturn eX8_signOf_97 rfl (Nat.le_refl _) (Nat.le_refl _) ⟨by rw [sgr, if_pos c5], rfl⟩
