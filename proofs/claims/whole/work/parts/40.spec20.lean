theorem m_isUnder {h : g_H} {k o : Nat} (hk : k < 2147483648) (ho : o < 2147483648) : Mt YX8_isUnder 0 0 0 [vi (nI k), vi (nI o)] h (g_P (some (vi (bI (ofk k o)))) h) := by
  refine Mt_of rfl (Nat.le_of_ble_eq_true rfl) rfl ?_
  refine Gd_iload_n (i := 1) rfl eX8_isUnder_0 ?_
  refine Gd_if_eqN (by first | omega | decide) eX8_isUnder_1 (fun c1 => ?_) (fun c1 => ?_)
  · refine Gd_iconst ki_1 eX8_isUnder_29 ?_
    refine Gd_goto eX8_isUnder_30 ?_
    exact Gd_zreturn eX8_isUnder_34 rfl (by decide) (Nat.le_refl _) (Nat.le_refl _) ⟨by rw [show ofk k o = true from decide_eq_true (by omega)]; rfl, rfl⟩
  · refine Gd_iload_n (i := 0) rfl eX8_isUnder_4 ?_
    refine Gd_iload_n (i := 1) rfl eX8_isUnder_5 ?_
    refine Gd_icmp_eqN (by first | omega | decide) (by first | omega | decide) eX8_isUnder_6 (fun c6 => ?_) (fun c6 => ?_)
    · refine Gd_iconst ki_1 eX8_isUnder_29 ?_
      refine Gd_goto eX8_isUnder_30 ?_
      exact Gd_zreturn eX8_isUnder_34 rfl (by decide) (Nat.le_refl _) (Nat.le_refl _) ⟨by rw [show ofk k o = true from decide_eq_true (by omega)]; rfl, rfl⟩
    · refine Gd_iload_n (i := 1) rfl eX8_isUnder_9 ?_
      refine Gd_iconst ki_1 eX8_isUnder_10 ?_
      refine Gd_icmp_neN (by first | omega | decide) (by first | omega | decide) eX8_isUnder_11 (fun c11 => ?_) (fun c11 => ?_)
      · refine Gd_iload_n (i := 1) rfl eX8_isUnder_19 ?_
        refine Gd_iconst ki_2 eX8_isUnder_20 ?_
        refine Gd_icmp_neN (by first | omega | decide) (by first | omega | decide) eX8_isUnder_21 (fun c21 => ?_) (fun c21 => ?_)
        · refine Gd_iconst ki_0 eX8_isUnder_33 ?_
          exact Gd_zreturn eX8_isUnder_34 rfl (by decide) (Nat.le_refl _) (Nat.le_refl _) ⟨by rw [show ofk k o = false from decide_eq_false (by omega)]; rfl, rfl⟩
        · refine Gd_iload_n (i := 0) rfl eX8_isUnder_24 ?_
          refine Gd_iconst ki_4 eX8_isUnder_25 ?_
          refine Gd_icmp_neN (by first | omega | decide) (by first | omega | decide) eX8_isUnder_26 (fun c26 => ?_) (fun c26 => ?_)
          · refine Gd_iconst ki_0 eX8_isUnder_33 ?_
            exact Gd_zreturn eX8_isUnder_34 rfl (by decide) (Nat.le_refl _) (Nat.le_refl _) ⟨by rw [show ofk k o = false from decide_eq_false (by omega)]; rfl, rfl⟩
          · refine Gd_iconst ki_1 eX8_isUnder_29 ?_
            refine Gd_goto eX8_isUnder_30 ?_
            exact Gd_zreturn eX8_isUnder_34 rfl (by decide) (Nat.le_refl _) (Nat.le_refl _) ⟨by rw [show ofk k o = true from decide_eq_true (by omega)]; rfl, rfl⟩
      · refine Gd_iload_n (i := 0) rfl eX8_isUnder_14 ?_
        refine Gd_iconst ki_3 eX8_isUnder_15 ?_
        refine Gd_icmp_eqN (by first | omega | decide) (by first | omega | decide) eX8_isUnder_16 (fun c16 => ?_) (fun c16 => ?_)
        · refine Gd_iconst ki_1 eX8_isUnder_29 ?_
          refine Gd_goto eX8_isUnder_30 ?_
          exact Gd_zreturn eX8_isUnder_34 rfl (by decide) (Nat.le_refl _) (Nat.le_refl _) ⟨by rw [show ofk k o = true from decide_eq_true (by omega)]; rfl, rfl⟩
        · refine Gd_iload_n (i := 1) rfl eX8_isUnder_19 ?_
          refine Gd_iconst ki_2 eX8_isUnder_20 ?_
          refine Gd_icmp_neN (by first | omega | decide) (by first | omega | decide) eX8_isUnder_21 (fun c21 => ?_) (fun c21 => ?_)
          · refine Gd_iconst ki_0 eX8_isUnder_33 ?_
            exact Gd_zreturn eX8_isUnder_34 rfl (by decide) (Nat.le_refl _) (Nat.le_refl _) ⟨by rw [show ofk k o = false from decide_eq_false (by omega)]; rfl, rfl⟩
          · refine Gd_iload_n (i := 0) rfl eX8_isUnder_24 ?_
            refine Gd_iconst ki_4 eX8_isUnder_25 ?_
            refine Gd_icmp_neN (by first | omega | decide) (by first | omega | decide) eX8_isUnder_26 (fun c26 => ?_) (fun c26 => ?_)
            · refine Gd_iconst ki_0 eX8_isUnder_33 ?_
              exact Gd_zreturn eX8_isUnder_34 rfl (by decide) (Nat.le_refl _) (Nat.le_refl _) ⟨by rw [show ofk k o = false from decide_eq_false (by omega)]; rfl, rfl⟩
            · refine Gd_iconst ki_1 eX8_isUnder_29 ?_
              refine Gd_goto eX8_isUnder_30 ?_
              exact Gd_zreturn eX8_isUnder_34 rfl (by decide) (Nat.le_refl _) (Nat.le_refl _) ⟨by rw [show ofk k o = true from decide_eq_true (by omega)]; rfl, rfl⟩
theorem m_cardsWith_L {sh : List (Nat × Nat)} {a : Nat → Nat → Int32} {r : Nat → Nat → Option Nat} {g : Nat → Nat → Int64} {φ : Nat → Nat → Nat} (hW : WD sh r) (hM : MA φ a) (hI : FI φ) {d : Nat} (hd : d < 10) {Q : Option g_V → g_H → Prop} {N0 : Nat} : ∀ (n q b : Nat), q + n = φ 7 3 → b = hol φ d q → Q (some (vi (nI (hol φ d (φ 7 3))))) (sh, a, r, g) → Gd YX8_cardsWith (z0 1 N0 Q) 0 0 4 [some (vr 50), some (vi (nI d)), some (vi (nI b)), some (vi (nI q))] [] (sh, a, r, g)
  | 0, q, b, hn, hb, kq => by
    subst hb
    have hhu := FI_hu hI
    refine Gd_iload_n (i := 3) rfl eX8_cardsWith_4 ?_
    refine Gd_aload_n (i := 0) rfl eX8_cardsWith_5 ?_
    refine Gd_getIe (v := nI (φ 7 3)) fl_RX8_81 (W_s50 hW) (MA_hu hM :) eX8_cardsWith_6 ?_
    refine Gd_icmp_geN (by first | omega | decide) (by first | omega | decide) eX8_cardsWith_9 (fun c9 => ?_) (fun c9 => ?_)
    · refine Gd_iload_n (i := 2) rfl eX8_cardsWith_37 ?_
      exact Gd_ireturn eX8_cardsWith_38 rfl (Nat.le_refl _) (Nat.le_refl _) (by rw [show φ 7 3 = q by omega] at kq; exact kq)
    · exact absurd c9 (by omega)
  | n + 1, q, b, hn, hb, kq => by
    subst hb
    have hhu := FI_hu hI
    refine Gd_iload_n (i := 3) rfl eX8_cardsWith_4 ?_
    refine Gd_aload_n (i := 0) rfl eX8_cardsWith_5 ?_
    refine Gd_getIe (v := nI (φ 7 3)) fl_RX8_81 (W_s50 hW) (MA_hu hM :) eX8_cardsWith_6 ?_
    refine Gd_icmp_geN (by first | omega | decide) (by first | omega | decide) eX8_cardsWith_9 (fun c9 => ?_) (fun c9 => ?_)
    · exact absurd c9 (by omega)
    · refine Gd_iload_n (i := 2) rfl eX8_cardsWith_12 ?_
      refine Gd_aload_n (i := 0) rfl eX8_cardsWith_13 ?_
      refine Gd_iload_n (i := 3) rfl eX8_cardsWith_14 ?_
      refine Gd_iload_n (i := 1) rfl eX8_cardsWith_15 ?_
      refine Gd_callP (g_cV (m_isCard hW hM hI (by first | omega | decide) (by first | omega | decide)) ok_X8_isCard lk_RX8_112 (W_s50 hW) ⟨_, _, rfl⟩ rfl rfl (Nat.le_of_ble_eq_true rfl) (Nat.le_of_ble_eq_true rfl) (Nat.le_refl _) (Nat.le_refl _) eX8_cardsWith_16) ?_
      refine Gd_if_eqB eX8_cardsWith_19 (fun c19 => ?_) (fun c19 => ?_)
      · refine Gd_iconst ki_0 eX8_cardsWith_28 ?_
        refine Gd_iorN eX8_cardsWith_29 ?_
        refine Gd_istore_n2 rfl eX8_cardsWith_30 ?_
        refine Gd_iinc3 (ho := rfl) (he := nI_inc _) eX8_cardsWith_31 ?_
        refine Gd_goto eX8_cardsWith_34 ?_
        exact m_cardsWith_L hW hM hI hd n (q + 1) (hol φ d q ||| 0) (by omega) (by rw [hol, if_neg (by rw [c19]; decide)]) kq
      · refine Gd_iconst ki_1 eX8_cardsWith_22 ?_
        refine Gd_iload_n (i := 3) rfl eX8_cardsWith_23 ?_
        refine Gd_ishl1 (by first | omega | decide) eX8_cardsWith_24 ?_
        refine Gd_goto eX8_cardsWith_25 ?_
        refine Gd_iorN eX8_cardsWith_29 ?_
        refine Gd_istore_n2 rfl eX8_cardsWith_30 ?_
        refine Gd_iinc3 (ho := rfl) (he := nI_inc _) eX8_cardsWith_31 ?_
        refine Gd_goto eX8_cardsWith_34 ?_
        exact m_cardsWith_L hW hM hI hd n (q + 1) (hol φ d q ||| 2 ^ q) (by omega) (by rw [hol, if_pos c19]) kq
theorem m_cardsWith {sh : List (Nat × Nat)} {a : Nat → Nat → Int32} {r : Nat → Nat → Option Nat} {g : Nat → Nat → Int64} {φ : Nat → Nat → Nat} (hW : WD sh r) (hM : MA φ a) (hI : FI φ) {d : Nat} (hd : d < 10) : Mt YX8_cardsWith 1 0 0 [vr 50, vi (nI d)] (sh, a, r, g) (g_P (some (vi (nI (hol φ d (φ 7 3))))) (sh, a, r, g)) := by
  refine Mt_of rfl (Nat.le_of_ble_eq_true rfl) rfl ?_
  refine Gd_iconst ki_0 eX8_cardsWith_0 ?_
  refine Gd_istore_n2 rfl eX8_cardsWith_1 ?_
  refine Gd_iconst ki_0 eX8_cardsWith_2 ?_
  refine Gd_istore_n3 rfl eX8_cardsWith_3 ?_
  exact m_cardsWith_L hW hM hI hd (φ 7 3) 0 0 (by omega) rfl ⟨rfl, rfl⟩
theorem x_holders_L {sh : List (Nat × Nat)} {a : Nat → Nat → Int32} {r : Nat → Nat → Option Nat} {g : Nat → Nat → Int64} {φ : Nat → Nat → Nat} {f : Nat} (hF : isF sh r f) (hA : FA f φ a) (hI : FI φ) {d : Nat} (hd : d < 10) {Q : Option g_V → g_H → Prop} {N0 : Nat} : ∀ (n q b : Nat), q + n = φ 7 3 → b = hol φ d q → Q (some (vi (nI (hol φ d (φ 7 3))))) (sh, a, r, g) → Gd YX0_holders (z0 0 N0 Q) 0 0 4 [some (vr f), some (vi (nI d)), some (vi (nI b)), some (vi (nI q))] [] (sh, a, r, g)
  | 0, q, b, hn, hb, kq => by
    subst hb
    have hhu := FI_hu hI
    refine Gd_iload_n (i := 3) rfl eX0_holders_4 ?_
    refine Gd_aload_n (i := 0) rfl eX0_holders_5 ?_
    refine Gd_getIe (v := nI (φ 7 3)) fl_RX0_25 (F_s0 hF) (FA_hu hA :) eX0_holders_6 ?_
    refine Gd_icmp_geN (by first | omega | decide) (by first | omega | decide) eX0_holders_9 (fun c9 => ?_) (fun c9 => ?_)
    · refine Gd_iload_n (i := 2) rfl eX0_holders_33 ?_
      exact Gd_ireturn eX0_holders_34 rfl (Nat.le_refl _) (Nat.le_refl _) (by rw [show φ 7 3 = q by omega] at kq; exact kq)
    · exact absurd c9 (by omega)
  | n + 1, q, b, hn, hb, kq => by
    subst hb
    have hhu := FI_hu hI
    refine Gd_iload_n (i := 3) rfl eX0_holders_4 ?_
    refine Gd_aload_n (i := 0) rfl eX0_holders_5 ?_
    refine Gd_getIe (v := nI (φ 7 3)) fl_RX0_25 (F_s0 hF) (FA_hu hA :) eX0_holders_6 ?_
    refine Gd_icmp_geN (by first | omega | decide) (by first | omega | decide) eX0_holders_9 (fun c9 => ?_) (fun c9 => ?_)
    · exact absurd c9 (by omega)
    · have hcb := FI_ca hI (p := q) (by omega)
      refine Gd_iload_n (i := 2) rfl eX0_holders_12 ?_
      refine Gd_aload_n (i := 0) rfl eX0_holders_13 ?_
      refine Gd_getR fl_RX0_40 (F_s0 hF) (F_r9 hF) eX0_holders_14 ?_
      refine Gd_iload_n (i := 3) rfl eX0_holders_17 ?_
      refine Gd_ialdE (v := nI (φ 5 q)) (F_s6 hF) (by first | omega | decide) (FA_ca hA (p := q) (by first | omega | decide) :) eX0_holders_18 ?_
      refine Gd_iload_n (i := 1) rfl eX0_holders_19 ?_
      refine Gd_ishr eX0_holders_20 ?_
      refine Gd_iconst ki_1 eX0_holders_21 ?_
      refine Gd_iandB (by first | omega | decide) (by first | omega | decide) eX0_holders_22 ?_
      refine Gd_iload_n (i := 3) rfl eX0_holders_23 ?_
      refine Gd_ishl eX0_holders_24 ?_
      rw [bshl (by omega)]
      refine Gd_iorN eX0_holders_25 ?_
      refine Gd_istore_n2 rfl eX0_holders_26 ?_
      refine Gd_iinc3 (ho := rfl) (he := nI_inc _) eX0_holders_27 ?_
      refine Gd_goto eX0_holders_30 ?_
      exact x_holders_L hF hA hI hd n (q + 1) _ (by omega) rfl kq
theorem x_holders {sh : List (Nat × Nat)} {a : Nat → Nat → Int32} {r : Nat → Nat → Option Nat} {g : Nat → Nat → Int64} {φ : Nat → Nat → Nat} {f : Nat} (hF : isF sh r f) (hA : FA f φ a) (hI : FI φ) {d : Nat} (hd : d < 10) : Mt YX0_holders 0 0 0 [vr f, vi (nI d)] (sh, a, r, g) (g_P (some (vi (nI (hol φ d (φ 7 3))))) (sh, a, r, g)) := by
  refine Mt_of rfl (Nat.le_of_ble_eq_true rfl) rfl ?_
  refine Gd_iconst ki_0 eX0_holders_0 ?_
  refine Gd_istore_n2 rfl eX0_holders_1 ?_
  refine Gd_iconst ki_0 eX0_holders_2 ?_
  refine Gd_istore_n3 rfl eX0_holders_3 ?_
  exact x_holders_L hF hA hI hd (φ 7 3) 0 0 (by omega) rfl ⟨rfl, rfl⟩
