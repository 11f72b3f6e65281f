theorem x_isOfKind {h : g_H} {k o : Nat} (hk : k < 2147483648) (ho : o < 2147483648) : Mt YX3_isOfKind 0 0 0 [vi (nI k), vi (nI o)] h (g_P (some (vi (bI (ofk k o)))) h) := by
  refine Mt_of rfl (Nat.le_of_ble_eq_true rfl) rfl ?_
  refine Gd_iload_n (i := 0) rfl eX3_isOfKind_0 ?_
  refine Gd_iload_n (i := 1) rfl eX3_isOfKind_1 ?_
  refine Gd_icmp_eqN (by first | omega | decide) (by first | omega | decide) eX3_isOfKind_2 (fun c2 => ?_) (fun c2 => ?_)
  · refine Gd_iconst ki_1 eX3_isOfKind_29 ?_
    refine Gd_goto eX3_isOfKind_30 ?_
    exact Gd_zreturn eX3_isOfKind_34 rfl (by decide) (Nat.le_refl _) (Nat.le_refl _) ⟨by rw [show ofk k o = true from decide_eq_true (by omega)]; rfl, rfl⟩
  · refine Gd_iload_n (i := 1) rfl eX3_isOfKind_5 ?_
    refine Gd_if_eqN (by first | omega | decide) eX3_isOfKind_6 (fun c6 => ?_) (fun c6 => ?_)
    · refine Gd_iconst ki_1 eX3_isOfKind_29 ?_
      refine Gd_goto eX3_isOfKind_30 ?_
      exact Gd_zreturn eX3_isOfKind_34 rfl (by decide) (Nat.le_refl _) (Nat.le_refl _) ⟨by rw [show ofk k o = true from decide_eq_true (by omega)]; rfl, rfl⟩
    · refine Gd_iload_n (i := 0) rfl eX3_isOfKind_9 ?_
      refine Gd_iconst ki_3 eX3_isOfKind_10 ?_
      refine Gd_icmp_neN (by first | omega | decide) (by first | omega | decide) eX3_isOfKind_11 (fun c11 => ?_) (fun c11 => ?_)
      · refine Gd_iload_n (i := 0) rfl eX3_isOfKind_19 ?_
        refine Gd_iconst ki_4 eX3_isOfKind_20 ?_
        refine Gd_icmp_neN (by first | omega | decide) (by first | omega | decide) eX3_isOfKind_21 (fun c21 => ?_) (fun c21 => ?_)
        · refine Gd_iconst ki_0 eX3_isOfKind_33 ?_
          exact Gd_zreturn eX3_isOfKind_34 rfl (by decide) (Nat.le_refl _) (Nat.le_refl _) ⟨by rw [show ofk k o = false from decide_eq_false (by omega)]; rfl, rfl⟩
        · refine Gd_iload_n (i := 1) rfl eX3_isOfKind_24 ?_
          refine Gd_iconst ki_2 eX3_isOfKind_25 ?_
          refine Gd_icmp_neN (by first | omega | decide) (by first | omega | decide) eX3_isOfKind_26 (fun c26 => ?_) (fun c26 => ?_)
          · refine Gd_iconst ki_0 eX3_isOfKind_33 ?_
            exact Gd_zreturn eX3_isOfKind_34 rfl (by decide) (Nat.le_refl _) (Nat.le_refl _) ⟨by rw [show ofk k o = false from decide_eq_false (by omega)]; rfl, rfl⟩
          · refine Gd_iconst ki_1 eX3_isOfKind_29 ?_
            refine Gd_goto eX3_isOfKind_30 ?_
            exact Gd_zreturn eX3_isOfKind_34 rfl (by decide) (Nat.le_refl _) (Nat.le_refl _) ⟨by rw [show ofk k o = true from decide_eq_true (by omega)]; rfl, rfl⟩
      · refine Gd_iload_n (i := 1) rfl eX3_isOfKind_14 ?_
        refine Gd_iconst ki_1 eX3_isOfKind_15 ?_
        refine Gd_icmp_eqN (by first | omega | decide) (by first | omega | decide) eX3_isOfKind_16 (fun c16 => ?_) (fun c16 => ?_)
        · refine Gd_iconst ki_1 eX3_isOfKind_29 ?_
          refine Gd_goto eX3_isOfKind_30 ?_
          exact Gd_zreturn eX3_isOfKind_34 rfl (by decide) (Nat.le_refl _) (Nat.le_refl _) ⟨by rw [show ofk k o = true from decide_eq_true (by omega)]; rfl, rfl⟩
        · refine Gd_iload_n (i := 0) rfl eX3_isOfKind_19 ?_
          refine Gd_iconst ki_4 eX3_isOfKind_20 ?_
          refine Gd_icmp_neN (by first | omega | decide) (by first | omega | decide) eX3_isOfKind_21 (fun c21 => ?_) (fun c21 => ?_)
          · refine Gd_iconst ki_0 eX3_isOfKind_33 ?_
            exact Gd_zreturn eX3_isOfKind_34 rfl (by decide) (Nat.le_refl _) (Nat.le_refl _) ⟨by rw [show ofk k o = false from decide_eq_false (by omega)]; rfl, rfl⟩
          · refine Gd_iload_n (i := 1) rfl eX3_isOfKind_24 ?_
            refine Gd_iconst ki_2 eX3_isOfKind_25 ?_
            refine Gd_icmp_neN (by first | omega | decide) (by first | omega | decide) eX3_isOfKind_26 (fun c26 => ?_) (fun c26 => ?_)
            · refine Gd_iconst ki_0 eX3_isOfKind_33 ?_
              exact Gd_zreturn eX3_isOfKind_34 rfl (by decide) (Nat.le_refl _) (Nat.le_refl _) ⟨by rw [show ofk k o = false from decide_eq_false (by omega)]; rfl, rfl⟩
            · refine Gd_iconst ki_1 eX3_isOfKind_29 ?_
              refine Gd_goto eX3_isOfKind_30 ?_
              exact Gd_zreturn eX3_isOfKind_34 rfl (by decide) (Nat.le_refl _) (Nat.le_refl _) ⟨by rw [show ofk k o = true from decide_eq_true (by omega)]; rfl, rfl⟩
theorem x_isWilling {sh : List (Nat × Nat)} {a : Nat → Nat → Int32} {r : Nat → Nat → Option Nat} {g : Nat → Nat → Int64} {φ ts cd : Nat → Nat → Nat} {nt f : Nat} (hW : WD sh r) (hF : isF sh r f) (hf : f ≤ 17) (hA : FA f φ a) (hI : FI φ) (hT : TX nt ts cd sh a r) (hTI : TI nt ts cd) (hlt : φ 7 2 < nt) {p : Nat} (hpn : p < φ 7 3) : Mt YX3_isWilling 3 0 0 [vr 31, vr f, vi (nI p)] (sh, a, r, g) (g_EV sh r g (vi (bI (will φ ts cd p))) (fun a' => chg scR a a')) := by
  refine Mt_of rfl (Nat.le_of_ble_eq_true rfl) rfl ?_
  have hch : chg scR a a := chg_rf
  have hp6 : p < 6 := by have := FI_hu hI; omega
  have hki := FI_ki hI hp6
  have hda := FI_da hI
  refine Gd_aload_n (i := 1) rfl eX3_isWilling_0 ?_
  refine Gd_getR fl_RX3_70 (F_s0 hF) (F_r5 hF) eX3_isWilling_1 ?_
  refine Gd_iload_n (i := 2) rfl eX3_isWilling_4 ?_
  refine Gd_ialdE (v := nI (φ 1 p)) (F_s2 hF) (by first | omega | decide) (FA_ki hA (p := p) (by first | omega | decide) :) eX3_isWilling_5 ?_
  refine Gd_iconst ki_1 eX3_isWilling_6 ?_
  refine Gd_callP (g_cS (x_isOfKind (by first | omega | decide) (by first | omega | decide)) ok_X3_isOfKind lk_RX3_73 rfl rfl (Nat.le_of_ble_eq_true rfl) (Nat.le_of_ble_eq_true rfl) (Nat.le_refl _) (Nat.le_refl _) eX3_isWilling_7) ?_
  refine Gd_if_eqB eX3_isWilling_10 (fun c10 => ?_) (fun c10 => ?_)
  · refine Gd_aload_n (i := 0) rfl eX3_isWilling_15 ?_
    refine Gd_aload_n (i := 1) rfl eX3_isWilling_16 ?_
    refine Gd_iconst ki_2 eX3_isWilling_17 ?_
    refine Gd_iload_n (i := 2) rfl eX3_isWilling_18 ?_
    refine Gd_iconst ki_m1 eX3_isWilling_19 ?_
    refine Gd_callEV (g_cV (x_ask0 hW hF hf hA hI hT hTI hlt (by first | omega | decide) (by first | omega | decide)) ok_X3_says lk_RX3_77 (W_s31 hW) ⟨_, _, rfl⟩ rfl rfl (Nat.le_of_ble_eq_true rfl) (Nat.le_of_ble_eq_true rfl) (Nat.le_refl _) (Nat.le_refl _) eX3_isWilling_20) (fun a hq => ?_)
    have hA := FA_R hA hf hq
    have hT := TX_R hT hq
    have hch := chg_tr hch hq
    refine Gd_if_eq eX3_isWilling_23 (fun c23 => ?_) (fun c23 => ?_)
    · refine Gd_iconst ki_0 eX3_isWilling_30 ?_
      refine Gd_istore_n3 rfl eX3_isWilling_31 ?_
      refine Gd_aload_n (i := 1) rfl eX3_isWilling_32 ?_
      refine Gd_getR fl_RX3_70 (F_s0 hF) (F_r5 hF) eX3_isWilling_33 ?_
      refine Gd_iload_n (i := 2) rfl eX3_isWilling_36 ?_
      refine Gd_ialdE (v := nI (φ 1 p)) (F_s2 hF) (by first | omega | decide) (FA_ki hA (p := p) (by first | omega | decide) :) eX3_isWilling_37 ?_
      refine Gd_iconst ki_2 eX3_isWilling_38 ?_
      refine Gd_callP (g_cS (x_isOfKind (by first | omega | decide) (by first | omega | decide)) ok_X3_isOfKind lk_RX3_73 rfl rfl (Nat.le_of_ble_eq_true rfl) (Nat.le_of_ble_eq_true rfl) (Nat.le_refl _) (Nat.le_refl _) eX3_isWilling_39) ?_
      refine Gd_if_eqB eX3_isWilling_42 (fun c42 => ?_) (fun c42 => ?_)
      · refine Gd_aload_n (i := 1) rfl eX3_isWilling_64 ?_
        refine Gd_getR fl_RX3_70 (F_s0 hF) (F_r5 hF) eX3_isWilling_65 ?_
        refine Gd_iload_n (i := 2) rfl eX3_isWilling_68 ?_
        refine Gd_ialdE (v := nI (φ 1 p)) (F_s2 hF) (by first | omega | decide) (FA_ki hA (p := p) (by first | omega | decide) :) eX3_isWilling_69 ?_
        refine Gd_iconst ki_5 eX3_isWilling_70 ?_
        refine Gd_icmp_neN (by first | omega | decide) (by first | omega | decide) eX3_isWilling_71 (fun c71 => ?_) (fun c71 => ?_)
        · refine Gd_iload_n (i := 3) rfl eX3_isWilling_86 ?_
          exact Gd_zreturn eX3_isWilling_87 rfl (by decide) (Nat.le_refl _) (Nat.le_refl _) ⟨a, by have k1 := of_decide_eq_false c10; have k2 := of_decide_eq_false c42; rw [will, if_neg (by omega), if_neg c71, if_pos (by omega)]; simp [willso_f (by simpa using c23), bI, nI_0], rfl, hch⟩
        · refine Gd_iload_n (i := 3) rfl eX3_isWilling_74 ?_
          refine Gd_if_ne eX3_isWilling_75 (fun q => by first | exact absurd q (by decide) | exact absurd (by decide) q) (fun _ => ?_)
          refine Gd_iconst ki_1 eX3_isWilling_78 ?_
          refine Gd_goto eX3_isWilling_79 ?_
          exact Gd_zreturn eX3_isWilling_87 rfl (by decide) (Nat.le_refl _) (Nat.le_refl _) ⟨a, by have k1 := of_decide_eq_false c10; have k2 := of_decide_eq_false c42; rw [will, if_neg (by omega), if_pos c71]; simp [willso_f (by simpa using c23), bI, nI_0], rfl, hch⟩
      · refine Gd_iload_n (i := 3) rfl eX3_isWilling_45 ?_
        refine Gd_if_eq eX3_isWilling_46 (fun _ => ?_) (fun q => by first | exact absurd q (by decide) | exact absurd (by decide) q)
        refine Gd_iconst ki_0 eX3_isWilling_62 ?_
        exact Gd_zreturn eX3_isWilling_63 rfl (by decide) (Nat.le_refl _) (Nat.le_refl _) ⟨a, by have k1 := of_decide_eq_false c10; have k2 := of_decide_eq_true c42; rw [will, if_neg (by omega), if_neg (by omega), if_neg (by omega)]; simp [willso_f (by simpa using c23), bI, nI_0], rfl, hch⟩
    · refine Gd_iconst ki_1 eX3_isWilling_26 ?_
      refine Gd_goto eX3_isWilling_27 ?_
      refine Gd_istore_n3 rfl eX3_isWilling_31 ?_
      refine Gd_aload_n (i := 1) rfl eX3_isWilling_32 ?_
      refine Gd_getR fl_RX3_70 (F_s0 hF) (F_r5 hF) eX3_isWilling_33 ?_
      refine Gd_iload_n (i := 2) rfl eX3_isWilling_36 ?_
      refine Gd_ialdE (v := nI (φ 1 p)) (F_s2 hF) (by first | omega | decide) (FA_ki hA (p := p) (by first | omega | decide) :) eX3_isWilling_37 ?_
      refine Gd_iconst ki_2 eX3_isWilling_38 ?_
      refine Gd_callP (g_cS (x_isOfKind (by first | omega | decide) (by first | omega | decide)) ok_X3_isOfKind lk_RX3_73 rfl rfl (Nat.le_of_ble_eq_true rfl) (Nat.le_of_ble_eq_true rfl) (Nat.le_refl _) (Nat.le_refl _) eX3_isWilling_39) ?_
      refine Gd_if_eqB eX3_isWilling_42 (fun c42 => ?_) (fun c42 => ?_)
      · refine Gd_aload_n (i := 1) rfl eX3_isWilling_64 ?_
        refine Gd_getR fl_RX3_70 (F_s0 hF) (F_r5 hF) eX3_isWilling_65 ?_
        refine Gd_iload_n (i := 2) rfl eX3_isWilling_68 ?_
        refine Gd_ialdE (v := nI (φ 1 p)) (F_s2 hF) (by first | omega | decide) (FA_ki hA (p := p) (by first | omega | decide) :) eX3_isWilling_69 ?_
        refine Gd_iconst ki_5 eX3_isWilling_70 ?_
        refine Gd_icmp_neN (by first | omega | decide) (by first | omega | decide) eX3_isWilling_71 (fun c71 => ?_) (fun c71 => ?_)
        · refine Gd_iload_n (i := 3) rfl eX3_isWilling_86 ?_
          exact Gd_zreturn eX3_isWilling_87 rfl (by decide) (Nat.le_refl _) (Nat.le_refl _) ⟨a, by have k1 := of_decide_eq_false c10; have k2 := of_decide_eq_false c42; rw [will, if_neg (by omega), if_neg c71, if_pos (by omega)]; simp [willso_t c23, bI, nI_0], rfl, hch⟩
        · refine Gd_iload_n (i := 3) rfl eX3_isWilling_74 ?_
          refine Gd_if_ne eX3_isWilling_75 (fun _ => ?_) (fun q => by first | exact absurd q (by decide) | exact absurd (by decide) q)
          refine Gd_iconst ki_0 eX3_isWilling_82 ?_
          refine Gd_goto eX3_isWilling_83 ?_
          exact Gd_zreturn eX3_isWilling_87 rfl (by decide) (Nat.le_refl _) (Nat.le_refl _) ⟨a, by have k1 := of_decide_eq_false c10; have k2 := of_decide_eq_false c42; rw [will, if_neg (by omega), if_pos c71]; simp [willso_t c23, bI, nI_0], rfl, hch⟩
      · refine Gd_iload_n (i := 3) rfl eX3_isWilling_45 ?_
        refine Gd_if_eq eX3_isWilling_46 (fun q => by first | exact absurd q (by decide) | exact absurd (by decide) q) (fun _ => ?_)
        refine Gd_aload_n (i := 1) rfl eX3_isWilling_49 ?_
        refine Gd_getIe (v := nI (φ 7 1)) fl_RX3_48 (F_s0 hF) (FA_da hA :) eX3_isWilling_50 ?_
        refine Gd_iconst ki_2 eX3_isWilling_53 ?_
        refine Gd_iremN (by first | omega | decide) (by decide) eX3_isWilling_54 ?_
        refine Gd_if_neN (by first | omega | decide) eX3_isWilling_55 (fun c55 => ?_) (fun c55 => ?_)
        · refine Gd_iconst ki_0 eX3_isWilling_62 ?_
          exact Gd_zreturn eX3_isWilling_63 rfl (by decide) (Nat.le_refl _) (Nat.le_refl _) ⟨a, by have k1 := of_decide_eq_false c10; have k2 := of_decide_eq_true c42; rw [will, if_neg (by omega), if_neg (by omega), if_neg (by omega)]; simp [willso_t c23, bI, nI_0, c55], rfl, hch⟩
        · refine Gd_iconst ki_1 eX3_isWilling_58 ?_
          refine Gd_goto eX3_isWilling_59 ?_
          exact Gd_zreturn eX3_isWilling_63 rfl (by decide) (Nat.le_refl _) (Nat.le_refl _) ⟨a, by have k1 := of_decide_eq_false c10; have k2 := of_decide_eq_true c42; rw [will, if_neg (by omega), if_neg (by omega), if_neg (by omega)]; simp [willso_t c23, bI, nI_0, c55], rfl, hch⟩
  · refine Gd_iconst ki_1 eX3_isWilling_13 ?_
    exact Gd_zreturn eX3_isWilling_14 rfl (by decide) (Nat.le_refl _) (Nat.le_refl _) ⟨a, by rw [will, if_pos (by have := of_decide_eq_true c10; omega)]; rfl, rfl, hch⟩
theorem x_gainOf {sh : List (Nat × Nat)} {a : Nat → Nat → Int32} {r : Nat → Nat → Option Nat} {g : Nat → Nat → Int64} {φ ts cd : Nat → Nat → Nat} {nt f : Nat} (hW : WD sh r) (hF : isF sh r f) (hf : f ≤ 17) (hA : FA f φ a) (hI : FI φ) (hT : TX nt ts cd sh a r) (hTI : TI nt ts cd) (hlt : φ 7 2 < nt) {p : Nat} (hpn : p < φ 7 3) : Mt YX3_gainOf 3 0 0 [vr 31, vr f, vi (nI p)] (sh, a, r, g) (g_EV sh r g (vi (gains φ ts cd p)) (fun a' => chg scR a a')) := by
  refine Mt_of rfl (Nat.le_of_ble_eq_true rfl) rfl ?_
  have hch : chg scR a a := chg_rf
  have hp6 : p < 6 := by have := FI_hu hI; omega
  have hki := FI_ki hI hp6
  refine Gd_aload_n (i := 0) rfl eX3_gainOf_0 ?_
  refine Gd_aload_n (i := 1) rfl eX3_gainOf_1 ?_
  refine Gd_iconst ki_0 eX3_gainOf_2 ?_
  refine Gd_iload_n (i := 2) rfl eX3_gainOf_3 ?_
  refine Gd_iconst ki_m1 eX3_gainOf_4 ?_
  refine Gd_callEV (g_cV (x_ask0 hW hF hf hA hI hT hTI hlt (by first | omega | decide) (by first | omega | decide)) ok_X3_says lk_RX3_77 (W_s31 hW) ⟨_, _, rfl⟩ rfl rfl (Nat.le_of_ble_eq_true rfl) (Nat.le_of_ble_eq_true rfl) (Nat.le_refl _) (Nat.le_refl _) eX3_gainOf_5) (fun a hq => ?_)
  have hA := FA_R hA hf hq
  have hT := TX_R hT hq
  have hch := chg_tr hch hq
  refine Gd_istore_n3 rfl eX3_gainOf_8 ?_
  refine Gd_aload_n (i := 1) rfl eX3_gainOf_9 ?_
  refine Gd_getR fl_RX3_70 (F_s0 hF) (F_r5 hF) eX3_gainOf_10 ?_
  refine Gd_iload_n (i := 2) rfl eX3_gainOf_13 ?_
  refine Gd_ialdE (v := nI (φ 1 p)) (F_s2 hF) (by first | omega | decide) (FA_ki hA (p := p) (by first | omega | decide) :) eX3_gainOf_14 ?_
  rcases ((by have := FI_ki hI (p := p) (by omega); omega) : φ 1 p = 0 ∨ φ 1 p = 1 ∨ φ 1 p = 2 ∨ φ 1 p = 3 ∨ φ 1 p = 4 ∨ φ 1 p = 5) with hk | hk | hk | hk | hk | hk
  · rw [hk]
    refine Gd_tabOut (tgt := 67) eX3_gainOf_15 (by decide) (by decide) ?_
    refine Gd_iload_n (i := 3) rfl eX3_gainOf_67 ?_
    exact Gd_ireturn eX3_gainOf_68 rfl (Nat.le_refl _) (Nat.le_refl _) ⟨a, by simp [gains, hk], rfl, hch⟩
  · rw [hk]
    refine Gd_tabIn (off := 29) (tgt := 44) eX3_gainOf_15 (by decide) (by decide) (by decide +kernel) (by decide) ?_
    refine Gd_iload_n (i := 3) rfl eX3_gainOf_44 ?_
    refine Gd_aload_n (i := 1) rfl eX3_gainOf_45 ?_
    refine Gd_getR fl_RX3_51 (F_s0 hF) (F_r6 hF) eX3_gainOf_46 ?_
    refine Gd_iload_n (i := 2) rfl eX3_gainOf_49 ?_
    refine Gd_ialdE (v := nI (φ 2 p)) (F_s3 hF) (by first | omega | decide) (FA_mo hA (p := p) (by first | omega | decide) :) eX3_gainOf_50 ?_
    refine Gd_iadd eX3_gainOf_51 ?_
    exact Gd_ireturn eX3_gainOf_52 rfl (Nat.le_refl _) (Nat.le_refl _) ⟨a, by simp [gains, hk], rfl, hch⟩
  · rw [hk]
    refine Gd_tabIn (off := 52) (tgt := 67) eX3_gainOf_15 (by decide) (by decide) (by decide +kernel) (by decide) ?_
    refine Gd_iload_n (i := 3) rfl eX3_gainOf_67 ?_
    exact Gd_ireturn eX3_gainOf_68 rfl (Nat.le_refl _) (Nat.le_refl _) ⟨a, by simp [gains, hk], rfl, hch⟩
  · rw [hk]
    refine Gd_tabIn (off := 38) (tgt := 53) eX3_gainOf_15 (by decide) (by decide) (by decide +kernel) (by decide) ?_
    refine Gd_iconst ki_2 eX3_gainOf_53 ?_
    refine Gd_iload_n (i := 3) rfl eX3_gainOf_54 ?_
    refine Gd_aload_n (i := 1) rfl eX3_gainOf_55 ?_
    refine Gd_getR fl_RX3_51 (F_s0 hF) (F_r6 hF) eX3_gainOf_56 ?_
    refine Gd_iload_n (i := 2) rfl eX3_gainOf_59 ?_
    refine Gd_ialdE (v := nI (φ 2 p)) (F_s3 hF) (by first | omega | decide) (FA_mo hA (p := p) (by first | omega | decide) :) eX3_gainOf_60 ?_
    refine Gd_iadd eX3_gainOf_61 ?_
    refine Gd_imul eX3_gainOf_62 ?_
    exact Gd_ireturn eX3_gainOf_63 rfl (Nat.le_refl _) (Nat.le_refl _) ⟨a, by simp [gains, hk], rfl, hch⟩
  · rw [hk]
    refine Gd_tabIn (off := 49) (tgt := 64) eX3_gainOf_15 (by decide) (by decide) (by decide +kernel) (by decide) ?_
    refine Gd_iload_n (i := 3) rfl eX3_gainOf_64 ?_
    refine Gd_ineg eX3_gainOf_65 ?_
    exact Gd_ireturn eX3_gainOf_66 rfl (Nat.le_refl _) (Nat.le_refl _) ⟨a, by simp [gains, hk], rfl, hch⟩
  · rw [hk]
    refine Gd_tabOut (tgt := 67) eX3_gainOf_15 (by decide) (by decide) ?_
    refine Gd_iload_n (i := 3) rfl eX3_gainOf_67 ?_
    exact Gd_ireturn eX3_gainOf_68 rfl (Nat.le_refl _) (Nat.le_refl _) ⟨a, by simp [gains, hk], rfl, hch⟩
theorem x_aimOf {sh : List (Nat × Nat)} {a : Nat → Nat → Int32} {r : Nat → Nat → Option Nat} {g : Nat → Nat → Int64} {φ ts cd : Nat → Nat → Nat} {nt f : Nat} (hW : WD sh r) (hF : isF sh r f) (hf : f ≤ 17) (hA : FA f φ a) (hI : FI φ) (hT : TX nt ts cd sh a r) (hTI : TI nt ts cd) (hlt : φ 7 2 < nt) {p d : Nat} (hpn : p < φ 7 3) (hd : d < 10) : Mt YX3_aimOf 3 0 0 [vr 31, vr f, vi (nI p), vi (nI d)] (sh, a, r, g) (g_EV sh r g (vi (hitv φ ts cd p d)) (fun a' => chg scR a a')) := by
  refine Mt_of rfl (Nat.le_of_ble_eq_true rfl) rfl ?_
  have hch : chg scR a a := chg_rf
  have hp6 : p < 6 := by have := FI_hu hI; omega
  have hki := FI_ki hI hp6
  refine Gd_aload_n (i := 0) rfl eX3_aimOf_0 ?_
  refine Gd_aload_n (i := 1) rfl eX3_aimOf_1 ?_
  refine Gd_iconst ki_1 eX3_aimOf_2 ?_
  refine Gd_iload_n (i := 2) rfl eX3_aimOf_3 ?_
  refine Gd_iload_n (i := 3) rfl eX3_aimOf_4 ?_
  refine Gd_callEV (g_cV (x_ask1 hW hF hf hA hI hT hTI hlt (by first | omega | decide) (by first | omega | decide) (by first | omega | decide)) ok_X3_says lk_RX3_77 (W_s31 hW) ⟨_, _, rfl⟩ rfl rfl (Nat.le_of_ble_eq_true rfl) (Nat.le_of_ble_eq_true rfl) (Nat.le_refl _) (Nat.le_refl _) eX3_aimOf_5) (fun a hq => ?_)
  have hA := FA_R hA hf hq
  have hT := TX_R hT hq
  have hch := chg_tr hch hq
  refine Gd_istore4 rfl eX3_aimOf_8 ?_
  refine Gd_aload_n (i := 1) rfl eX3_aimOf_10 ?_
  refine Gd_iload_n (i := 2) rfl eX3_aimOf_11 ?_
  refine Gd_iload_n (i := 3) rfl eX3_aimOf_12 ?_
  refine Gd_callP (g_cV (x_hasCard hF hA hI (by first | omega | decide) (by first | omega | decide)) ok_X0_hasCard lk_RX3_81 (F_s0 hF) ⟨_, _, rfl⟩ rfl rfl (Nat.le_of_ble_eq_true rfl) (Nat.le_of_ble_eq_true rfl) (Nat.le_refl _) (Nat.le_refl _) eX3_aimOf_13) ?_
  refine Gd_istore5 rfl eX3_aimOf_16 ?_
  refine Gd_iload (i := 5) rfl eX3_aimOf_18 ?_
  refine Gd_if_eqB eX3_aimOf_20 (fun c20 => ?_) (fun c20 => ?_)
  · refine Gd_iload (i := 4) rfl eX3_aimOf_28 ?_
    refine Gd_iconst ki_2 eX3_aimOf_30 ?_
    refine Gd_idiv (by decide) eX3_aimOf_31 ?_
    refine Gd_istore6 rfl eX3_aimOf_32 ?_
    refine Gd_iload (i := 5) rfl eX3_aimOf_34 ?_
    refine Gd_if_eqB eX3_aimOf_36 (fun _ => ?_) (fun q => absurd (q.symm.trans c20) (by decide))
    refine Gd_iconst ki_0 eX3_aimOf_51 ?_
    refine Gd_istore7 rfl eX3_aimOf_52 ?_
    refine Gd_aload_n (i := 1) rfl eX3_aimOf_54 ?_
    refine Gd_getR fl_RX3_70 (F_s0 hF) (F_r5 hF) eX3_aimOf_55 ?_
    refine Gd_iload_n (i := 2) rfl eX3_aimOf_58 ?_
    refine Gd_ialdE (v := nI (φ 1 p)) (F_s2 hF) (by first | omega | decide) (FA_ki hA (p := p) (by first | omega | decide) :) eX3_aimOf_59 ?_
    rcases ((by have := FI_ki hI (p := p) (by omega); omega) : φ 1 p = 0 ∨ φ 1 p = 1 ∨ φ 1 p = 2 ∨ φ 1 p = 3 ∨ φ 1 p = 4 ∨ φ 1 p = 5) with hk | hk | hk | hk | hk | hk
    · rw [hk]
      refine Gd_tabOut (tgt := 123) eX3_aimOf_60 (by decide) (by decide) ?_
      refine Gd_iload (i := 6) rfl eX3_aimOf_123 ?_
      exact Gd_ireturn eX3_aimOf_125 rfl (Nat.le_refl _) (Nat.le_refl _) ⟨a, by simp [hitv, hitH, hitS, hk, nI_0, c20], rfl, hch⟩
    · rw [hk]
      refine Gd_tabOut (tgt := 123) eX3_aimOf_60 (by decide) (by decide) ?_
      refine Gd_iload (i := 6) rfl eX3_aimOf_123 ?_
      exact Gd_ireturn eX3_aimOf_125 rfl (Nat.le_refl _) (Nat.le_refl _) ⟨a, by simp [hitv, hitH, hitS, hk, nI_0, c20], rfl, hch⟩
    · rw [hk]
      refine Gd_tabIn (off := 32) (tgt := 92) eX3_aimOf_60 (by decide) (by decide) (by decide +kernel) (by decide) ?_
      refine Gd_iload (i := 7) rfl eX3_aimOf_92 ?_
      exact Gd_ireturn eX3_aimOf_94 rfl (Nat.le_refl _) (Nat.le_refl _) ⟨a, by simp [hitv, hitH, hitS, hk, nI_0, c20], rfl, hch⟩
    · rw [hk]
      refine Gd_tabIn (off := 35) (tgt := 95) eX3_aimOf_60 (by decide) (by decide) (by decide +kernel) (by decide) ?_
      refine Gd_iload (i := 6) rfl eX3_aimOf_95 ?_
      refine Gd_iconst ki_3 eX3_aimOf_97 ?_
      refine Gd_idiv (by decide) eX3_aimOf_98 ?_
      exact Gd_ireturn eX3_aimOf_99 rfl (Nat.le_refl _) (Nat.le_refl _) ⟨a, by simp [hitv, hitH, hitS, hk, nI_0, c20], rfl, hch⟩
    · rw [hk]
      refine Gd_tabIn (off := 40) (tgt := 100) eX3_aimOf_60 (by decide) (by decide) (by decide +kernel) (by decide) ?_
      refine Gd_iload (i := 7) rfl eX3_aimOf_100 ?_
      refine Gd_bipush kb_20 eX3_aimOf_102 ?_
      refine Gd_iaddN eX3_aimOf_104 ?_
      exact Gd_ireturn eX3_aimOf_105 rfl (Nat.le_refl _) (Nat.le_refl _) ⟨a, by simp [hitv, hitH, hitS, hk, nI_0, c20], rfl, hch⟩
    · rw [hk]
      refine Gd_tabIn (off := 46) (tgt := 106) eX3_aimOf_60 (by decide) (by decide) (by decide +kernel) (by decide) ?_
      refine Gd_iload (i := 5) rfl eX3_aimOf_106 ?_
      refine Gd_if_eqB eX3_aimOf_108 (fun _ => ?_) (fun q => absurd (q.symm.trans c20) (by decide))
      refine Gd_iload (i := 4) rfl eX3_aimOf_120 ?_
      exact Gd_ireturn eX3_aimOf_122 rfl (Nat.le_refl _) (Nat.le_refl _) ⟨a, by simp [hitv, hitH, hitS, hk, nI_0, c20], rfl, hch⟩
  · refine Gd_iload (i := 4) rfl eX3_aimOf_23 ?_
    refine Gd_goto eX3_aimOf_25 ?_
    refine Gd_istore6 rfl eX3_aimOf_32 ?_
    refine Gd_iload (i := 5) rfl eX3_aimOf_34 ?_
    refine Gd_if_eqB eX3_aimOf_36 (fun q => absurd (q.symm.trans c20) (by decide)) (fun _ => ?_)
    refine Gd_iload (i := 6) rfl eX3_aimOf_39 ?_
    refine Gd_aload_n (i := 1) rfl eX3_aimOf_41 ?_
    refine Gd_getR fl_RX3_51 (F_s0 hF) (F_r6 hF) eX3_aimOf_42 ?_
    refine Gd_iload_n (i := 2) rfl eX3_aimOf_45 ?_
    refine Gd_ialdE (v := nI (φ 2 p)) (F_s3 hF) (by first | omega | decide) (FA_mo hA (p := p) (by first | omega | decide) :) eX3_aimOf_46 ?_
    refine Gd_iadd eX3_aimOf_47 ?_
    refine Gd_goto eX3_aimOf_48 ?_
    refine Gd_istore7 rfl eX3_aimOf_52 ?_
    refine Gd_aload_n (i := 1) rfl eX3_aimOf_54 ?_
    refine Gd_getR fl_RX3_70 (F_s0 hF) (F_r5 hF) eX3_aimOf_55 ?_
    refine Gd_iload_n (i := 2) rfl eX3_aimOf_58 ?_
    refine Gd_ialdE (v := nI (φ 1 p)) (F_s2 hF) (by first | omega | decide) (FA_ki hA (p := p) (by first | omega | decide) :) eX3_aimOf_59 ?_
    rcases ((by have := FI_ki hI (p := p) (by omega); omega) : φ 1 p = 0 ∨ φ 1 p = 1 ∨ φ 1 p = 2 ∨ φ 1 p = 3 ∨ φ 1 p = 4 ∨ φ 1 p = 5) with hk | hk | hk | hk | hk | hk
    · rw [hk]
      refine Gd_tabOut (tgt := 123) eX3_aimOf_60 (by decide) (by decide) ?_
      refine Gd_iload (i := 6) rfl eX3_aimOf_123 ?_
      exact Gd_ireturn eX3_aimOf_125 rfl (Nat.le_refl _) (Nat.le_refl _) ⟨a, by simp [hitv, hitH, hitS, hk, nI_0, c20], rfl, hch⟩
    · rw [hk]
      refine Gd_tabOut (tgt := 123) eX3_aimOf_60 (by decide) (by decide) ?_
      refine Gd_iload (i := 6) rfl eX3_aimOf_123 ?_
      exact Gd_ireturn eX3_aimOf_125 rfl (Nat.le_refl _) (Nat.le_refl _) ⟨a, by simp [hitv, hitH, hitS, hk, nI_0, c20], rfl, hch⟩
    · rw [hk]
      refine Gd_tabIn (off := 32) (tgt := 92) eX3_aimOf_60 (by decide) (by decide) (by decide +kernel) (by decide) ?_
      refine Gd_iload (i := 7) rfl eX3_aimOf_92 ?_
      exact Gd_ireturn eX3_aimOf_94 rfl (Nat.le_refl _) (Nat.le_refl _) ⟨a, by simp [hitv, hitH, hitS, hk, nI_0, c20], rfl, hch⟩
    · rw [hk]
      refine Gd_tabIn (off := 35) (tgt := 95) eX3_aimOf_60 (by decide) (by decide) (by decide +kernel) (by decide) ?_
      refine Gd_iload (i := 6) rfl eX3_aimOf_95 ?_
      refine Gd_iconst ki_3 eX3_aimOf_97 ?_
      refine Gd_idiv (by decide) eX3_aimOf_98 ?_
      exact Gd_ireturn eX3_aimOf_99 rfl (Nat.le_refl _) (Nat.le_refl _) ⟨a, by simp [hitv, hitH, hitS, hk, nI_0, c20], rfl, hch⟩
    · rw [hk]
      refine Gd_tabIn (off := 40) (tgt := 100) eX3_aimOf_60 (by decide) (by decide) (by decide +kernel) (by decide) ?_
      refine Gd_iload (i := 7) rfl eX3_aimOf_100 ?_
      refine Gd_bipush kb_20 eX3_aimOf_102 ?_
      refine Gd_iadd eX3_aimOf_104 ?_
      exact Gd_ireturn eX3_aimOf_105 rfl (Nat.le_refl _) (Nat.le_refl _) ⟨a, by simp [hitv, hitH, hitS, hk, nI_0, c20], rfl, hch⟩
    · rw [hk]
      refine Gd_tabIn (off := 46) (tgt := 106) eX3_aimOf_60 (by decide) (by decide) (by decide +kernel) (by decide) ?_
      refine Gd_iload (i := 5) rfl eX3_aimOf_106 ?_
      refine Gd_if_eqB eX3_aimOf_108 (fun q => absurd (q.symm.trans c20) (by decide)) (fun _ => ?_)
      refine Gd_aload_n (i := 1) rfl eX3_aimOf_111 ?_
      refine Gd_getR fl_RX3_51 (F_s0 hF) (F_r6 hF) eX3_aimOf_112 ?_
      refine Gd_iload_n (i := 2) rfl eX3_aimOf_115 ?_
      refine Gd_ialdE (v := nI (φ 2 p)) (F_s3 hF) (by first | omega | decide) (FA_mo hA (p := p) (by first | omega | decide) :) eX3_aimOf_116 ?_
      refine Gd_goto eX3_aimOf_117 ?_
      exact Gd_ireturn eX3_aimOf_122 rfl (Nat.le_refl _) (Nat.le_refl _) ⟨a, by simp [hitv, hitH, hitS, hk, nI_0, c20], rfl, hch⟩
theorem x_shotNow {sh : List (Nat × Nat)} {a : Nat → Nat → Int32} {r : Nat → Nat → Option Nat} {g : Nat → Nat → Int64} {φ ts cd : Nat → Nat → Nat} {nt f : Nat} (hW : WD sh r) (hF : isF sh r f) (hf : f ≤ 17) (hA : FA f φ a) (hI : FI φ) (hT : TX nt ts cd sh a r) (hTI : TI nt ts cd) (hlt : φ 7 2 < nt) {p d : Nat} (hpn : p < φ 7 3) (hd : d < 10) : Mt YX3_shotNow 4 0 0 [vr 31, vr f, vi (nI p), vi (nI d)] (sh, a, r, g) (g_EV sh r g (vi (nI (aim φ ts cd p d))) (fun a' => chg scR a a')) := by
  refine Mt_of rfl (Nat.le_of_ble_eq_true rfl) rfl ?_
  have hch : chg scR a a := chg_rf
  have hp6 : p < 6 := by have := FI_hu hI; omega
  have hki := FI_ki hI hp6
  refine Gd_aload_n (i := 1) rfl eX3_shotNow_0 ?_
  refine Gd_iload_n (i := 3) rfl eX3_shotNow_1 ?_
  refine Gd_callP (g_cV (x_isAlive hF hA hI (by first | omega | decide)) ok_X0_isAlive lk_RX3_88 (F_s0 hF) ⟨_, _, rfl⟩ rfl rfl (Nat.le_of_ble_eq_true rfl) (Nat.le_of_ble_eq_true rfl) (Nat.le_refl _) (Nat.le_refl _) eX3_shotNow_2) ?_
  refine Gd_if_neB eX3_shotNow_5 (fun c5 => ?_) (fun c5 => ?_)
  · refine Gd_aload_n (i := 0) rfl eX3_shotNow_10 ?_
    refine Gd_aload_n (i := 1) rfl eX3_shotNow_11 ?_
    refine Gd_iload_n (i := 2) rfl eX3_shotNow_12 ?_
    refine Gd_iload_n (i := 3) rfl eX3_shotNow_13 ?_
    refine Gd_callEV (g_cV (x_aimOf hW hF hf hA hI hT hTI hlt (by first | omega | decide) (by first | omega | decide)) ok_X3_aimOf lk_RX3_92 (W_s31 hW) ⟨_, _, rfl⟩ rfl rfl (Nat.le_of_ble_eq_true rfl) (Nat.le_of_ble_eq_true rfl) (Nat.le_refl _) (Nat.le_refl _) eX3_shotNow_14) (fun a hq => ?_)
    have hA := FA_R hA hf hq
    have hT := TX_R hT hq
    have hch := chg_tr hch hq
    refine Gd_aload_n (i := 1) rfl eX3_shotNow_17 ?_
    refine Gd_getR fl_RX3_33 (F_s0 hF) (F_r0 hF) eX3_shotNow_18 ?_
    refine Gd_iload_n (i := 3) rfl eX3_shotNow_21 ?_
    refine Gd_ialdE (v := nI (φ 0 d)) (F_s1 hF) (by first | omega | decide) (FA_sh hA (d := d) (by first | omega | decide) :) eX3_shotNow_22 ?_
    refine Gd_icmp_ge eX3_shotNow_23 (fun c23 => ?_) (fun c23 => ?_)
    · refine Gd_aload_n (i := 1) rfl eX3_shotNow_28 ?_
      refine Gd_iload_n (i := 2) rfl eX3_shotNow_29 ?_
      refine Gd_iload_n (i := 3) rfl eX3_shotNow_30 ?_
      refine Gd_callP (g_cV (x_hasCard hF hA hI (by first | omega | decide) (by first | omega | decide)) ok_X0_hasCard lk_RX3_81 (F_s0 hF) ⟨_, _, rfl⟩ rfl rfl (Nat.le_of_ble_eq_true rfl) (Nat.le_of_ble_eq_true rfl) (Nat.le_refl _) (Nat.le_refl _) eX3_shotNow_31) ?_
      refine Gd_if_eqB eX3_shotNow_34 (fun c34 => ?_) (fun c34 => ?_)
      · refine Gd_iconst ki_3 eX3_shotNow_41 ?_
        exact Gd_ireturn eX3_shotNow_42 rfl (Nat.le_refl _) (Nat.le_refl _) ⟨a, by simp [aim, c5, Int32.not_lt.mpr c23, c34], rfl, hch⟩
      · refine Gd_iconst ki_2 eX3_shotNow_37 ?_
        refine Gd_goto eX3_shotNow_38 ?_
        exact Gd_ireturn eX3_shotNow_42 rfl (Nat.le_refl _) (Nat.le_refl _) ⟨a, by simp [aim, c5, Int32.not_lt.mpr c23, c34], rfl, hch⟩
    · refine Gd_iconst ki_1 eX3_shotNow_26 ?_
      exact Gd_ireturn eX3_shotNow_27 rfl (Nat.le_refl _) (Nat.le_refl _) ⟨a, by simp [aim, c5, Int32.not_le.mp c23], rfl, hch⟩
  · refine Gd_iconst ki_0 eX3_shotNow_8 ?_
    exact Gd_ireturn eX3_shotNow_9 rfl (Nat.le_refl _) (Nat.le_refl _) ⟨a, by simp [aim, c5], rfl, hch⟩
theorem x_honourByHit {sh : List (Nat × Nat)} {a : Nat → Nat → Int32} {r : Nat → Nat → Option Nat} {g : Nat → Nat → Int64} {φ : Nat → Nat → Nat} {f : Nat} (hF : isF sh r f) (hA : FA f φ a) (hI : FI φ) {p d : Nat} (hp : p < 6) (hd : d < 10) : Mt YX0_honourByHit 1 0 0 [vr f, vi (nI p), vi (nI d)] (sh, a, r, g) (g_P (some (vi (nI (min 99 (φ 3 p + 1 + φ 0 d / 10))))) (sh, a, r, g)) := by
  refine Mt_of rfl (Nat.le_of_ble_eq_true rfl) rfl ?_
  have h1 := FI_ho hI hp
  have h2 := FI_sh hI hd
  refine Gd_bipush kb_99 eX0_honourByHit_0 ?_
  refine Gd_aload_n (i := 0) rfl eX0_honourByHit_2 ?_
  refine Gd_getR fl_RX0_34 (F_s0 hF) (F_r7 hF) eX0_honourByHit_3 ?_
  refine Gd_iload_n (i := 1) rfl eX0_honourByHit_6 ?_
  refine Gd_ialdE (v := nI (φ 3 p)) (F_s4 hF) (by first | omega | decide) (FA_ho hA (p := p) (by first | omega | decide) :) eX0_honourByHit_7 ?_
  refine Gd_iconst ki_1 eX0_honourByHit_8 ?_
  refine Gd_iaddN eX0_honourByHit_9 ?_
  refine Gd_aload_n (i := 0) rfl eX0_honourByHit_10 ?_
  refine Gd_getR fl_RX0_9 (F_s0 hF) (F_r0 hF) eX0_honourByHit_11 ?_
  refine Gd_iload_n (i := 2) rfl eX0_honourByHit_14 ?_
  refine Gd_ialdE (v := nI (φ 0 d)) (F_s1 hF) (by first | omega | decide) (FA_sh hA (d := d) (by first | omega | decide) :) eX0_honourByHit_15 ?_
  refine Gd_bipush kb_10 eX0_honourByHit_16 ?_
  refine Gd_idivN (by first | omega | decide) (by decide) eX0_honourByHit_18 ?_
  refine Gd_iaddN eX0_honourByHit_19 ?_
  refine Gd_mmin lk_RX0_52 (Nat.le_of_ble_eq_true rfl) (Nat.le_of_ble_eq_true rfl) (Nat.zero_le _) (Nat.zero_le _) eX0_honourByHit_20 ?_
  exact Gd_ireturn eX0_honourByHit_23 rfl (Nat.le_refl _) (Nat.le_refl _) ⟨by rw [imin_N (by omega) (by omega)], rfl⟩
theorem x_setAlive0 {sh : List (Nat × Nat)} {a : Nat → Nat → Int32} {r : Nat → Nat → Option Nat} {g : Nat → Nat → Int64} {φ : Nat → Nat → Nat} {f : Nat} (hF : isF sh r f) (hal : a f 1 = nI (φ 7 0)) {d : Nat} (hd : d < 10) : Mt YX0_setAlive 0 0 0 [vr f, vi (nI d), vi (nI 0)] (sh, a, r, g) (g_P none (sh, up2 a f 1 (nI (clr (φ 7 0) d)), r, g)) := by
  refine Mt_of rfl (Nat.le_of_ble_eq_true rfl) rfl ?_
  refine Gd_aload_n (i := 0) rfl eX0_setAlive_0 ?_
  refine Gd_iload_n (i := 2) rfl eX0_setAlive_1 ?_
  refine Gd_if_eq eX0_setAlive_2 (fun _ => ?_) (fun q => by first | exact absurd q (by decide) | exact absurd (by decide) q)
  refine Gd_aload_n (i := 0) rfl eX0_setAlive_16 ?_
  refine Gd_getIe (v := nI (φ 7 0)) fl_RX0_15 (F_s0 hF) hal eX0_setAlive_17 ?_
  refine Gd_iconst ki_1 eX0_setAlive_20 ?_
  refine Gd_iload_n (i := 1) rfl eX0_setAlive_21 ?_
  refine Gd_ishl1 (by first | omega | decide) eX0_setAlive_22 ?_
  refine Gd_iconst ki_m1 eX0_setAlive_23 ?_
  refine Gd_ixorM eX0_setAlive_24 ?_
  refine Gd_iandN eX0_setAlive_25 ?_
  refine Gd_putI fl_RX0_15 (F_s0 hF) eX0_setAlive_26 ?_
  exact Gd_return eX0_setAlive_29 rfl (Nat.le_refl _) (Nat.le_refl _) ⟨rfl, rfl⟩
theorem x_setAlive1 {sh : List (Nat × Nat)} {a : Nat → Nat → Int32} {r : Nat → Nat → Option Nat} {g : Nat → Nat → Int64} {φ : Nat → Nat → Nat} {f : Nat} (hF : isF sh r f) (hal : a f 1 = nI (φ 7 0)) {d : Nat} (hd : d < 10) : Mt YX0_setAlive 0 0 0 [vr f, vi (nI d), vi (nI 1)] (sh, a, r, g) (g_P none (sh, up2 a f 1 (nI (φ 7 0 ||| 2 ^ d)), r, g)) := by
  refine Mt_of rfl (Nat.le_of_ble_eq_true rfl) rfl ?_
  refine Gd_aload_n (i := 0) rfl eX0_setAlive_0 ?_
  refine Gd_iload_n (i := 2) rfl eX0_setAlive_1 ?_
  refine Gd_if_eq eX0_setAlive_2 (fun q => by first | exact absurd q (by decide) | exact absurd (by decide) q) (fun _ => ?_)
  refine Gd_aload_n (i := 0) rfl eX0_setAlive_5 ?_
  refine Gd_getIe (v := nI (φ 7 0)) fl_RX0_15 (F_s0 hF) hal eX0_setAlive_6 ?_
  refine Gd_iconst ki_1 eX0_setAlive_9 ?_
  refine Gd_iload_n (i := 1) rfl eX0_setAlive_10 ?_
  refine Gd_ishl1 (by first | omega | decide) eX0_setAlive_11 ?_
  refine Gd_iorN eX0_setAlive_12 ?_
  refine Gd_goto eX0_setAlive_13 ?_
  refine Gd_putI fl_RX0_15 (F_s0 hF) eX0_setAlive_26 ?_
  exact Gd_return eX0_setAlive_29 rfl (Nat.le_refl _) (Nat.le_refl _) ⟨rfl, rfl⟩
theorem x_shot {sh : List (Nat × Nat)} {a : Nat → Nat → Int32} {r : Nat → Nat → Option Nat} {g : Nat → Nat → Int64} {φ ts cd : Nat → Nat → Nat} {nt f : Nat} (hW : WD sh r) (hF : isF sh r f) (hf : f ≤ 17) (hA : FA f φ a) (hI : FI φ) (hT : TX nt ts cd sh a r) (hTI : TI nt ts cd) (hlt : φ 7 2 < nt) {p d : Nat} (hpn : p < φ 7 3) (hd : d < 10) : Mt YX3_shot 5 0 0 [vr 31, vr f, vi (nI p), vi (nI d)] (sh, a, r, g) (g_EV sh r g (vi (nI (aim φ ts cd p d))) (fun a' => FA f (shot φ ts cd p d) a' ∧ chg (scT f) a a')) := by
  refine Mt_of rfl (Nat.le_of_ble_eq_true rfl) rfl ?_
  have hch : chg scR a a := chg_rf
  have hp6 : p < 6 := by have := FI_hu hI; omega
  have hki := FI_ki hI hp6
  have hal := aim_le φ ts cd p d
  have hsh := FI_sh hI hd
  have hho := FI_ho hI hp6
  refine Gd_aload_n (i := 0) rfl eX3_shot_0 ?_
  refine Gd_aload_n (i := 1) rfl eX3_shot_1 ?_
  refine Gd_iload_n (i := 2) rfl eX3_shot_2 ?_
  refine Gd_iload_n (i := 3) rfl eX3_shot_3 ?_
  refine Gd_callEV (g_cV (x_shotNow hW hF hf hA hI hT hTI hlt (by first | omega | decide) (by first | omega | decide)) ok_X3_shotNow lk_RX3_96 (W_s31 hW) ⟨_, _, rfl⟩ rfl rfl (Nat.le_of_ble_eq_true rfl) (Nat.le_of_ble_eq_true rfl) (Nat.le_refl _) (Nat.le_refl _) eX3_shot_4) (fun a hq => ?_)
  have hA := FA_R hA hf hq
  have hT := TX_R hT hq
  have hch := chg_tr hch hq
  refine Gd_istore4 rfl eX3_shot_7 ?_
  refine Gd_iload (i := 4) rfl eX3_shot_9 ?_
  refine Gd_iconst ki_1 eX3_shot_11 ?_
  refine Gd_icmp_neN (by first | omega | decide) (by first | omega | decide) eX3_shot_12 (fun c12 => ?_) (fun c12 => ?_)
  · refine Gd_iload (i := 4) rfl eX3_shot_37 ?_
    refine Gd_iconst ki_2 eX3_shot_39 ?_
    refine Gd_icmp_neN (by first | omega | decide) (by first | omega | decide) eX3_shot_40 (fun c40 => ?_) (fun c40 => ?_)
    · refine Gd_iload (i := 4) rfl eX3_shot_64 ?_
      refine Gd_iconst ki_3 eX3_shot_66 ?_
      refine Gd_icmp_neN (by first | omega | decide) (by first | omega | decide) eX3_shot_67 (fun c67 => ?_) (fun c67 => ?_)
      · refine Gd_iload (i := 4) rfl eX3_shot_95 ?_
        exact Gd_ireturn eX3_shot_97 rfl (Nat.le_refl _) (Nat.le_refl _) ⟨_, rfl, rfl, by rw [shot, if_pos (by omega)]; exact hA, chg_mono hch (fun k j => scT_R)⟩
      · refine Gd_aload_n (i := 1) rfl eX3_shot_70 ?_
        refine Gd_getR fl_RX3_28 (F_s0 hF) (F_r7 hF) eX3_shot_71 ?_
        refine Gd_iload_n (i := 2) rfl eX3_shot_74 ?_
        refine Gd_iconst ki_0 eX3_shot_75 ?_
        refine Gd_aload_n (i := 1) rfl eX3_shot_76 ?_
        refine Gd_getR fl_RX3_28 (F_s0 hF) (F_r7 hF) eX3_shot_77 ?_
        refine Gd_iload_n (i := 2) rfl eX3_shot_80 ?_
        refine Gd_ialdE (v := nI (φ 3 p)) (F_s4 hF) (by first | omega | decide) (FA_ho hA (p := p) (by first | omega | decide) :) eX3_shot_81 ?_
        refine Gd_bipush kb_10 eX3_shot_82 ?_
        refine Gd_isub eX3_shot_84 ?_
        refine Gd_mmax lk_RX3_67 (Nat.le_of_ble_eq_true rfl) (Nat.le_of_ble_eq_true rfl) (Nat.zero_le _) (Nat.zero_le _) eX3_shot_85 ?_
        rw [imax_m10 (by omega)]
        refine Gd_iastN (F_s4 hF) (by first | omega | decide) eX3_shot_88 ?_
        refine Gd_aload_n (i := 1) rfl eX3_shot_89 ?_
        refine Gd_iload_n (i := 3) rfl eX3_shot_90 ?_
        refine Gd_iconst ki_0 eX3_shot_91 ?_
        refine Gd_callP0 (g_cV (x_setAlive0 hF (φ := φ) (by rw [up2_k _ _ (by omega)]; exact FA_al hA) (by first | omega | decide)) ok_X0_setAlive lk_RX3_102 (F_s0 hF) ⟨_, _, rfl⟩ rfl rfl (Nat.le_of_ble_eq_true rfl) (Nat.le_of_ble_eq_true rfl) (Nat.le_refl _) (Nat.le_refl _) eX3_shot_92) rfl ?_
        have hA2 : FA f (fu (fu φ 7 0 (clr (φ 7 0) d)) 3 p (φ 3 p - 10)) (up2 (up2 a (f + 4) p (nI (φ 3 p - 10))) f 1 (nI (clr (φ 7 0) d))) := by
          have h1 := FA_setho (p := p) (v := φ 3 p - 10) (FA_setal (v := clr (φ 7 0) d) hA)
          have e : up2 (up2 a f 1 (nI (clr (φ 7 0) d))) (f + 4) p (nI (φ 3 p - 10)) = up2 (up2 a (f + 4) p (nI (φ 3 p - 10))) f 1 (nI (clr (φ 7 0) d)) := up2_comm _ _ _ _ _ (by omega)
          rw [e] at h1; exact h1
        refine Gd_iload (i := 4) rfl eX3_shot_95 ?_
        exact Gd_ireturn eX3_shot_97 rfl (Nat.le_refl _) (Nat.le_refl _) ⟨_, rfl, rfl, by rw [shot, if_neg (by omega), if_neg c12, if_neg c40]; exact hA2, chg_up (chg_up (chg_mono hch (fun k j => scT_R)) (by simp [scT])) (by simp [scT])⟩
    · refine Gd_aload_n (i := 1) rfl eX3_shot_43 ?_
      refine Gd_getR fl_RX3_28 (F_s0 hF) (F_r7 hF) eX3_shot_44 ?_
      refine Gd_iload_n (i := 2) rfl eX3_shot_47 ?_
      refine Gd_aload_n (i := 1) rfl eX3_shot_48 ?_
      refine Gd_iload_n (i := 2) rfl eX3_shot_49 ?_
      refine Gd_iload_n (i := 3) rfl eX3_shot_50 ?_
      refine Gd_callP (g_cV (x_honourByHit hF hA hI (by first | omega | decide) (by first | omega | decide)) ok_X0_honourByHit lk_RX3_99 (F_s0 hF) ⟨_, _, rfl⟩ rfl rfl (Nat.le_of_ble_eq_true rfl) (Nat.le_of_ble_eq_true rfl) (Nat.le_refl _) (Nat.le_refl _) eX3_shot_51) ?_
      rw [Nat.add_assoc]
      refine Gd_iastN (F_s4 hF) (by first | omega | decide) eX3_shot_54 ?_
      refine Gd_aload_n (i := 1) rfl eX3_shot_55 ?_
      refine Gd_iload_n (i := 3) rfl eX3_shot_56 ?_
      refine Gd_iconst ki_0 eX3_shot_57 ?_
      refine Gd_callP0 (g_cV (x_setAlive0 hF (φ := φ) (by rw [up2_k _ _ (by omega)]; exact FA_al hA) (by first | omega | decide)) ok_X0_setAlive lk_RX3_102 (F_s0 hF) ⟨_, _, rfl⟩ rfl rfl (Nat.le_of_ble_eq_true rfl) (Nat.le_of_ble_eq_true rfl) (Nat.le_refl _) (Nat.le_refl _) eX3_shot_58) rfl ?_
      have hA2 : FA f (fu (fu φ 7 0 (clr (φ 7 0) d)) 3 p (min 99 (φ 3 p + (1 + φ 0 d / 10)))) (up2 (up2 a (f + 4) p (nI (min 99 (φ 3 p + (1 + φ 0 d / 10))))) f 1 (nI (clr (φ 7 0) d))) := by
        have h1 := FA_setho (p := p) (v := min 99 (φ 3 p + (1 + φ 0 d / 10))) (FA_setal (v := clr (φ 7 0) d) hA)
        have e : up2 (up2 a f 1 (nI (clr (φ 7 0) d))) (f + 4) p (nI (min 99 (φ 3 p + (1 + φ 0 d / 10)))) = up2 (up2 a (f + 4) p (nI (min 99 (φ 3 p + (1 + φ 0 d / 10))))) f 1 (nI (clr (φ 7 0) d)) := up2_comm _ _ _ _ _ (by omega)
        rw [e] at h1; exact h1
      refine Gd_goto eX3_shot_61 ?_
      refine Gd_iload (i := 4) rfl eX3_shot_95 ?_
      exact Gd_ireturn eX3_shot_97 rfl (Nat.le_refl _) (Nat.le_refl _) ⟨_, rfl, rfl, by rw [shot, if_neg (by omega), if_neg c12, if_pos c40]; exact hA2, chg_up (chg_up (chg_mono hch (fun k j => scT_R)) (by simp [scT])) (by simp [scT])⟩
  · refine Gd_aload_n (i := 1) rfl eX3_shot_15 ?_
    refine Gd_getR fl_RX3_33 (F_s0 hF) (F_r0 hF) eX3_shot_16 ?_
    refine Gd_iload_n (i := 3) rfl eX3_shot_19 ?_
    refine Gd_bipush kb_99 eX3_shot_20 ?_
    refine Gd_aload_n (i := 1) rfl eX3_shot_22 ?_
    refine Gd_getR fl_RX3_33 (F_s0 hF) (F_r0 hF) eX3_shot_23 ?_
    refine Gd_iload_n (i := 3) rfl eX3_shot_26 ?_
    refine Gd_ialdE (v := nI (φ 0 d)) (F_s1 hF) (by first | omega | decide) (FA_sh hA (d := d) (by first | omega | decide) :) eX3_shot_27 ?_
    refine Gd_iconst ki_5 eX3_shot_28 ?_
    refine Gd_iaddN eX3_shot_29 ?_
    refine Gd_mmin lk_RX3_61 (Nat.le_of_ble_eq_true rfl) (Nat.le_of_ble_eq_true rfl) (Nat.zero_le _) (Nat.zero_le _) eX3_shot_30 ?_
    rw [imin_N (by omega) (by omega)]
    refine Gd_iastN (F_s1 hF) (by first | omega | decide) eX3_shot_33 ?_
    refine Gd_goto eX3_shot_34 ?_
    refine Gd_iload (i := 4) rfl eX3_shot_95 ?_
    exact Gd_ireturn eX3_shot_97 rfl (Nat.le_refl _) (Nat.le_refl _) ⟨_, rfl, rfl, by rw [shot, if_neg (by omega), if_pos c12]; exact FA_setsh hA, chg_up (chg_mono hch (fun k j => scT_R)) (by simp [scT])⟩
theorem x_reward {sh : List (Nat × Nat)} {a : Nat → Nat → Int32} {r : Nat → Nat → Option Nat} {g : Nat → Nat → Int64} {φ ts cd : Nat → Nat → Nat} {nt f : Nat} (hW : WD sh r) (hF : isF sh r f) (hf : f ≤ 17) (hA : FA f φ a) (hI : FI φ) (hT : TX nt ts cd sh a r) (hTI : TI nt ts cd) (hlt : φ 7 2 < nt) {p : Nat} (hpn : p < φ 7 3) : Mt YX3_reward 4 0 0 [vr 31, vr f, vi (nI p)] (sh, a, r, g) (g_EV sh r g (vi (nI (rewN φ ts cd p))) (fun a' => FA f (fu φ 3 p (rewN φ ts cd p)) a' ∧ chg (scT f) a a')) := by
  refine Mt_of rfl (Nat.le_of_ble_eq_true rfl) rfl ?_
  have hch : chg scR a a := chg_rf
  have hp6 : p < 6 := by have := FI_hu hI; omega
  have hki := FI_ki hI hp6
  refine Gd_aload_n (i := 1) rfl eX3_reward_0 ?_
  refine Gd_getR fl_RX3_28 (F_s0 hF) (F_r7 hF) eX3_reward_1 ?_
  refine Gd_iload_n (i := 2) rfl eX3_reward_4 ?_
  refine Gd_ialdE (v := nI (φ 3 p)) (F_s4 hF) (by first | omega | decide) (FA_ho hA (p := p) (by first | omega | decide) :) eX3_reward_5 ?_
  refine Gd_aload_n (i := 0) rfl eX3_reward_6 ?_
  refine Gd_aload_n (i := 1) rfl eX3_reward_7 ?_
  refine Gd_iload_n (i := 2) rfl eX3_reward_8 ?_
  refine Gd_callEV (g_cV (x_gainOf hW hF hf hA hI hT hTI hlt (by first | omega | decide)) ok_X3_gainOf lk_RX3_84 (W_s31 hW) ⟨_, _, rfl⟩ rfl rfl (Nat.le_of_ble_eq_true rfl) (Nat.le_of_ble_eq_true rfl) (Nat.le_refl _) (Nat.le_refl _) eX3_reward_9) (fun a hq => ?_)
  have hA := FA_R hA hf hq
  have hT := TX_R hT hq
  have hch := chg_tr hch hq
  refine Gd_iadd eX3_reward_12 ?_
  refine Gd_istore_n3 rfl eX3_reward_13 ?_
  refine Gd_aload_n (i := 1) rfl eX3_reward_14 ?_
  refine Gd_getR fl_RX3_28 (F_s0 hF) (F_r7 hF) eX3_reward_15 ?_
  refine Gd_iload_n (i := 2) rfl eX3_reward_18 ?_
  refine Gd_iconst ki_0 eX3_reward_19 ?_
  refine Gd_bipush kb_99 eX3_reward_20 ?_
  refine Gd_iload_n (i := 3) rfl eX3_reward_22 ?_
  refine Gd_mmin lk_RX3_61 (Nat.le_of_ble_eq_true rfl) (Nat.le_of_ble_eq_true rfl) (Nat.zero_le _) (Nat.zero_le _) eX3_reward_23 ?_
  refine Gd_mmax lk_RX3_67 (Nat.le_of_ble_eq_true rfl) (Nat.le_of_ble_eq_true rfl) (Nat.zero_le _) (Nat.zero_le _) eX3_reward_26 ?_
  rw [mm_wth _ _ _ (by decide)]
  have e0 : wth (nI (φ 3 p) + gains φ ts cd p) (nI 0) (nI 99) = nI (rewN φ ts cd p) := rewI_eq φ ts cd p
  rw [e0]
  have hA2 := FA_setho (p := p) (v := rewN φ ts cd p) hA
  refine Gd_iastN (F_s4 hF) (by first | omega | decide) eX3_reward_29 ?_
  refine Gd_aload_n (i := 1) rfl eX3_reward_30 ?_
  refine Gd_getR fl_RX3_28 (F_s0 hF) (F_r7 hF) eX3_reward_31 ?_
  refine Gd_iload_n (i := 2) rfl eX3_reward_34 ?_
  refine Gd_ialdE (v := nI (rewN φ ts cd p)) (F_s4 hF) (by first | omega | decide) (up2_s _ _ _ _) eX3_reward_35 ?_
  exact Gd_ireturn eX3_reward_36 rfl (Nat.le_refl _) (Nat.le_refl _) ⟨_, rfl, rfl, hA2, chg_up (chg_mono hch (fun k j => scT_R)) (by simp [scT])⟩
