theorem m_lots_L {sh : List (Nat × Nat)} {r : Nat → Nat → Option Nat} {g : Nat → Nat → Int64} {ts cd : Nat → Nat → Nat} {nt : Nat} (hW : WD sh r) (hTI : TI nt ts cd) {n0 : Nat} {x1 : Int32} {Q : Option g_V → g_H → Prop} {N0 : Nat} {φ0 : Nat → Nat → Nat} {a0 : Nat → Nat → Int32} : ∀ (n k h l : Nat) (φ : Nat → Nat → Nat) (a : Nat → Nat → Int32) (x6 : Option g_V), k + n = n0 → h ≤ k ∧ n0 ≤ 60 → l < 2147483648 → MA φ a → FI φ → TM nt ts cd a → φ 7 2 < nt → KA φ0 a → likeF φ0 φ → a 50 35 = nI h → chg scZ a0 a → (∀ a', MA φ0 a' → a' 50 35 = nI (h + lsH ts cd n l φ) → chg scZ a0 a' → Q (some (vi (nI (lsF ts cd n l φ 7 0)))) (sh, a', r, g)) → Gd YX8_lotSeasons (z0 6 N0 Q) 0 0 17 [some (vr 50), some (vi x1), some (vi (nI n0)), some (vl (lN l)), none, some (vi (nI k)), x6] [] (sh, a, r, g)
  | 0, k, h, l, φ, a, x6, hn, hhk, hl, hM, hI, hT, hlt, hK, hlk, h35, hc, kq => by
    have hhu := FI_hu hI
    refine Gd_iload (i := 5) rfl eX8_lotSeasons_17 ?_
    refine Gd_iload_n (i := 2) rfl eX8_lotSeasons_19 ?_
    refine Gd_icmp_geN (by first | omega | decide) (by first | omega | decide) eX8_lotSeasons_20 (fun c20 => ?_) (fun c20 => ?_)
    · refine Gd_aload_n (i := 0) rfl eX8_lotSeasons_101 ?_
      refine Gd_getIe (v := nI (φ 7 0)) fl_RX8_22 (W_s50 hW) (MA_al hM :) eX8_lotSeasons_102 ?_
      refine Gd_istore5 rfl eX8_lotSeasons_105 ?_
      refine Gd_aload_n (i := 0) rfl eX8_lotSeasons_107 ?_
      refine Gd_callE0 (g_cV (m_lays hW hM hK) ok_X8_lays lk_RX8_251 (W_s50 hW) ⟨_, _, rfl⟩ rfl rfl (Nat.le_of_ble_eq_true rfl) (Nat.le_of_ble_eq_true rfl) (Nat.le_refl _) (Nat.le_refl _) eX8_lotSeasons_108) (fun a4 hq4 => ?_)
      obtain ⟨hM4, hq4⟩ := hq4
      rw [lay_like hlk] at hM4
      refine Gd_iload (i := 5) rfl eX8_lotSeasons_111 ?_
      exact Gd_ireturn eX8_lotSeasons_113 rfl (Nat.le_refl _) (Nat.le_refl _) (kq a4 hM4 ((hq4 _ _ rfl).trans (h35.trans (by rw [show lsH ts cd 0 l φ = 0 from rfl, Nat.add_zero]))) (chg_tr hc (chg_mono2 scZ_L hq4)))
    · exact absurd c20 (by omega)
  | n + 1, k, h, l, φ, a, x6, hn, hhk, hl, hM, hI, hT, hlt, hK, hlk, h35, hc, kq => by
    have hhu := FI_hu hI
    refine Gd_iload (i := 5) rfl eX8_lotSeasons_17 ?_
    refine Gd_iload_n (i := 2) rfl eX8_lotSeasons_19 ?_
    refine Gd_icmp_geN (by first | omega | decide) (by first | omega | decide) eX8_lotSeasons_20 (fun c20 => ?_) (fun c20 => ?_)
    · exact absurd c20 (by omega)
    · have hd10 : lsd l < 10 := Nat.mod_lt _ (by decide)
      have hp66 : lsp l < 6 := Nat.mod_lt _ (by decide)
      have hl1 := lot1_lt l
      have hl2 := lot1_lt (lot1 l)
      have hal := aim_le φ ts cd (lsp l) (lsd l)
      have hM0 := lN_ne0 (n := 2147483647) (by decide) (by decide)
      have hM6 := lN_ne0 (n := 6) (by decide) (by decide)
      have hM10 := lN_ne0 (n := 10) (by decide) (by decide)
      refine Gd_lload_n (i := 3) rfl eX8_lotSeasons_23 ?_
      refine Gd_ldc2 (v := lN 48271) ct_RX8_275 eX8_lotSeasons_24 ?_
      refine Gd_lmul eX8_lotSeasons_27 ?_
      rw [lN_mul]
      refine Gd_ldc2 (v := lN 2147483647) ct_RX8_277 eX8_lotSeasons_28 ?_
      refine Gd_lrem (by assumption) eX8_lotSeasons_31 ?_
      rw [pk_lRem (by omega) (by decide) (by decide), show l * 48271 % 2147483647 = lot1 l from rfl]
      refine Gd_lstore_n3 rfl eX8_lotSeasons_32 ?_
      refine Gd_lload_n (i := 3) rfl eX8_lotSeasons_33 ?_
      refine Gd_ldc2 (v := lN 6) ct_RX8_279 eX8_lotSeasons_34 ?_
      refine Gd_lrem (by assumption) eX8_lotSeasons_37 ?_
      rw [pk_lRem (by omega) (by decide) (by decide)]
      refine Gd_l2i eX8_lotSeasons_38 ?_
      rw [lN_i, show lot1 l % 6 = lsp l from rfl]
      refine Gd_iconst ki_0 eX8_lotSeasons_39 ?_
      refine Gd_iconst ki_5 eX8_lotSeasons_40 ?_
      refine Gd_callP (g_cS (m_within _ _ _) ok_X8_within lk_RX8_183 rfl rfl (Nat.le_of_ble_eq_true rfl) (Nat.le_of_ble_eq_true rfl) (Nat.le_refl _) (Nat.le_refl _) eX8_lotSeasons_41) ?_
      rw [wth_5' hp66]
      refine Gd_istore6 rfl eX8_lotSeasons_44 ?_
      refine Gd_lload_n (i := 3) rfl eX8_lotSeasons_46 ?_
      refine Gd_ldc2 (v := lN 48271) ct_RX8_275 eX8_lotSeasons_47 ?_
      refine Gd_lmul eX8_lotSeasons_50 ?_
      rw [lN_mul]
      refine Gd_ldc2 (v := lN 2147483647) ct_RX8_277 eX8_lotSeasons_51 ?_
      refine Gd_lrem (by assumption) eX8_lotSeasons_54 ?_
      rw [pk_lRem (by omega) (by decide) (by decide), show lot1 l * 48271 % 2147483647 = lot1 (lot1 l) from rfl]
      refine Gd_lstore_n3 rfl eX8_lotSeasons_55 ?_
      refine Gd_iload (i := 6) rfl eX8_lotSeasons_56 ?_
      refine Gd_aload_n (i := 0) rfl eX8_lotSeasons_58 ?_
      refine Gd_getIe (v := nI (φ 7 3)) fl_RX8_81 (W_s50 hW) (MA_hu hM :) eX8_lotSeasons_59 ?_
      refine Gd_icmp_geN (by first | omega | decide) (by first | omega | decide) eX8_lotSeasons_62 (fun c62 => ?_) (fun c62 => ?_)
      · refine Gd_iinc5 (ho := rfl) (he := nI_inc _) eX8_lotSeasons_95 ?_
        refine Gd_goto eX8_lotSeasons_98 ?_
        have eF : lsF ts cd (n + 1) l φ = lsF ts cd n (lot1 (lot1 l)) φ := by rw [lsF, if_neg (by omega)]
        have eH : lsH ts cd (n + 1) l φ = lsH ts cd n (lot1 (lot1 l)) φ := by rw [lsH, if_neg (fun z => by omega), if_neg (by omega), Nat.zero_add]
        rw [eF, eH] at kq
        exact m_lots_L hW hTI n (k + 1) h _ φ a _ (by omega) (by omega) (by omega) hM hI hT hlt hK hlk h35 hc kq
      · refine Gd_aload_n (i := 0) rfl eX8_lotSeasons_65 ?_
        refine Gd_dup rfl eX8_lotSeasons_66 ?_
        refine Gd_getIe (v := nI (h)) fl_RX8_272 (W_s50 hW) (h35 :) eX8_lotSeasons_67 ?_
        refine Gd_aload_n (i := 0) rfl eX8_lotSeasons_70 ?_
        refine Gd_iload (i := 6) rfl eX8_lotSeasons_71 ?_
        refine Gd_lload_n (i := 3) rfl eX8_lotSeasons_73 ?_
        refine Gd_ldc2 (v := lN 10) ct_RX8_281 eX8_lotSeasons_74 ?_
        refine Gd_lrem (by assumption) eX8_lotSeasons_77 ?_
        rw [pk_lRem (by omega) (by decide) (by decide)]
        refine Gd_l2i eX8_lotSeasons_78 ?_
        rw [lN_i, show lot1 (lot1 l) % 10 = lsd l from rfl]
        refine Gd_callEV (g_cV (m_shotOf hW hM hI hT hTI hlt c62 hd10) ok_X8_shotOf lk_RX8_235 (W_s50 hW) ⟨_, _, rfl⟩ rfl rfl (Nat.le_of_ble_eq_true rfl) (Nat.le_of_ble_eq_true rfl) (Nat.le_refl _) (Nat.le_refl _) eX8_lotSeasons_79) (fun a2 hq => ?_)
        obtain ⟨hM2, hq⟩ := hq
        refine Gd_iconst ki_2 eX8_lotSeasons_82 ?_
        refine Gd_icmp_neN (by first | omega | decide) (by first | omega | decide) eX8_lotSeasons_83 (fun c83 => ?_) (fun c83 => ?_)
        · refine Gd_iconst ki_0 eX8_lotSeasons_90 ?_
          refine Gd_iaddN eX8_lotSeasons_91 ?_
          refine Gd_putI fl_RX8_272 (W_s50 hW) eX8_lotSeasons_92 ?_
          refine Gd_iinc5 (ho := rfl) (he := nI_inc _) eX8_lotSeasons_95 ?_
          refine Gd_goto eX8_lotSeasons_98 ?_
          have eF : lsF ts cd (n + 1) l φ = lsF ts cd n (lot1 (lot1 l)) (shot φ ts cd (lsp l) (lsd l)) := by rw [lsF, if_pos c62]
          have eH : lsH ts cd (n + 1) l φ = 0 + lsH ts cd n (lot1 (lot1 l)) (shot φ ts cd (lsp l) (lsd l)) := by rw [lsH, if_neg (fun z => c83 z.2), if_pos c62]
          rw [eF, eH, ← Nat.add_assoc] at kq
          have hcu : chg scM a2 (up2 a2 50 35 (nI (h + 0))) := chg_up chg_rf rfl
          exact m_lots_L hW hTI n (k + 1) (h + 0) _ _ (up2 a2 50 35 (nI (h + 0))) _ (by omega) (by omega) (by omega) (MA_sc hM2 hcu) (FI_shot hI hp66 hd10) (TM_sc (TM_scS hT hq) hcu) (by rw [shot_la]; exact hlt) (KA_ch (KA_ch hK hq (fun j => rfl)) hcu (fun j => rfl)) (like_shot hlk) (up2_s _ _ _ _) (chg_tr hc (chg_up (chg_mono2 scZ_S hq) rfl)) kq
        · refine Gd_iconst ki_1 eX8_lotSeasons_86 ?_
          refine Gd_goto eX8_lotSeasons_87 ?_
          refine Gd_iaddN eX8_lotSeasons_91 ?_
          refine Gd_putI fl_RX8_272 (W_s50 hW) eX8_lotSeasons_92 ?_
          refine Gd_iinc5 (ho := rfl) (he := nI_inc _) eX8_lotSeasons_95 ?_
          refine Gd_goto eX8_lotSeasons_98 ?_
          have eF : lsF ts cd (n + 1) l φ = lsF ts cd n (lot1 (lot1 l)) (shot φ ts cd (lsp l) (lsd l)) := by rw [lsF, if_pos c62]
          have eH : lsH ts cd (n + 1) l φ = 1 + lsH ts cd n (lot1 (lot1 l)) (shot φ ts cd (lsp l) (lsd l)) := by rw [lsH, if_pos ⟨c62, c83⟩, if_pos c62]
          rw [eF, eH, ← Nat.add_assoc] at kq
          have hcu : chg scM a2 (up2 a2 50 35 (nI (h + 1))) := chg_up chg_rf rfl
          exact m_lots_L hW hTI n (k + 1) (h + 1) _ _ (up2 a2 50 35 (nI (h + 1))) _ (by omega) (by omega) (by omega) (MA_sc hM2 hcu) (FI_shot hI hp66 hd10) (TM_sc (TM_scS hT hq) hcu) (by rw [shot_la]; exact hlt) (KA_ch (KA_ch hK hq (fun j => rfl)) hcu (fun j => rfl)) (like_shot hlk) (up2_s _ _ _ _) (chg_tr hc (chg_up (chg_mono2 scZ_S hq) rfl)) kq
theorem m_lotSeasons {sh : List (Nat × Nat)} {a : Nat → Nat → Int32} {r : Nat → Nat → Option Nat} {g : Nat → Nat → Int64} {φ ts cd : Nat → Nat → Nat} {nt : Nat} (hW : WD sh r) (hM : MA φ a) (hI : FI φ) (hT : TM nt ts cd a) (hTI : TI nt ts cd) (hlt : φ 7 2 < nt) {s n : Nat} (hs : s < 200000) (hn : n ≤ 60) : Mt YX8_lotSeasons 6 0 0 [vr 50, vi (nI s), vi (nI n)] (sh, a, r, g) (g_EV sh r g (vi (nI (lsF ts cd n (s + 1) φ 7 0))) (fun a' => MA φ a' ∧ a' 50 35 = nI (lsH ts cd n (s + 1) φ) ∧ chg scZ a a')) := by
  refine Mt_of rfl (Nat.le_of_ble_eq_true rfl) rfl ?_
  refine Gd_iload_n (i := 1) rfl eX8_lotSeasons_0 ?_
  refine Gd_i2l eX8_lotSeasons_1 ?_
  refine Gd_lconst (v := lN 1) rfl eX8_lotSeasons_2 ?_
  refine Gd_ladd eX8_lotSeasons_3 ?_
  rw [nI_l (by omega), lN_add]
  refine Gd_lstore_n3 rfl eX8_lotSeasons_4 ?_
  refine Gd_aload_n (i := 0) rfl eX8_lotSeasons_5 ?_
  refine Gd_iconst ki_0 eX8_lotSeasons_6 ?_
  refine Gd_putI fl_RX8_272 (W_s50 hW) eX8_lotSeasons_7 ?_
  refine Gd_aload_n (i := 0) rfl eX8_lotSeasons_10 ?_
  have hc0 : chg scM a (up2 a 50 35 (nI 0)) := chg_up chg_rf rfl
  refine Gd_callE0 (g_cV (m_keeps hW (MA_sc hM (chg_up chg_rf rfl))) ok_X8_keeps lk_RX8_244 (W_s50 hW) ⟨_, _, rfl⟩ rfl rfl (Nat.le_of_ble_eq_true rfl) (Nat.le_of_ble_eq_true rfl) (Nat.le_refl _) (Nat.le_refl _) eX8_lotSeasons_11) (fun a2 hq2 => ?_)
  obtain ⟨hK, hq2⟩ := hq2
  refine Gd_iconst ki_0 eX8_lotSeasons_14 ?_
  refine Gd_istore5 rfl eX8_lotSeasons_15 ?_
  exact m_lots_L hW hTI n 0 0 (s + 1) φ a2 _ (by omega) (by omega) (by omega) (MA_K69 (MA_sc hM hc0) hq2) hI (TM_ch (TM_sc hT hc0) hq2 (fun k j q => by simp [rT] at q; simp [s69]; omega)) hlt hK (fun x y _ _ _ => rfl) ((hq2 _ _ rfl).trans (up2_s _ _ _ _)) (chg_tr (chg_up chg_rf rfl) (chg_mono2 scZ_69 hq2)) (fun a' k1 k2 k3 => ⟨a', rfl, rfl, k1, k2.trans (by rw [Nat.zero_add]), k3⟩)
