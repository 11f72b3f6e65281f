/-- a known answer, numbers of which R holds; the longs are any -/
def g_EG (sh : List (Nat × Nat)) (r : Nat → Nat → Option Nat) (x : g_V) (R : (Nat → Nat → Int32) → Prop) : Option g_V → g_H → Prop := fun v h' => ∃ (a' : Nat → Nat → Int32) (g' : Nat → Nat → Int64), v = some x ∧ h' = (sh, a', r, g') ∧ R a'
theorem Gd_callEG {Y : g_Y} {Z : g_Z} {k n pc pc' : Nat} {L : List (Option g_V)} {st rest : List g_V} {sh : List (Nat × Nat)} {a : Nat → Nat → Int32} {r r' : Nat → Nat → Option Nat} {g : Nat → Nat → Int64} {x : g_V} {R : (Nat → Nat → Int32) → Prop} (hc : g_Call Y Z k n pc L st rest (sh, a, r, g) 0 0 (g_EG sh r' x R) pc') (kk : ∀ (a' : Nat → Nat → Int32) (g' : Nat → Nat → Int64), R a' → Gd Y Z k n pc' L (x :: rest) (sh, a', r', g')) : Gd Y Z k n pc L st (sh, a, r, g) := g_call0 hc (fun v h' q => by obtain ⟨a', g', rfl, rfl, q⟩ := q; exact ⟨rfl, kk a' g' q⟩)
theorem upL_s (g : Nat → Nat → Int64) (k j : Nat) (v : Int64) : upL g k j v k j = v := by simp [upL]
theorem wth_5' {b : Nat} (h : b < 6) : wth (nI b) (nI 0) (nI 5) = nI b := wth_5 b h
theorem x_lbegin {sh : List (Nat × Nat)} {a : Nat → Nat → Int32} {r : Nat → Nat → Option Nat} {g : Nat → Nat → Int64} (hW : WD sh r) {m : Nat} (hm : m < 1000000) : Mt YX1_begin 0 0 0 [vr 37, vi (nI m)] (sh, a, r, g) (g_P none (sh, a, r, upL g 37 0 (lN (m + 1)))) := by
  refine Mt_of rfl (Nat.le_of_ble_eq_true rfl) rfl ?_
  refine Gd_aload_n (i := 0) rfl eX1_begin_0 ?_
  refine Gd_iload_n (i := 1) rfl eX1_begin_1 ?_
  refine Gd_iconst ki_1 eX1_begin_2 ?_
  refine Gd_iaddN eX1_begin_3 ?_
  refine Gd_i2l eX1_begin_4 ?_
  rw [nI_l (by omega)]
  refine Gd_putL fl_RX1_7 (W_s37 hW) eX1_begin_5 ?_
  exact Gd_return eX1_begin_8 rfl (Nat.le_refl _) (Nat.le_refl _) ⟨rfl, rfl⟩
theorem x_lnext6 {sh : List (Nat × Nat)} {a : Nat → Nat → Int32} {r : Nat → Nat → Option Nat} {g : Nat → Nat → Int64} (hW : WD sh r) {l : Nat} (hg : g 37 0 = lN l) (hl : l < 2147483648) : Mt YX1_next 0 0 0 [vr 37, vi (nI 6)] (sh, a, r, g) (g_P (some (vi (nI (lot1 l % 6)))) (sh, a, r, upL g 37 0 (lN (lot1 l)))) := by
  refine Mt_of rfl (Nat.le_of_ble_eq_true rfl) rfl ?_
  have hM0 := lN_ne0 (n := 2147483647) (by decide) (by decide)
  refine Gd_aload_n (i := 0) rfl eX1_next_0 ?_
  refine Gd_aload_n (i := 0) rfl eX1_next_1 ?_
  refine Gd_getL fl_RX1_7 (W_s37 hW) eX1_next_2 ?_
  rw [hg]
  refine Gd_ldc2 (v := lN 48271) ct_RX1_13 eX1_next_5 ?_
  refine Gd_lmul eX1_next_8 ?_
  rw [lN_mul]
  refine Gd_ldc2 (v := lN 2147483647) ct_RX1_15 eX1_next_9 ?_
  refine Gd_lrem (by assumption) eX1_next_12 ?_
  rw [pk_lRem (by omega) (by decide) (by decide)]
  have hlt := lot1_lt l
  refine Gd_putL fl_RX1_7 (W_s37 hW) eX1_next_13 ?_
  refine Gd_iload_n (i := 1) rfl eX1_next_16 ?_
  refine Gd_if_le eX1_next_17 (fun q => by first | exact absurd q (by decide) | exact absurd (by decide) q) (fun _ => ?_)
  refine Gd_aload_n (i := 0) rfl eX1_next_20 ?_
  refine Gd_getL fl_RX1_7 (W_s37 hW) eX1_next_21 ?_
  rw [upL_s, show l * 48271 % 2147483647 = lot1 l from rfl]
  refine Gd_iload_n (i := 1) rfl eX1_next_24 ?_
  refine Gd_i2l eX1_next_25 ?_
  rw [nI_l (by decide)]
  have hne := lN_ne0 (n := 6) (by decide) (by decide)
  refine Gd_lrem (by assumption) eX1_next_26 ?_
  rw [pk_lRem (by omega) (by decide) (by decide)]
  refine Gd_l2i eX1_next_27 ?_
  rw [lN_i]
  refine Gd_goto eX1_next_28 ?_
  exact Gd_ireturn eX1_next_32 rfl (Nat.le_refl _) (Nat.le_refl _) ⟨rfl, rfl⟩
theorem x_lnext10 {sh : List (Nat × Nat)} {a : Nat → Nat → Int32} {r : Nat → Nat → Option Nat} {g : Nat → Nat → Int64} (hW : WD sh r) {l : Nat} (hg : g 37 0 = lN l) (hl : l < 2147483648) : Mt YX1_next 0 0 0 [vr 37, vi (nI 10)] (sh, a, r, g) (g_P (some (vi (nI (lot1 l % 10)))) (sh, a, r, upL g 37 0 (lN (lot1 l)))) := by
  refine Mt_of rfl (Nat.le_of_ble_eq_true rfl) rfl ?_
  have hM0 := lN_ne0 (n := 2147483647) (by decide) (by decide)
  refine Gd_aload_n (i := 0) rfl eX1_next_0 ?_
  refine Gd_aload_n (i := 0) rfl eX1_next_1 ?_
  refine Gd_getL fl_RX1_7 (W_s37 hW) eX1_next_2 ?_
  rw [hg]
  refine Gd_ldc2 (v := lN 48271) ct_RX1_13 eX1_next_5 ?_
  refine Gd_lmul eX1_next_8 ?_
  rw [lN_mul]
  refine Gd_ldc2 (v := lN 2147483647) ct_RX1_15 eX1_next_9 ?_
  refine Gd_lrem (by assumption) eX1_next_12 ?_
  rw [pk_lRem (by omega) (by decide) (by decide)]
  have hlt := lot1_lt l
  refine Gd_putL fl_RX1_7 (W_s37 hW) eX1_next_13 ?_
  refine Gd_iload_n (i := 1) rfl eX1_next_16 ?_
  refine Gd_if_le eX1_next_17 (fun q => by first | exact absurd q (by decide) | exact absurd (by decide) q) (fun _ => ?_)
  refine Gd_aload_n (i := 0) rfl eX1_next_20 ?_
  refine Gd_getL fl_RX1_7 (W_s37 hW) eX1_next_21 ?_
  rw [upL_s, show l * 48271 % 2147483647 = lot1 l from rfl]
  refine Gd_iload_n (i := 1) rfl eX1_next_24 ?_
  refine Gd_i2l eX1_next_25 ?_
  rw [nI_l (by decide)]
  have hne := lN_ne0 (n := 10) (by decide) (by decide)
  refine Gd_lrem (by assumption) eX1_next_26 ?_
  rw [pk_lRem (by omega) (by decide) (by decide)]
  refine Gd_l2i eX1_next_27 ?_
  rw [lN_i]
  refine Gd_goto eX1_next_28 ?_
  exact Gd_ireturn eX1_next_32 rfl (Nat.le_refl _) (Nat.le_refl _) ⟨rfl, rfl⟩
theorem x_lots_L {sh : List (Nat × Nat)} {r : Nat → Nat → Option Nat} {ts cd : Nat → Nat → Nat} {nt : Nat} (hW : WD sh r) (hTI : TI nt ts cd) {n0 : Nat} {x1 : Int32} {Q : Option g_V → g_H → Prop} {N0 : Nat} {a0 : Nat → Nat → Int32} : ∀ (n k h l : Nat) (φ : Nat → Nat → Nat) (a : Nat → Nat → Int32) (g : Nat → Nat → Int64) (x5 x6 : Option g_V), k + n = n0 → h ≤ k ∧ n0 ≤ 60 → g 37 0 = lN l → l < 2147483648 → FA 9 φ a → FI φ → TX nt ts cd sh a r → φ 7 2 < nt → chg scX a0 a → (∀ a' g', FA 9 (lsF ts cd n l φ) a' → chg scX a0 a' → Q (some (vi (nI (h + lsH ts cd n l φ)))) (sh, a', r, g')) → Gd YX7_shootByLots (z0 6 N0 Q) 0 0 24 [some (vr 0), some (vi x1), some (vi (nI n0)), some (vi (nI h)), some (vi (nI k)), x5, x6] [] (sh, a, r, g)
  | 0, k, h, l, φ, a, g, x5, x6, hn, hhk, hg, hl, hA, hI, hT, hlt, hc, kq => by
    have hhu := FI_hu hI
    refine Gd_iload (i := 4) rfl eX7_shootByLots_24 ?_
    refine Gd_iload_n (i := 2) rfl eX7_shootByLots_26 ?_
    refine Gd_icmp_geN (by first | omega | decide) (by first | omega | decide) eX7_shootByLots_27 (fun c27 => ?_) (fun c27 => ?_)
    · refine Gd_iload_n (i := 3) rfl eX7_shootByLots_92 ?_
      exact Gd_ireturn eX7_shootByLots_93 rfl (Nat.le_refl _) (Nat.le_refl _) (by rw [show lsH ts cd 0 l φ = 0 from rfl, Nat.add_zero] at kq; exact kq _ _ hA hc)
    · exact absurd c27 (by omega)
  | n + 1, k, h, l, φ, a, g, x5, x6, hn, hhk, hg, hl, hA, hI, hT, hlt, hc, kq => by
    have hhu := FI_hu hI
    refine Gd_iload (i := 4) rfl eX7_shootByLots_24 ?_
    refine Gd_iload_n (i := 2) rfl eX7_shootByLots_26 ?_
    refine Gd_icmp_geN (by first | omega | decide) (by first | omega | decide) eX7_shootByLots_27 (fun c27 => ?_) (fun c27 => ?_)
    · exact absurd c27 (by omega)
    · have hd10 : lsd l < 10 := Nat.mod_lt _ (by decide)
      have hp66 : lsp l < 6 := Nat.mod_lt _ (by decide)
      have hl1 := lot1_lt l
      have hl2 := lot1_lt (lot1 l)
      have hal := aim_le φ ts cd (lsp l) (lsd l)
      refine Gd_aload_n (i := 0) rfl eX7_shootByLots_30 ?_
      refine Gd_getR fl_RX7_50 (W_s0 hW) (W_r0_7 hW) eX7_shootByLots_31 ?_
      refine Gd_bipush kb_6 eX7_shootByLots_34 ?_
      refine Gd_callPh (g_cV (x_lnext6 hW hg hl) ok_X1_next lk_RX7_308 (W_s37 hW) ⟨_, _, rfl⟩ rfl rfl (Nat.le_of_ble_eq_true rfl) (Nat.le_of_ble_eq_true rfl) (Nat.le_refl _) (Nat.le_refl _) eX7_shootByLots_36) rfl ?_
      rw [show lot1 l % 6 = lsp l from rfl]
      refine Gd_istore5 rfl eX7_shootByLots_39 ?_
      refine Gd_aload_n (i := 0) rfl eX7_shootByLots_41 ?_
      refine Gd_getR fl_RX7_50 (W_s0 hW) (W_r0_7 hW) eX7_shootByLots_42 ?_
      refine Gd_bipush kb_10 eX7_shootByLots_45 ?_
      refine Gd_callPh (g_cV (x_lnext10 hW (upL_s g 37 0 (lN (lot1 l))) (by omega)) ok_X1_next lk_RX7_308 (W_s37 hW) ⟨_, _, rfl⟩ rfl rfl (Nat.le_of_ble_eq_true rfl) (Nat.le_of_ble_eq_true rfl) (Nat.le_refl _) (Nat.le_refl _) eX7_shootByLots_47) rfl ?_
      rw [show lot1 (lot1 l) % 10 = lsd l from rfl]
      refine Gd_istore6 rfl eX7_shootByLots_50 ?_
      refine Gd_iload (i := 5) rfl eX7_shootByLots_52 ?_
      refine Gd_aload_n (i := 0) rfl eX7_shootByLots_54 ?_
      refine Gd_getR fl_RX7_16 (W_s0 hW) (W_r0_1 hW) eX7_shootByLots_55 ?_
      refine Gd_getIe (v := nI (φ 7 3)) fl_RX7_90 (W_s9 hW) (FA_hu hA :) eX7_shootByLots_58 ?_
      refine Gd_icmp_geN (by first | omega | decide) (by first | omega | decide) eX7_shootByLots_61 (fun c61 => ?_) (fun c61 => ?_)
      · refine Gd_iinc4 (ho := rfl) (he := nI_inc _) eX7_shootByLots_86 ?_
        refine Gd_goto eX7_shootByLots_89 ?_
        have eF : lsF ts cd (n + 1) l φ = lsF ts cd n (lot1 (lot1 l)) φ := by rw [lsF, if_neg (by omega)]
        have eH : lsH ts cd (n + 1) l φ = lsH ts cd n (lot1 (lot1 l)) φ := by rw [lsH, if_neg (fun z => by omega), if_neg (by omega), Nat.zero_add]
        rw [eF, eH] at kq
        exact x_lots_L hW hTI n (k + 1) h _ φ a _ _ _ (by omega) (by omega) (upL_s _ _ _ _) (by omega) hA hI hT hlt hc kq
      · refine Gd_aload_n (i := 0) rfl eX7_shootByLots_64 ?_
        refine Gd_getR fl_RX7_36 (W_s0 hW) (W_r0_5 hW) eX7_shootByLots_65 ?_
        refine Gd_aload_n (i := 0) rfl eX7_shootByLots_68 ?_
        refine Gd_getR fl_RX7_16 (W_s0 hW) (W_r0_1 hW) eX7_shootByLots_69 ?_
        refine Gd_iload (i := 5) rfl eX7_shootByLots_72 ?_
        refine Gd_iload (i := 6) rfl eX7_shootByLots_74 ?_
        refine Gd_callEV (g_cV (x_shot hW (W_F9 hW) (by decide) hA hI hT hTI hlt c61 (d := lsd l) hd10) ok_X3_shot lk_RX7_223 (W_s31 hW) ⟨_, _, rfl⟩ rfl rfl (Nat.le_of_ble_eq_true rfl) (Nat.le_of_ble_eq_true rfl) (Nat.le_refl _) (Nat.le_refl _) eX7_shootByLots_76) (fun a2 hq => ?_)
        obtain ⟨hA2, hq⟩ := hq
        refine Gd_iconst ki_2 eX7_shootByLots_79 ?_
        refine Gd_icmp_neN (by first | omega | decide) (by first | omega | decide) eX7_shootByLots_80 (fun c80 => ?_) (fun c80 => ?_)
        · refine Gd_iinc4 (ho := rfl) (he := nI_inc _) eX7_shootByLots_86 ?_
          refine Gd_goto eX7_shootByLots_89 ?_
          have eF : lsF ts cd (n + 1) l φ = lsF ts cd n (lot1 (lot1 l)) (shot φ ts cd (lsp l) (lsd l)) := by rw [lsF, if_pos c61]
          have eH : lsH ts cd (n + 1) l φ = 0 + lsH ts cd n (lot1 (lot1 l)) (shot φ ts cd (lsp l) (lsd l)) := by rw [lsH, if_neg (fun z => c80 z.2), if_pos c61]
          rw [eF, eH, Nat.zero_add] at kq
          exact x_lots_L hW hTI n (k + 1) h _ _ a2 _ _ _ (by omega) (by omega) (upL_s _ _ _ _) (by omega) hA2 (FI_shot hI hp66 hd10) (TX_T hT (by decide) hq) (by rw [shot_la]; exact hlt) (chg_tr hc (chg_mono2 scX_T hq)) kq
        · refine Gd_iinc3 (ho := rfl) (he := nI_inc _) eX7_shootByLots_83 ?_
          refine Gd_iinc4 (ho := rfl) (he := nI_inc _) eX7_shootByLots_86 ?_
          refine Gd_goto eX7_shootByLots_89 ?_
          have eF : lsF ts cd (n + 1) l φ = lsF ts cd n (lot1 (lot1 l)) (shot φ ts cd (lsp l) (lsd l)) := by rw [lsF, if_pos c61]
          have eH : lsH ts cd (n + 1) l φ = 1 + lsH ts cd n (lot1 (lot1 l)) (shot φ ts cd (lsp l) (lsd l)) := by rw [lsH, if_pos ⟨c61, c80⟩, if_pos c61]
          rw [eF, eH, ← Nat.add_assoc] at kq
          exact x_lots_L hW hTI n (k + 1) (h + 1) _ _ a2 _ _ _ (by omega) (by omega) (upL_s _ _ _ _) (by omega) hA2 (FI_shot hI hp66 hd10) (TX_T hT (by decide) hq) (by rw [shot_la]; exact hlt) (chg_tr hc (chg_mono2 scX_T hq)) kq
theorem x_shootByLots {sh : List (Nat × Nat)} {a : Nat → Nat → Int32} {r : Nat → Nat → Option Nat} {g : Nat → Nat → Int64} {φ ts cd : Nat → Nat → Nat} {nt : Nat} (hW : WD sh r) (hA : FA 1 φ a) (hI : FI φ) (hT : TX nt ts cd sh a r) (hTI : TI nt ts cd) (hlt : φ 7 2 < nt) {s n : Nat} (hs : s < 200000) (hn : n ≤ 60) : Mt YX7_shootByLots 6 0 0 [vr 0, vi (nI s), vi (nI n)] (sh, a, r, g) (g_EG sh r (vi (nI (lsH ts cd n (s + 1) φ))) (fun a' => FA 9 (lsF ts cd n (s + 1) φ) a' ∧ chg scX a a')) := by
  refine Mt_of rfl (Nat.le_of_ble_eq_true rfl) rfl ?_
  refine Gd_aload_n (i := 0) rfl eX7_shootByLots_0 ?_
  refine Gd_getR fl_RX7_16 (W_s0 hW) (W_r0_1 hW) eX7_shootByLots_1 ?_
  refine Gd_aload_n (i := 0) rfl eX7_shootByLots_4 ?_
  refine Gd_getR fl_RX7_10 (W_s0 hW) (W_r0_0 hW) eX7_shootByLots_5 ?_
  refine Gd_callE0 (g_cV (x_become9 hW hA) ok_X0_become lk_RX7_232 (W_s9 hW) ⟨_, _, rfl⟩ rfl rfl (Nat.le_of_ble_eq_true rfl) (Nat.le_of_ble_eq_true rfl) (Nat.le_refl _) (Nat.le_refl _) eX7_shootByLots_8) (fun a2 hq2 => ?_)
  obtain ⟨hA2, hq2⟩ := hq2
  refine Gd_aload_n (i := 0) rfl eX7_shootByLots_11 ?_
  refine Gd_getR fl_RX7_50 (W_s0 hW) (W_r0_7 hW) eX7_shootByLots_12 ?_
  refine Gd_iload_n (i := 1) rfl eX7_shootByLots_15 ?_
  refine Gd_callP0 (g_cV (x_lbegin hW (m := s) (by omega)) ok_X1_begin lk_RX7_305 (W_s37 hW) ⟨_, _, rfl⟩ rfl rfl (Nat.le_of_ble_eq_true rfl) (Nat.le_of_ble_eq_true rfl) (Nat.le_refl _) (Nat.le_refl _) eX7_shootByLots_16) rfl ?_
  refine Gd_iconst ki_0 eX7_shootByLots_19 ?_
  refine Gd_istore_n3 rfl eX7_shootByLots_20 ?_
  refine Gd_iconst ki_0 eX7_shootByLots_21 ?_
  refine Gd_istore4 rfl eX7_shootByLots_22 ?_
  exact x_lots_L hW hTI n 0 0 (s + 1) φ a2 _ _ _ (by omega) (by omega) (upL_s _ _ _ _) (by omega) hA2 hI (TX_X hT (chg_mono2 scX_9 hq2)) hlt (chg_mono2 scX_9 hq2) (fun a' g' k1 k2 => ⟨a', g', by rw [Nat.zero_add], rfl, k1, k2⟩)
