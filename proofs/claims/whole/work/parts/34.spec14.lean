theorem x_wwill {sh : List (Nat × Nat)} {a : Nat → Nat → Int32} {r : Nat → Nat → Option Nat} {g : Nat → Nat → Int64} (hW : WD sh r) {w : Nat} (h35 : a 35 0 = nI w) (hw : w < 64) {q : Nat} (hq : q < 6) : Mt YX6_isWilling 0 0 0 [vr 35, vi (nI q)] (sh, a, r, g) (g_P (some (vi (bI (w.testBit q)))) (sh, a, r, g)) := by
  refine Mt_of rfl (Nat.le_of_ble_eq_true rfl) rfl ?_
  refine Gd_aload_n (i := 0) rfl eX6_isWilling_0 ?_
  refine Gd_getIe (v := nI (w)) fl_RX6_9 (W_s35 hW) h35 eX6_isWilling_1 ?_
  refine Gd_iload_n (i := 1) rfl eX6_isWilling_4 ?_
  refine Gd_ishr eX6_isWilling_5 ?_
  refine Gd_iconst ki_1 eX6_isWilling_6 ?_
  refine Gd_iandB (by first | omega | decide) (by first | omega | decide) eX6_isWilling_7 ?_
  refine Gd_if_eqB eX6_isWilling_8 (fun c8 => ?_) (fun c8 => ?_)
  · refine Gd_iconst ki_0 eX6_isWilling_15 ?_
    exact Gd_zreturn eX6_isWilling_16 rfl (by decide) (Nat.le_refl _) (Nat.le_refl _) ⟨by rw [c8]; rfl, rfl⟩
  · refine Gd_iconst ki_1 eX6_isWilling_11 ?_
    refine Gd_goto eX6_isWilling_12 ?_
    exact Gd_zreturn eX6_isWilling_16 rfl (by decide) (Nat.le_refl _) (Nat.le_refl _) ⟨by rw [c8]; rfl, rfl⟩
theorem x_mes_Q {sh : List (Nat × Nat)} {r : Nat → Nat → Option Nat} {g : Nat → Nat → Int64} {φ ts cd : Nat → Nat → Nat} {f : Nat} (hW : WD sh r) (hF : isF sh r f) (hf : f ≤ 17) (hI : FI φ) (hJ : FJ φ) {p : Nat} (hp : p < 6) (h35w : True) {k b sn : Nat} (hk : k ≤ 6) (hb : b < 64) (hbb : ∀ v, v < φ 7 3 → b.testBit v = (rsn φ ts cd p k).1 v) {Q : Option g_V → g_H → Prop} {N0 : Nat} : ∀ (n q fu : Nat) (a : Nat → Nat → Int32), q + n = φ 7 3 → FA f φ a → a 35 0 = nI (wm φ ts cd (φ 7 3)) → fu < 64 → (∀ v, v < φ 7 3 → fu.testBit v = exb (fun u => (rsn φ ts cd p k).1 u && will φ ts cd u && (φ 4 u).testBit v) q) → (∀ v, v < 6 → a 36 v = nI (mx φ ts cd p k q v)) → (∀ (a' : Nat → Nat → Int32) (fu' : Nat), fu' < 64 → (∀ v, v < φ 7 3 → fu'.testBit v = exb (fun u => (rsn φ ts cd p k).1 u && will φ ts cd u && (φ 4 u).testBit v) (φ 7 3)) → (∀ v, v < 6 → a' 36 v = nI (fx φ ts cd p (k + 1) v)) → chg (sR 36) a a' → Gd YX6_measure (z0 4 N0 Q) 0 0 156 [some (vr 35), some (vr 31), some (vr f), some (vi (nI p)), some (vi (nI sn)), some (vi (nI b)), some (vi (nI (k + 1))), some (vi (nI fu')), some (vi (nI (φ 7 3)))] [] (sh, a', r, g)) → Gd YX6_measure (z0 4 N0 Q) 0 0 97 [some (vr 35), some (vr 31), some (vr f), some (vi (nI p)), some (vi (nI sn)), some (vi (nI b)), some (vi (nI (k + 1))), some (vi (nI fu)), some (vi (nI q))] [] (sh, a, r, g)
  | 0, q, fu, a, hn, hA, h35, hfu, hfb, h36, kq => by
    have hhu := FI_hu hI
    have hwb := wm64 φ ts cd hhu
    refine Gd_iload (i := 8) rfl eX6_measure_97 ?_
    refine Gd_aload_n (i := 2) rfl eX6_measure_99 ?_
    refine Gd_getIe (v := nI (φ 7 3)) fl_RX6_19 (F_s0 hF) (FA_hu hA :) eX6_measure_100 ?_
    refine Gd_icmp_geN (by first | omega | decide) (by first | omega | decide) eX6_measure_103 (fun c103 => ?_) (fun c103 => ?_)
    · obtain rfl : q = φ 7 3 := by omega
      exact kq a fu hfu (fun v h1 => hfb v h1) (fun v h1 => by rw [h36 v h1, mx]; split <;> first | rfl | (rw [fx, fx, if_neg (by omega), if_neg (by omega)])) chg_rf
    · exact absurd c103 (by omega)
  | n + 1, q, fu, a, hn, hA, h35, hfu, hfb, h36, kq => by
    have hhu := FI_hu hI
    have hwb := wm64 φ ts cd hhu
    refine Gd_iload (i := 8) rfl eX6_measure_97 ?_
    refine Gd_aload_n (i := 2) rfl eX6_measure_99 ?_
    refine Gd_getIe (v := nI (φ 7 3)) fl_RX6_19 (F_s0 hF) (FA_hu hA :) eX6_measure_100 ?_
    refine Gd_icmp_geN (by first | omega | decide) (by first | omega | decide) eX6_measure_103 (fun c103 => ?_) (fun c103 => ?_)
    · exact absurd c103 (by omega)
    · refine Gd_iload (i := 5) rfl eX6_measure_106 ?_
      refine Gd_iload (i := 8) rfl eX6_measure_108 ?_
      refine Gd_ishr eX6_measure_110 ?_
      refine Gd_iconst ki_1 eX6_measure_111 ?_
      refine Gd_iandB (by first | omega | decide) (by first | omega | decide) eX6_measure_112 ?_
      refine Gd_if_eqB eX6_measure_113 (fun c113 => ?_) (fun c113 => ?_)
      · refine Gd_iinc8 (ho := rfl) (he := nI_inc _) eX6_measure_150 ?_
        refine Gd_goto eX6_measure_153 ?_
        exact x_mes_Q hW hF hf hI hJ hp h35w hk hb hbb n (q + 1) fu a (by omega) hA h35 hfu (fun v h1 => by rw [hfb v h1, exb, ← hbb q c103, c113]; simp) (fun v h1 => by rw [h36 v h1, mx_no c103 (by rw [← hbb q c103]; exact c113)]) kq
      · refine Gd_aload_n (i := 0) rfl eX6_measure_116 ?_
        refine Gd_getR fl_RX6_15 (W_s35 hW) (W_r35_1 hW) eX6_measure_117 ?_
        refine Gd_iload (i := 8) rfl eX6_measure_120 ?_
        refine Gd_iload (i := 6) rfl eX6_measure_122 ?_
        refine Gd_iastN (W_s36 hW) (by first | omega | decide) eX6_measure_124 ?_
        refine Gd_iload (i := 7) rfl eX6_measure_125 ?_
        refine Gd_aload_n (i := 0) rfl eX6_measure_127 ?_
        refine Gd_iload (i := 8) rfl eX6_measure_128 ?_
        refine Gd_callP (g_cV (x_wwill hW ((chg_row (K := 36) _ _ rfl).trans h35) hwb (by first | omega | decide)) ok_X6_isWilling lk_RX6_33 (W_s35 hW) ⟨_, _, rfl⟩ rfl rfl (Nat.le_of_ble_eq_true rfl) (Nat.le_of_ble_eq_true rfl) (Nat.le_refl _) (Nat.le_refl _) eX6_measure_130) ?_
        refine Gd_if_eqB eX6_measure_133 (fun c133 => ?_) (fun c133 => ?_)
        · refine Gd_iconst ki_0 eX6_measure_146 ?_
          refine Gd_iorN eX6_measure_147 ?_
          refine Gd_istore7 rfl eX6_measure_148 ?_
          refine Gd_iinc8 (ho := rfl) (he := nI_inc _) eX6_measure_150 ?_
          refine Gd_goto eX6_measure_153 ?_
          exact x_mes_Q hW hF hf hI hJ hp h35w hk hb hbb n (q + 1) (fu ||| 0) _ (by omega) (FA_ch hA chg_row (fun i j h1 => by simp [sR]; omega)) ((chg_row _ _ rfl).trans h35) (or64 hfu (by decide)) (fun v h1 => by rw [Nat.testBit_or, hfb v h1, exb, ← hbb q c103, c113, ← wm_bit φ ts cd c103, c133]; simp) (fun v h1 => if e : v = q then (by rw [e, up2_s, mx_s, fx_y c103 (by rw [← hbb q c103]; exact c113)]) else (by rw [up2_j _ _ e, h36 v h1, mx_ne e])) (fun a2 f2 k1 k2 k3 k4 => kq a2 f2 k1 k2 k3 (chg_tr chg_row k4))
        · refine Gd_aload_n (i := 2) rfl eX6_measure_136 ?_
          refine Gd_getR fl_RX6_30 (F_s0 hF) (F_r8 hF) eX6_measure_137 ?_
          refine Gd_iload (i := 8) rfl eX6_measure_140 ?_
          refine Gd_ialdE (v := nI (φ 4 q)) (F_s5 hF) (by first | omega | decide) ((chg_row (K := 36) _ _ (by simp [sR]; omega)).trans (FA_me hA (p := q) (by omega)) :) eX6_measure_142 ?_
          refine Gd_goto eX6_measure_143 ?_
          refine Gd_iorN eX6_measure_147 ?_
          refine Gd_istore7 rfl eX6_measure_148 ?_
          refine Gd_iinc8 (ho := rfl) (he := nI_inc _) eX6_measure_150 ?_
          refine Gd_goto eX6_measure_153 ?_
          exact x_mes_Q hW hF hf hI hJ hp h35w hk hb hbb n (q + 1) (fu ||| φ 4 q) _ (by omega) (FA_ch hA chg_row (fun i j h1 => by simp [sR]; omega)) ((chg_row _ _ rfl).trans h35) (or64 hfu (FI_me hI (by omega))) (fun v h1 => by rw [Nat.testBit_or, hfb v h1, exb, ← hbb q c103, c113, ← wm_bit φ ts cd c103, c133]; simp) (fun v h1 => if e : v = q then (by rw [e, up2_s, mx_s, fx_y c103 (by rw [← hbb q c103]; exact c113)]) else (by rw [up2_j _ _ e, h36 v h1, mx_ne e])) (fun a2 f2 k1 k2 k3 k4 => kq a2 f2 k1 k2 k3 (chg_tr chg_row k4))
theorem x_mes_S {sh : List (Nat × Nat)} {r : Nat → Nat → Option Nat} {g : Nat → Nat → Int64} {φ ts cd : Nat → Nat → Nat} {f : Nat} (hW : WD sh r) (hF : isF sh r f) (hf : f ≤ 17) (hI : FI φ) (hJ : FJ φ) {p : Nat} (hp : p < 6) {Q : Option g_V → g_H → Prop} {N0 : Nat} {a0 : Nat → Nat → Int32} : ∀ (n k sn b : Nat) (a : Nat → Nat → Int32) (x7 x8 : Option g_V), k + n = 6 → FA f φ a → a 35 0 = nI (wm φ ts cd (φ 7 3)) → sn < 64 → b < 64 → (∀ v, v < φ 7 3 → b.testBit v = (rsn φ ts cd p k).1 v) → (∀ v, v < φ 7 3 → (sn ||| b).testBit v = (rsn φ ts cd p k).2 v) → (∀ v, v < 6 → a 36 v = nI (fx φ ts cd p k v)) → chg scV a0 a → (∀ (a' : Nat → Nat → Int32), a' 35 0 = nI (wm φ ts cd (φ 7 3)) → (∀ v, v < 6 → a' 36 v = nI (fx φ ts cd p 6 v)) → chg scV a0 a' → Q none (sh, a', r, g)) → Gd YX6_measure (z0 4 N0 Q) 0 0 77 [some (vr 35), some (vr 31), some (vr f), some (vi (nI p)), some (vi (nI sn)), some (vi (nI b)), some (vi (nI (k + 1))), x7, x8] [] (sh, a, r, g)
  | 0, k, sn, b, a, x7, x8, hn, hA, h35, hsn, hb, hbb, hss, h36, hc, kq => by
    have hhu := FI_hu hI
    refine Gd_iload (i := 6) rfl eX6_measure_77 ?_
    refine Gd_bipush kb_6 eX6_measure_79 ?_
    refine Gd_icmp_gtN (by first | omega | decide) (by first | omega | decide) eX6_measure_81 (fun c81 => ?_) (fun c81 => ?_)
    · obtain rfl : k = 6 := by omega
      exact Gd_return eX6_measure_171 rfl (Nat.le_refl _) (Nat.le_refl _) (kq _ h35 h36 hc)
    · exact absurd c81 (by omega)
  | n + 1, k, sn, b, a, x7, x8, hn, hA, h35, hsn, hb, hbb, hss, h36, hc, kq => by
    have hhu := FI_hu hI
    refine Gd_iload (i := 6) rfl eX6_measure_77 ?_
    refine Gd_bipush kb_6 eX6_measure_79 ?_
    refine Gd_icmp_gtN (by first | omega | decide) (by first | omega | decide) eX6_measure_81 (fun c81 => ?_) (fun c81 => ?_)
    · exact absurd c81 (by omega)
    · have hb1 : sn ||| b < 64 := or64 hsn hb
      refine Gd_iload (i := 4) rfl eX6_measure_84 ?_
      refine Gd_iload (i := 5) rfl eX6_measure_86 ?_
      refine Gd_iorN eX6_measure_88 ?_
      refine Gd_istore4 rfl eX6_measure_89 ?_
      refine Gd_iconst ki_0 eX6_measure_91 ?_
      refine Gd_istore7 rfl eX6_measure_92 ?_
      refine Gd_iconst ki_0 eX6_measure_94 ?_
      refine Gd_istore8 rfl eX6_measure_95 ?_
      refine x_mes_Q hW hF hf hI hJ hp trivial (k := k) (by omega) hb hbb (φ 7 3) 0 0 a (by omega) hA h35 (by decide) (fun v h1 => Nat.zero_testBit v) (fun v h1 => h36 v h1) (fun a2 fu k1 k2 k3 k4 => ?_)
      refine Gd_iload (i := 7) rfl eX6_measure_156 ?_
      refine Gd_iload (i := 4) rfl eX6_measure_158 ?_
      refine Gd_iconst ki_m1 eX6_measure_160 ?_
      refine Gd_ixorM eX6_measure_161 ?_
      refine Gd_iandN eX6_measure_162 ?_
      refine Gd_istore5 rfl eX6_measure_163 ?_
      refine Gd_iinc6 (ho := rfl) (he := nI_inc _) eX6_measure_165 ?_
      refine Gd_goto eX6_measure_168 ?_
      exact x_mes_S hW hF hf hI hJ hp n (k + 1) (sn ||| b) (fu &&& ((sn ||| b) ^^^ 4294967295)) a2 _ _ (by omega) (FA_ch hA k4 (fun i j h1 => by simp [sR]; omega)) ((k4 _ _ rfl).trans h35) (or64 hsn hb) (and_lt k1) (fun v h1 => by rw [clr_bit (by omega), k2 v h1, hss v h1, Bool.and_comm]; rfl) (fun v h1 => by rw [Nat.testBit_or, clr_bit (by omega), k2 v h1, hss v h1, Bool.and_comm]; rfl) k3 (chg_tr hc (chg_mono2 scV_36 k4)) kq
theorem x_mes_I {sh : List (Nat × Nat)} {r : Nat → Nat → Option Nat} {g : Nat → Nat → Int64} {φ ts cd : Nat → Nat → Nat} {nt f : Nat} (hW : WD sh r) (hF : isF sh r f) (hf : f ≤ 17) (hI : FI φ) (hJ : FJ φ) (hTI : TI nt ts cd) (hlt : φ 7 2 < nt) {p : Nat} (hpn : p < φ 7 3) {Q : Option g_V → g_H → Prop} {N0 : Nat} {a0 : Nat → Nat → Int32} : ∀ (n i : Nat) (a : Nat → Nat → Int32), i + n = 6 → FA f φ a → TX nt ts cd sh a r → a 35 0 = nI (wm φ ts cd (min i (φ 7 3))) → (∀ v, v < i → a 36 v = nI 0) → chg scV a0 a → (∀ (a' : Nat → Nat → Int32), a' 35 0 = nI (wm φ ts cd (φ 7 3)) → (∀ v, v < 6 → a' 36 v = nI (fx φ ts cd p 6 v)) → chg scV a0 a' → Q none (sh, a', r, g)) → Gd YX6_measure (z0 4 N0 Q) 0 0 8 [some (vr 35), some (vr 31), some (vr f), some (vi (nI p)), some (vi (nI i)), none, none, none, none] [] (sh, a, r, g)
  | 0, i, a, hn, hA, hT, h35, h36, hc, kq => by
    have hhu := FI_hu hI
    refine Gd_iload (i := 4) rfl eX6_measure_8 ?_
    refine Gd_bipush kb_6 eX6_measure_10 ?_
    refine Gd_icmp_geN (by first | omega | decide) (by first | omega | decide) eX6_measure_12 (fun c12 => ?_) (fun c12 => ?_)
    · refine Gd_iconst ki_1 eX6_measure_61 ?_
      refine Gd_iload_n (i := 3) rfl eX6_measure_62 ?_
      refine Gd_ishl1 (by first | omega | decide) eX6_measure_63 ?_
      refine Gd_istore4 rfl eX6_measure_64 ?_
      refine Gd_aload_n (i := 2) rfl eX6_measure_66 ?_
      refine Gd_getR fl_RX6_30 (F_s0 hF) (F_r8 hF) eX6_measure_67 ?_
      refine Gd_iload_n (i := 3) rfl eX6_measure_70 ?_
      refine Gd_ialdE (v := nI (φ 4 p)) (F_s5 hF) (by first | omega | decide) (FA_me hA (p := p) (by first | omega | decide) :) eX6_measure_71 ?_
      refine Gd_istore5 rfl eX6_measure_72 ?_
      refine Gd_iconst ki_1 eX6_measure_74 ?_
      refine Gd_istore6 rfl eX6_measure_75 ?_
      exact x_mes_S hW hF hf hI hJ (by omega) 6 0 (2 ^ p) (φ 4 p) a _ _ (by omega) hA (by rw [show min i (φ 7 3) = φ 7 3 by omega] at h35; exact h35) (pow6 p (by omega)) (FI_me hI (by omega)) (fun v h1 => rfl) (fun v h1 => rsn_0) (fun v h1 => by rw [h36 v (by omega), fx, dst]; split <;> rfl) hc kq
    · exact absurd c12 (by omega)
  | n + 1, i, a, hn, hA, hT, h35, h36, hc, kq => by
    have hhu := FI_hu hI
    refine Gd_iload (i := 4) rfl eX6_measure_8 ?_
    refine Gd_bipush kb_6 eX6_measure_10 ?_
    refine Gd_icmp_geN (by first | omega | decide) (by first | omega | decide) eX6_measure_12 (fun c12 => ?_) (fun c12 => ?_)
    · exact absurd c12 (by omega)
    · refine Gd_aload_n (i := 0) rfl eX6_measure_15 ?_
      refine Gd_getR fl_RX6_15 (W_s35 hW) (W_r35_1 hW) eX6_measure_16 ?_
      refine Gd_iload (i := 4) rfl eX6_measure_19 ?_
      refine Gd_iconst ki_0 eX6_measure_21 ?_
      refine Gd_iastN (W_s36 hW) (by first | omega | decide) eX6_measure_22 ?_
      refine Gd_iload (i := 4) rfl eX6_measure_23 ?_
      refine Gd_aload_n (i := 2) rfl eX6_measure_25 ?_
      refine Gd_getIe (v := nI (φ 7 3)) fl_RX6_19 (F_s0 hF) ((chg_row (K := 36) _ _ (by simp [sR]; omega)).trans (FA_hu hA) :) eX6_measure_26 ?_
      refine Gd_icmp_geN (by first | omega | decide) (by first | omega | decide) eX6_measure_29 (fun c29 => ?_) (fun c29 => ?_)
      · refine Gd_iinc4 (ho := rfl) (he := nI_inc _) eX6_measure_55 ?_
        refine Gd_goto eX6_measure_58 ?_
        exact x_mes_I hW hF hf hI hJ hTI hlt hpn n (i + 1) (up2 a 36 i (nI 0)) (by omega) (FA_ch hA chg_row (fun i j h1 => by simp [sR]; omega)) (TX_ch hT chg_row rfl (fun k j h1 => by simp [sR]; omega)) (by rw [wm_mo (by omega)]; exact (chg_row _ _ rfl).trans h35) (up_ext0 (f := fun _ => nI 0) h36 rfl) (chg_up hc (by simp [scV])) kq
      · refine Gd_aload_n (i := 1) rfl eX6_measure_32 ?_
        refine Gd_aload_n (i := 2) rfl eX6_measure_33 ?_
        refine Gd_iload (i := 4) rfl eX6_measure_34 ?_
        refine Gd_callEV (g_cV (x_isWilling hW hF hf (FA_ch hA (chg_row (K := 36)) (fun i j h1 => by simp [sR]; omega)) hI (TX_ch hT (chg_row (K := 36)) rfl (fun k j h1 => by simp [sR]; omega)) hTI hlt (p := i) (by first | omega | decide)) ok_X3_isWilling lk_RX6_24 (W_s31 hW) ⟨_, _, rfl⟩ rfl rfl (Nat.le_of_ble_eq_true rfl) (Nat.le_of_ble_eq_true rfl) (Nat.le_refl _) (Nat.le_refl _) eX6_measure_36) (fun a2 hq => ?_)
        refine Gd_if_eqB eX6_measure_39 (fun c39 => ?_) (fun c39 => ?_)
        · refine Gd_iinc4 (ho := rfl) (he := nI_inc _) eX6_measure_55 ?_
          refine Gd_goto eX6_measure_58 ?_
          exact x_mes_I hW hF hf hI hJ hTI hlt hpn n (i + 1) a2 (by omega) (FA_R (FA_ch hA (chg_row (K := 36)) (fun i j h1 => by simp [sR]; omega)) hf hq) (TX_R (TX_ch hT (chg_row (K := 36)) rfl (fun k j h1 => by simp [sR]; omega)) hq) (by rw [wm_mi (by omega), c39, if_neg (by decide), Nat.or_zero]; exact (hq _ _ rfl).trans ((chg_row (K := 36) _ _ rfl).trans h35)) (fun v h1 => (hq _ _ rfl).trans (up_ext0 (f := fun _ => nI 0) h36 rfl v h1)) (chg_tr (chg_up hc (by simp [scV])) (chg_mono2 scV_R hq)) kq
        · refine Gd_aload_n (i := 0) rfl eX6_measure_42 ?_
          refine Gd_dup rfl eX6_measure_43 ?_
          refine Gd_getIe (v := nI (wm φ ts cd (min i (φ 7 3)))) fl_RX6_9 (W_s35 hW) ((hq _ _ rfl).trans ((chg_row (K := 36) _ _ rfl).trans h35) :) eX6_measure_44 ?_
          refine Gd_iconst ki_1 eX6_measure_47 ?_
          refine Gd_iload (i := 4) rfl eX6_measure_48 ?_
          refine Gd_ishl1 (by first | omega | decide) eX6_measure_50 ?_
          refine Gd_iorN eX6_measure_51 ?_
          refine Gd_putI fl_RX6_9 (W_s35 hW) eX6_measure_52 ?_
          refine Gd_iinc4 (ho := rfl) (he := nI_inc _) eX6_measure_55 ?_
          refine Gd_goto eX6_measure_58 ?_
          exact x_mes_I hW hF hf hI hJ hTI hlt hpn n (i + 1) (up2 a2 35 0 (nI (wm φ ts cd (min i (φ 7 3)) ||| 2 ^ i))) (by omega) (FA_ch (FA_R (FA_ch hA (chg_row (K := 36)) (fun i j h1 => by simp [sR]; omega)) hf hq) (chg_row (K := 35)) (fun i j h1 => by simp [sR]; omega)) (TX_ch (TX_R (TX_ch hT (chg_row (K := 36)) rfl (fun k j h1 => by simp [sR]; omega)) hq) (chg_row (K := 35)) rfl (fun k j h1 => by simp [sR]; omega)) (by rw [up2_s, wm_mi (by omega), c39, if_pos rfl]) (fun v h1 => (chg_row (K := 35) _ _ rfl).trans ((hq _ _ rfl).trans (up_ext0 (f := fun _ => nI 0) h36 rfl v h1))) (chg_up (chg_tr (chg_up hc (by simp [scV])) (chg_mono2 scV_R hq)) rfl) kq
theorem x_measure {sh : List (Nat × Nat)} {a : Nat → Nat → Int32} {r : Nat → Nat → Option Nat} {g : Nat → Nat → Int64} {φ ts cd : Nat → Nat → Nat} {nt f : Nat} (hW : WD sh r) (hF : isF sh r f) (hf : f ≤ 17) (hA : FA f φ a) (hI : FI φ) (hT : TX nt ts cd sh a r) (hTI : TI nt ts cd) (hlt : φ 7 2 < nt) (hJ : FJ φ) {p : Nat} (hpn : p < φ 7 3) : Mt YX6_measure 4 0 0 [vr 35, vr 31, vr f, vi (nI p)] (sh, a, r, g) (g_E0 sh r g (fun a' => a' 35 0 = nI (wm φ ts cd (φ 7 3)) ∧ (∀ v, v < 6 → a' 36 v = nI (fx φ ts cd p 6 v)) ∧ chg scV a a')) := by
  refine Mt_of rfl (Nat.le_of_ble_eq_true rfl) rfl ?_
  refine Gd_aload_n (i := 0) rfl eX6_measure_0 ?_
  refine Gd_iconst ki_0 eX6_measure_1 ?_
  refine Gd_putI fl_RX6_9 (W_s35 hW) eX6_measure_2 ?_
  refine Gd_iconst ki_0 eX6_measure_5 ?_
  refine Gd_istore4 rfl eX6_measure_6 ?_
  exact x_mes_I hW hF hf hI hJ hTI hlt hpn 6 0 _ (by omega) (FA_ch hA (chg_row (K := 35)) (fun i j h1 => by simp [sR]; omega)) (TX_ch hT (chg_row (K := 35)) rfl (fun k j h1 => by simp [sR]; omega)) (by rw [up2_s, Nat.zero_min]; rfl) (fun v h1 => absurd h1 (by omega)) (chg_up chg_rf rfl) (fun a' k1 k2 k3 => ⟨a', rfl, rfl, k1, k2, k3⟩)
