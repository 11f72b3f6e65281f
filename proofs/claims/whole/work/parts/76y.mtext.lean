-- the reference's text()
def scTm (nt k j : Nat) : Bool := scER nt k j || (decide (k = 57) && decide (4 * nt ≤ j) && decide (j < 4 * nt + 4)) || (decide (k = 50) && decide (j = 8 ∨ j = 11))
theorem scTm_E {nt k j : Nat} (h : scTm nt k j = false) : scER nt k j = false := (Bool.or_eq_false_iff.mp (Bool.or_eq_false_iff.mp h).1).1
theorem scTm_57 {nt j : Nat} (h : 4 * nt ≤ j ∧ j < 4 * nt + 4) : scTm nt 57 j = true := by simp [scTm, h.1, h.2]
def scX57 (nt k j : Nat) : Bool := decide (k = 57) && decide (4 * nt ≤ j) && decide (j < 4 * nt + 4)
def TXb (nt : Nat) (tp : Nat → Nat) (nb : Nat) (a : Nat → Nat → Int32) : Prop := TP 50 8 55 nb tp a ∧ WT a ∧ a 50 11 = nI nt
theorem TXb_E {nt nb : Nat} {tp : Nat → Nat} {a a' : Nat → Nat → Int32} (h : TXb nt tp nb a) (hc : chg (scER nt) a a') : TXb nt tp nb a' := ⟨TP_ch h.1 hc rfl (fun _ => rfl), WT_ch h.2.1 hc (fun _ => rfl), (hc _ _ rfl).trans h.2.2⟩
theorem TXb_57 {nt nb j : Nat} {v : Int32} {tp : Nat → Nat} {a : Nat → Nat → Int32} (h : TXb nt tp nb a) : TXb nt tp nb (up2 a 57 j v) := h
/-- the reference's reader behind p parts, all well; where it isn't -/
def TXo (nt : Nat) (tp : Nat → Nat) (nb M d p : Nat) (a : Nat → Nat → Int32) : Prop := ∃ (k n : Nat) (c : Nat → Nat), rdA (tqf tp nb) (bs tp nb) M d p = (k, 0, n, c) ∧ k ≤ M ∧ n ≤ k ∧ a 50 28 = nI n ∧ (∀ i, i < n → a 56 (200 * nt + i) = nI (c i)) ∧ (∃ q, q ≤ nb ∧ a 50 20 = nI q ∧ sk tp nb q = bs tp nb k) ∧ ∀ j, j < p → a 57 (4 * nt + j) = nI (rdT (tqf tp nb) (bs tp nb) M d j)
def TXf (tp : Nat → Nat) (nb M d : Nat) (a : Nat → Nat → Int32) : Prop := ∃ kf, kf ≤ M ∧ (rdA (tqf tp nb) (bs tp nb) M d 3).2.1 = bs tp nb kf + 1 ∧ a 50 21 = nI (bs tp nb kf)
/-- what text leaves -/
def TXr (nt : Nat) (G : g_Ps) (T : Nat → Nat) (a' : Nat → Nat → Int32) : Prop := a' 50 8 = nI 0 ∧ (G.2.1 ≠ 0 → a' 50 11 = nI nt) ∧ (G.2.1 = 0 → a' 50 11 = nI (nt + 1) ∧ (∀ j, j < 4 → a' 57 (4 * nt + j) = nI (T j)) ∧ ∀ i, i < G.2.2.1 → a' 56 (200 * nt + i) = nI (G.2.2.2 i))
def TXv (nt : Nat) (G : g_Ps) : Int32 := if G.2.1 = 0 then nI nt else -100 - nI (G.2.1 - 1)
theorem m_text_E {sh : List (Nat × Nat)} {r : Nat → Nat → Option Nat} {g : Nat → Nat → Int64} {nt : Nat} (hW : WD sh r) (h6 : nt < 6) {Q : Option g_V → g_H → Prop} {N0 : Nat} {a0 a : Nat → Nat → Int32} {ok : Bool} {x2 : Option g_V} {G : g_Ps} {T : Nat → Nat} (hnt : a 50 11 = nI nt) (hok : ok = true → G.2.1 = 0 ∧ a 50 28 = nI G.2.2.1 ∧ T 3 = G.2.2.1 ∧ (∀ j, j < 3 → a 57 (4 * nt + j) = nI (T j)) ∧ ∀ i, i < G.2.2.1 → a 56 (200 * nt + i) = nI (G.2.2.2 i)) (hno : ok = false → G.2.1 ≠ 0 ∧ a 50 21 = nI (G.2.1 - 1)) (hc : chg (scTm nt) a0 a) (kq : ∀ a', TXr nt G T a' → chg (scTm nt) a0 a' → Q (some (vi (TXv nt G))) (sh, a', r, g)) : Gd YX8_text (z0 4 N0 Q) 0 0 122 [some (vr 50), some (vi (bI ok)), x2] [] (sh, a, r, g) := by
  refine Gd_aload_n (i := 0) rfl eX8_text_122 ?_
  refine Gd_getR fl_RX8_32 (W_s50 hW) (W_r50_10 hW) eX8_text_123 ?_
  refine Gd_iconst ki_4 eX8_text_126 ?_
  refine Gd_aload_n (i := 0) rfl eX8_text_127 ?_
  refine Gd_getIe (v := nI nt) fl_RX8_99 (W_s50 hW) hnt eX8_text_128 ?_
  refine Gd_imulN eX8_text_131 ?_
  refine Gd_iconst ki_3 eX8_text_132 ?_
  refine Gd_iaddN eX8_text_133 ?_
  refine Gd_aload_n (i := 0) rfl eX8_text_134 ?_
  refine Gd_getI fl_RX8_137 (W_s50 hW) eX8_text_135 ?_
  refine Gd_iastN (W_s57 hW) (by omega) eX8_text_138 ?_
  refine Gd_aload_n (i := 0) rfl eX8_text_139 ?_
  refine Gd_iconst ki_0 eX8_text_140 ?_
  refine Gd_putI fl_RX8_74 (W_s50 hW) eX8_text_141 ?_
  refine Gd_iload_n (i := 1) rfl eX8_text_144 ?_
  have hc2 : chg (scTm nt) a0 (up2 (up2 a 57 (4 * nt + 3) (a 50 28)) 50 8 (nI 0)) := chg_up (chg_up hc (scTm_57 (by omega))) rfl
  refine Gd_if_neB eX8_text_145 (fun c => ?_) (fun c => ?_)
  · obtain ⟨g1, g2, g3, g4, g5⟩ := hok c
    have hnt2 : (up2 (up2 a 57 (4 * nt + 3) (a 50 28)) 50 8 (nI 0)) 50 11 = nI nt := hnt
    refine Gd_aload_n (i := 0) rfl eX8_text_156 ?_
    refine Gd_dup rfl eX8_text_157 ?_
    refine Gd_getIe (v := nI nt) fl_RX8_99 (W_s50 hW) hnt2 eX8_text_158 ?_
    refine Gd_iconst ki_1 eX8_text_161 ?_
    refine Gd_iaddN eX8_text_162 ?_
    refine Gd_putI fl_RX8_99 (W_s50 hW) eX8_text_163 ?_
    refine Gd_aload_n (i := 0) rfl eX8_text_166 ?_
    refine Gd_getIe (v := nI (nt + 1)) fl_RX8_99 (W_s50 hW) (up2_s _ _ _ _) eX8_text_167 ?_
    refine Gd_iconst ki_1 eX8_text_170 ?_
    refine Gd_isubN (by omega) eX8_text_171 ?_
    have e : TXv nt G = nI (nt + 1 - 1) := by rw [TXv, if_pos g1, Nat.add_sub_cancel]
    rw [e] at kq
    refine Gd_ireturn eX8_text_172 rfl (Nat.le_refl _) (Nat.le_refl _) (kq _ ⟨rfl, fun z => absurd g1 z, fun _ => ⟨up2_s _ _ _ _, fun j hj => ?_, fun i hi => g5 i hi⟩⟩ (chg_up hc2 rfl))
    show up2 a 57 (4 * nt + 3) (a 50 28) 57 (4 * nt + j) = _
    by_cases e3 : j = 3
    · rw [e3, up2_s, g3, g2]
    · rw [up2_j _ _ (by omega)]; exact g4 j (by omega)
  · obtain ⟨g1, g2⟩ := hno c
    refine Gd_bipush kb_m100 eX8_text_148 ?_
    refine Gd_aload_n (i := 0) rfl eX8_text_150 ?_
    refine Gd_getIe (v := nI (G.2.1 - 1)) fl_RX8_125 (W_s50 hW) (g2 :) eX8_text_151 ?_
    refine Gd_isub eX8_text_154 ?_
    have e : TXv nt G = -100 - nI (G.2.1 - 1) := by rw [TXv, if_neg g1]
    rw [e] at kq
    exact Gd_ireturn eX8_text_155 rfl (Nat.le_refl _) (Nat.le_refl _) (kq _ ⟨rfl, fun _ => hnt, fun z => absurd z g1⟩ hc2)
section MT
variable {sh : List (Nat × Nat)} {r : Nat → Nat → Option Nat} {g : Nat → Nat → Int64} {nt : Nat} {tp : Nat → Nat} {nb M d : Nat} {Q : Option g_V → g_H → Prop} {N0 : Nat} {a0 a : Nat → Nat → Int32} {G : g_Ps} {T : Nat → Nat}
theorem m_text_101 (hW : WD sh r) (h6 : nt < 6) (hnb : nb ≤ 160) (h256 : ∀ i, i < nb → tp i < 256) (hMn : M ≤ nb) (hbM : bs tp nb M = nb) (hd : 36 ≤ d) (hG : rdF (tqf tp nb) (bs tp nb) M d = G) (hT : rdT (tqf tp nb) (bs tp nb) M d = T) {ok : Bool} {x2 : Option g_V} (hb : TXb nt tp nb a) (hok : ok = true → TXo nt tp nb M d 3 a) (hno : ok = false → TXf tp nb M d a) (hc : chg (scTm nt) a0 a) (kq : ∀ a', TXr nt G T a' → chg (scTm nt) a0 a' → Q (some (vi (TXv nt G))) (sh, a', r, g)) : Gd YX8_text (z0 4 N0 Q) 0 0 101 [some (vr 50), some (vi (bI ok)), x2] [] (sh, a, r, g) := by
  refine Gd_iload_n (i := 1) rfl eX8_text_101 ?_
  refine Gd_if_eqB eX8_text_102 (fun c => ?_) (fun c => ?_)
  · obtain ⟨kf, q1, q2, q3⟩ := hno c
    have e : G = rdA (tqf tp nb) (bs tp nb) M d 3 := by rw [← hG, rdF, pex_f (by decide) (by omega)]
    exact m_text_E hW h6 (G := G) (T := T) hb.2.2 (fun z => absurd (z.symm.trans c) (by decide)) (fun _ => by rw [e, q2]; exact ⟨by omega, q3⟩) hc kq
  · obtain ⟨k, n, c1, q1, q2, q3, q4, q5, ⟨q, q6, q7, q8⟩, q9⟩ := hok c
    refine Gd_aload_n (i := 0) rfl eX8_text_105 ?_
    refine Gd_callE0 (g_cV (m_next hW hnb h256 hb.2.1 hb.1 q6 q7 q8) ok_X8_next lk_RX8_159 (W_s50 hW) ⟨_, _, rfl⟩ rfl rfl (Nat.le_of_ble_eq_true rfl) (Nat.le_of_ble_eq_true rfl) (Nat.le_refl _) (Nat.le_refl _) eX8_text_106) (fun a1 hq => ?_)
    obtain ⟨⟨n1, n2, n3, n4⟩, hc1⟩ := hq
    have hb1 : TXb nt tp nb a1 := TXb_E hb (chg_mono2 scER_N hc1)
    have hcc : chg (scTm nt) a0 a1 := chg_tr hc (chg_mono2 (fun h => scER_N (scTm_E h)) hc1)
    refine Gd_aload_n (i := 0) rfl eX8_text_109 ?_
    refine Gd_getIe (v := tkr (tqf tp nb k)) fl_RX8_128 (W_s50 hW) n2 eX8_text_110 ?_
    have htk := tkr_w (t := tqf tp nb k) (tkn_lt h256)
    have hT3 : T 3 = n := by rw [← hT, rdT_n (Nat.le_refl _), q1]
    refine Gd_if_ne eX8_text_113 (fun c2 => ?_) (fun c2 => ?_)
    · have ht : ¬ tqf tp nb k = 0 := fun z => c2 (htk.2.mpr z)
      have e : G = (k, bs tp nb k + 1, n, c1) := by rw [← hG, rdF, q1, pex, ptk_0, if_neg ht, pfl_0]
      refine Gd_iconst ki_0 eX8_text_120 ?_
      refine Gd_istore_n1 rfl eX8_text_121 ?_
      exact m_text_E hW h6 (ok := false) (G := G) (T := T) hb1.2.2 (fun z => absurd z (by decide)) (fun _ => by rw [e]; exact ⟨by show bs tp nb k + 1 ≠ 0; omega, n1⟩) hcc kq
    · have ht : tqf tp nb k = 0 := htk.2.mp c2
      have e : ∃ k', G = (k', 0, n, c1) := ⟨_, by rw [← hG, rdF, q1, pex, ptk_0, if_pos ht, pav]⟩
      obtain ⟨k', e⟩ := e
      refine Gd_iconst ki_1 eX8_text_116 ?_
      refine Gd_goto eX8_text_117 ?_
      refine Gd_istore_n1 rfl eX8_text_121 ?_
      exact m_text_E hW h6 (ok := true) (G := G) (T := T) hb1.2.2 (fun _ => by rw [e]; exact ⟨rfl, (hc1 _ _ rfl).trans q4, hT3, fun j hj => (hc1 _ _ rfl).trans (by rw [← hT]; exact q9 j hj), fun i hi => (hc1 _ _ rfl).trans (q5 i hi)⟩) (fun z => absurd z (by decide)) hcc kq
theorem m_text_L (hW : WD sh r) (h6 : nt < 6) (hnb : nb ≤ 160) (h256 : ∀ i, i < nb → tp i < 256) (hMn : M ≤ nb) (hbM : bs tp nb M = nb) (hd : 36 ≤ d) (hG : rdF (tqf tp nb) (bs tp nb) M d = G) (hT : rdT (tqf tp nb) (bs tp nb) M d = T) : ∀ (m p : Nat) (ok : Bool) (a : Nat → Nat → Int32), p + m = 3 → TXb nt tp nb a → (ok = true → TXo nt tp nb M d p a) → (ok = false → TXf tp nb M d a) → chg (scTm nt) a0 a → (∀ a', TXr nt G T a' → chg (scTm nt) a0 a' → Q (some (vi (TXv nt G))) (sh, a', r, g)) → Gd YX8_text (z0 4 N0 Q) 0 0 26 [some (vr 50), some (vi (bI ok)), some (vi (nI p))] [] (sh, a, r, g)
  | 0, p, ok, a, hp, hb, hok, hno, hc, kq => by
    refine Gd_iload_n (i := 2) rfl eX8_text_26 ?_
    refine Gd_iconst ki_3 eX8_text_27 ?_
    refine Gd_icmp_geN (by omega) (by decide) eX8_text_28 (fun c => ?_) (fun c => absurd c (by omega))
    obtain rfl : p = 3 := by omega
    exact m_text_101 hW h6 hnb h256 hMn hbM hd hG hT hb hok hno hc kq
  | m + 1, p, ok, a, hp, hb, hok, hno, hc, kq => by
    refine Gd_iload_n (i := 2) rfl eX8_text_26 ?_
    refine Gd_iconst ki_3 eX8_text_27 ?_
    refine Gd_icmp_geN (by omega) (by decide) eX8_text_28 (fun c => absurd c (by omega)) (fun c => ?_)
    refine Gd_iload_n (i := 1) rfl eX8_text_31 ?_
    refine Gd_if_eqB eX8_text_32 (fun c => ?_) (fun c => ?_)
    · subst c
      exact m_text_101 hW h6 hnb h256 hMn hbM hd hG hT (ok := false) hb (fun z => absurd z (by decide)) hno hc kq
    · obtain ⟨k, n, c1, q1, q2, q3, q4, q5, ⟨q, q6, q7, q8⟩, q9⟩ := hok c
      have hM0 : tqf tp nb M = 0 := tq_end hbM
      have htq : ∀ k, tqf tp nb k < 10106 := fun k => tkn_lt h256
      have hpt := part_eq (pl := bs tp nb) hM0 (by omega) htq (p := p) (c := c1) hd q2 q3
      have hA : rdA (tqf tp nb) (bs tp nb) M d (p + 1) = pex (tqf tp nb) (bs tp nb) M 59 (jn (tqf tp nb) (bs tp nb) M d 0 0 (pex (tqf tp nb) (bs tp nb) M (2 + p) (k, 0, n, c1))) := by rw [rdA, q1]
      rw [← hA] at hpt
      have hTp : rdT (tqf tp nb) (bs tp nb) M d p = n := by rw [rdT_n (by omega), q1]
      refine Gd_aload_n (i := 0) rfl eX8_text_35 ?_
      refine Gd_callE0 (g_cV (m_next hW hnb h256 hb.2.1 hb.1 q6 q7 q8) ok_X8_next lk_RX8_159 (W_s50 hW) ⟨_, _, rfl⟩ rfl rfl (Nat.le_of_ble_eq_true rfl) (Nat.le_of_ble_eq_true rfl) (Nat.le_refl _) (Nat.le_refl _) eX8_text_36) (fun a1 hq => ?_)
      obtain ⟨⟨n1, n2, n3, ⟨p', n4, n5, n6⟩⟩, hc1⟩ := hq
      rw [bs_nx] at n6
      have hb1 : TXb nt tp nb a1 := TXb_E hb (chg_mono2 scER_N hc1)
      have hcc : chg (scTm nt) a0 a1 := chg_tr hc (chg_mono2 (fun h => scER_N (scTm_E h)) hc1)
      have htk := tkr_w (t := tqf tp nb k) (htq k)
      have key : ∀ gd : Bool, gd = decide (tqf tp nb k = 2 + p) → Gd YX8_text (z0 4 N0 Q) 0 0 60 [some (vr 50), some (vi (bI ok)), some (vi (nI p))] [vi (bI gd)] (sh, a1, r, g) := by
        intro gd hgd
        have hout : a1 50 28 = nI n := (hc1 _ _ rfl).trans q4
        refine Gd_istore_n1 rfl eX8_text_60 ?_
        refine Gd_aload_n (i := 0) rfl eX8_text_61 ?_
        refine Gd_getR fl_RX8_32 (W_s50 hW) (W_r50_10 hW) eX8_text_62 ?_
        refine Gd_iconst ki_4 eX8_text_65 ?_
        refine Gd_aload_n (i := 0) rfl eX8_text_66 ?_
        refine Gd_getIe (v := nI nt) fl_RX8_99 (W_s50 hW) hb1.2.2 eX8_text_67 ?_
        refine Gd_imulN eX8_text_70 ?_
        refine Gd_iload_n (i := 2) rfl eX8_text_71 ?_
        refine Gd_iaddN eX8_text_72 ?_
        refine Gd_aload_n (i := 0) rfl eX8_text_73 ?_
        refine Gd_getIe (v := nI n) fl_RX8_137 (W_s50 hW) hout eX8_text_74 ?_
        refine Gd_iastN (W_s57 hW) (by omega) eX8_text_77 ?_
        have hb2 : TXb nt tp nb (up2 a1 57 (4 * nt + p) (nI n)) := hb1
        have hcd : chg (scTm nt) a0 (up2 a1 57 (4 * nt + p) (nI n)) := chg_up hcc (scTm_57 (by omega))
        have h57 : ∀ j, j < p + 1 → up2 a1 57 (4 * nt + p) (nI n) 57 (4 * nt + j) = nI (rdT (tqf tp nb) (bs tp nb) M d j) := by
          intro j hj
          by_cases e : j = p
          · rw [e, up2_s, hTp]
          · rw [up2_j _ _ (by omega)]; exact (hc1 _ _ rfl).trans (q9 j (by omega))
        refine Gd_iload_n (i := 1) rfl eX8_text_78 ?_
        refine Gd_if_eqB eX8_text_79 (fun cg => ?_) (fun cg => ?_)
        · refine Gd_iconst ki_0 eX8_text_93 ?_
          refine Gd_istore_n1 rfl eX8_text_94 ?_
          refine Gd_iinc2 (ho := rfl) (he := nI_inc _) eX8_text_95 ?_
          refine Gd_goto eX8_text_98 ?_
          refine m_text_L hW h6 hnb h256 hMn hbM hd hG hT m (p + 1) false _ (by omega) hb2 (fun z => absurd z (by decide)) (fun _ => ?_) hcd kq
          have hne : ¬ tqf tp nb k = 2 + p := by rw [cg] at hgd; exact of_decide_eq_false hgd.symm
          rcases hpt with ⟨z, _⟩ | ⟨kf, z1, z2, z3⟩
          · exact absurd z hne
          · rcases z3 with ⟨_, rfl⟩ | ⟨z, _⟩
            · exact ⟨kf, z1, by rw [rdA_f3 m (p + 1) (by omega) (by omega)]; exact z2, n1⟩
            · exact absurd z hne
        · have hty : tqf tp nb k = 2 + p := by rw [cg] at hgd; exact of_decide_eq_true hgd.symm
          have hkM : k < M := by
            rcases Nat.lt_or_ge k M with z | z
            · exact z
            · rw [show k = M by omega, hM0] at hty; omega
          refine Gd_aload_n (i := 0) rfl eX8_text_82 ?_
          rcases hpt with ⟨_, k', n', c', z1, z2, z3, z4, z5, z6⟩ | ⟨kf, z1, z2, z3⟩
          · have eE := z6 (M + 5)
            refine Gd_callEV (g_cV (m_eRead hW h6 hnb h256 hMn hM0 (fu := M + 5 + 1 + (k' - (k + 1))) (k := k + 1) (n := n) (c := c1) (by omega) (by omega) (by omega) hb2.1 hb2.2.1 hb2.2.2 hout (fun i hi => (hc1 _ _ rfl).trans (q5 i hi)) n4 n5 n6) ok_X8_eRead lk_RX8_172 (W_s50 hW) ⟨_, _, rfl⟩ rfl rfl (Nat.le_of_ble_eq_true rfl) (Nat.le_of_ble_eq_true rfl) (Nat.le_refl _) (Nat.le_refl _) eX8_text_83) (fun a2 hq => ?_)
            obtain ⟨⟨y1, y2, y3⟩, hc2⟩ := hq
            rw [eE] at y1 y2 y3 ⊢
            obtain ⟨y3, y4⟩ := y3 rfl
            refine Gd_if_eqB eX8_text_86 (fun z => absurd (show true = false from z) (by decide)) (fun _ => ?_)
            refine Gd_iconst ki_1 eX8_text_89 ?_
            refine Gd_goto eX8_text_90 ?_
            refine Gd_istore_n1 rfl eX8_text_94 ?_
            refine Gd_iinc2 (ho := rfl) (he := nI_inc _) eX8_text_95 ?_
            refine Gd_goto eX8_text_98 ?_
            exact m_text_L hW h6 hnb h256 hMn hbM hd hG hT m (p + 1) true _ (by omega) (TXb_E hb2 hc2) (fun _ => ⟨k' + 1, n', c', z1, by omega, by omega, y3, y4, y2, fun j hj => (hc2 _ _ rfl).trans (h57 j hj)⟩) (fun z => absurd z (by decide)) (chg_tr hcd (chg_mono2 scTm_E hc2)) kq
          · rcases z3 with ⟨z, _⟩ | ⟨_, z4, z5⟩
            · exact absurd hty z
            · obtain ⟨zz, eE⟩ := z5 (M + 5)
              refine Gd_callEV (g_cV (m_eRead hW h6 hnb h256 hMn hM0 (fu := M + 5 + 1 + (kf - (k + 1))) (k := k + 1) (n := n) (c := c1) (by omega) (by omega) (by omega) hb2.1 hb2.2.1 hb2.2.2 hout (fun i hi => (hc1 _ _ rfl).trans (q5 i hi)) n4 n5 n6) ok_X8_eRead lk_RX8_172 (W_s50 hW) ⟨_, _, rfl⟩ rfl rfl (Nat.le_of_ble_eq_true rfl) (Nat.le_of_ble_eq_true rfl) (Nat.le_refl _) (Nat.le_refl _) eX8_text_83) (fun a2 hq => ?_)
              obtain ⟨⟨y1, y2, y3⟩, hc2⟩ := hq
              rw [eE] at y1 y2 y3 ⊢
              refine Gd_if_eqB eX8_text_86 (fun _ => ?_) (fun z => absurd (show false = true from z) (by decide))
              refine Gd_iconst ki_0 eX8_text_93 ?_
              refine Gd_istore_n1 rfl eX8_text_94 ?_
              refine Gd_iinc2 (ho := rfl) (he := nI_inc _) eX8_text_95 ?_
              refine Gd_goto eX8_text_98 ?_
              exact m_text_L hW h6 hnb h256 hMn hbM hd hG hT m (p + 1) false _ (by omega) (TXb_E hb2 hc2) (fun z => absurd z (by decide)) (fun _ => ⟨kf, z1, by rw [rdA_f3 m (p + 1) (by omega) (by omega)]; exact z2, y1⟩) (chg_tr hcd (chg_mono2 scTm_E hc2)) kq
      refine Gd_aload_n (i := 0) rfl eX8_text_39 ?_
      refine Gd_getIe (v := tkr (tqf tp nb k)) fl_RX8_128 (W_s50 hW) n2 eX8_text_40 ?_
      refine Gd_iconst ki_3 eX8_text_43 ?_
      refine Gd_icmp_ne eX8_text_44 (fun c2 => ?_) (fun c2 => ?_)
      · refine Gd_iconst ki_0 eX8_text_59 ?_
        exact key false (decide_eq_false (fun z => c2 (htk.1.mpr (by omega)))).symm
      · have ht := htk.1.mp c2
        refine Gd_aload_n (i := 0) rfl eX8_text_47 ?_
        refine Gd_getIe (v := nI (tqf tp nb k - 2)) fl_RX8_131 (W_s50 hW) (by rw [n3 (Or.inl ht)]; show nI (tkv (tqf tp nb k)) = _; rw [tkv_key ht]) eX8_text_48 ?_
        refine Gd_iload_n (i := 2) rfl eX8_text_51 ?_
        refine Gd_icmp_neN (by omega) (by omega) eX8_text_52 (fun c3 => ?_) (fun c3 => ?_)
        · refine Gd_iconst ki_0 eX8_text_59 ?_
          exact key false (decide_eq_false (fun z => c3 (by omega))).symm
        · refine Gd_iconst ki_1 eX8_text_55 ?_
          refine Gd_goto eX8_text_56 ?_
          exact key true (decide_eq_true (by omega)).symm
theorem m_text (hW : WD sh r) (h6 : nt < 6) (hnb : nb ≤ 160) (h256 : ∀ i, i < nb → tp i < 256) (hMn : M ≤ nb) (hbM : bs tp nb M = nb) (hd : 36 ≤ d) (hG : rdF (tqf tp nb) (bs tp nb) M d = G) (hT : rdT (tqf tp nb) (bs tp nb) M d = T) (hb : TXb nt tp nb a) : Mt YX8_text 4 0 0 [vr 50] (sh, a, r, g) (g_EV sh r g (vi (TXv nt G)) (fun a' => TXr nt G T a' ∧ chg (scTm nt) a a')) := by
  refine Mt_of rfl (Nat.le_of_ble_eq_true rfl) rfl ?_
  refine Gd_aload_n (i := 0) rfl eX8_text_0 ?_
  refine Gd_getIe (v := nI nt) fl_RX8_99 (W_s50 hW) hb.2.2 eX8_text_1 ?_
  refine Gd_bipush kb_6 eX8_text_4 ?_
  refine Gd_icmp_neN (by omega) (by decide) eX8_text_6 (fun _ => ?_) (fun c => absurd c (by omega))
  refine Gd_aload_n (i := 0) rfl eX8_text_12 ?_
  refine Gd_iconst ki_0 eX8_text_13 ?_
  refine Gd_putI fl_RX8_122 (W_s50 hW) eX8_text_14 ?_
  refine Gd_aload_n (i := 0) rfl eX8_text_17 ?_
  refine Gd_iconst ki_0 eX8_text_18 ?_
  refine Gd_putI fl_RX8_137 (W_s50 hW) eX8_text_19 ?_
  refine Gd_iconst ki_1 eX8_text_22 ?_
  refine Gd_istore_n1 rfl eX8_text_23 ?_
  refine Gd_iconst ki_0 eX8_text_24 ?_
  refine Gd_istore_n2 rfl eX8_text_25 ?_
  have hcB : chg (scER nt) a (up2 (up2 a 50 20 (nI 0)) 50 28 (nI 0)) := chg_up (chg_up chg_rf rfl) rfl
  exact m_text_L (a0 := a) hW h6 hnb h256 hMn hbM hd hG hT 3 0 true _ rfl (TXb_E hb hcB) (fun _ => ⟨0, 0, _, rfl, Nat.zero_le _, Nat.le_refl _, up2_s _ _ _ _, fun i hi => absurd hi (Nat.not_lt_zero _), ⟨0, Nat.zero_le _, rfl, by rw [bs]⟩, fun j hj => absurd hj (Nat.not_lt_zero _)⟩) (fun z => absurd z (by decide)) (chg_mono2 scTm_E hcB) (fun a9 k1 k2 => ⟨a9, rfl, rfl, k1, k2⟩)
theorem m_text6 (hW : WD sh r) (hnt : a 50 11 = nI 6) : Mt YX8_text 4 0 0 [vr 50] (sh, a, r, g) (g_P (some (vi (-4))) (sh, a, r, g)) := by
  refine Mt_of rfl (Nat.le_of_ble_eq_true rfl) rfl ?_
  refine Gd_aload_n (i := 0) rfl eX8_text_0 ?_
  refine Gd_getIe (v := nI 6) fl_RX8_99 (W_s50 hW) hnt eX8_text_1 ?_
  refine Gd_bipush kb_6 eX8_text_4 ?_
  refine Gd_icmp_neN (by omega) (by decide) eX8_text_6 (fun c => absurd rfl c) (fun c => ?_)
  refine Gd_bipush kb_m4 eX8_text_9 ?_
  exact Gd_ireturn eX8_text_11 rfl (Nat.le_refl _) (Nat.le_refl _) ⟨rfl, rfl⟩
end MT
