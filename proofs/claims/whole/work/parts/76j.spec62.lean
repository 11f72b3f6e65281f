/-- the class's whole reading: after p parts; at the end; where the parts begin -/
def rdA (tq pl : Nat → Nat) (M d : Nat) : Nat → g_Ps
  | 0 => (0, 0, 0, fun _ => 0)
  | p + 1 => pex tq pl M 59 (jn tq pl M d 0 0 (pex tq pl M (2 + p) (rdA tq pl M d p)))
def rdF (tq pl : Nat → Nat) (M d : Nat) : g_Ps := pex tq pl M 0 (rdA tq pl M d 3)
def rdT (tq pl : Nat → Nat) (M d p : Nat) : Nat := if p < 3 then (pex tq pl M (2 + p) (rdA tq pl M d p)).2.2.1 else (rdA tq pl M d 3).2.2.1
def rdV (s : g_Ps) : Int32 := if s.2.1 = 0 then -1 else nI (s.2.1 - 1)
theorem rdA_b {tq pl : Nat → Nat} {M d : Nat} (hpl : ∀ j, pl j ≤ 160) : ∀ p, (rdA tq pl M d p).2.1 ≤ 161
  | 0 => Nat.zero_le _
  | p + 1 => pex_b (s := jn tq pl M d 0 0 (pex tq pl M (2 + p) (rdA tq pl M d p))) hpl (jn_b hpl d 0 0 _ (pex_b hpl (rdA_b hpl p)))
def scRd (k j : Nat) : Bool := decide (k = 27 ∨ k = 28 ∨ k = 29 ∨ k = 30) || (decide (k = 25) && decide (j = 4 ∨ j = 5 ∨ j = 6 ∨ j = 7 ∨ j = 9))
theorem scJ_Rd {k j : Nat} (h : scRd k j = false) : scJ k j = false := by
  simp only [scRd, Bool.or_eq_false_iff, Bool.and_eq_false_iff, decide_eq_false_iff_not] at h
  simp only [scJ, Bool.or_eq_false_iff, Bool.and_eq_false_iff, decide_eq_false_iff_not]
  omega
theorem scT_Rd {k j : Nat} (h : scRd k j = false) : scTk k j = false := by
  simp only [scRd, Bool.or_eq_false_iff, Bool.and_eq_false_iff, decide_eq_false_iff_not] at h
  simp only [scTk, Bool.or_eq_false_iff, Bool.and_eq_false_iff, decide_eq_false_iff_not]
  omega
theorem PS_30 {tq pl : Nat → Nat} {M : Nat} {s : g_Ps} {a : Nat → Nat → Int32} {j : Nat} {v : Int32} (h : PSx tq pl M s a) : PSx tq pl M s (up2 a 30 j v) := ⟨PT_J h.1 (S := fun k _ => decide (k = 30)) (chg_up chg_rf rfl) rfl (fun _ => rfl) (fun _ => rfl), h.2⟩
theorem PS_in {tq pl : Nat → Nat} {M : Nat} {a : Nat → Nat → Int32} (h : PT tq pl M a) : PSx tq pl M (0, 0, 0, fun _ => 0) (up2 (up2 (up2 (up2 a 25 5 (nI 0)) 25 6 (nI (tq 0))) 25 7 (-1)) 25 9 (nI 0)) := ⟨PT_u h (chg_up (chg_up (chg_up (chg_up chg_rf rfl) rfl) rfl) rfl), by simp [up2], by rw [ptk_0]; simp [up2], by simp [up2], up2_s _ _ _ _, fun i hi => absurd hi (Nat.not_lt_zero _), Nat.zero_le _, Nat.zero_le _⟩
theorem x_read_L {sh : List (Nat × Nat)} {r : Nat → Nat → Option Nat} {g : Nat → Nat → Int64} {tq pl : Nat → Nat} {M : Nat} (hW : WC sh r) (hM : M ≤ 160) (htq : ∀ j, tq j < 10106) (hpl : ∀ j, pl j ≤ 160) {d : Nat} (hd36 : d = 36) {Q : Option g_V → g_H → Prop} {N0 : Nat} {a0 : Nat → Nat → Int32} : ∀ (n p : Nat) (a : Nat → Nat → Int32), p + n = 3 → PSx tq pl M (rdA tq pl M d p) a → (∀ j, j < p → a 30 j = nI (rdT tq pl M d j)) → chg scRd a0 a → (∀ a', PSx tq pl M (rdF tq pl M d) a' → (∀ j, j < 4 → a' 30 j = nI (rdT tq pl M d j)) → chg scRd a0 a' → Q (some (vi (a' 25 7))) (sh, a', r, g)) → Gd YX2_read (z0 76 N0 Q) 0 0 31 [some (vr 25), some (vi (nI p))] [] (sh, a, r, g)
  | 0, p, a, hn, hS, hst, hc, kq => by
    refine Gd_iload_n (i := 1) rfl eX2_read_31 ?_
    refine Gd_iconst ki_3 eX2_read_32 ?_
    refine Gd_icmp_geN (by first | omega | decide) (by first | omega | decide) eX2_read_33 (fun c33 => ?_) (fun c33 => ?_)
    · obtain rfl : p = 3 := by omega
      refine Gd_aload_n (i := 0) rfl eX2_read_71 ?_
      refine Gd_getR fl_RX2_43 (V_s25 hW) (V_r25_10 hW) eX2_read_72 ?_
      refine Gd_iconst ki_3 eX2_read_75 ?_
      refine Gd_aload_n (i := 0) rfl eX2_read_76 ?_
      refine Gd_getIe (v := nI ((rdA tq pl M d 3).2.2.1)) fl_RX2_40 (V_s25 hW) (hS.2.2.2.2.1 :) eX2_read_77 ?_
      refine Gd_iastN (V_s30 hW) (by first | omega | decide) eX2_read_80 ?_
      refine Gd_aload_n (i := 0) rfl eX2_read_81 ?_
      refine Gd_iconst ki_0 eX2_read_82 ?_
      refine Gd_callE0 (g_cV (x_expect hW hM htq hpl (t := 0) (by omega) (by omega) (rdA_b hpl 3) (PS_30 hS)) ok_X2_expect lk_RX2_49 (V_s25 hW) ⟨_, _, rfl⟩ rfl rfl (Nat.le_of_ble_eq_true rfl) (by show _ ≤ 76; omega) (Nat.le_refl _) (Nat.le_refl _) eX2_read_83) (fun a30 hq20 => ?_)
      obtain ⟨hS20, hq20⟩ := hq20
      have hc20 := hq20
      refine Gd_aload_n (i := 0) rfl eX2_read_86 ?_
      refine Gd_getI fl_RX2_34 (V_s25 hW) eX2_read_87 ?_
      exact Gd_ireturn eX2_read_90 rfl (Nat.le_refl _) (Nat.le_refl _) (kq _ hS20 (fun j hj => (hc20 30 j rfl).trans (if e : j = 3 then (by rw [e, up2_s, rdT, if_neg (by decide)]) else (up2_j _ _ e).trans (hst j (by omega)))) (chg_tr (chg_up hc rfl) (chg_mono2 scJ_Rd hc20)))
    · exact absurd c33 (by omega)
  | n + 1, p, a, hn, hS, hst, hc, kq => by
    refine Gd_iload_n (i := 1) rfl eX2_read_31 ?_
    refine Gd_iconst ki_3 eX2_read_32 ?_
    refine Gd_icmp_geN (by first | omega | decide) (by first | omega | decide) eX2_read_33 (fun c33 => ?_) (fun c33 => ?_)
    · exact absurd c33 (by omega)
    · refine Gd_aload_n (i := 0) rfl eX2_read_36 ?_
      refine Gd_iconst ki_2 eX2_read_37 ?_
      refine Gd_iload_n (i := 1) rfl eX2_read_38 ?_
      refine Gd_iaddN eX2_read_39 ?_
      refine Gd_callE0 (g_cV (x_expect hW hM htq hpl (t := 2 + p) (by omega) (by omega) (rdA_b hpl p) hS) ok_X2_expect lk_RX2_49 (V_s25 hW) ⟨_, _, rfl⟩ rfl rfl (Nat.le_of_ble_eq_true rfl) (by show _ ≤ 76; omega) (Nat.le_refl _) (Nat.le_refl _) eX2_read_40) (fun a31 hq21 => ?_)
      obtain ⟨hS21, hq21⟩ := hq21
      have hc21 := hq21
      refine Gd_aload_n (i := 0) rfl eX2_read_43 ?_
      refine Gd_getR fl_RX2_43 (V_s25 hW) (V_r25_10 hW) eX2_read_44 ?_
      refine Gd_iload_n (i := 1) rfl eX2_read_47 ?_
      refine Gd_aload_n (i := 0) rfl eX2_read_48 ?_
      refine Gd_getIe (v := nI ((pex tq pl M (2 + p) (rdA tq pl M d p)).2.2.1)) fl_RX2_40 (V_s25 hW) (hS21.2.2.2.2.1 :) eX2_read_49 ?_
      refine Gd_iastN (V_s30 hW) (by first | omega | decide) eX2_read_52 ?_
      refine Gd_aload_n (i := 0) rfl eX2_read_53 ?_
      refine Gd_iconst ki_0 eX2_read_54 ?_
      refine Gd_iconst ki_0 eX2_read_55 ?_
      refine Gd_callE0 (g_cV ((x_jall hW hM htq hpl d).1 0 0 (pex tq pl M (2 + p) (rdA tq pl M d p)) _ (by decide) (by decide) (by omega) (pex_b hpl (rdA_b hpl p)) (PS_30 hS21)) ok_X2_join lk_RX2_53 (V_s25 hW) ⟨_, _, rfl⟩ rfl rfl (Nat.le_of_ble_eq_true rfl) (by show _ ≤ 76; omega) (Nat.le_refl _) (Nat.le_refl _) eX2_read_56) (fun a32 hq22 => ?_)
      obtain ⟨hS22, hq22⟩ := hq22
      have hc22 := hq22
      refine Gd_aload_n (i := 0) rfl eX2_read_59 ?_
      refine Gd_bipush kb_59 eX2_read_60 ?_
      refine Gd_callE0 (g_cV (x_expect hW hM htq hpl (t := 59) (by omega) (by omega) (jn_b hpl d 0 0 _ (pex_b hpl (rdA_b hpl p))) hS22) ok_X2_expect lk_RX2_49 (V_s25 hW) ⟨_, _, rfl⟩ rfl rfl (Nat.le_of_ble_eq_true rfl) (by show _ ≤ 76; omega) (Nat.le_refl _) (Nat.le_refl _) eX2_read_62) (fun a33 hq23 => ?_)
      obtain ⟨hS23, hq23⟩ := hq23
      have hc23 := chg_tr hc22 hq23
      refine Gd_iinc1 (ho := rfl) (he := nI_inc _) eX2_read_65 ?_
      refine Gd_goto eX2_read_68 ?_
      exact x_read_L hW hM htq hpl hd36 n (p + 1) _ (by omega) hS23 (fun j hj => if e : j = p then (by rw [e]; exact (hc23 30 p rfl).trans ((up2_s _ _ _ _).trans (by rw [rdT, if_pos (by omega)]))) else (hc23 30 j rfl).trans ((up2_j _ _ e).trans ((hc21 30 j rfl).trans (hst j (by omega))))) (chg_tr (chg_up (chg_tr hc (chg_mono2 scJ_Rd hc21)) rfl) (chg_mono2 scJ_Rd hc23)) kq
theorem x_read {sh : List (Nat × Nat)} {a : Nat → Nat → Int32} {r : Nat → Nat → Option Nat} {g : Nat → Nat → Int64} {tp : Nat → Nat} {nb : Nat} (hW : WC sh r) (hnb : nb ≤ 160) (h256 : ∀ i, i < nb → tp i < 256) {M : Nat} (hMn : M ≤ nb) (hbM : bs tp nb M = nb) (hlM : ∀ j, j < M → bs tp nb j < nb) (hP : TP 25 1 26 nb tp a) : Mt YX2_read 76 0 0 [vr 25] (sh, a, r, g) (g_EV sh r g (vi (rdV (rdF (tqf tp nb) (bs tp nb) M 36))) (fun a' => PSx (tqf tp nb) (bs tp nb) M (rdF (tqf tp nb) (bs tp nb) M 36) a' ∧ (∀ j, j < 4 → a' 30 j = nI (rdT (tqf tp nb) (bs tp nb) M 36 j)) ∧ chg scRd a a')) := by
  refine Mt_of rfl (Nat.le_of_ble_eq_true rfl) rfl ?_
  refine Gd_aload_n (i := 0) rfl eX2_read_0 ?_
  refine Gd_callE0 (g_cV (x_scan hW hnb h256 hbM hlM hP) ok_X2_scan lk_RX2_46 (V_s25 hW) ⟨_, _, rfl⟩ rfl rfl (Nat.le_of_ble_eq_true rfl) (by show _ ≤ 76; omega) (Nat.le_refl _) (Nat.le_refl _) eX2_read_1) (fun a2 hq => ?_)
  obtain ⟨hP2, hT, hq2⟩ := hq
  refine Gd_aload_n (i := 0) rfl eX2_read_4 ?_
  refine Gd_iconst ki_0 eX2_read_5 ?_
  refine Gd_putI fl_RX2_28 (V_s25 hW) eX2_read_6 ?_
  refine Gd_aload_n (i := 0) rfl eX2_read_9 ?_
  refine Gd_aload_n (i := 0) rfl eX2_read_10 ?_
  refine Gd_getR fl_RX2_19 (V_s25 hW) (V_r25_2 hW) eX2_read_11 ?_
  refine Gd_iconst ki_0 eX2_read_14 ?_
  refine Gd_ialdE (v := nI (tqf tp nb 0)) (V_s27 hW) (by first | omega | decide) ((hT.2 0 (by omega)).1 :) eX2_read_15 ?_
  refine Gd_putI fl_RX2_31 (V_s25 hW) eX2_read_16 ?_
  refine Gd_aload_n (i := 0) rfl eX2_read_19 ?_
  refine Gd_iconst ki_m1 eX2_read_20 ?_
  refine Gd_putI fl_RX2_34 (V_s25 hW) eX2_read_21 ?_
  refine Gd_aload_n (i := 0) rfl eX2_read_24 ?_
  refine Gd_iconst ki_0 eX2_read_25 ?_
  refine Gd_putI fl_RX2_40 (V_s25 hW) eX2_read_26 ?_
  refine Gd_iconst ki_0 eX2_read_29 ?_
  refine Gd_istore_n1 rfl eX2_read_30 ?_
  exact x_read_L (tq := tqf tp nb) (pl := bs tp nb) (d := 36) hW (by omega) (fun j => tkn_lt h256) (fun j => Nat.le_trans (bs_le j) hnb) rfl 3 0 _ (by omega) (PS_in hT) (fun j hj => absurd hj (Nat.not_lt_zero _)) (chg_up (chg_up (chg_up (chg_up (chg_mono2 scT_Rd hq2) rfl) rfl) rfl) rfl) (fun a' k1 k2 k3 => ⟨a', by rw [rdV, ← k1.2.2.2.1], rfl, k1, k2, k3⟩)
theorem x_clear {sh : List (Nat × Nat)} {a : Nat → Nat → Int32} {r : Nat → Nat → Option Nat} {g : Nat → Nat → Int64} (hW : WC sh r) : Mt YX2_clear 0 0 0 [vr 25] (sh, a, r, g) (g_E0 sh r g (fun a' => a' = up2 a 25 1 (nI 0))) := by
  refine Mt_of rfl (Nat.le_of_ble_eq_true rfl) rfl ?_
  refine Gd_aload_n (i := 0) rfl eX2_clear_0 ?_
  refine Gd_iconst ki_0 eX2_clear_1 ?_
  refine Gd_putI fl_RX2_15 (V_s25 hW) eX2_clear_2 ?_
  exact Gd_return eX2_clear_5 rfl (Nat.le_refl _) (Nat.le_refl _) ⟨_, rfl, rfl, rfl⟩
