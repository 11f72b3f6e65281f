/-- the reference's reader: what it holds, what it put -/
def HLs (f : Nat → Int32) : List Nat → Prop
  | [] => True
  | x :: H => f H.length = nI x ∧ x < 20 ∧ HLs f H
def PMx (nt : Nat) (C : g_Mc) (a : Nat → Nat → Int32) : Prop := a 50 26 = nI C.1.length ∧ HLs (a 65) C.1 ∧ a 50 27 = nI (cnt C.1) ∧ a 50 28 = nI C.2.1 ∧ ∀ i, i < C.2.1 → a 56 (200 * nt + i) = nI (C.2.2 i)
def scPm (nt k j : Nat) : Bool := decide (k = 65) || (decide (k = 56) && decide (200 * nt ≤ j)) || (decide (k = 50) && decide (j = 26 ∨ j = 27 ∨ j = 28))
theorem HLs_congr {f f' : Nat → Int32} : ∀ {H : List Nat}, (∀ i, i < H.length → f' i = f i) → HLs f H → HLs f' H
  | [], _, _ => trivial
  | x :: H, h, q => ⟨(h _ (Nat.lt_succ_self _)).trans q.1, q.2.1, HLs_congr (fun i hi => h i (Nat.lt_succ_of_lt hi)) q.2.2⟩
theorem PM_pop {nt x n u : Nat} {H : List Nat} {c : Nat → Nat} {a : Nat → Nat → Int32} (hS : PMx nt (x :: H, n, c) a) (hu : u = cnt H) : PMx nt (H, n + 1, va_up c n x) (up2 (up2 (up2 (up2 a 50 26 (nI (H.length + 1 - 1))) 50 27 (nI u)) 56 (200 * nt + n) (nI x)) 50 28 (nI (n + 1))) := by
  subst hu
  refine ⟨by simp [up2], HLs_congr (fun i _ => rfl) hS.2.1.2.2, by simp [up2], up2_s _ _ _ _, fun i hi => ?_⟩
  have hi : i < n + 1 := hi
  show up2 (up2 (up2 a 50 26 (nI (H.length + 1 - 1))) 50 27 (nI (cnt H))) 56 (200 * nt + n) (nI x) 56 (200 * nt + i) = nI (va_up c n x i)
  by_cases e : i = n
  · subst e; rw [va_up_s]; exact up2_s _ _ _ _
  · rw [va_up_n _ _ e, up2_j _ _ (by omega)]
    exact hS.2.2.2.2 i (by show i < n; omega)
theorem PM_push {nt x n : Nat} {H : List Nat} {c : Nat → Nat} {a : Nat → Nat → Int32} (h1 : HLs (a 65) H) (h2 : a 50 27 = nI (cnt (x :: H))) (h3 : a 50 28 = nI n) (h4 : ∀ i, i < n → a 56 (200 * nt + i) = nI (c i)) (hx : x < 20) : PMx nt (x :: H, n, c) (up2 (up2 a 65 H.length (nI x)) 50 26 (nI (H.length + 1))) := by
  refine ⟨up2_s _ _ _ _, ⟨(up2_k _ _ (by decide)).trans (up2_s _ _ _ _), hx, HLs_congr (fun i hi => (up2_k _ _ (by decide)).trans (up2_j _ _ (by omega))) h1⟩, h2, h3, fun i hi => h4 i hi⟩
theorem rnk_le (g : Nat) : rnk g ≤ 7 := by
  simp only [rnk]
  repeat' split
  all_goals decide
theorem unw_len {l : Nat} : ∀ (H : List Nat) (n : Nat) (c : Nat → Nat), (unw l H n c).1.length + (unw l H n c).2.1 = H.length + n
  | [], _, _ => rfl
  | x :: H, n, c => by
    rw [unw]; split
    · rw [unw_len H, List.length_cons]; omega
    · rfl
theorem m_rank {h : g_H} {t : Nat} (ht : t < 2147483648) : Mt YX8_rank 0 0 0 [vi (nI t)] h (g_P (some (vi (nI (rnk t)))) h) := by
  refine Mt_of rfl (Nat.le_of_ble_eq_true rfl) rfl ?_
  refine Gd_iload_n (i := 0) rfl eX8_rank_0 ?_
  refine Gd_if_neN (by first | omega | decide) eX8_rank_1 (fun c1 => ?_) (fun c1 => ?_)
  · refine Gd_iload_n (i := 0) rfl eX8_rank_8 ?_
    refine Gd_bipush kb_11 eX8_rank_9 ?_
    refine Gd_icmp_neN (by first | omega | decide) (by first | omega | decide) eX8_rank_11 (fun c11 => ?_) (fun c11 => ?_)
    · refine Gd_iload_n (i := 0) rfl eX8_rank_18 ?_
      refine Gd_bipush kb_12 eX8_rank_19 ?_
      refine Gd_icmp_neN (by first | omega | decide) (by first | omega | decide) eX8_rank_21 (fun c21 => ?_) (fun c21 => ?_)
      · refine Gd_iload_n (i := 0) rfl eX8_rank_28 ?_
        refine Gd_bipush kb_13 eX8_rank_29 ?_
        refine Gd_icmp_neN (by first | omega | decide) (by first | omega | decide) eX8_rank_31 (fun c31 => ?_) (fun c31 => ?_)
        · refine Gd_iload_n (i := 0) rfl eX8_rank_38 ?_
          refine Gd_bipush kb_15 eX8_rank_39 ?_
          refine Gd_icmp_gtN (by first | omega | decide) (by first | omega | decide) eX8_rank_41 (fun c41 => ?_) (fun c41 => ?_)
          · refine Gd_iload_n (i := 0) rfl eX8_rank_48 ?_
            refine Gd_bipush kb_17 eX8_rank_49 ?_
            refine Gd_icmp_gtN (by first | omega | decide) (by first | omega | decide) eX8_rank_51 (fun c51 => ?_) (fun c51 => ?_)
            · refine Gd_iload_n (i := 0) rfl eX8_rank_58 ?_
              refine Gd_bipush kb_18 eX8_rank_59 ?_
              refine Gd_icmp_neN (by first | omega | decide) (by first | omega | decide) eX8_rank_61 (fun c61 => ?_) (fun c61 => ?_)
              · refine Gd_bipush kb_7 eX8_rank_69 ?_
                exact Gd_ireturn eX8_rank_71 rfl (Nat.le_refl _) (Nat.le_refl _) ⟨by rw [rnk, if_neg (by omega), if_neg (by omega), if_neg (by omega), if_neg (by omega), if_neg (by omega), if_neg (by omega), if_neg (by omega)], rfl⟩
              · refine Gd_bipush kb_6 eX8_rank_64 ?_
                refine Gd_goto eX8_rank_66 ?_
                exact Gd_ireturn eX8_rank_71 rfl (Nat.le_refl _) (Nat.le_refl _) ⟨by rw [rnk, if_neg (by omega), if_neg (by omega), if_neg (by omega), if_neg (by omega), if_neg (by omega), if_neg (by omega), if_pos (by omega)], rfl⟩
            · refine Gd_iconst ki_5 eX8_rank_54 ?_
              refine Gd_goto eX8_rank_55 ?_
              exact Gd_ireturn eX8_rank_71 rfl (Nat.le_refl _) (Nat.le_refl _) ⟨by rw [rnk, if_neg (by omega), if_neg (by omega), if_neg (by omega), if_neg (by omega), if_neg (by omega), if_pos (by omega)], rfl⟩
          · refine Gd_iconst ki_4 eX8_rank_44 ?_
            refine Gd_goto eX8_rank_45 ?_
            exact Gd_ireturn eX8_rank_71 rfl (Nat.le_refl _) (Nat.le_refl _) ⟨by rw [rnk, if_neg (by omega), if_neg (by omega), if_neg (by omega), if_neg (by omega), if_pos (by omega)], rfl⟩
        · refine Gd_iconst ki_3 eX8_rank_34 ?_
          refine Gd_goto eX8_rank_35 ?_
          exact Gd_ireturn eX8_rank_71 rfl (Nat.le_refl _) (Nat.le_refl _) ⟨by rw [rnk, if_neg (by omega), if_neg (by omega), if_neg (by omega), if_pos (by omega)], rfl⟩
      · refine Gd_iconst ki_2 eX8_rank_24 ?_
        refine Gd_goto eX8_rank_25 ?_
        exact Gd_ireturn eX8_rank_71 rfl (Nat.le_refl _) (Nat.le_refl _) ⟨by rw [rnk, if_neg (by omega), if_neg (by omega), if_pos (by omega)], rfl⟩
    · refine Gd_iconst ki_1 eX8_rank_14 ?_
      refine Gd_goto eX8_rank_15 ?_
      exact Gd_ireturn eX8_rank_71 rfl (Nat.le_refl _) (Nat.le_refl _) ⟨by rw [rnk, if_neg (by omega), if_pos (by omega)], rfl⟩
  · refine Gd_iconst ki_0 eX8_rank_4 ?_
    refine Gd_goto eX8_rank_5 ?_
    exact Gd_ireturn eX8_rank_71 rfl (Nat.le_refl _) (Nat.le_refl _) ⟨by rw [rnk, if_pos (by omega)], rfl⟩
theorem m_puts {sh : List (Nat × Nat)} {a : Nat → Nat → Int32} {r : Nat → Nat → Option Nat} {g : Nat → Nat → Int64} {nt : Nat} (hW : WD sh r) (hnt : a 50 11 = nI nt) (h6 : nt < 6) {n v : Nat} (hout : a 50 28 = nI n) (hn : n < 200) : Mt YX8_puts 0 0 0 [vr 50, vi (nI v)] (sh, a, r, g) (g_P none (sh, up2 (up2 a 56 (200 * nt + n) (nI v)) 50 28 (nI (n + 1)), r, g)) := by
  refine Mt_of rfl (Nat.le_of_ble_eq_true rfl) rfl ?_
  refine Gd_aload_n (i := 0) rfl eX8_puts_0 ?_
  refine Gd_getR fl_RX8_29 (W_s50 hW) (W_r50_9 hW) eX8_puts_1 ?_
  refine Gd_sipush ks_200 eX8_puts_4 ?_
  refine Gd_aload_n (i := 0) rfl eX8_puts_7 ?_
  refine Gd_getIe (v := nI (nt)) fl_RX8_99 (W_s50 hW) (hnt :) eX8_puts_8 ?_
  refine Gd_imulN eX8_puts_11 ?_
  refine Gd_aload_n (i := 0) rfl eX8_puts_12 ?_
  refine Gd_getIe (v := nI (n)) fl_RX8_137 (W_s50 hW) (hout :) eX8_puts_13 ?_
  refine Gd_iaddN eX8_puts_16 ?_
  refine Gd_iload_n (i := 1) rfl eX8_puts_17 ?_
  refine Gd_iastN (W_s56 hW) (by first | omega | decide) eX8_puts_18 ?_
  refine Gd_aload_n (i := 0) rfl eX8_puts_19 ?_
  refine Gd_dup rfl eX8_puts_20 ?_
  refine Gd_getIe (v := nI (n)) fl_RX8_137 (W_s50 hW) (hout :) eX8_puts_21 ?_
  refine Gd_iconst ki_1 eX8_puts_24 ?_
  refine Gd_iaddN eX8_puts_25 ?_
  refine Gd_putI fl_RX8_137 (W_s50 hW) eX8_puts_26 ?_
  exact Gd_return eX8_puts_29 rfl (Nat.le_refl _) (Nat.le_refl _) ⟨rfl, rfl⟩
theorem m_holds {sh : List (Nat × Nat)} {a : Nat → Nat → Int32} {r : Nat → Nat → Option Nat} {g : Nat → Nat → Int64} (hW : WD sh r) {m v : Nat} (hm : a 50 26 = nI m) (hm2 : m < 200) : Mt YX8_holds 0 0 0 [vr 50, vi (nI v)] (sh, a, r, g) (g_P none (sh, up2 (up2 a 65 m (nI v)) 50 26 (nI (m + 1)), r, g)) := by
  refine Mt_of rfl (Nat.le_of_ble_eq_true rfl) rfl ?_
  refine Gd_aload_n (i := 0) rfl eX8_holds_0 ?_
  refine Gd_getR fl_RX8_56 (W_s50 hW) (W_r50_25 hW) eX8_holds_1 ?_
  refine Gd_aload_n (i := 0) rfl eX8_holds_4 ?_
  refine Gd_getIe (v := nI (m)) fl_RX8_140 (W_s50 hW) (hm :) eX8_holds_5 ?_
  refine Gd_iload_n (i := 1) rfl eX8_holds_8 ?_
  refine Gd_iastN (W_s65 hW) (by first | omega | decide) eX8_holds_9 ?_
  refine Gd_aload_n (i := 0) rfl eX8_holds_10 ?_
  refine Gd_dup rfl eX8_holds_11 ?_
  refine Gd_getIe (v := nI (m)) fl_RX8_140 (W_s50 hW) (hm :) eX8_holds_12 ?_
  refine Gd_iconst ki_1 eX8_holds_15 ?_
  refine Gd_iaddN eX8_holds_16 ?_
  refine Gd_putI fl_RX8_140 (W_s50 hW) eX8_holds_17 ?_
  exact Gd_return eX8_holds_20 rfl (Nat.le_refl _) (Nat.le_refl _) ⟨rfl, rfl⟩
theorem m_unwinds_L {sh : List (Nat × Nat)} {r : Nat → Nat → Option Nat} {g : Nat → Nat → Int64} {nt l : Nat} (hW : WD sh r) (h6 : nt < 6) (hl1 : 1 ≤ l ∧ l ≤ 7) {Q : Option g_V → g_H → Prop} {N0 : Nat} {a0 : Nat → Nat → Int32} : ∀ (H : List Nat) (n : Nat) (c : Nat → Nat) (a : Nat → Nat → Int32) (x2 : Option g_V), n + H.length ≤ 160 → PMx nt (H, n, c) a → a 50 11 = nI nt → chg (scPm nt) a0 a → (∀ a', PMx nt (unw l H n c) a' → chg (scPm nt) a0 a' → Q none (sh, a', r, g)) → Gd YX8_unwinds (z0 1 N0 Q) 0 0 0 [some (vr 50), some (vi (nI l)), x2] [] (sh, a, r, g)
  | [], n, c, a, x2, hb, hS, hnt, hc, kq => by
    refine Gd_aload_n (i := 0) rfl eX8_unwinds_0 ?_
    refine Gd_getIe (v := nI (0)) fl_RX8_140 (W_s50 hW) (hS.1 :) eX8_unwinds_1 ?_
    refine Gd_if_le eX8_unwinds_4 (fun _ => ?_) (fun q => by first | exact absurd q (by decide) | exact absurd (by decide) q)
    exact Gd_return eX8_unwinds_79 rfl (Nat.le_refl _) (Nat.le_refl _) (kq _ hS hc)
  | x :: H, n, c, a, x2, hb, hS, hnt, hc, kq => by
    have hb1 : n + (H.length + 1) ≤ 160 := hb
    have hx : x < 20 := hS.2.1.2.1
    have hrn := rnk_le x
    refine Gd_aload_n (i := 0) rfl eX8_unwinds_0 ?_
    refine Gd_getIe (v := nI (H.length + 1)) fl_RX8_140 (W_s50 hW) (hS.1 :) eX8_unwinds_1 ?_
    refine Gd_if_leN (by first | omega | decide) eX8_unwinds_4 (fun c4 => ?_) (fun c4 => ?_)
    · exact absurd c4 (by omega)
    · refine Gd_aload_n (i := 0) rfl eX8_unwinds_7 ?_
      refine Gd_getR fl_RX8_56 (W_s50 hW) (W_r50_25 hW) eX8_unwinds_8 ?_
      refine Gd_aload_n (i := 0) rfl eX8_unwinds_11 ?_
      refine Gd_getIe (v := nI (H.length + 1)) fl_RX8_140 (W_s50 hW) (hS.1 :) eX8_unwinds_12 ?_
      refine Gd_iconst ki_1 eX8_unwinds_15 ?_
      refine Gd_isubN (by first | omega | decide) eX8_unwinds_16 ?_
      refine Gd_ialdE (v := nI (x)) (W_s65 hW) (by first | omega | decide) (hS.2.1.1 :) eX8_unwinds_17 ?_
      refine Gd_callP (g_cS (m_rank (t := x) (by omega)) ok_X8_rank lk_RX8_143 rfl rfl (Nat.le_of_ble_eq_true rfl) (Nat.le_of_ble_eq_true rfl) (Nat.le_refl _) (Nat.le_refl _) eX8_unwinds_18) ?_
      refine Gd_iload_n (i := 1) rfl eX8_unwinds_21 ?_
      refine Gd_icmp_ltN (by first | omega | decide) (by first | omega | decide) eX8_unwinds_22 (fun c22 => ?_) (fun c22 => ?_)
      · exact Gd_return eX8_unwinds_79 rfl (Nat.le_refl _) (Nat.le_refl _) (kq _ (by rw [unw, if_neg (by omega)]; exact hS) hc)
      · refine Gd_aload_n (i := 0) rfl eX8_unwinds_25 ?_
        refine Gd_dup rfl eX8_unwinds_26 ?_
        refine Gd_getIe (v := nI (H.length + 1)) fl_RX8_140 (W_s50 hW) (hS.1 :) eX8_unwinds_27 ?_
        refine Gd_iconst ki_1 eX8_unwinds_30 ?_
        refine Gd_isubN (by first | omega | decide) eX8_unwinds_31 ?_
        refine Gd_putI fl_RX8_140 (W_s50 hW) eX8_unwinds_32 ?_
        have hx0 : x ≠ 0 := fun z => by rw [z, show rnk 0 = 0 from rfl] at c22; omega
        refine Gd_aload_n (i := 0) rfl eX8_unwinds_35 ?_
        refine Gd_getR fl_RX8_56 (W_s50 hW) (W_r50_25 hW) eX8_unwinds_36 ?_
        refine Gd_aload_n (i := 0) rfl eX8_unwinds_39 ?_
        refine Gd_getIe (v := nI (H.length + 1 - 1)) fl_RX8_140 (W_s50 hW) (up2_s _ _ _ _ :) eX8_unwinds_40 ?_
        refine Gd_ialdE (v := nI (x)) (W_s65 hW) (by first | omega | decide) (hS.2.1.1 :) eX8_unwinds_43 ?_
        refine Gd_istore_n2 rfl eX8_unwinds_44 ?_
        refine Gd_aload_n (i := 0) rfl eX8_unwinds_45 ?_
        refine Gd_dup rfl eX8_unwinds_46 ?_
        refine Gd_getIe (v := nI (cnt (x :: H))) fl_RX8_146 (W_s50 hW) (hS.2.2.1 :) eX8_unwinds_47 ?_
        refine Gd_iload_n (i := 2) rfl eX8_unwinds_50 ?_
        refine Gd_bipush kb_13 eX8_unwinds_51 ?_
        refine Gd_icmp_eqN (by first | omega | decide) (by first | omega | decide) eX8_unwinds_53 (fun c53 => ?_) (fun c53 => ?_)
        · have hct : cnt (x :: H) = cnt H + 1 := by rw [cnt, if_pos (by omega)]
          refine Gd_iconst ki_1 eX8_unwinds_62 ?_
          refine Gd_goto eX8_unwinds_63 ?_
          refine Gd_isubN (by first | omega | decide) eX8_unwinds_67 ?_
          refine Gd_putI fl_RX8_146 (W_s50 hW) eX8_unwinds_68 ?_
          refine Gd_aload_n (i := 0) rfl eX8_unwinds_71 ?_
          refine Gd_iload_n (i := 2) rfl eX8_unwinds_72 ?_
          refine Gd_callP0 (g_cV (m_puts (a := up2 (up2 a 50 26 (nI (H.length + 1 - 1))) 50 27 (nI (cnt (x :: H) - 1))) hW hnt h6 (n := n) (v := x) hS.2.2.2.1 (by omega)) ok_X8_puts lk_RX8_149 (W_s50 hW) ⟨_, _, rfl⟩ rfl rfl (Nat.le_of_ble_eq_true rfl) (Nat.le_of_ble_eq_true rfl) (Nat.le_refl _) (Nat.le_refl _) eX8_unwinds_73) rfl ?_
          refine Gd_goto eX8_unwinds_76 ?_
          exact m_unwinds_L hW h6 hl1 H (n + 1) (va_up c n x) _ _ (by omega) (PM_pop hS (by omega)) hnt (chg_up (chg_up (chg_up (chg_up hc rfl) rfl) (by simp [scPm])) rfl) (fun a' q1 q2 => kq a' (by rw [unw, if_pos (by omega)]; exact q1) q2)
        · refine Gd_iload_n (i := 2) rfl eX8_unwinds_56 ?_
          refine Gd_bipush kb_19 eX8_unwinds_57 ?_
          refine Gd_icmp_neN (by first | omega | decide) (by first | omega | decide) eX8_unwinds_59 (fun c59 => ?_) (fun c59 => ?_)
          · have hct : cnt (x :: H) = cnt H + 0 := by rw [cnt, if_neg (by omega)]
            refine Gd_iconst ki_0 eX8_unwinds_66 ?_
            refine Gd_isubN (by first | omega | decide) eX8_unwinds_67 ?_
            refine Gd_putI fl_RX8_146 (W_s50 hW) eX8_unwinds_68 ?_
            refine Gd_aload_n (i := 0) rfl eX8_unwinds_71 ?_
            refine Gd_iload_n (i := 2) rfl eX8_unwinds_72 ?_
            refine Gd_callP0 (g_cV (m_puts (a := up2 (up2 a 50 26 (nI (H.length + 1 - 1))) 50 27 (nI (cnt (x :: H) - 0))) hW hnt h6 (n := n) (v := x) hS.2.2.2.1 (by omega)) ok_X8_puts lk_RX8_149 (W_s50 hW) ⟨_, _, rfl⟩ rfl rfl (Nat.le_of_ble_eq_true rfl) (Nat.le_of_ble_eq_true rfl) (Nat.le_refl _) (Nat.le_refl _) eX8_unwinds_73) rfl ?_
            refine Gd_goto eX8_unwinds_76 ?_
            exact m_unwinds_L hW h6 hl1 H (n + 1) (va_up c n x) _ _ (by omega) (PM_pop hS (by omega)) hnt (chg_up (chg_up (chg_up (chg_up hc rfl) rfl) (by simp [scPm])) rfl) (fun a' q1 q2 => kq a' (by rw [unw, if_pos (by omega)]; exact q1) q2)
          · have hct : cnt (x :: H) = cnt H + 1 := by rw [cnt, if_pos (by omega)]
            refine Gd_iconst ki_1 eX8_unwinds_62 ?_
            refine Gd_goto eX8_unwinds_63 ?_
            refine Gd_isubN (by first | omega | decide) eX8_unwinds_67 ?_
            refine Gd_putI fl_RX8_146 (W_s50 hW) eX8_unwinds_68 ?_
            refine Gd_aload_n (i := 0) rfl eX8_unwinds_71 ?_
            refine Gd_iload_n (i := 2) rfl eX8_unwinds_72 ?_
            refine Gd_callP0 (g_cV (m_puts (a := up2 (up2 a 50 26 (nI (H.length + 1 - 1))) 50 27 (nI (cnt (x :: H) - 1))) hW hnt h6 (n := n) (v := x) hS.2.2.2.1 (by omega)) ok_X8_puts lk_RX8_149 (W_s50 hW) ⟨_, _, rfl⟩ rfl rfl (Nat.le_of_ble_eq_true rfl) (Nat.le_of_ble_eq_true rfl) (Nat.le_refl _) (Nat.le_refl _) eX8_unwinds_73) rfl ?_
            refine Gd_goto eX8_unwinds_76 ?_
            exact m_unwinds_L hW h6 hl1 H (n + 1) (va_up c n x) _ _ (by omega) (PM_pop hS (by omega)) hnt (chg_up (chg_up (chg_up (chg_up hc rfl) rfl) (by simp [scPm])) rfl) (fun a' q1 q2 => kq a' (by rw [unw, if_pos (by omega)]; exact q1) q2)
theorem m_unwinds {sh : List (Nat × Nat)} {a : Nat → Nat → Int32} {r : Nat → Nat → Option Nat} {g : Nat → Nat → Int64} {nt l : Nat} (hW : WD sh r) (h6 : nt < 6) (hl1 : 1 ≤ l ∧ l ≤ 7) {H : List Nat} {n : Nat} {c : Nat → Nat} (hb : n + H.length ≤ 160) (hS : PMx nt (H, n, c) a) (hnt : a 50 11 = nI nt) : Mt YX8_unwinds 1 0 0 [vr 50, vi (nI l)] (sh, a, r, g) (g_E0 sh r g (fun a' => PMx nt (unw l H n c) a' ∧ chg (scPm nt) a a')) := by
  refine Mt_of rfl (Nat.le_of_ble_eq_true rfl) rfl ?_
  exact m_unwinds_L hW h6 hl1 H n c a none hb hS hnt chg_rf (fun a' q1 q2 => ⟨a', rfl, rfl, q1, q2⟩)
