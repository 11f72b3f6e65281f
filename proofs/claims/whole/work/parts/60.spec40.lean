theorem lN_i9 : ∀ n, n < 10 → (lN n).toInt32 = nI n := by decide +kernel
theorem lN_ne0 {n : Nat} (h : n < 2 ^ 63) (h0 : 0 < n) : ¬ lN n = 0 := fun z => by
  have h1 : lN n = lN 0 := z
  rw [pk_lEQ h (by decide)] at h1
  omega
theorem lg_z {n : Nat} (h : n < 2 ^ 63) : lg_cmp (lN n) (lN 0) = 0 ↔ n = 0 := by rw [lg_cmp_eq, pk_lEQ h (by decide)]
theorem gcd_st (x y : Nat) : Nat.gcd y (x % y) = Nat.gcd x y := by rw [Nat.gcd_comm x y, Nat.gcd_rec y x, Nat.gcd_comm]
theorem lowt_z0 (d : Nat) : lowt 0 d 0 = 0 := by simp [lowt]
theorem lowt_z1 {d : Nat} (h : 0 < d) : lowt 0 d 1 = 1 := by simp [lowt, Nat.div_self h]
theorem m_low0_L {h : g_H} {n d : Nat} (hn : n < 2147483648) (hd : d < 2147483648) {Q : Option g_V → g_H → Prop} {N0 : Nat} : ∀ (m x y : Nat) (x9 x10 : Option g_V), y ≤ m → x < 2147483648 → y < 2147483648 → (x ≠ 0 ∨ y ≠ 0) → Nat.gcd x y = Nat.gcd n d → Q (some (vl (lN (lowt n d 0)))) h → Gd YX8_lowest (z0 0 N0 Q) 0 0 16 [some (vl (lN n)), none, some (vl (lN d)), none, some (vi (nI 0)), some (vl (lN x)), none, some (vl (lN y)), none, x9, x10] [] h
  | 0, x, y, x9, x10, hy, hx1, hy1, hxy, hG, kq => by
    refine Gd_lload (i := 7) rfl eX8_lowest_16 ?_
    refine Gd_lconst (v := lN 0) rfl eX8_lowest_18 ?_
    refine Gd_lcmp eX8_lowest_19 ?_
    refine Gd_if_eq eX8_lowest_20 (fun c20 => ?_) (fun c20 => ?_)
    · have hy : y = 0 := (lg_z (by omega)).mp c20
      subst hy
      rw [Nat.gcd_zero_right] at hG
      have hne := lN_ne0 (n := x) (by omega) (by omega)
      refine Gd_iload (i := 4) rfl eX8_lowest_41 ?_
      refine Gd_if_ne eX8_lowest_43 (fun q => by first | exact absurd q (by decide) | exact absurd (by decide) q) (fun _ => ?_)
      refine Gd_lload_n (i := 0) rfl eX8_lowest_46 ?_
      refine Gd_goto eX8_lowest_47 ?_
      refine Gd_lload (i := 5) rfl eX8_lowest_51 ?_
      refine Gd_ldiv (by assumption) eX8_lowest_53 ?_
      rw [pk_lDiv (by omega) (by omega) (by omega)]
      exact Gd_lreturn eX8_lowest_54 rfl (Nat.le_refl _) (Nat.le_refl _) (by rw [lowt, ← hG] at kq; exact kq)
    · have hy : ¬ y = 0 := fun z => c20 ((lg_z (by omega)).mpr z)
      exact absurd (show y = 0 by omega) hy
  | m + 1, x, y, x9, x10, hy, hx1, hy1, hxy, hG, kq => by
    refine Gd_lload (i := 7) rfl eX8_lowest_16 ?_
    refine Gd_lconst (v := lN 0) rfl eX8_lowest_18 ?_
    refine Gd_lcmp eX8_lowest_19 ?_
    refine Gd_if_eq eX8_lowest_20 (fun c20 => ?_) (fun c20 => ?_)
    · have hy : y = 0 := (lg_z (by omega)).mp c20
      subst hy
      rw [Nat.gcd_zero_right] at hG
      have hne := lN_ne0 (n := x) (by omega) (by omega)
      refine Gd_iload (i := 4) rfl eX8_lowest_41 ?_
      refine Gd_if_ne eX8_lowest_43 (fun q => by first | exact absurd q (by decide) | exact absurd (by decide) q) (fun _ => ?_)
      refine Gd_lload_n (i := 0) rfl eX8_lowest_46 ?_
      refine Gd_goto eX8_lowest_47 ?_
      refine Gd_lload (i := 5) rfl eX8_lowest_51 ?_
      refine Gd_ldiv (by assumption) eX8_lowest_53 ?_
      rw [pk_lDiv (by omega) (by omega) (by omega)]
      exact Gd_lreturn eX8_lowest_54 rfl (Nat.le_refl _) (Nat.le_refl _) (by rw [lowt, ← hG] at kq; exact kq)
    · have hy : ¬ y = 0 := fun z => c20 ((lg_z (by omega)).mpr z)
      have hne := lN_ne0 (n := y) (by omega) (by omega)
      refine Gd_lload (i := 5) rfl eX8_lowest_23 ?_
      refine Gd_lload (i := 7) rfl eX8_lowest_25 ?_
      refine Gd_lrem (by assumption) eX8_lowest_27 ?_
      rw [pk_lRem (by omega) (by omega) (by omega)]
      refine Gd_lstore9 rfl eX8_lowest_28 ?_
      refine Gd_lload (i := 7) rfl eX8_lowest_30 ?_
      refine Gd_lstore5 rfl eX8_lowest_32 ?_
      refine Gd_lload (i := 9) rfl eX8_lowest_34 ?_
      refine Gd_lstore7 rfl eX8_lowest_36 ?_
      refine Gd_goto eX8_lowest_38 ?_
      exact m_low0_L hn hd m y (x % y) _ _ (by have := Nat.mod_lt x (show 0 < y by omega); omega) (by omega) (by have := Nat.mod_lt x (show 0 < y by omega); omega) (Or.inl (by omega)) (by rw [gcd_st]; exact hG) kq
theorem m_low0 {h : g_H} {n d : Nat} (hn : n < 2147483648) (hd0 : 0 < d) (hd2 : d < 2147483648) : Mt YX8_lowest 0 0 0 [vl (lN n), vl (lN d), vi (nI 0)] h (g_P (some (vl (lN (lowt n d 0)))) h) := by
  refine Mt_of rfl (Nat.le_of_ble_eq_true rfl) rfl ?_
  refine Gd_lload_n (i := 0) rfl eX8_lowest_0 ?_
  refine Gd_lconst (v := lN 0) rfl eX8_lowest_1 ?_
  refine Gd_lcmp eX8_lowest_2 ?_
  refine Gd_if_ne eX8_lowest_3 (fun c3 => ?_) (fun c3 => ?_)
  · refine Gd_lload_n (i := 0) rfl eX8_lowest_10 ?_
    refine Gd_lstore5 rfl eX8_lowest_11 ?_
    refine Gd_lload_n (i := 2) rfl eX8_lowest_13 ?_
    refine Gd_lstore7 rfl eX8_lowest_14 ?_
    exact m_low0_L hn hd2 d n d _ _ (Nat.le_refl _) hn hd2 (Or.inr (by omega)) rfl ⟨rfl, rfl⟩
  · have hz : n = 0 := (lg_z (by omega)).mp c3
    subst hz
    refine Gd_iload (i := 4) rfl eX8_lowest_6 ?_
    refine Gd_i2l eX8_lowest_8 ?_
    exact Gd_lreturn eX8_lowest_9 rfl (Nat.le_refl _) (Nat.le_refl _) ⟨by rw [nI_l (by decide), lowt_z0], rfl⟩
theorem m_low1_L {h : g_H} {n d : Nat} (hn : n < 2147483648) (hd : d < 2147483648) {Q : Option g_V → g_H → Prop} {N0 : Nat} : ∀ (m x y : Nat) (x9 x10 : Option g_V), y ≤ m → x < 2147483648 → y < 2147483648 → (x ≠ 0 ∨ y ≠ 0) → Nat.gcd x y = Nat.gcd n d → Q (some (vl (lN (lowt n d 1)))) h → Gd YX8_lowest (z0 0 N0 Q) 0 0 16 [some (vl (lN n)), none, some (vl (lN d)), none, some (vi (nI 1)), some (vl (lN x)), none, some (vl (lN y)), none, x9, x10] [] h
  | 0, x, y, x9, x10, hy, hx1, hy1, hxy, hG, kq => by
    refine Gd_lload (i := 7) rfl eX8_lowest_16 ?_
    refine Gd_lconst (v := lN 0) rfl eX8_lowest_18 ?_
    refine Gd_lcmp eX8_lowest_19 ?_
    refine Gd_if_eq eX8_lowest_20 (fun c20 => ?_) (fun c20 => ?_)
    · have hy : y = 0 := (lg_z (by omega)).mp c20
      subst hy
      rw [Nat.gcd_zero_right] at hG
      have hne := lN_ne0 (n := x) (by omega) (by omega)
      refine Gd_iload (i := 4) rfl eX8_lowest_41 ?_
      refine Gd_if_ne eX8_lowest_43 (fun _ => ?_) (fun q => by first | exact absurd q (by decide) | exact absurd (by decide) q)
      refine Gd_lload_n (i := 2) rfl eX8_lowest_50 ?_
      refine Gd_lload (i := 5) rfl eX8_lowest_51 ?_
      refine Gd_ldiv (by assumption) eX8_lowest_53 ?_
      rw [pk_lDiv (by omega) (by omega) (by omega)]
      exact Gd_lreturn eX8_lowest_54 rfl (Nat.le_refl _) (Nat.le_refl _) (by rw [lowt, ← hG] at kq; exact kq)
    · have hy : ¬ y = 0 := fun z => c20 ((lg_z (by omega)).mpr z)
      exact absurd (show y = 0 by omega) hy
  | m + 1, x, y, x9, x10, hy, hx1, hy1, hxy, hG, kq => by
    refine Gd_lload (i := 7) rfl eX8_lowest_16 ?_
    refine Gd_lconst (v := lN 0) rfl eX8_lowest_18 ?_
    refine Gd_lcmp eX8_lowest_19 ?_
    refine Gd_if_eq eX8_lowest_20 (fun c20 => ?_) (fun c20 => ?_)
    · have hy : y = 0 := (lg_z (by omega)).mp c20
      subst hy
      rw [Nat.gcd_zero_right] at hG
      have hne := lN_ne0 (n := x) (by omega) (by omega)
      refine Gd_iload (i := 4) rfl eX8_lowest_41 ?_
      refine Gd_if_ne eX8_lowest_43 (fun _ => ?_) (fun q => by first | exact absurd q (by decide) | exact absurd (by decide) q)
      refine Gd_lload_n (i := 2) rfl eX8_lowest_50 ?_
      refine Gd_lload (i := 5) rfl eX8_lowest_51 ?_
      refine Gd_ldiv (by assumption) eX8_lowest_53 ?_
      rw [pk_lDiv (by omega) (by omega) (by omega)]
      exact Gd_lreturn eX8_lowest_54 rfl (Nat.le_refl _) (Nat.le_refl _) (by rw [lowt, ← hG] at kq; exact kq)
    · have hy : ¬ y = 0 := fun z => c20 ((lg_z (by omega)).mpr z)
      have hne := lN_ne0 (n := y) (by omega) (by omega)
      refine Gd_lload (i := 5) rfl eX8_lowest_23 ?_
      refine Gd_lload (i := 7) rfl eX8_lowest_25 ?_
      refine Gd_lrem (by assumption) eX8_lowest_27 ?_
      rw [pk_lRem (by omega) (by omega) (by omega)]
      refine Gd_lstore9 rfl eX8_lowest_28 ?_
      refine Gd_lload (i := 7) rfl eX8_lowest_30 ?_
      refine Gd_lstore5 rfl eX8_lowest_32 ?_
      refine Gd_lload (i := 9) rfl eX8_lowest_34 ?_
      refine Gd_lstore7 rfl eX8_lowest_36 ?_
      refine Gd_goto eX8_lowest_38 ?_
      exact m_low1_L hn hd m y (x % y) _ _ (by have := Nat.mod_lt x (show 0 < y by omega); omega) (by omega) (by have := Nat.mod_lt x (show 0 < y by omega); omega) (Or.inl (by omega)) (by rw [gcd_st]; exact hG) kq
theorem m_low1 {h : g_H} {n d : Nat} (hn : n < 2147483648) (hd0 : 0 < d) (hd2 : d < 2147483648) : Mt YX8_lowest 0 0 0 [vl (lN n), vl (lN d), vi (nI 1)] h (g_P (some (vl (lN (lowt n d 1)))) h) := by
  refine Mt_of rfl (Nat.le_of_ble_eq_true rfl) rfl ?_
  refine Gd_lload_n (i := 0) rfl eX8_lowest_0 ?_
  refine Gd_lconst (v := lN 0) rfl eX8_lowest_1 ?_
  refine Gd_lcmp eX8_lowest_2 ?_
  refine Gd_if_ne eX8_lowest_3 (fun c3 => ?_) (fun c3 => ?_)
  · refine Gd_lload_n (i := 0) rfl eX8_lowest_10 ?_
    refine Gd_lstore5 rfl eX8_lowest_11 ?_
    refine Gd_lload_n (i := 2) rfl eX8_lowest_13 ?_
    refine Gd_lstore7 rfl eX8_lowest_14 ?_
    exact m_low1_L hn hd2 d n d _ _ (Nat.le_refl _) hn hd2 (Or.inr (by omega)) rfl ⟨rfl, rfl⟩
  · have hz : n = 0 := (lg_z (by omega)).mp c3
    subst hz
    refine Gd_iload (i := 4) rfl eX8_lowest_6 ?_
    refine Gd_i2l eX8_lowest_8 ?_
    exact Gd_lreturn eX8_lowest_9 rfl (Nat.le_refl _) (Nat.le_refl _) ⟨by rw [nI_l (by decide), lowt_z1 hd0], rfl⟩
theorem x_low0_L {h : g_H} {n d : Nat} (hn : n < 2147483648) (hd : d < 2147483648) {Q : Option g_V → g_H → Prop} {N0 : Nat} : ∀ (m i x y : Nat) (x10 x11 : Option g_V), i + m = 64 → y ≤ m → x < 2147483648 → y < 2147483648 → (x ≠ 0 ∨ y ≠ 0) → Nat.gcd x y = Nat.gcd n d → Q (some (vl (lN (lowt n d 0)))) h → Gd YX7_lowestTerms (z0 0 N0 Q) 0 0 9 [some (vl (lN n)), none, some (vl (lN d)), none, some (vi (nI 0)), some (vl (lN x)), none, some (vl (lN y)), none, some (vi (nI i)), x10, x11] [] h
  | 0, i, x, y, x10, x11, hi, hy, hx1, hy1, hxy, hG, kq => by
    refine Gd_iload (i := 9) rfl eX7_lowestTerms_9 ?_
    refine Gd_bipush kb_64 eX7_lowestTerms_11 ?_
    refine Gd_icmp_geN (by first | omega | decide) (by first | omega | decide) eX7_lowestTerms_13 (fun c13 => ?_) (fun c13 => ?_)
    · have hy : y = 0 := by omega
      subst hy
      rw [Nat.gcd_zero_right] at hG
      have hx0 : x ≠ 0 := by omega
      refine Gd_iload (i := 4) rfl eX7_lowestTerms_44 ?_
      refine Gd_if_ne eX7_lowestTerms_46 (fun q => by first | exact absurd q (by decide) | exact absurd (by decide) q) (fun _ => ?_)
      refine Gd_lload_n (i := 0) rfl eX7_lowestTerms_49 ?_
      refine Gd_goto eX7_lowestTerms_50 ?_
      refine Gd_lstore9 rfl eX7_lowestTerms_54 ?_
      refine Gd_lload (i := 5) rfl eX7_lowestTerms_56 ?_
      refine Gd_lconst (v := lN 0) rfl eX7_lowestTerms_58 ?_
      refine Gd_lcmp eX7_lowestTerms_59 ?_
      refine Gd_if_ne eX7_lowestTerms_60 (fun c60 => ?_) (fun c60 => ?_)
      · have hne := lN_ne0 (n := x) (by omega) (by omega)
        refine Gd_lload (i := 9) rfl eX7_lowestTerms_68 ?_
        refine Gd_lload (i := 5) rfl eX7_lowestTerms_70 ?_
        refine Gd_ldiv (by assumption) eX7_lowestTerms_72 ?_
        rw [pk_lDiv (by omega) (by omega) (by omega)]
        exact Gd_lreturn eX7_lowestTerms_73 rfl (Nat.le_refl _) (Nat.le_refl _) (by rw [lowt, ← hG] at kq; exact kq)
      · exact absurd ((lg_z (by omega)).mp c60) hx0
    · exact absurd c13 (by omega)
  | m + 1, i, x, y, x10, x11, hi, hy, hx1, hy1, hxy, hG, kq => by
    refine Gd_iload (i := 9) rfl eX7_lowestTerms_9 ?_
    refine Gd_bipush kb_64 eX7_lowestTerms_11 ?_
    refine Gd_icmp_geN (by first | omega | decide) (by first | omega | decide) eX7_lowestTerms_13 (fun c13 => ?_) (fun c13 => ?_)
    · exact absurd c13 (by omega)
    · refine Gd_lload (i := 7) rfl eX7_lowestTerms_16 ?_
      refine Gd_lconst (v := lN 0) rfl eX7_lowestTerms_18 ?_
      refine Gd_lcmp eX7_lowestTerms_19 ?_
      refine Gd_if_eq eX7_lowestTerms_20 (fun c20 => ?_) (fun c20 => ?_)
      · have hy : y = 0 := (lg_z (by omega)).mp c20
        subst hy
        rw [Nat.gcd_zero_right] at hG
        have hx0 : x ≠ 0 := by omega
        refine Gd_iload (i := 4) rfl eX7_lowestTerms_44 ?_
        refine Gd_if_ne eX7_lowestTerms_46 (fun q => by first | exact absurd q (by decide) | exact absurd (by decide) q) (fun _ => ?_)
        refine Gd_lload_n (i := 0) rfl eX7_lowestTerms_49 ?_
        refine Gd_goto eX7_lowestTerms_50 ?_
        refine Gd_lstore9 rfl eX7_lowestTerms_54 ?_
        refine Gd_lload (i := 5) rfl eX7_lowestTerms_56 ?_
        refine Gd_lconst (v := lN 0) rfl eX7_lowestTerms_58 ?_
        refine Gd_lcmp eX7_lowestTerms_59 ?_
        refine Gd_if_ne eX7_lowestTerms_60 (fun c60 => ?_) (fun c60 => ?_)
        · have hne := lN_ne0 (n := x) (by omega) (by omega)
          refine Gd_lload (i := 9) rfl eX7_lowestTerms_68 ?_
          refine Gd_lload (i := 5) rfl eX7_lowestTerms_70 ?_
          refine Gd_ldiv (by assumption) eX7_lowestTerms_72 ?_
          rw [pk_lDiv (by omega) (by omega) (by omega)]
          exact Gd_lreturn eX7_lowestTerms_73 rfl (Nat.le_refl _) (Nat.le_refl _) (by rw [lowt, ← hG] at kq; exact kq)
        · exact absurd ((lg_z (by omega)).mp c60) hx0
      · have hy : ¬ y = 0 := fun z => c20 ((lg_z (by omega)).mpr z)
        have hne := lN_ne0 (n := y) (by omega) (by omega)
        refine Gd_lload (i := 5) rfl eX7_lowestTerms_23 ?_
        refine Gd_lload (i := 7) rfl eX7_lowestTerms_25 ?_
        refine Gd_lrem (by assumption) eX7_lowestTerms_27 ?_
        rw [pk_lRem (by omega) (by omega) (by omega)]
        refine Gd_lstore10 rfl eX7_lowestTerms_28 ?_
        refine Gd_lload (i := 7) rfl eX7_lowestTerms_30 ?_
        refine Gd_lstore5 rfl eX7_lowestTerms_32 ?_
        refine Gd_lload (i := 10) rfl eX7_lowestTerms_34 ?_
        refine Gd_lstore7 rfl eX7_lowestTerms_36 ?_
        refine Gd_iinc9 (ho := rfl) (he := nI_inc _) eX7_lowestTerms_38 ?_
        refine Gd_goto eX7_lowestTerms_41 ?_
        exact x_low0_L hn hd m (i + 1) y (x % y) _ _ (by omega) (by have := Nat.mod_lt x (show 0 < y by omega); omega) (by omega) (by have := Nat.mod_lt x (show 0 < y by omega); omega) (Or.inl (by omega)) (by rw [gcd_st]; exact hG) kq
theorem x_low0 {h : g_H} {n d : Nat} (hn : n < 2147483648) (hd0 : 0 < d) (hd2 : d ≤ 64) : Mt YX7_lowestTerms 0 0 0 [vl (lN n), vl (lN d), vi (nI 0)] h (g_P (some (vl (lN (lowt n d 0)))) h) := by
  refine Mt_of rfl (Nat.le_of_ble_eq_true rfl) rfl ?_
  refine Gd_lload_n (i := 0) rfl eX7_lowestTerms_0 ?_
  refine Gd_lstore5 rfl eX7_lowestTerms_1 ?_
  refine Gd_lload_n (i := 2) rfl eX7_lowestTerms_3 ?_
  refine Gd_lstore7 rfl eX7_lowestTerms_4 ?_
  refine Gd_iconst ki_0 eX7_lowestTerms_6 ?_
  refine Gd_istore9 rfl eX7_lowestTerms_7 ?_
  exact x_low0_L hn (by omega) 64 0 n d _ _ (by omega) hd2 hn (by omega) (Or.inr (by omega)) rfl ⟨rfl, rfl⟩
theorem x_low1_L {h : g_H} {n d : Nat} (hn : n < 2147483648) (hd : d < 2147483648) {Q : Option g_V → g_H → Prop} {N0 : Nat} : ∀ (m i x y : Nat) (x10 x11 : Option g_V), i + m = 64 → y ≤ m → x < 2147483648 → y < 2147483648 → (x ≠ 0 ∨ y ≠ 0) → Nat.gcd x y = Nat.gcd n d → Q (some (vl (lN (lowt n d 1)))) h → Gd YX7_lowestTerms (z0 0 N0 Q) 0 0 9 [some (vl (lN n)), none, some (vl (lN d)), none, some (vi (nI 1)), some (vl (lN x)), none, some (vl (lN y)), none, some (vi (nI i)), x10, x11] [] h
  | 0, i, x, y, x10, x11, hi, hy, hx1, hy1, hxy, hG, kq => by
    refine Gd_iload (i := 9) rfl eX7_lowestTerms_9 ?_
    refine Gd_bipush kb_64 eX7_lowestTerms_11 ?_
    refine Gd_icmp_geN (by first | omega | decide) (by first | omega | decide) eX7_lowestTerms_13 (fun c13 => ?_) (fun c13 => ?_)
    · have hy : y = 0 := by omega
      subst hy
      rw [Nat.gcd_zero_right] at hG
      have hx0 : x ≠ 0 := by omega
      refine Gd_iload (i := 4) rfl eX7_lowestTerms_44 ?_
      refine Gd_if_ne eX7_lowestTerms_46 (fun _ => ?_) (fun q => by first | exact absurd q (by decide) | exact absurd (by decide) q)
      refine Gd_lload_n (i := 2) rfl eX7_lowestTerms_53 ?_
      refine Gd_lstore9 rfl eX7_lowestTerms_54 ?_
      refine Gd_lload (i := 5) rfl eX7_lowestTerms_56 ?_
      refine Gd_lconst (v := lN 0) rfl eX7_lowestTerms_58 ?_
      refine Gd_lcmp eX7_lowestTerms_59 ?_
      refine Gd_if_ne eX7_lowestTerms_60 (fun c60 => ?_) (fun c60 => ?_)
      · have hne := lN_ne0 (n := x) (by omega) (by omega)
        refine Gd_lload (i := 9) rfl eX7_lowestTerms_68 ?_
        refine Gd_lload (i := 5) rfl eX7_lowestTerms_70 ?_
        refine Gd_ldiv (by assumption) eX7_lowestTerms_72 ?_
        rw [pk_lDiv (by omega) (by omega) (by omega)]
        exact Gd_lreturn eX7_lowestTerms_73 rfl (Nat.le_refl _) (Nat.le_refl _) (by rw [lowt, ← hG] at kq; exact kq)
      · exact absurd ((lg_z (by omega)).mp c60) hx0
    · exact absurd c13 (by omega)
  | m + 1, i, x, y, x10, x11, hi, hy, hx1, hy1, hxy, hG, kq => by
    refine Gd_iload (i := 9) rfl eX7_lowestTerms_9 ?_
    refine Gd_bipush kb_64 eX7_lowestTerms_11 ?_
    refine Gd_icmp_geN (by first | omega | decide) (by first | omega | decide) eX7_lowestTerms_13 (fun c13 => ?_) (fun c13 => ?_)
    · exact absurd c13 (by omega)
    · refine Gd_lload (i := 7) rfl eX7_lowestTerms_16 ?_
      refine Gd_lconst (v := lN 0) rfl eX7_lowestTerms_18 ?_
      refine Gd_lcmp eX7_lowestTerms_19 ?_
      refine Gd_if_eq eX7_lowestTerms_20 (fun c20 => ?_) (fun c20 => ?_)
      · have hy : y = 0 := (lg_z (by omega)).mp c20
        subst hy
        rw [Nat.gcd_zero_right] at hG
        have hx0 : x ≠ 0 := by omega
        refine Gd_iload (i := 4) rfl eX7_lowestTerms_44 ?_
        refine Gd_if_ne eX7_lowestTerms_46 (fun _ => ?_) (fun q => by first | exact absurd q (by decide) | exact absurd (by decide) q)
        refine Gd_lload_n (i := 2) rfl eX7_lowestTerms_53 ?_
        refine Gd_lstore9 rfl eX7_lowestTerms_54 ?_
        refine Gd_lload (i := 5) rfl eX7_lowestTerms_56 ?_
        refine Gd_lconst (v := lN 0) rfl eX7_lowestTerms_58 ?_
        refine Gd_lcmp eX7_lowestTerms_59 ?_
        refine Gd_if_ne eX7_lowestTerms_60 (fun c60 => ?_) (fun c60 => ?_)
        · have hne := lN_ne0 (n := x) (by omega) (by omega)
          refine Gd_lload (i := 9) rfl eX7_lowestTerms_68 ?_
          refine Gd_lload (i := 5) rfl eX7_lowestTerms_70 ?_
          refine Gd_ldiv (by assumption) eX7_lowestTerms_72 ?_
          rw [pk_lDiv (by omega) (by omega) (by omega)]
          exact Gd_lreturn eX7_lowestTerms_73 rfl (Nat.le_refl _) (Nat.le_refl _) (by rw [lowt, ← hG] at kq; exact kq)
        · exact absurd ((lg_z (by omega)).mp c60) hx0
      · have hy : ¬ y = 0 := fun z => c20 ((lg_z (by omega)).mpr z)
        have hne := lN_ne0 (n := y) (by omega) (by omega)
        refine Gd_lload (i := 5) rfl eX7_lowestTerms_23 ?_
        refine Gd_lload (i := 7) rfl eX7_lowestTerms_25 ?_
        refine Gd_lrem (by assumption) eX7_lowestTerms_27 ?_
        rw [pk_lRem (by omega) (by omega) (by omega)]
        refine Gd_lstore10 rfl eX7_lowestTerms_28 ?_
        refine Gd_lload (i := 7) rfl eX7_lowestTerms_30 ?_
        refine Gd_lstore5 rfl eX7_lowestTerms_32 ?_
        refine Gd_lload (i := 10) rfl eX7_lowestTerms_34 ?_
        refine Gd_lstore7 rfl eX7_lowestTerms_36 ?_
        refine Gd_iinc9 (ho := rfl) (he := nI_inc _) eX7_lowestTerms_38 ?_
        refine Gd_goto eX7_lowestTerms_41 ?_
        exact x_low1_L hn hd m (i + 1) y (x % y) _ _ (by omega) (by have := Nat.mod_lt x (show 0 < y by omega); omega) (by omega) (by have := Nat.mod_lt x (show 0 < y by omega); omega) (Or.inl (by omega)) (by rw [gcd_st]; exact hG) kq
theorem x_low1 {h : g_H} {n d : Nat} (hn : n < 2147483648) (hd0 : 0 < d) (hd2 : d ≤ 64) : Mt YX7_lowestTerms 0 0 0 [vl (lN n), vl (lN d), vi (nI 1)] h (g_P (some (vl (lN (lowt n d 1)))) h) := by
  refine Mt_of rfl (Nat.le_of_ble_eq_true rfl) rfl ?_
  refine Gd_lload_n (i := 0) rfl eX7_lowestTerms_0 ?_
  refine Gd_lstore5 rfl eX7_lowestTerms_1 ?_
  refine Gd_lload_n (i := 2) rfl eX7_lowestTerms_3 ?_
  refine Gd_lstore7 rfl eX7_lowestTerms_4 ?_
  refine Gd_iconst ki_0 eX7_lowestTerms_6 ?_
  refine Gd_istore9 rfl eX7_lowestTerms_7 ?_
  exact x_low1_L hn (by omega) 64 0 n d _ _ (by omega) hd2 hn (by omega) (Or.inr (by omega)) rfl ⟨rfl, rfl⟩
