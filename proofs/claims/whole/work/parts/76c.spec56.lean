theorem j_coder {h : g_H} {q : Nat} (hq : q < 13) : Mt YJ0_coder_7d493 0 0 0 [vc q] h (g_P (some (vi 0)) h) := by
  refine Mt_of rfl (Nat.le_of_ble_eq_true rfl) rfl ?_
  refine Gd_compact fx_RJ0_38 eJ0_coder_7d493_0 ?_
  refine Gd_if_eq eJ0_coder_7d493_3 (fun q => by first | exact absurd q (by decide) | exact absurd (by decide) q) (fun _ => ?_)
  refine Gd_aload_n (i := 0) rfl eJ0_coder_7d493_6 ?_
  refine Gd_coder hq fx_RJ0_15 eJ0_coder_7d493_7 ?_
  refine Gd_goto eJ0_coder_7d493_10 ?_
  exact Gd_nreturn eJ0_coder_7d493_14 rfl nar_by0 (Nat.le_refl _) (Nat.le_refl _) ⟨rfl, rfl⟩
theorem j_latin {h : g_H} {q : Nat} (hq : q < 13) : Mt YJ0_isLatin1_aae02 0 0 0 [vc q] h (g_P (some (vi (nI 1))) h) := by
  refine Mt_of rfl (Nat.le_of_ble_eq_true rfl) rfl ?_
  refine Gd_compact fx_RJ0_38 eJ0_isLatin1_aae02_0 ?_
  refine Gd_if_eq eJ0_isLatin1_aae02_3 (fun q => by first | exact absurd q (by decide) | exact absurd (by decide) q) (fun _ => ?_)
  refine Gd_aload_n (i := 0) rfl eJ0_isLatin1_aae02_6 ?_
  refine Gd_coder hq fx_RJ0_15 eJ0_isLatin1_aae02_7 ?_
  refine Gd_if_ne eJ0_isLatin1_aae02_10 (fun q => by first | exact absurd q (by decide) | exact absurd (by decide) q) (fun _ => ?_)
  refine Gd_iconst ki_1 eJ0_isLatin1_aae02_13 ?_
  refine Gd_goto eJ0_isLatin1_aae02_14 ?_
  exact Gd_zreturn eJ0_isLatin1_aae02_18 rfl (by decide) (Nat.le_refl _) (Nat.le_refl _) ⟨rfl, rfl⟩
theorem j_length {h : g_H} {q : Nat} (hq : q < 13) : Mt YJ0_length_8abf5 1 0 0 [vc q] h (g_P (some (vi (nI (slq q)))) h) := by
  refine Mt_of rfl (Nat.le_of_ble_eq_true rfl) rfl ?_
  refine Gd_aload_n (i := 0) rfl eJ0_length_8abf5_0 ?_
  refine Gd_svalue hq fx_RJ0_9 eJ0_length_8abf5_1 ?_
  refine Gd_blen (v := nI (slq q)) hq rfl eJ0_length_8abf5_4 ?_
  refine Gd_aload_n (i := 0) rfl eJ0_length_8abf5_5 ?_
  refine Gd_callP (g_cVt hq (j_coder hq) ok_J0_coder_7d493 rfl lk_RJ0_335 rfl rfl (Nat.le_of_ble_eq_true rfl) (Nat.le_of_ble_eq_true rfl) (Nat.le_refl _) (Nat.le_refl _) eJ0_length_8abf5_6) ?_
  refine Gd_ishr eJ0_length_8abf5_9 ?_
  exact Gd_ireturn eJ0_length_8abf5_10 rfl (Nat.le_refl _) (Nat.le_refl _) ⟨by rw [sl_shr _ (slq_lt q hq)], rfl⟩
theorem j_check3 {h : g_H} {i n : Nat} (hi : i < n) (hn : n < 2147483648) : Mt YJ3_checkIndex_8e157 0 0 0 [vi (nI i), vi (nI n), vc 200] h (g_P (some (vi (nI i))) h) := by
  refine Mt_of rfl (Nat.le_of_ble_eq_true rfl) rfl ?_
  refine Gd_iload_n (i := 0) rfl eJ3_checkIndex_8e157_0 ?_
  refine Gd_if_ltN (by first | omega | decide) eJ3_checkIndex_8e157_1 (fun q => q.elim) (fun _ => ?_)
  refine Gd_iload_n (i := 0) rfl eJ3_checkIndex_8e157_4 ?_
  refine Gd_iload_n (i := 1) rfl eJ3_checkIndex_8e157_5 ?_
  refine Gd_icmp_ltN (by first | omega | decide) (by first | omega | decide) eJ3_checkIndex_8e157_6 (fun c6 => ?_) (fun c6 => ?_)
  · refine Gd_iload_n (i := 0) rfl eJ3_checkIndex_8e157_16 ?_
    exact Gd_ireturn eJ3_checkIndex_8e157_17 rfl (Nat.le_refl _) (Nat.le_refl _) ⟨rfl, rfl⟩
  · exact absurd c6 (by omega)
theorem j_check0 {h : g_H} {i n : Nat} (hi : i < n) (hn : n < 2147483648) : Mt YJ0_checkIndex_df160 1 0 0 [vi (nI i), vi (nI n)] h (g_P none h) := by
  refine Mt_of rfl (Nat.le_of_ble_eq_true rfl) rfl ?_
  refine Gd_iload_n (i := 0) rfl eJ0_checkIndex_df160_0 ?_
  refine Gd_iload_n (i := 1) rfl eJ0_checkIndex_df160_1 ?_
  refine Gd_former fx_RJ0_1053 eJ0_checkIndex_df160_2 ?_
  refine Gd_callP (g_cS (j_check3 hi hn) ok_J3_checkIndex_8e157 lk_RJ0_1059 rfl rfl (Nat.le_of_ble_eq_true rfl) (Nat.le_of_ble_eq_true rfl) (Nat.le_refl _) (Nat.le_refl _) eJ0_checkIndex_df160_5) ?_
  refine Gd_pop rfl eJ0_checkIndex_df160_8 ?_
  exact Gd_return eJ0_checkIndex_df160_9 rfl (Nat.le_refl _) (Nat.le_refl _) ⟨rfl, rfl⟩
theorem j_charAt1 {h : g_H} {q : Nat} (hq : q < 13) {i : Nat} (hi : i < slq q) : Mt YJ1_charAt_3b067 2 0 0 [vc (100 + q), vi (nI i)] h (g_P (some (vi (nI (byq q i)))) h) := by
  refine Mt_of rfl (Nat.le_of_ble_eq_true rfl) rfl ?_
  have hi2 : i < slq q ∧ i < 2147483648 := by have := slq_lt q hq; omega
  refine Gd_iload_n (i := 1) rfl eJ1_charAt_3b067_0 ?_
  refine Gd_aload_n (i := 0) rfl eJ1_charAt_3b067_1 ?_
  refine Gd_blen (v := nI (slq q)) hq rfl eJ1_charAt_3b067_2 ?_
  refine Gd_callP0 (g_cS (j_check0 hi (by have := slq_lt q hq; omega)) ok_J0_checkIndex_df160 lk_RJ1_9 rfl rfl (Nat.le_of_ble_eq_true rfl) (Nat.le_of_ble_eq_true rfl) (Nat.le_refl _) (Nat.le_refl _) eJ1_charAt_3b067_3) rfl ?_
  refine Gd_aload_n (i := 0) rfl eJ1_charAt_3b067_6 ?_
  refine Gd_iload_n (i := 1) rfl eJ1_charAt_3b067_7 ?_
  refine Gd_bald hq (vp_in_nI hi (by have := slq_lt q hq; show slq q < 2 ^ 31; omega)) eJ1_charAt_3b067_8 ?_
  rw [nI_clamp hi2.2]
  refine Gd_sipush ks_255 eJ1_charAt_3b067_9 ?_
  refine Gd_iand eJ1_charAt_3b067_12 ?_
  refine Gd_i2c eJ1_charAt_3b067_13 ?_
  exact Gd_nreturn eJ1_charAt_3b067_14 rfl (by rw [(by_key q hq i (by have := slq_lt q hq; omega)).1]; exact nar_ch _ (by_key q hq i (by have := slq_lt q hq; omega)).2) (Nat.le_refl _) (Nat.le_refl _) ⟨by rw [(by_key q hq i (by have := slq_lt q hq; omega)).1], rfl⟩
theorem j_charAt {h : g_H} {q : Nat} (hq : q < 13) {i : Nat} (hi : i < slq q) : Mt YJ0_charAt_5068e 3 0 0 [vc q, vi (nI i)] h (g_P (some (vi (nI (byq q i)))) h) := by
  refine Mt_of rfl (Nat.le_of_ble_eq_true rfl) rfl ?_
  refine Gd_aload_n (i := 0) rfl eJ0_charAt_5068e_0 ?_
  refine Gd_callP (g_cVt hq (j_latin hq) ok_J0_isLatin1_aae02 rfl lk_RJ0_492 rfl rfl (Nat.le_of_ble_eq_true rfl) (Nat.le_of_ble_eq_true rfl) (Nat.le_refl _) (Nat.le_refl _) eJ0_charAt_5068e_1) ?_
  refine Gd_if_eq eJ0_charAt_5068e_4 (fun q => by first | exact absurd q (by decide) | exact absurd (by decide) q) (fun _ => ?_)
  refine Gd_aload_n (i := 0) rfl eJ0_charAt_5068e_7 ?_
  refine Gd_svalue hq fx_RJ0_9 eJ0_charAt_5068e_8 ?_
  refine Gd_iload_n (i := 1) rfl eJ0_charAt_5068e_11 ?_
  refine Gd_callP (g_cS (j_charAt1 hq hi) ok_J1_charAt_3b067 lk_RJ0_495 rfl rfl (Nat.le_of_ble_eq_true rfl) (Nat.le_of_ble_eq_true rfl) (Nat.le_refl _) (Nat.le_refl _) eJ0_charAt_5068e_12) ?_
  exact Gd_nreturn eJ0_charAt_5068e_15 rfl (nar_ch _ (by_key q hq i (by have := slq_lt q hq; omega)).2) (Nat.le_refl _) (Nat.le_refl _) ⟨rfl, rfl⟩
