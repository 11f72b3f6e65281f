theorem m_in {h : g_H} (v lo hi : Int32) : Mt YX8_in 0 0 0 [vi v, vi lo, vi hi] h (g_P (some (vi (bI (inb v lo hi)))) h) := by
  refine Mt_of rfl (by decide) rfl ?_
  refine Gd_iload_n (i := 0) rfl eX8_in_0 ?_
  refine Gd_iload_n (i := 1) rfl eX8_in_1 ?_
  refine Gd_icmp_lt eX8_in_2 (fun c2 => ?_) (fun c2 => ?_)
  · refine Gd_iconst ki_0 eX8_in_14 ?_
    exact Gd_zreturn eX8_in_15 rfl (by decide) (Nat.le_refl _) (Nat.le_refl _) ⟨by rw [inb_f1 c2]; rfl, rfl⟩
  · refine Gd_iload_n (i := 0) rfl eX8_in_5 ?_
    refine Gd_iload_n (i := 2) rfl eX8_in_6 ?_
    refine Gd_icmp_gt eX8_in_7 (fun c7 => ?_) (fun c7 => ?_)
    · refine Gd_iconst ki_0 eX8_in_14 ?_
      exact Gd_zreturn eX8_in_15 rfl (by decide) (Nat.le_refl _) (Nat.le_refl _) ⟨by rw [inb_f2 c7]; rfl, rfl⟩
    · refine Gd_iconst ki_1 eX8_in_10 ?_
      refine Gd_goto eX8_in_11 ?_
      exact Gd_zreturn eX8_in_15 rfl (by decide) (Nat.le_refl _) (Nat.le_refl _) ⟨by rw [inb_tt c2 c7]; rfl, rfl⟩
theorem x_isWithin {h : g_H} (v lo hi : Int32) : Mt YX7_isWithin 0 0 0 [vi v, vi lo, vi hi] h (g_P (some (vi (bI (inb v lo hi)))) h) := by
  refine Mt_of rfl (by decide) rfl ?_
  refine Gd_iload_n (i := 0) rfl eX7_isWithin_0 ?_
  refine Gd_iload_n (i := 1) rfl eX7_isWithin_1 ?_
  refine Gd_icmp_lt eX7_isWithin_2 (fun c2 => ?_) (fun c2 => ?_)
  · refine Gd_iconst ki_0 eX7_isWithin_14 ?_
    exact Gd_zreturn eX7_isWithin_15 rfl (by decide) (Nat.le_refl _) (Nat.le_refl _) ⟨by rw [inb_f1 c2]; rfl, rfl⟩
  · refine Gd_iload_n (i := 0) rfl eX7_isWithin_5 ?_
    refine Gd_iload_n (i := 2) rfl eX7_isWithin_6 ?_
    refine Gd_icmp_gt eX7_isWithin_7 (fun c7 => ?_) (fun c7 => ?_)
    · refine Gd_iconst ki_0 eX7_isWithin_14 ?_
      exact Gd_zreturn eX7_isWithin_15 rfl (by decide) (Nat.le_refl _) (Nat.le_refl _) ⟨by rw [inb_f2 c7]; rfl, rfl⟩
    · refine Gd_iconst ki_1 eX7_isWithin_10 ?_
      refine Gd_goto eX7_isWithin_11 ?_
      exact Gd_zreturn eX7_isWithin_15 rfl (by decide) (Nat.le_refl _) (Nat.le_refl _) ⟨by rw [inb_tt c2 c7]; rfl, rfl⟩
