theorem nI_sub_lt {x : Nat} (h : x < 10000) : nI x - nI 10000 < 0 := by
  have hx : (nI x).toInt = (x : Int) := nI_toInt (by omega)
  have hy : (nI 10000).toInt = 10000 := by decide
  rw [Int32.lt_iff_toInt_lt, Int32.toInt_sub, hx, hy, Int.bmod_eq_of_le (by omega) (by omega)]
  show (x : Int) - 10000 < 0
  omega
theorem x_value_L {sh : List (Nat × Nat)} {a : Nat → Nat → Int32} {r : Nat → Nat → Option Nat} {g : Nat → Nat → Int64} {Q : Option g_V → g_H → Prop} {N0 : Nat} {T len part f e : Nat} {c : Nat → Nat} (hW : WD sh r) (hs0 : sh[T]? = some (5, 2)) (hs1 : sh[T + 1]? = some (20, len)) (hs2 : sh[T + 2]? = some (20, 4)) (hr0 : r T 0 = some (T + 1)) (hr1 : r T 1 = some (T + 2)) (hp : part < 3) (h1 : a (T + 2) part = nI f) (h2 : a (T + 2) (part + 1) = nI e) (h3 : ∀ k, k < e → a (T + 1) k = xcd (c k)) (hfe : f ≤ e ∧ e ≤ len ∧ len ≤ 160) (hwf : wfc c f (e - f)) (hT34 : T ≠ 34 ∧ T + 1 ≠ 34 ∧ T + 2 ≠ 34) (hq : ∀ a', a' 34 = rsk (a 33) c f (a 34) (e - f) → chg s34 a a' → Q (some (vi (a' 34 0))) (sh, a', r, g)) : ∀ (fu k n i : Nat) (a' : Nat → Nat → Int32) (o6 o7 o8 o9 : Option g_V), e < fu + i → i ≤ e → i = f + k → n = dpn c f k → a' 34 = rsk (a 33) c f (a 34) k → chg s34 a a' → Gd YX5_value (z0 0 N0 Q) 0 0 11 [some (vr T), some (vi (nI part)), some (vr 33), some (vr 34), some (vi (nI n)), some (vi (nI i)), o6, o7, o8, o9] [] (sh, a', r, g)
  | 0, k, n, i, a', o6, o7, o8, o9, h5, h6, hi, hn, ha, hc => absurd h5 (by omega)
  | fu + 1, k, n, i, a', o6, o7, o8, o9, h5, h6, hi, hn, ha, hc => by
    have h1' : a' (T + 2) part = nI f := (hc _ _ (by simp [s34, hT34])).trans h1
    have h2' : a' (T + 2) (part + 1) = nI e := (hc _ _ (by simp [s34, hT34])).trans h2
    have h3' : ∀ k, k < e → a' (T + 1) k = xcd (c k) := fun k hk => (hc _ _ (by simp [s34, hT34])).trans (h3 k hk)
    have h33 : a' 33 = a 33 := funext fun j => hc 33 j rfl
    have hdk := dpn_le c f k
    have hne : n ≤ k := by omega
    refine Gd_iload (i := 5) rfl eX5_value_11 ?_
    refine Gd_aload_n (i := 0) rfl eX5_value_13 ?_
    refine Gd_getR fl_RX5_24 hs0 hr1 eX5_value_14 ?_
    refine Gd_iload_n (i := 1) rfl eX5_value_17 ?_
    refine Gd_iconst ki_1 eX5_value_18 ?_
    refine Gd_iaddN eX5_value_19 ?_
    refine Gd_ialdE (v := nI (e)) hs2 (by first | omega | decide) h2' eX5_value_20 ?_
    refine Gd_icmp_geN (by first | omega | decide) (by first | omega | decide) eX5_value_21 (fun c21 => ?_) (fun c21 => ?_)
    · have hn1 : n = 1 := by rw [hn, show k = e - f by omega]; exact hwf.2
      refine Gd_iload (i := 4) rfl eX5_value_371 ?_
      refine Gd_if_leN (by first | omega | decide) eX5_value_373 (fun c373 => ?_) (fun c373 => ?_)
      · exact absurd c373 (by omega)
      · refine Gd_aload_n (i := 3) rfl eX5_value_376 ?_
        refine Gd_iconst ki_0 eX5_value_377 ?_
        refine Gd_ialdN (W_s34 hW) (by first | omega | decide) eX5_value_378 ?_
        refine Gd_goto eX5_value_379 ?_
        exact Gd_ireturn eX5_value_383 rfl (Nat.le_refl _) (Nat.le_refl _) (hq _ (by rw [ha, show e - f = k by omega]) hc)
    · refine Gd_aload_n (i := 0) rfl eX5_value_24 ?_
      refine Gd_getR fl_RX5_7 hs0 hr0 eX5_value_25 ?_
      refine Gd_iload (i := 5) rfl eX5_value_28 ?_
      refine Gd_ialdE hs1 (by first | omega | decide) (h3' _ (by omega)) eX5_value_30 ?_
      refine Gd_istore6 rfl eX5_value_31 ?_
      obtain ⟨cc, hcc⟩ : ∃ cc, cc = c i := ⟨_, rfl⟩
      rw [← hcc]
      have hok : okc cc n := by rw [hcc, hi, hn]; exact hwf.1 k (by omega)
      obtain ⟨o1, o2, o3, o4⟩ := hok
      have e1 : dpn c f (k + 1) = dp1 cc n := by rw [dpn, hcc, hi, hn]
      have e2 : rsk (a 33) c f (a 34) (k + 1) = st1 (a 33) cc n (rsk (a 33) c f (a 34) k) := by rw [rsk, hcc, hi, hn]
      rcases (by omega : cc < 6 ∨ (100000 ≤ cc ∧ cc < 110000) ∨ cc = 11 ∨ cc = 12 ∨ cc = 13 ∨ cc = 14 ∨ cc = 15 ∨ cc = 16 ∨ cc = 17 ∨ cc = 18 ∨ cc = 19) with hc1 | hc1 | hc1 | hc1 | hc1 | hc1 | hc1 | hc1 | hc1 | hc1 | hc1
      · rw [xcd_nm hc1]
        refine Gd_iload (i := 6) rfl eX5_value_33 ?_
        refine Gd_sipush ks_10000 eX5_value_35 ?_
        refine Gd_isubN (by first | omega | decide) eX5_value_38 ?_
        rw [show 10000 + cc - 10000 = cc by omega]
        refine Gd_istore7 rfl eX5_value_39 ?_
        refine Gd_iload (i := 6) rfl eX5_value_41 ?_
        refine Gd_if_ltN (by first | omega | decide) eX5_value_43 (fun q => q.elim) (fun _ => ?_)
        refine Gd_iload (i := 4) rfl eX5_value_46 ?_
        refine Gd_aload_n (i := 3) rfl eX5_value_48 ?_
        refine Gd_alen (W_s34 hW) (v := nI 160) rfl eX5_value_49 ?_
        refine Gd_icmp_geN (by first | omega | decide) (by first | omega | decide) eX5_value_50 (fun c50 => ?_) (fun c50 => ?_)
        · exact absurd c50 (by omega)
        · refine Gd_aload_n (i := 3) rfl eX5_value_53 ?_
          refine Gd_iload (i := 4) rfl eX5_value_54 ?_
          refine Gd_iload (i := 7) rfl eX5_value_56 ?_
          refine Gd_if_ltN (by first | omega | decide) eX5_value_58 (fun q => q.elim) (fun _ => ?_)
          refine Gd_iload (i := 7) rfl eX5_value_61 ?_
          refine Gd_aload_n (i := 2) rfl eX5_value_63 ?_
          refine Gd_alen (W_s33 hW) (v := nI 6) rfl eX5_value_64 ?_
          refine Gd_icmp_geN (by first | omega | decide) (by first | omega | decide) eX5_value_65 (fun c65 => ?_) (fun c65 => ?_)
          · exact absurd c65 (by omega)
          · refine Gd_aload_n (i := 2) rfl eX5_value_68 ?_
            refine Gd_iload (i := 7) rfl eX5_value_69 ?_
            refine Gd_ialdN (W_s33 hW) (by first | omega | decide) eX5_value_71 ?_
            refine Gd_goto eX5_value_72 ?_
            refine Gd_iastN (W_s34 hW) (by first | omega | decide) eX5_value_77 ?_
            refine Gd_iinc4 (ho := rfl) (he := nI_inc _) eX5_value_78 ?_
            refine Gd_goto eX5_value_81 ?_
            refine Gd_iinc5 (ho := rfl) (he := nI_inc _) eX5_value_365 ?_
            refine Gd_goto eX5_value_368 ?_
            exact x_value_L hW hs0 hs1 hs2 hr0 hr1 hp h1 h2 h3 hfe hwf hT34 hq fu (k + 1) _ _ _ _ _ _ _ (by omega) (by omega) (by omega) (by rw [e1]; simp only [dp1]; split <;> first | rfl | omega | (split <;> first | rfl | omega)) (by rw [e2, ← ha, up2_row]; simp only [st1]; rw [if_pos (by omega), h33]) (chg_up hc rfl)
      · rw [xcd_no hc1]
        refine Gd_iload (i := 6) rfl eX5_value_33 ?_
        refine Gd_sipush ks_10000 eX5_value_35 ?_
        refine Gd_isub eX5_value_38 ?_
        refine Gd_istore7 rfl eX5_value_39 ?_
        refine Gd_iload (i := 6) rfl eX5_value_41 ?_
        refine Gd_if_ltN (by first | omega | decide) eX5_value_43 (fun q => q.elim) (fun _ => ?_)
        refine Gd_iload (i := 4) rfl eX5_value_46 ?_
        refine Gd_aload_n (i := 3) rfl eX5_value_48 ?_
        refine Gd_alen (W_s34 hW) (v := nI 160) rfl eX5_value_49 ?_
        refine Gd_icmp_geN (by first | omega | decide) (by first | omega | decide) eX5_value_50 (fun c50 => ?_) (fun c50 => ?_)
        · exact absurd c50 (by omega)
        · refine Gd_aload_n (i := 3) rfl eX5_value_53 ?_
          refine Gd_iload (i := 4) rfl eX5_value_54 ?_
          refine Gd_iload (i := 7) rfl eX5_value_56 ?_
          refine Gd_if_lt eX5_value_58 (fun c58 => ?_) (fun c58 => ?_)
          · refine Gd_iload (i := 6) rfl eX5_value_75 ?_
            refine Gd_iastN (W_s34 hW) (by first | omega | decide) eX5_value_77 ?_
            refine Gd_iinc4 (ho := rfl) (he := nI_inc _) eX5_value_78 ?_
            refine Gd_goto eX5_value_81 ?_
            refine Gd_iinc5 (ho := rfl) (he := nI_inc _) eX5_value_365 ?_
            refine Gd_goto eX5_value_368 ?_
            exact x_value_L hW hs0 hs1 hs2 hr0 hr1 hp h1 h2 h3 hfe hwf hT34 hq fu (k + 1) _ _ _ _ _ _ _ (by omega) (by omega) (by omega) (by rw [e1]; simp only [dp1]; split <;> first | rfl | omega | (split <;> first | rfl | omega)) (by rw [e2, ← ha, up2_row]; simp only [st1]; rw [if_neg (by omega), if_pos (by omega)]) (chg_up hc rfl)
          · exact absurd (nI_sub_lt (by omega)) c58
      · rw [hc1, show xcd 11 = -5 by decide]
        have hn1 := (o3 (by omega)).1
        refine Gd_iload (i := 6) rfl eX5_value_33 ?_
        refine Gd_sipush ks_10000 eX5_value_35 ?_
        refine Gd_isub eX5_value_38 ?_
        refine Gd_istore7 rfl eX5_value_39 ?_
        refine Gd_iload (i := 6) rfl eX5_value_41 ?_
        refine Gd_if_lt eX5_value_43 (fun _ => ?_) (fun q => by first | exact absurd q (by decide) | exact absurd (by decide) q)
        refine Gd_iload (i := 6) rfl eX5_value_84 ?_
        refine Gd_bipush kb_m8 eX5_value_86 ?_
        refine Gd_icmp_ne eX5_value_88 (fun _ => ?_) (fun q => by first | exact absurd q (by decide) | exact absurd (by decide) q)
        refine Gd_iload (i := 6) rfl eX5_value_113 ?_
        refine Gd_bipush kb_m7 eX5_value_115 ?_
        refine Gd_icmp_ne eX5_value_117 (fun _ => ?_) (fun q => by first | exact absurd q (by decide) | exact absurd (by decide) q)
        refine Gd_iload (i := 4) rfl eX5_value_149 ?_
        refine Gd_iconst ki_2 eX5_value_151 ?_
        refine Gd_icmp_ltN (by first | omega | decide) (by first | omega | decide) eX5_value_152 (fun c152 => ?_) (fun c152 => ?_)
        · exact absurd c152 (by omega)
        · refine Gd_aload_n (i := 3) rfl eX5_value_155 ?_
          refine Gd_iload (i := 4) rfl eX5_value_156 ?_
          refine Gd_iconst ki_2 eX5_value_158 ?_
          refine Gd_isubN (by first | omega | decide) eX5_value_159 ?_
          refine Gd_ialdN (W_s34 hW) (by first | omega | decide) eX5_value_160 ?_
          refine Gd_istore8 rfl eX5_value_161 ?_
          refine Gd_aload_n (i := 3) rfl eX5_value_163 ?_
          refine Gd_iload (i := 4) rfl eX5_value_164 ?_
          refine Gd_iconst ki_1 eX5_value_166 ?_
          refine Gd_isubN (by first | omega | decide) eX5_value_167 ?_
          refine Gd_ialdN (W_s34 hW) (by first | omega | decide) eX5_value_168 ?_
          refine Gd_istore9 rfl eX5_value_169 ?_
          refine Gd_iinc4 (ho := rfl) (he := nI_dec (by omega)) eX5_value_171 ?_
          refine Gd_iload (i := 6) rfl eX5_value_174 ?_
          refine Gd_ineg eX5_value_176 ?_
          rw [show (-(-5) : Int32) = nI 5 by decide]
          refine Gd_lookup (off := 59) (tgt := 236) eX5_value_177 (by decide) (by decide +kernel) (by decide) ?_
          refine Gd_aload_n (i := 3) rfl eX5_value_236 ?_
          refine Gd_iload (i := 4) rfl eX5_value_237 ?_
          refine Gd_iconst ki_1 eX5_value_239 ?_
          refine Gd_isubN (by first | omega | decide) eX5_value_240 ?_
          refine Gd_iload (i := 8) rfl eX5_value_241 ?_
          refine Gd_if_ne eX5_value_243 (fun c243 => ?_) (fun c243 => ?_)
          · refine Gd_iconst ki_1 eX5_value_251 ?_
            refine Gd_goto eX5_value_252 ?_
            refine Gd_iastN (W_s34 hW) (by first | omega | decide) eX5_value_256 ?_
            refine Gd_goto eX5_value_257 ?_
            refine Gd_iinc5 (ho := rfl) (he := nI_inc _) eX5_value_365 ?_
            refine Gd_goto eX5_value_368 ?_
            exact x_value_L hW hs0 hs1 hs2 hr0 hr1 hp h1 h2 h3 hfe hwf hT34 hq fu (k + 1) _ _ _ _ _ _ _ (by omega) (by omega) (by omega) (by rw [e1]; simp only [dp1]; split <;> first | rfl | omega | (split <;> first | rfl | omega)) (by rw [e2, ← ha, up2_row]; simp only [st1]; rw [if_neg (by omega), if_neg (by omega), if_neg (by omega), if_neg (by omega), hc1]; simp [two, Nat.sub_sub, c243]) (chg_up hc rfl)
          · refine Gd_iload (i := 9) rfl eX5_value_246 ?_
            refine Gd_if_eq eX5_value_248 (fun c248 => ?_) (fun c248 => ?_)
            · refine Gd_iconst ki_0 eX5_value_255 ?_
              refine Gd_iastN (W_s34 hW) (by first | omega | decide) eX5_value_256 ?_
              refine Gd_goto eX5_value_257 ?_
              refine Gd_iinc5 (ho := rfl) (he := nI_inc _) eX5_value_365 ?_
              refine Gd_goto eX5_value_368 ?_
              exact x_value_L hW hs0 hs1 hs2 hr0 hr1 hp h1 h2 h3 hfe hwf hT34 hq fu (k + 1) _ _ _ _ _ _ _ (by omega) (by omega) (by omega) (by rw [e1]; simp only [dp1]; split <;> first | rfl | omega | (split <;> first | rfl | omega)) (by rw [e2, ← ha, up2_row]; simp only [st1]; rw [if_neg (by omega), if_neg (by omega), if_neg (by omega), if_neg (by omega), hc1]; simp [two, Nat.sub_sub, c243, c248]) (chg_up hc rfl)
            · refine Gd_iconst ki_1 eX5_value_251 ?_
              refine Gd_goto eX5_value_252 ?_
              refine Gd_iastN (W_s34 hW) (by first | omega | decide) eX5_value_256 ?_
              refine Gd_goto eX5_value_257 ?_
              refine Gd_iinc5 (ho := rfl) (he := nI_inc _) eX5_value_365 ?_
              refine Gd_goto eX5_value_368 ?_
              exact x_value_L hW hs0 hs1 hs2 hr0 hr1 hp h1 h2 h3 hfe hwf hT34 hq fu (k + 1) _ _ _ _ _ _ _ (by omega) (by omega) (by omega) (by rw [e1]; simp only [dp1]; split <;> first | rfl | omega | (split <;> first | rfl | omega)) (by rw [e2, ← ha, up2_row]; simp only [st1]; rw [if_neg (by omega), if_neg (by omega), if_neg (by omega), if_neg (by omega), hc1]; simp [two, Nat.sub_sub, c243, c248]) (chg_up hc rfl)
      · rw [hc1, show xcd 12 = -6 by decide]
        have hn1 := (o3 (by omega)).1
        refine Gd_iload (i := 6) rfl eX5_value_33 ?_
        refine Gd_sipush ks_10000 eX5_value_35 ?_
        refine Gd_isub eX5_value_38 ?_
        refine Gd_istore7 rfl eX5_value_39 ?_
        refine Gd_iload (i := 6) rfl eX5_value_41 ?_
        refine Gd_if_lt eX5_value_43 (fun _ => ?_) (fun q => by first | exact absurd q (by decide) | exact absurd (by decide) q)
        refine Gd_iload (i := 6) rfl eX5_value_84 ?_
        refine Gd_bipush kb_m8 eX5_value_86 ?_
        refine Gd_icmp_ne eX5_value_88 (fun _ => ?_) (fun q => by first | exact absurd q (by decide) | exact absurd (by decide) q)
        refine Gd_iload (i := 6) rfl eX5_value_113 ?_
        refine Gd_bipush kb_m7 eX5_value_115 ?_
        refine Gd_icmp_ne eX5_value_117 (fun _ => ?_) (fun q => by first | exact absurd q (by decide) | exact absurd (by decide) q)
        refine Gd_iload (i := 4) rfl eX5_value_149 ?_
        refine Gd_iconst ki_2 eX5_value_151 ?_
        refine Gd_icmp_ltN (by first | omega | decide) (by first | omega | decide) eX5_value_152 (fun c152 => ?_) (fun c152 => ?_)
        · exact absurd c152 (by omega)
        · refine Gd_aload_n (i := 3) rfl eX5_value_155 ?_
          refine Gd_iload (i := 4) rfl eX5_value_156 ?_
          refine Gd_iconst ki_2 eX5_value_158 ?_
          refine Gd_isubN (by first | omega | decide) eX5_value_159 ?_
          refine Gd_ialdN (W_s34 hW) (by first | omega | decide) eX5_value_160 ?_
          refine Gd_istore8 rfl eX5_value_161 ?_
          refine Gd_aload_n (i := 3) rfl eX5_value_163 ?_
          refine Gd_iload (i := 4) rfl eX5_value_164 ?_
          refine Gd_iconst ki_1 eX5_value_166 ?_
          refine Gd_isubN (by first | omega | decide) eX5_value_167 ?_
          refine Gd_ialdN (W_s34 hW) (by first | omega | decide) eX5_value_168 ?_
          refine Gd_istore9 rfl eX5_value_169 ?_
          refine Gd_iinc4 (ho := rfl) (he := nI_dec (by omega)) eX5_value_171 ?_
          refine Gd_iload (i := 6) rfl eX5_value_174 ?_
          refine Gd_ineg eX5_value_176 ?_
          rw [show (-(-6) : Int32) = nI 6 by decide]
          refine Gd_lookup (off := 83) (tgt := 260) eX5_value_177 (by decide) (by decide +kernel) (by decide) ?_
          refine Gd_aload_n (i := 3) rfl eX5_value_260 ?_
          refine Gd_iload (i := 4) rfl eX5_value_261 ?_
          refine Gd_iconst ki_1 eX5_value_263 ?_
          refine Gd_isubN (by first | omega | decide) eX5_value_264 ?_
          refine Gd_iload (i := 8) rfl eX5_value_265 ?_
          refine Gd_if_eq eX5_value_267 (fun c267 => ?_) (fun c267 => ?_)
          · refine Gd_iconst ki_0 eX5_value_279 ?_
            refine Gd_iastN (W_s34 hW) (by first | omega | decide) eX5_value_280 ?_
            refine Gd_goto eX5_value_281 ?_
            refine Gd_iinc5 (ho := rfl) (he := nI_inc _) eX5_value_365 ?_
            refine Gd_goto eX5_value_368 ?_
            exact x_value_L hW hs0 hs1 hs2 hr0 hr1 hp h1 h2 h3 hfe hwf hT34 hq fu (k + 1) _ _ _ _ _ _ _ (by omega) (by omega) (by omega) (by rw [e1]; simp only [dp1]; split <;> first | rfl | omega | (split <;> first | rfl | omega)) (by rw [e2, ← ha, up2_row]; simp only [st1]; rw [if_neg (by omega), if_neg (by omega), if_neg (by omega), if_neg (by omega), hc1]; simp [two, Nat.sub_sub, c267]) (chg_up hc rfl)
          · refine Gd_iload (i := 9) rfl eX5_value_270 ?_
            refine Gd_if_eq eX5_value_272 (fun c272 => ?_) (fun c272 => ?_)
            · refine Gd_iconst ki_0 eX5_value_279 ?_
              refine Gd_iastN (W_s34 hW) (by first | omega | decide) eX5_value_280 ?_
              refine Gd_goto eX5_value_281 ?_
              refine Gd_iinc5 (ho := rfl) (he := nI_inc _) eX5_value_365 ?_
              refine Gd_goto eX5_value_368 ?_
              exact x_value_L hW hs0 hs1 hs2 hr0 hr1 hp h1 h2 h3 hfe hwf hT34 hq fu (k + 1) _ _ _ _ _ _ _ (by omega) (by omega) (by omega) (by rw [e1]; simp only [dp1]; split <;> first | rfl | omega | (split <;> first | rfl | omega)) (by rw [e2, ← ha, up2_row]; simp only [st1]; rw [if_neg (by omega), if_neg (by omega), if_neg (by omega), if_neg (by omega), hc1]; simp [two, Nat.sub_sub, c267, c272]) (chg_up hc rfl)
            · refine Gd_iconst ki_1 eX5_value_275 ?_
              refine Gd_goto eX5_value_276 ?_
              refine Gd_iastN (W_s34 hW) (by first | omega | decide) eX5_value_280 ?_
              refine Gd_goto eX5_value_281 ?_
              refine Gd_iinc5 (ho := rfl) (he := nI_inc _) eX5_value_365 ?_
              refine Gd_goto eX5_value_368 ?_
              exact x_value_L hW hs0 hs1 hs2 hr0 hr1 hp h1 h2 h3 hfe hwf hT34 hq fu (k + 1) _ _ _ _ _ _ _ (by omega) (by omega) (by omega) (by rw [e1]; simp only [dp1]; split <;> first | rfl | omega | (split <;> first | rfl | omega)) (by rw [e2, ← ha, up2_row]; simp only [st1]; rw [if_neg (by omega), if_neg (by omega), if_neg (by omega), if_neg (by omega), hc1]; simp [two, Nat.sub_sub, c267, c272]) (chg_up hc rfl)
      · rw [hc1, show xcd 13 = -7 by decide]
        have hn1 := o2 (by omega)
        refine Gd_iload (i := 6) rfl eX5_value_33 ?_
        refine Gd_sipush ks_10000 eX5_value_35 ?_
        refine Gd_isub eX5_value_38 ?_
        refine Gd_istore7 rfl eX5_value_39 ?_
        refine Gd_iload (i := 6) rfl eX5_value_41 ?_
        refine Gd_if_lt eX5_value_43 (fun _ => ?_) (fun q => by first | exact absurd q (by decide) | exact absurd (by decide) q)
        refine Gd_iload (i := 6) rfl eX5_value_84 ?_
        refine Gd_bipush kb_m8 eX5_value_86 ?_
        refine Gd_icmp_ne eX5_value_88 (fun _ => ?_) (fun q => by first | exact absurd q (by decide) | exact absurd (by decide) q)
        refine Gd_iload (i := 6) rfl eX5_value_113 ?_
        refine Gd_bipush kb_m7 eX5_value_115 ?_
        refine Gd_icmp_ne eX5_value_117 (fun q => by first | exact absurd q (by decide) | exact absurd (by decide) q) (fun _ => ?_)
        refine Gd_iload (i := 4) rfl eX5_value_120 ?_
        refine Gd_iconst ki_1 eX5_value_122 ?_
        refine Gd_icmp_ltN (by first | omega | decide) (by first | omega | decide) eX5_value_123 (fun c123 => ?_) (fun c123 => ?_)
        · exact absurd c123 (by omega)
        · refine Gd_aload_n (i := 3) rfl eX5_value_126 ?_
          refine Gd_iload (i := 4) rfl eX5_value_127 ?_
          refine Gd_iconst ki_1 eX5_value_129 ?_
          refine Gd_isubN (by first | omega | decide) eX5_value_130 ?_
          refine Gd_aload_n (i := 3) rfl eX5_value_131 ?_
          refine Gd_iload (i := 4) rfl eX5_value_132 ?_
          refine Gd_iconst ki_1 eX5_value_134 ?_
          refine Gd_isubN (by first | omega | decide) eX5_value_135 ?_
          refine Gd_ialdN (W_s34 hW) (by first | omega | decide) eX5_value_136 ?_
          refine Gd_if_ne eX5_value_137 (fun c137 => ?_) (fun c137 => ?_)
          · refine Gd_iconst ki_0 eX5_value_144 ?_
            refine Gd_iastN (W_s34 hW) (by first | omega | decide) eX5_value_145 ?_
            refine Gd_goto eX5_value_146 ?_
            refine Gd_iinc5 (ho := rfl) (he := nI_inc _) eX5_value_365 ?_
            refine Gd_goto eX5_value_368 ?_
            exact x_value_L hW hs0 hs1 hs2 hr0 hr1 hp h1 h2 h3 hfe hwf hT34 hq fu (k + 1) _ _ _ _ _ _ _ (by omega) (by omega) (by omega) (by rw [e1]; simp only [dp1]; split <;> first | rfl | omega | (split <;> first | rfl | omega)) (by rw [e2, ← ha, up2_row]; simp only [st1]; rw [if_neg (by omega), if_neg (by omega), if_pos hc1, if_neg c137]) (chg_up hc rfl)
          · refine Gd_iconst ki_1 eX5_value_140 ?_
            refine Gd_goto eX5_value_141 ?_
            refine Gd_iastN (W_s34 hW) (by first | omega | decide) eX5_value_145 ?_
            refine Gd_goto eX5_value_146 ?_
            refine Gd_iinc5 (ho := rfl) (he := nI_inc _) eX5_value_365 ?_
            refine Gd_goto eX5_value_368 ?_
            exact x_value_L hW hs0 hs1 hs2 hr0 hr1 hp h1 h2 h3 hfe hwf hT34 hq fu (k + 1) _ _ _ _ _ _ _ (by omega) (by omega) (by omega) (by rw [e1]; simp only [dp1]; split <;> first | rfl | omega | (split <;> first | rfl | omega)) (by rw [e2, ← ha, up2_row]; simp only [st1]; rw [if_neg (by omega), if_neg (by omega), if_pos hc1, if_pos (by simpa using c137)]) (chg_up hc rfl)
      · rw [hc1, show xcd 14 = -60 by decide]
        have hn1 := (o3 (by omega)).1
        refine Gd_iload (i := 6) rfl eX5_value_33 ?_
        refine Gd_sipush ks_10000 eX5_value_35 ?_
        refine Gd_isub eX5_value_38 ?_
        refine Gd_istore7 rfl eX5_value_39 ?_
        refine Gd_iload (i := 6) rfl eX5_value_41 ?_
        refine Gd_if_lt eX5_value_43 (fun _ => ?_) (fun q => by first | exact absurd q (by decide) | exact absurd (by decide) q)
        refine Gd_iload (i := 6) rfl eX5_value_84 ?_
        refine Gd_bipush kb_m8 eX5_value_86 ?_
        refine Gd_icmp_ne eX5_value_88 (fun _ => ?_) (fun q => by first | exact absurd q (by decide) | exact absurd (by decide) q)
        refine Gd_iload (i := 6) rfl eX5_value_113 ?_
        refine Gd_bipush kb_m7 eX5_value_115 ?_
        refine Gd_icmp_ne eX5_value_117 (fun _ => ?_) (fun q => by first | exact absurd q (by decide) | exact absurd (by decide) q)
        refine Gd_iload (i := 4) rfl eX5_value_149 ?_
        refine Gd_iconst ki_2 eX5_value_151 ?_
        refine Gd_icmp_ltN (by first | omega | decide) (by first | omega | decide) eX5_value_152 (fun c152 => ?_) (fun c152 => ?_)
        · exact absurd c152 (by omega)
        · refine Gd_aload_n (i := 3) rfl eX5_value_155 ?_
          refine Gd_iload (i := 4) rfl eX5_value_156 ?_
          refine Gd_iconst ki_2 eX5_value_158 ?_
          refine Gd_isubN (by first | omega | decide) eX5_value_159 ?_
          refine Gd_ialdN (W_s34 hW) (by first | omega | decide) eX5_value_160 ?_
          refine Gd_istore8 rfl eX5_value_161 ?_
          refine Gd_aload_n (i := 3) rfl eX5_value_163 ?_
          refine Gd_iload (i := 4) rfl eX5_value_164 ?_
          refine Gd_iconst ki_1 eX5_value_166 ?_
          refine Gd_isubN (by first | omega | decide) eX5_value_167 ?_
          refine Gd_ialdN (W_s34 hW) (by first | omega | decide) eX5_value_168 ?_
          refine Gd_istore9 rfl eX5_value_169 ?_
          refine Gd_iinc4 (ho := rfl) (he := nI_dec (by omega)) eX5_value_171 ?_
          refine Gd_iload (i := 6) rfl eX5_value_174 ?_
          refine Gd_ineg eX5_value_176 ?_
          rw [show (-(-60) : Int32) = nI 60 by decide]
          refine Gd_lookup (off := 107) (tgt := 284) eX5_value_177 (by decide) (by decide +kernel) (by decide) ?_
          refine Gd_aload_n (i := 3) rfl eX5_value_284 ?_
          refine Gd_iload (i := 4) rfl eX5_value_285 ?_
          refine Gd_iconst ki_1 eX5_value_287 ?_
          refine Gd_isubN (by first | omega | decide) eX5_value_288 ?_
          refine Gd_iload (i := 8) rfl eX5_value_289 ?_
          refine Gd_iload (i := 9) rfl eX5_value_291 ?_
          refine Gd_icmp_ge eX5_value_293 (fun c293 => ?_) (fun c293 => ?_)
          · refine Gd_iconst ki_0 eX5_value_300 ?_
            refine Gd_iastN (W_s34 hW) (by first | omega | decide) eX5_value_301 ?_
            refine Gd_goto eX5_value_302 ?_
            refine Gd_iinc5 (ho := rfl) (he := nI_inc _) eX5_value_365 ?_
            refine Gd_goto eX5_value_368 ?_
            exact x_value_L hW hs0 hs1 hs2 hr0 hr1 hp h1 h2 h3 hfe hwf hT34 hq fu (k + 1) _ _ _ _ _ _ _ (by omega) (by omega) (by omega) (by rw [e1]; simp only [dp1]; split <;> first | rfl | omega | (split <;> first | rfl | omega)) (by rw [e2, ← ha, up2_row]; simp only [st1]; rw [if_neg (by omega), if_neg (by omega), if_neg (by omega), if_neg (by omega), hc1]; simp [two, Nat.sub_sub, Int32.not_lt.mpr c293]) (chg_up hc rfl)
          · refine Gd_iconst ki_1 eX5_value_296 ?_
            refine Gd_goto eX5_value_297 ?_
            refine Gd_iastN (W_s34 hW) (by first | omega | decide) eX5_value_301 ?_
            refine Gd_goto eX5_value_302 ?_
            refine Gd_iinc5 (ho := rfl) (he := nI_inc _) eX5_value_365 ?_
            refine Gd_goto eX5_value_368 ?_
            exact x_value_L hW hs0 hs1 hs2 hr0 hr1 hp h1 h2 h3 hfe hwf hT34 hq fu (k + 1) _ _ _ _ _ _ _ (by omega) (by omega) (by omega) (by rw [e1]; simp only [dp1]; split <;> first | rfl | omega | (split <;> first | rfl | omega)) (by rw [e2, ← ha, up2_row]; simp only [st1]; rw [if_neg (by omega), if_neg (by omega), if_neg (by omega), if_neg (by omega), hc1]; simp [two, Nat.sub_sub, Int32.not_le.mp c293]) (chg_up hc rfl)
      · rw [hc1, show xcd 15 = -61 by decide]
        have hn1 := (o3 (by omega)).1
        refine Gd_iload (i := 6) rfl eX5_value_33 ?_
        refine Gd_sipush ks_10000 eX5_value_35 ?_
        refine Gd_isub eX5_value_38 ?_
        refine Gd_istore7 rfl eX5_value_39 ?_
        refine Gd_iload (i := 6) rfl eX5_value_41 ?_
        refine Gd_if_lt eX5_value_43 (fun _ => ?_) (fun q => by first | exact absurd q (by decide) | exact absurd (by decide) q)
        refine Gd_iload (i := 6) rfl eX5_value_84 ?_
        refine Gd_bipush kb_m8 eX5_value_86 ?_
        refine Gd_icmp_ne eX5_value_88 (fun _ => ?_) (fun q => by first | exact absurd q (by decide) | exact absurd (by decide) q)
        refine Gd_iload (i := 6) rfl eX5_value_113 ?_
        refine Gd_bipush kb_m7 eX5_value_115 ?_
        refine Gd_icmp_ne eX5_value_117 (fun _ => ?_) (fun q => by first | exact absurd q (by decide) | exact absurd (by decide) q)
        refine Gd_iload (i := 4) rfl eX5_value_149 ?_
        refine Gd_iconst ki_2 eX5_value_151 ?_
        refine Gd_icmp_ltN (by first | omega | decide) (by first | omega | decide) eX5_value_152 (fun c152 => ?_) (fun c152 => ?_)
        · exact absurd c152 (by omega)
        · refine Gd_aload_n (i := 3) rfl eX5_value_155 ?_
          refine Gd_iload (i := 4) rfl eX5_value_156 ?_
          refine Gd_iconst ki_2 eX5_value_158 ?_
          refine Gd_isubN (by first | omega | decide) eX5_value_159 ?_
          refine Gd_ialdN (W_s34 hW) (by first | omega | decide) eX5_value_160 ?_
          refine Gd_istore8 rfl eX5_value_161 ?_
          refine Gd_aload_n (i := 3) rfl eX5_value_163 ?_
          refine Gd_iload (i := 4) rfl eX5_value_164 ?_
          refine Gd_iconst ki_1 eX5_value_166 ?_
          refine Gd_isubN (by first | omega | decide) eX5_value_167 ?_
          refine Gd_ialdN (W_s34 hW) (by first | omega | decide) eX5_value_168 ?_
          refine Gd_istore9 rfl eX5_value_169 ?_
          refine Gd_iinc4 (ho := rfl) (he := nI_dec (by omega)) eX5_value_171 ?_
          refine Gd_iload (i := 6) rfl eX5_value_174 ?_
          refine Gd_ineg eX5_value_176 ?_
          rw [show (-(-61) : Int32) = nI 61 by decide]
          refine Gd_lookup (off := 128) (tgt := 305) eX5_value_177 (by decide) (by decide +kernel) (by decide) ?_
          refine Gd_aload_n (i := 3) rfl eX5_value_305 ?_
          refine Gd_iload (i := 4) rfl eX5_value_306 ?_
          refine Gd_iconst ki_1 eX5_value_308 ?_
          refine Gd_isubN (by first | omega | decide) eX5_value_309 ?_
          refine Gd_iload (i := 8) rfl eX5_value_310 ?_
          refine Gd_iload (i := 9) rfl eX5_value_312 ?_
          refine Gd_icmp_ne eX5_value_314 (fun c314 => ?_) (fun c314 => ?_)
          · refine Gd_iconst ki_0 eX5_value_321 ?_
            refine Gd_iastN (W_s34 hW) (by first | omega | decide) eX5_value_322 ?_
            refine Gd_goto eX5_value_323 ?_
            refine Gd_iinc5 (ho := rfl) (he := nI_inc _) eX5_value_365 ?_
            refine Gd_goto eX5_value_368 ?_
            exact x_value_L hW hs0 hs1 hs2 hr0 hr1 hp h1 h2 h3 hfe hwf hT34 hq fu (k + 1) _ _ _ _ _ _ _ (by omega) (by omega) (by omega) (by rw [e1]; simp only [dp1]; split <;> first | rfl | omega | (split <;> first | rfl | omega)) (by rw [e2, ← ha, up2_row]; simp only [st1]; rw [if_neg (by omega), if_neg (by omega), if_neg (by omega), if_neg (by omega), hc1]; simp [two, Nat.sub_sub, c314]) (chg_up hc rfl)
          · refine Gd_iconst ki_1 eX5_value_317 ?_
            refine Gd_goto eX5_value_318 ?_
            refine Gd_iastN (W_s34 hW) (by first | omega | decide) eX5_value_322 ?_
            refine Gd_goto eX5_value_323 ?_
            refine Gd_iinc5 (ho := rfl) (he := nI_inc _) eX5_value_365 ?_
            refine Gd_goto eX5_value_368 ?_
            exact x_value_L hW hs0 hs1 hs2 hr0 hr1 hp h1 h2 h3 hfe hwf hT34 hq fu (k + 1) _ _ _ _ _ _ _ (by omega) (by omega) (by omega) (by rw [e1]; simp only [dp1]; split <;> first | rfl | omega | (split <;> first | rfl | omega)) (by rw [e2, ← ha, up2_row]; simp only [st1]; rw [if_neg (by omega), if_neg (by omega), if_neg (by omega), if_neg (by omega), hc1]; simp [two, Nat.sub_sub, c314]) (chg_up hc rfl)
      · rw [hc1, show xcd 16 = -43 by decide]
        have hn1 := (o3 (by omega)).1
        refine Gd_iload (i := 6) rfl eX5_value_33 ?_
        refine Gd_sipush ks_10000 eX5_value_35 ?_
        refine Gd_isub eX5_value_38 ?_
        refine Gd_istore7 rfl eX5_value_39 ?_
        refine Gd_iload (i := 6) rfl eX5_value_41 ?_
        refine Gd_if_lt eX5_value_43 (fun _ => ?_) (fun q => by first | exact absurd q (by decide) | exact absurd (by decide) q)
        refine Gd_iload (i := 6) rfl eX5_value_84 ?_
        refine Gd_bipush kb_m8 eX5_value_86 ?_
        refine Gd_icmp_ne eX5_value_88 (fun _ => ?_) (fun q => by first | exact absurd q (by decide) | exact absurd (by decide) q)
        refine Gd_iload (i := 6) rfl eX5_value_113 ?_
        refine Gd_bipush kb_m7 eX5_value_115 ?_
        refine Gd_icmp_ne eX5_value_117 (fun _ => ?_) (fun q => by first | exact absurd q (by decide) | exact absurd (by decide) q)
        refine Gd_iload (i := 4) rfl eX5_value_149 ?_
        refine Gd_iconst ki_2 eX5_value_151 ?_
        refine Gd_icmp_ltN (by first | omega | decide) (by first | omega | decide) eX5_value_152 (fun c152 => ?_) (fun c152 => ?_)
        · exact absurd c152 (by omega)
        · refine Gd_aload_n (i := 3) rfl eX5_value_155 ?_
          refine Gd_iload (i := 4) rfl eX5_value_156 ?_
          refine Gd_iconst ki_2 eX5_value_158 ?_
          refine Gd_isubN (by first | omega | decide) eX5_value_159 ?_
          refine Gd_ialdN (W_s34 hW) (by first | omega | decide) eX5_value_160 ?_
          refine Gd_istore8 rfl eX5_value_161 ?_
          refine Gd_aload_n (i := 3) rfl eX5_value_163 ?_
          refine Gd_iload (i := 4) rfl eX5_value_164 ?_
          refine Gd_iconst ki_1 eX5_value_166 ?_
          refine Gd_isubN (by first | omega | decide) eX5_value_167 ?_
          refine Gd_ialdN (W_s34 hW) (by first | omega | decide) eX5_value_168 ?_
          refine Gd_istore9 rfl eX5_value_169 ?_
          refine Gd_iinc4 (ho := rfl) (he := nI_dec (by omega)) eX5_value_171 ?_
          refine Gd_iload (i := 6) rfl eX5_value_174 ?_
          refine Gd_ineg eX5_value_176 ?_
          rw [show (-(-43) : Int32) = nI 43 by decide]
          refine Gd_lookup (off := 149) (tgt := 326) eX5_value_177 (by decide) (by decide +kernel) (by decide) ?_
          refine Gd_aload_n (i := 3) rfl eX5_value_326 ?_
          refine Gd_iload (i := 4) rfl eX5_value_327 ?_
          refine Gd_iconst ki_1 eX5_value_329 ?_
          refine Gd_isubN (by first | omega | decide) eX5_value_330 ?_
          refine Gd_iload (i := 8) rfl eX5_value_331 ?_
          refine Gd_iload (i := 9) rfl eX5_value_333 ?_
          refine Gd_iadd eX5_value_335 ?_
          refine Gd_iastN (W_s34 hW) (by first | omega | decide) eX5_value_336 ?_
          refine Gd_goto eX5_value_337 ?_
          refine Gd_iinc5 (ho := rfl) (he := nI_inc _) eX5_value_365 ?_
          refine Gd_goto eX5_value_368 ?_
          exact x_value_L hW hs0 hs1 hs2 hr0 hr1 hp h1 h2 h3 hfe hwf hT34 hq fu (k + 1) _ _ _ _ _ _ _ (by omega) (by omega) (by omega) (by rw [e1]; simp only [dp1]; split <;> first | rfl | omega | (split <;> first | rfl | omega)) (by rw [e2, ← ha, up2_row]; simp only [st1]; rw [if_neg (by omega), if_neg (by omega), if_neg (by omega), if_neg (by omega), hc1]; simp [two, Nat.sub_sub]) (chg_up hc rfl)
      · rw [hc1, show xcd 17 = -45 by decide]
        have hn1 := (o3 (by omega)).1
        refine Gd_iload (i := 6) rfl eX5_value_33 ?_
        refine Gd_sipush ks_10000 eX5_value_35 ?_
        refine Gd_isub eX5_value_38 ?_
        refine Gd_istore7 rfl eX5_value_39 ?_
        refine Gd_iload (i := 6) rfl eX5_value_41 ?_
        refine Gd_if_lt eX5_value_43 (fun _ => ?_) (fun q => by first | exact absurd q (by decide) | exact absurd (by decide) q)
        refine Gd_iload (i := 6) rfl eX5_value_84 ?_
        refine Gd_bipush kb_m8 eX5_value_86 ?_
        refine Gd_icmp_ne eX5_value_88 (fun _ => ?_) (fun q => by first | exact absurd q (by decide) | exact absurd (by decide) q)
        refine Gd_iload (i := 6) rfl eX5_value_113 ?_
        refine Gd_bipush kb_m7 eX5_value_115 ?_
        refine Gd_icmp_ne eX5_value_117 (fun _ => ?_) (fun q => by first | exact absurd q (by decide) | exact absurd (by decide) q)
        refine Gd_iload (i := 4) rfl eX5_value_149 ?_
        refine Gd_iconst ki_2 eX5_value_151 ?_
        refine Gd_icmp_ltN (by first | omega | decide) (by first | omega | decide) eX5_value_152 (fun c152 => ?_) (fun c152 => ?_)
        · exact absurd c152 (by omega)
        · refine Gd_aload_n (i := 3) rfl eX5_value_155 ?_
          refine Gd_iload (i := 4) rfl eX5_value_156 ?_
          refine Gd_iconst ki_2 eX5_value_158 ?_
          refine Gd_isubN (by first | omega | decide) eX5_value_159 ?_
          refine Gd_ialdN (W_s34 hW) (by first | omega | decide) eX5_value_160 ?_
          refine Gd_istore8 rfl eX5_value_161 ?_
          refine Gd_aload_n (i := 3) rfl eX5_value_163 ?_
          refine Gd_iload (i := 4) rfl eX5_value_164 ?_
          refine Gd_iconst ki_1 eX5_value_166 ?_
          refine Gd_isubN (by first | omega | decide) eX5_value_167 ?_
          refine Gd_ialdN (W_s34 hW) (by first | omega | decide) eX5_value_168 ?_
          refine Gd_istore9 rfl eX5_value_169 ?_
          refine Gd_iinc4 (ho := rfl) (he := nI_dec (by omega)) eX5_value_171 ?_
          refine Gd_iload (i := 6) rfl eX5_value_174 ?_
          refine Gd_ineg eX5_value_176 ?_
          rw [show (-(-45) : Int32) = nI 45 by decide]
          refine Gd_lookup (off := 163) (tgt := 340) eX5_value_177 (by decide) (by decide +kernel) (by decide) ?_
          refine Gd_aload_n (i := 3) rfl eX5_value_340 ?_
          refine Gd_iload (i := 4) rfl eX5_value_341 ?_
          refine Gd_iconst ki_1 eX5_value_343 ?_
          refine Gd_isubN (by first | omega | decide) eX5_value_344 ?_
          refine Gd_iload (i := 8) rfl eX5_value_345 ?_
          refine Gd_iload (i := 9) rfl eX5_value_347 ?_
          refine Gd_isub eX5_value_349 ?_
          refine Gd_iastN (W_s34 hW) (by first | omega | decide) eX5_value_350 ?_
          refine Gd_goto eX5_value_351 ?_
          refine Gd_iinc5 (ho := rfl) (he := nI_inc _) eX5_value_365 ?_
          refine Gd_goto eX5_value_368 ?_
          exact x_value_L hW hs0 hs1 hs2 hr0 hr1 hp h1 h2 h3 hfe hwf hT34 hq fu (k + 1) _ _ _ _ _ _ _ (by omega) (by omega) (by omega) (by rw [e1]; simp only [dp1]; split <;> first | rfl | omega | (split <;> first | rfl | omega)) (by rw [e2, ← ha, up2_row]; simp only [st1]; rw [if_neg (by omega), if_neg (by omega), if_neg (by omega), if_neg (by omega), hc1]; simp [two, Nat.sub_sub]) (chg_up hc rfl)
      · rw [hc1, show xcd 18 = -42 by decide]
        have hn1 := (o3 (by omega)).1
        refine Gd_iload (i := 6) rfl eX5_value_33 ?_
        refine Gd_sipush ks_10000 eX5_value_35 ?_
        refine Gd_isub eX5_value_38 ?_
        refine Gd_istore7 rfl eX5_value_39 ?_
        refine Gd_iload (i := 6) rfl eX5_value_41 ?_
        refine Gd_if_lt eX5_value_43 (fun _ => ?_) (fun q => by first | exact absurd q (by decide) | exact absurd (by decide) q)
        refine Gd_iload (i := 6) rfl eX5_value_84 ?_
        refine Gd_bipush kb_m8 eX5_value_86 ?_
        refine Gd_icmp_ne eX5_value_88 (fun _ => ?_) (fun q => by first | exact absurd q (by decide) | exact absurd (by decide) q)
        refine Gd_iload (i := 6) rfl eX5_value_113 ?_
        refine Gd_bipush kb_m7 eX5_value_115 ?_
        refine Gd_icmp_ne eX5_value_117 (fun _ => ?_) (fun q => by first | exact absurd q (by decide) | exact absurd (by decide) q)
        refine Gd_iload (i := 4) rfl eX5_value_149 ?_
        refine Gd_iconst ki_2 eX5_value_151 ?_
        refine Gd_icmp_ltN (by first | omega | decide) (by first | omega | decide) eX5_value_152 (fun c152 => ?_) (fun c152 => ?_)
        · exact absurd c152 (by omega)
        · refine Gd_aload_n (i := 3) rfl eX5_value_155 ?_
          refine Gd_iload (i := 4) rfl eX5_value_156 ?_
          refine Gd_iconst ki_2 eX5_value_158 ?_
          refine Gd_isubN (by first | omega | decide) eX5_value_159 ?_
          refine Gd_ialdN (W_s34 hW) (by first | omega | decide) eX5_value_160 ?_
          refine Gd_istore8 rfl eX5_value_161 ?_
          refine Gd_aload_n (i := 3) rfl eX5_value_163 ?_
          refine Gd_iload (i := 4) rfl eX5_value_164 ?_
          refine Gd_iconst ki_1 eX5_value_166 ?_
          refine Gd_isubN (by first | omega | decide) eX5_value_167 ?_
          refine Gd_ialdN (W_s34 hW) (by first | omega | decide) eX5_value_168 ?_
          refine Gd_istore9 rfl eX5_value_169 ?_
          refine Gd_iinc4 (ho := rfl) (he := nI_dec (by omega)) eX5_value_171 ?_
          refine Gd_iload (i := 6) rfl eX5_value_174 ?_
          refine Gd_ineg eX5_value_176 ?_
          rw [show (-(-42) : Int32) = nI 42 by decide]
          refine Gd_lookup (off := 177) (tgt := 354) eX5_value_177 (by decide) (by decide +kernel) (by decide) ?_
          refine Gd_aload_n (i := 3) rfl eX5_value_354 ?_
          refine Gd_iload (i := 4) rfl eX5_value_355 ?_
          refine Gd_iconst ki_1 eX5_value_357 ?_
          refine Gd_isubN (by first | omega | decide) eX5_value_358 ?_
          refine Gd_iload (i := 8) rfl eX5_value_359 ?_
          refine Gd_iload (i := 9) rfl eX5_value_361 ?_
          refine Gd_imul eX5_value_363 ?_
          refine Gd_iastN (W_s34 hW) (by first | omega | decide) eX5_value_364 ?_
          refine Gd_iinc5 (ho := rfl) (he := nI_inc _) eX5_value_365 ?_
          refine Gd_goto eX5_value_368 ?_
          exact x_value_L hW hs0 hs1 hs2 hr0 hr1 hp h1 h2 h3 hfe hwf hT34 hq fu (k + 1) _ _ _ _ _ _ _ (by omega) (by omega) (by omega) (by rw [e1]; simp only [dp1]; split <;> first | rfl | omega | (split <;> first | rfl | omega)) (by rw [e2, ← ha, up2_row]; simp only [st1]; rw [if_neg (by omega), if_neg (by omega), if_neg (by omega), if_neg (by omega), hc1]; simp [two, Nat.sub_sub]) (chg_up hc rfl)
      · rw [hc1, show xcd 19 = -8 by decide]
        have hn1 := o2 (by omega)
        refine Gd_iload (i := 6) rfl eX5_value_33 ?_
        refine Gd_sipush ks_10000 eX5_value_35 ?_
        refine Gd_isub eX5_value_38 ?_
        refine Gd_istore7 rfl eX5_value_39 ?_
        refine Gd_iload (i := 6) rfl eX5_value_41 ?_
        refine Gd_if_lt eX5_value_43 (fun _ => ?_) (fun q => by first | exact absurd q (by decide) | exact absurd (by decide) q)
        refine Gd_iload (i := 6) rfl eX5_value_84 ?_
        refine Gd_bipush kb_m8 eX5_value_86 ?_
        refine Gd_icmp_ne eX5_value_88 (fun q => by first | exact absurd q (by decide) | exact absurd (by decide) q) (fun _ => ?_)
        refine Gd_iload (i := 4) rfl eX5_value_91 ?_
        refine Gd_iconst ki_1 eX5_value_93 ?_
        refine Gd_icmp_ltN (by first | omega | decide) (by first | omega | decide) eX5_value_94 (fun c94 => ?_) (fun c94 => ?_)
        · exact absurd c94 (by omega)
        · refine Gd_aload_n (i := 3) rfl eX5_value_97 ?_
          refine Gd_iload (i := 4) rfl eX5_value_98 ?_
          refine Gd_iconst ki_1 eX5_value_100 ?_
          refine Gd_isubN (by first | omega | decide) eX5_value_101 ?_
          refine Gd_aload_n (i := 3) rfl eX5_value_102 ?_
          refine Gd_iload (i := 4) rfl eX5_value_103 ?_
          refine Gd_iconst ki_1 eX5_value_105 ?_
          refine Gd_isubN (by first | omega | decide) eX5_value_106 ?_
          refine Gd_ialdN (W_s34 hW) (by first | omega | decide) eX5_value_107 ?_
          refine Gd_ineg eX5_value_108 ?_
          refine Gd_iastN (W_s34 hW) (by first | omega | decide) eX5_value_109 ?_
          refine Gd_goto eX5_value_110 ?_
          refine Gd_iinc5 (ho := rfl) (he := nI_inc _) eX5_value_365 ?_
          refine Gd_goto eX5_value_368 ?_
          exact x_value_L hW hs0 hs1 hs2 hr0 hr1 hp h1 h2 h3 hfe hwf hT34 hq fu (k + 1) _ _ _ _ _ _ _ (by omega) (by omega) (by omega) (by rw [e1]; simp only [dp1]; split <;> first | rfl | omega | (split <;> first | rfl | omega)) (by rw [e2, ← ha, up2_row]; simp only [st1]; rw [if_neg (by omega), if_neg (by omega), if_neg (by omega), if_pos hc1]) (chg_up hc rfl)
theorem x_value {sh : List (Nat × Nat)} {a : Nat → Nat → Int32} {r : Nat → Nat → Option Nat} {g : Nat → Nat → Int64} {T len part f e : Nat} {c : Nat → Nat} (hW : WD sh r) (hs0 : sh[T]? = some (5, 2)) (hs1 : sh[T + 1]? = some (20, len)) (hs2 : sh[T + 2]? = some (20, 4)) (hr0 : r T 0 = some (T + 1)) (hr1 : r T 1 = some (T + 2)) (hp : part < 3) (h1 : a (T + 2) part = nI f) (h2 : a (T + 2) (part + 1) = nI e) (h3 : ∀ k, k < e → a (T + 1) k = xcd (c k)) (hfe : f ≤ e ∧ e ≤ len ∧ len ≤ 160) (hwf : wfc c f (e - f)) (hT34 : T ≠ 34 ∧ T + 1 ≠ 34 ∧ T + 2 ≠ 34) : Mt YX5_value 0 0 0 [vr T, vi (nI part), vr 33, vr 34] (sh, a, r, g) (g_EV sh r g (vi (rv (a 33) c f (e - f))) (fun a' => chg s34 a a')) := by
  refine Mt_of rfl (Nat.le_of_ble_eq_true rfl) rfl ?_
  refine Gd_iconst ki_0 eX5_value_0 ?_
  refine Gd_istore4 rfl eX5_value_1 ?_
  refine Gd_aload_n (i := 0) rfl eX5_value_3 ?_
  refine Gd_getR fl_RX5_24 hs0 hr1 eX5_value_4 ?_
  refine Gd_iload_n (i := 1) rfl eX5_value_7 ?_
  refine Gd_ialdE (v := nI (f)) hs2 (by first | omega | decide) h1 eX5_value_8 ?_
  refine Gd_istore5 rfl eX5_value_9 ?_
  exact x_value_L hW hs0 hs1 hs2 hr0 hr1 hp h1 h2 h3 hfe hwf hT34 (fun a' q1 q2 => ⟨a', by rw [q1]; exact congrArg (fun z => some (vi z)) (rsk_cong hwf.1 0 (by rw [hwf.2]; decide)), rfl, q2⟩) (e - f + 1) 0 0 f a _ _ _ _ (by omega) (by omega) (by omega) rfl rfl chg_rf
def bc1 (x : Int32) : Int32 := x - ((x.toUInt32 >>> ((nI 1).toUInt32 &&& Int32.toUInt32 31)).toInt32 &&& nI 1431655765)
def bc2 (x : Int32) : Int32 := (x &&& nI 858993459) + ((x.toUInt32 >>> ((nI 2).toUInt32 &&& Int32.toUInt32 31)).toInt32 &&& nI 858993459)
def bc3 (x : Int32) : Int32 := (x + (x.toUInt32 >>> ((nI 4).toUInt32 &&& Int32.toUInt32 31)).toInt32) &&& nI 252645135
def bc4 (x : Int32) : Int32 := x + (x.toUInt32 >>> ((nI 8).toUInt32 &&& Int32.toUInt32 31)).toInt32
def bc5 (x : Int32) : Int32 := (x + (x.toUInt32 >>> ((nI 16).toUInt32 &&& Int32.toUInt32 31)).toInt32) &&& nI 63
theorem bc_key : ∀ n, n < 1024 → bc5 (bc4 (bc3 (bc2 (bc1 (nI n))))) = nI (pops n 10) := by decide +kernel
theorem x_bitCount {h : g_H} {n : Nat} (hn : n < 1024) : Mt YJ6_bitCount_0f7a4 0 0 0 [vi (nI n)] h (g_P (some (vi (nI (pops n 10)))) h) := by
  refine Mt_of rfl (Nat.le_of_ble_eq_true rfl) rfl ?_
  refine Gd_iload_n (i := 0) rfl eJ6_bitCount_0f7a4_0 ?_
  refine Gd_iload_n (i := 0) rfl eJ6_bitCount_0f7a4_1 ?_
  refine Gd_iconst ki_1 eJ6_bitCount_0f7a4_2 ?_
  refine Gd_iushr eJ6_bitCount_0f7a4_3 ?_
  refine Gd_ldcw (v := nI 1431655765) ct_RJ6_265 eJ6_bitCount_0f7a4_4 ?_
  refine Gd_iand eJ6_bitCount_0f7a4_7 ?_
  refine Gd_isub eJ6_bitCount_0f7a4_8 ?_
  refine Gd_istore_n0 eJ6_bitCount_0f7a4_9 ?_
  refine Gd_iload_n (i := 0) rfl eJ6_bitCount_0f7a4_10 ?_
  refine Gd_ldcw (v := nI 858993459) ct_RJ6_266 eJ6_bitCount_0f7a4_11 ?_
  refine Gd_iand eJ6_bitCount_0f7a4_14 ?_
  refine Gd_iload_n (i := 0) rfl eJ6_bitCount_0f7a4_15 ?_
  refine Gd_iconst ki_2 eJ6_bitCount_0f7a4_16 ?_
  refine Gd_iushr eJ6_bitCount_0f7a4_17 ?_
  refine Gd_ldcw (v := nI 858993459) ct_RJ6_266 eJ6_bitCount_0f7a4_18 ?_
  refine Gd_iand eJ6_bitCount_0f7a4_21 ?_
  refine Gd_iadd eJ6_bitCount_0f7a4_22 ?_
  refine Gd_istore_n0 eJ6_bitCount_0f7a4_23 ?_
  refine Gd_iload_n (i := 0) rfl eJ6_bitCount_0f7a4_24 ?_
  refine Gd_iload_n (i := 0) rfl eJ6_bitCount_0f7a4_25 ?_
  refine Gd_iconst ki_4 eJ6_bitCount_0f7a4_26 ?_
  refine Gd_iushr eJ6_bitCount_0f7a4_27 ?_
  refine Gd_iadd eJ6_bitCount_0f7a4_28 ?_
  refine Gd_ldcw (v := nI 252645135) ct_RJ6_267 eJ6_bitCount_0f7a4_29 ?_
  refine Gd_iand eJ6_bitCount_0f7a4_32 ?_
  refine Gd_istore_n0 eJ6_bitCount_0f7a4_33 ?_
  refine Gd_iload_n (i := 0) rfl eJ6_bitCount_0f7a4_34 ?_
  refine Gd_iload_n (i := 0) rfl eJ6_bitCount_0f7a4_35 ?_
  refine Gd_bipush kb_8 eJ6_bitCount_0f7a4_36 ?_
  refine Gd_iushr eJ6_bitCount_0f7a4_38 ?_
  refine Gd_iadd eJ6_bitCount_0f7a4_39 ?_
  refine Gd_istore_n0 eJ6_bitCount_0f7a4_40 ?_
  refine Gd_iload_n (i := 0) rfl eJ6_bitCount_0f7a4_41 ?_
  refine Gd_iload_n (i := 0) rfl eJ6_bitCount_0f7a4_42 ?_
  refine Gd_bipush kb_16 eJ6_bitCount_0f7a4_43 ?_
  refine Gd_iushr eJ6_bitCount_0f7a4_45 ?_
  refine Gd_iadd eJ6_bitCount_0f7a4_46 ?_
  refine Gd_istore_n0 eJ6_bitCount_0f7a4_47 ?_
  refine Gd_iload_n (i := 0) rfl eJ6_bitCount_0f7a4_48 ?_
  refine Gd_bipush kb_63 eJ6_bitCount_0f7a4_49 ?_
  refine Gd_iand eJ6_bitCount_0f7a4_51 ?_
  exact Gd_ireturn eJ6_bitCount_0f7a4_52 rfl (Nat.le_refl _) (Nat.le_refl _) ⟨congrArg (fun z => some (vi z)) (bc_key n hn), rfl⟩
