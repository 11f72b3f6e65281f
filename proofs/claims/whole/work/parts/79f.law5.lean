-- a text read on both sides
section TXT
variable {nt : Nat} {ts cd : g_Fo} {T C : Nat → Nat} {tq pl : Nat → Nat} {M d : Nat} {G : g_Ps} {sh : List (Nat × Nat)} {a a1 a2 : Nat → Nat → Int32} {r r1 : Nat → Nat → Option Nat} {φ : g_Fo}
theorem TI_new (hTI : TI nt ts cd) (h6 : nt < 6) (htM : tq M = 0) (hM : M ≤ 160) (htq : ∀ k, tq k < 10106) (hd : 36 ≤ d) (hG : rdF tq pl M d = G) (hT : rdT tq pl M d = T) (hf : G.2.1 = 0) : TI (nt + 1) (va_up ts nt T) (va_up cd nt G.2.2.2) ∧ T 3 = G.2.2.1 := by
  have h0 : (rdA tq pl M d 3).2.1 = 0 := by
    rcases Nat.eq_zero_or_pos (rdA tq pl M d 3).2.1 with q | q
    · exact q
    · rw [← hG, rdF, pex_f (by decide) (by omega)] at hf; omega
  obtain ⟨k, n, c, e, hk, hn, ho⟩ := rdA_ok (pl := pl) htM hM htq hd 3 h0
  have e2 : G.2.2 = (n, c) := by rw [← hG, rdF, pex_n, e]
  have eT : ∀ p, p ≤ 3 → T p = (rdA tq pl M d p).2.2.1 := fun p hp => by rw [← hT, rdT_n hp]
  have e3 : (rdA tq pl M d 3).2.2.1 = n := by rw [e]
  refine ⟨⟨by omega, by omega, fun t ht => ?_⟩, by rw [eT 3 (Nat.le_refl _), e3, e2]⟩
  by_cases et : t = nt
  · subst et
    rw [va_up_s, va_up_s]
    refine ⟨⟨?_, ?_, ?_, ?_⟩, fun q hq => ?_⟩
    · rw [eT 0 (by omega), eT 1 (by omega)]; exact (ho 0 (by omega)).1
    · rw [eT 1 (by omega), eT 2 (by omega)]; exact (ho 1 (by omega)).1
    · rw [eT 2 (by omega), eT 3 (by omega)]; exact (ho 2 (by omega)).1
    · rw [eT 3 (by omega), e3]; omega
    · rw [eT q (by omega), eT (q + 1) (by omega), e2]; exact (ho q hq).2.2
  · rw [va_up_n _ _ et, va_up_n _ _ et]
    exact hTI.2.2 t (by omega)
theorem pT_lt {t : Nat} (h : t < nt) : pT t + 2 < pT nt ∧ 47 ≤ pT t := by
  simp only [pT]; split <;> split <;> omega
theorem pT_s (h : 1 ≤ nt) : pT (nt + 1) = pT nt + 3 := by
  rw [pT, pT, if_neg (by omega), if_neg (by omega)]; omega
theorem scTt_hi {k j : Nat} (h : 31 ≤ k) : scTt k j = false := by simp [scTt, scRd]; omega
theorem TX_new {n : Nat} (hX : TX nt ts cd sh a r) (hlen : sh.length = pT nt) (hn3 : T 3 = n) (t2 : a1 31 1 = nI (nt + 1)) (t3 : ∀ k j, k < sh.length → scTt k j = false → ¬ (k = 31 ∧ j = 1) → a1 k j = a k j) (t4 : ∀ k j, k < sh.length → ¬ (k = 32 ∧ j = nt) → r1 k j = r k j) (t6 : r1 32 nt = some sh.length) (t7 : r1 sh.length 0 = some (sh.length + 1)) (t8 : r1 sh.length 1 = some (sh.length + 2)) (t9 : ∀ i, i < n → a1 (sh.length + 1) i = xcd (C i)) (t10 : ∀ j, j < 4 → a1 (sh.length + 2) j = nI (T j)) : TX (nt + 1) (va_up ts nt T) (va_up cd nt C) (sh ++ [(5, 2)] ++ [(20, n)] ++ [(20, 4)]) a1 r1 := by
  refine ⟨t2, fun t ht => ?_⟩
  by_cases e : t = nt
  · subst e
    rw [va_up_s, va_up_s, ← hlen, hn3]
    refine ⟨⟨t6, sh_app (sh_app (g_sh_last _ _)), sh_app ?_, ?_, t7, t8⟩, t10, t9⟩
    · have := g_sh_last (sh ++ [(5, 2)]) (20, n)
      simpa using this
    · have := g_sh_last (sh ++ [(5, 2)] ++ [(20, n)]) (20, 4)
      simpa using this
  · rw [va_up_n _ _ e, va_up_n _ _ e]
    have ht2 : t < nt := by omega
    obtain ⟨p1, p2⟩ := pT_lt ht2
    obtain ⟨⟨h1, h2, h3, h4, h5, h6⟩, h7, h8⟩ := hX.2 t ht2
    refine ⟨⟨(t4 _ _ (by omega) (by omega)).trans h1, sh_app (sh_app (sh_app h2)), sh_app (sh_app (sh_app h3)), sh_app (sh_app (sh_app h4)), (t4 _ _ (by omega) (by omega)).trans h5, (t4 _ _ (by omega) (by omega)).trans h6⟩, fun i hi => ?_, fun k hk => ?_⟩
    · exact (t3 _ _ (by omega) (scTt_hi (by omega)) (by omega)).trans (h7 i hi)
    · exact (t3 _ _ (by omega) (scTt_hi (by omega)) (by omega)).trans (h8 k hk)
theorem TM_old (h : TM nt ts cd a1) (hTI : TI nt ts cd) (c2 : chg (scTm nt) a1 a2) : (∀ t, t < nt → ∀ i, i < 4 → a2 57 (4 * t + i) = nI (ts t i)) ∧ ∀ t, t < nt → ∀ k, k < ts t 3 → a2 56 (200 * t + k) = nI (cd t k) := by
  refine ⟨fun t ht i hi => (c2 _ _ ?_).trans (h.2.1 t ht i hi), fun t ht k hk => (c2 _ _ ?_).trans (h.2.2 t ht k hk)⟩
  · simp [scTm, scER, scPm, scNx]; omega
  · have := TI_at hTI ht
    simp [scTm, scER, scPm, scNx]; omega
theorem TM_new (h : TM nt ts cd a1) (hTI : TI nt ts cd) (c2 : chg (scTm nt) a1 a2) (e1 : a2 50 11 = nI (nt + 1)) (e2 : ∀ j, j < 4 → a2 57 (4 * nt + j) = nI (T j)) (e3 : ∀ i, i < T 3 → a2 56 (200 * nt + i) = nI (C i)) : TM (nt + 1) (va_up ts nt T) (va_up cd nt C) a2 := by
  obtain ⟨h1, h2⟩ := TM_old h hTI c2
  refine ⟨e1, fun t ht i hi => ?_, fun t ht k hk => ?_⟩
  · by_cases e : t = nt
    · subst e; rw [va_up_s]; exact e2 i hi
    · rw [va_up_n _ _ e]; exact h1 t (by omega) i hi
  · by_cases e : t = nt
    · subst e; rw [va_up_s] at hk; rw [va_up_s]; exact e3 k hk
    · rw [va_up_n _ _ e] at hk; rw [va_up_n _ _ e]; exact h2 t (by omega) k hk
theorem mo_Tm : mOnly (scTm nt) := fun k j h => by simp [scTm, scER, scPm, scNx]; omega
theorem MA_Tm (h : MA φ a1) (c2 : chg (scTm nt) a1 a2) : MA φ a2 := MA_ch h c2 (fun k j q => by simp [rM] at q; simp [scTm, scER, scPm, scNx]; omega)
theorem MQ_Tm {nt' : Nat} {ts' cd' : g_Fo} {nb nb' : Nat} {tp tp' : Nat → Nat} {bk : Bool} {ψ : g_Fo} {so sz : Nat → Nat} {cl : Nat → Nat → Int32} (h : RMq nt ts cd nb tp bk ψ so sz cl a1) (c2 : chg (scTm nt) a1 a2) (hT : TM nt' ts' cd' a2) (hP : TP 50 8 55 nb' tp' a2) : RMq nt' ts' cd' nb' tp' bk ψ so sz cl a2 := by
  obtain ⟨h1, h2, h3, h4, h5, h6⟩ := h
  exact ⟨hT, hP, WT_ch h3 c2 (fun _ => rfl), MS_ch h4 c2 (fun k j q1 q2 => by simp [scTm, scER, scPm, scNx]; omega), (c2 _ _ rfl).trans h5, fun z => IM_ch (h6 z) c2 (fun k j q => by simp [scTm, scER, scPm, scNx]; omega)⟩
def scTn (k j : Nat) : Bool := scTt k j || (decide (k = 31) && decide (j = 1)) || decide (71 ≤ k)
theorem xo_Tn : xOnly scTn := fun k j h1 h2 => by simp [scTn, scTt, scRd]; omega
theorem xo_Tt : xOnly scTt := fun k j h1 h2 => by simp [scTt, scRd]; omega
theorem FA_Tn {f : Nat} (hf : f ≤ 17) (h : FA f φ a) (hc : chg scTn a a1) : FA f φ a1 := FA_ch h hc (fun i j q => by simp [scTn, scTt, scRd]; omega)
theorem Tn_Tt {k j : Nat} (h : scTn k j = false) : scTt k j = false := (Bool.or_eq_false_iff.mp (Bool.or_eq_false_iff.mp h).1).1
theorem TX_Tt (h : TX nt ts cd sh a r) (hc : chg scTt a a1) : TX nt ts cd sh a1 r := TX_ch h hc rfl (fun k j q => scTt_hi (by omega))
theorem TP_0 {R j Cc : Nat} {tp : Nat → Nat} (h : a R j = nI 0) : TP R j Cc 0 tp a := ⟨h, fun i hi => absurd hi (Nat.not_lt_zero _)⟩
theorem WD_new {x1 x2 x3 : Nat × Nat} {nt : Nat} (hW : WD sh r) (t4 : ∀ k j, k < sh.length → ¬ (k = 32 ∧ j = nt) → r1 k j = r k j) : WD (sh ++ [x1] ++ [x2] ++ [x3]) r1 := by
  have h70 := sh_lt (W_s70 hW)
  refine ⟨fun k x hx => sh_app (sh_app (sh_app (hW.1 k x hx))), fun q hq => ?_⟩
  have hk : q.1 < 71 ∧ q.1 ≠ 32 := (by decide : ∀ q ∈ RTL, q.1 < 71 ∧ q.1 ≠ 32) q hq
  rw [t4 _ _ (by omega) (by omega)]
  exact hW.2 q hq
end TXT
section LAW
variable {L : Nat} {xs : Nat → Int32} {Q : Option g_V → g_H → Prop} {i k n : Nat} {sh : List (Nat × Nat)} {a : Nat → Nat → Int32} {r : Nat → Nat → Option Nat} {g : Nat → Nat → Int64}
theorem L_text (hS : RLs k n sh a r) (hK : RLk L xs Q i) : Gd YL_law (zL L xs Q) k n 382 (lcs i) [] (sh, a, r, g) := by
  obtain ⟨φ, nt, ts, cd, nb, tp, bk, ψ, so, sz, cl, hLI, hLW, hA, hMA, hX, hM⟩ := hS
  obtain ⟨hP, hTI, hTB, hSI, hBK⟩ := id hLI
  have hW := hLW.1
  have hk0 : k + 0 ≤ 600000 := LW_k hLW hTI
  have hn0 : n + 0 ≤ 7302250 := LW_n hLW hTI
  have h70 := sh_lt (W_s70 hW)
  refine Gd_aload_n (i := 1) rfl eL_law_382 ?_
  rcases Nat.lt_or_ge nt 6 with h6 | h6
  · obtain ⟨M, hMn, hbM, hlM⟩ := bs_ex tp nb
    obtain ⟨G, hG⟩ : ∃ G, rdF (tqf tp nb) (bs tp nb) M 36 = G := ⟨_, rfl⟩
    obtain ⟨T, hT⟩ : ∃ T, rdT (tqf tp nb) (bs tp nb) M 36 = T := ⟨_, rfl⟩
    have htq : ∀ k, tqf tp nb k < 10106 := fun k => tkn_lt hTB.2
    by_cases hf : G.2.1 = 0
    · obtain ⟨hTI2, hT3⟩ := TI_new (ts := ts) (cd := cd) hTI h6 (tq_end hbM) (by omega) htq (Nat.le_refl 36) hG hT hf
      have okl : g_okL sh.length (lcs i) := g_okL_of (by simp; omega)
      refine g_call1 (g_cV (x_textS hW hTB.1 hTB.2 hMn hbM hlM hX.2.1 hX.1.1 h6 hG hT hf hLW.2.1) ok_X7_text lk_RL_33 (W_s0 hW) ⟨_, _, rfl⟩ rfl rfl (Nat.le_of_ble_eq_true rfl) (Nat.le_of_ble_eq_true rfl) (by have := hLW.2.2.2.1; show k + 3 ≤ 600000; omega) (by have := hLW.2.2.2.2; show n + 166 ≤ 7302250; omega) eL_law_383) okl (fun v hv => by cases hv) (fun v h' hq => ?_)
      obtain ⟨rfl, a1, r1, g1, rfl, t1, t2, t3, t4, t5, t6, t7, t8, t9, t10, t11⟩ := hq
      have c1 : chg scTn a a1 := fun k j hk => by
        simp only [scTn, Bool.or_eq_false_iff, decide_eq_false_iff_not, Bool.and_eq_false_iff] at hk
        exact t3 k j (by omega) hk.1.1 (by omega)
      have hW1 : WD (sh ++ [(5, 2)] ++ [(20, G.2.2.1)] ++ [(20, 4)]) r1 := WD_new hW t4
      have hMA1 := MA_x xo_Tn hMA c1
      have hM1 := MQ_x xo_Tn hM c1
      have hX1 : RXq (nt + 1) (va_up ts nt T) (va_up cd nt G.2.2.2) 0 tp bk ψ so sz cl (sh ++ [(5, 2)] ++ [(20, G.2.2.1)] ++ [(20, 4)]) a1 r1 := by
        refine ⟨TX_new hX.1 hLW.2.2.1 hT3 t2 t3 t4 t6 t7 t8 t9 t10, TP_0 t1, SX_ch hX.2.2.1 c1 (fun {k} j q1 q2 => ?_), (c1 _ _ rfl).trans hX.2.2.2.1, fun z => FA_Tn (by omega) (hX.2.2.2.2 z) c1⟩
        simp [scTn, scTt, scRd]; omega
      refine Gd_aload_n (i := 2) rfl eL_law_386 ?_
      refine Gd_callEV (g_cV (m_text hW1 h6 hTB.1 hTB.2 hMn hbM (Nat.le_refl 36) hG hT ⟨hM1.2.1, hM1.2.2.1, hM1.1.1⟩) ok_X8_text lk_RL_37 (W_s50 hW1) ⟨_, _, rfl⟩ rfl rfl (Nat.le_of_ble_eq_true rfl) (Nat.le_of_ble_eq_true rfl) (by have := hLW.2.2.2.1; show k + 3 + 0 ≤ 600000; omega) (by have := hLW.2.2.2.2; show n + 166 + 0 ≤ 7302250; omega) eL_law_387) (fun a2 hq => ?_)
      obtain ⟨⟨w1, w2, w3⟩, c2⟩ := hq
      obtain ⟨w3, w4, w5⟩ := w3 hf
      refine Gd_icmp_eq eL_law_390 (fun _ => ?_) (fun c => absurd (by rw [TXv, if_pos hf]) c)
      refine hK _ _ _ _ _ _ ⟨φ, nt + 1, va_up ts nt T, va_up cd nt G.2.2.2, 0, tp, bk, ψ, so, sz, cl, ⟨⟨hP.1, hP.2.1, hP.2.2.1, hP.2.2.2.1, Nat.lt_succ_of_lt hP.2.2.2.2⟩, hTI2, ⟨Nat.zero_le _, fun i hi => absurd hi (Nat.not_lt_zero _)⟩, hSI, fun z => ⟨?_, (hBK z).2⟩⟩, ⟨hW1, ?_, ?_, ?_, ?_⟩, FA_m mo_Tm (FA_Tn (by omega) hA c1) c2, MA_Tm hMA1 c2, XQ_m mo_Tm hX1 c2, MQ_Tm hM1 c2 (TM_new hM1.1 hTI c2 w3 w4 (fun i hi => w5 i (by omega))) (TP_0 w1)⟩
      · have h := (hBK z).1; exact ⟨h.1, h.2.1, h.2.2.1, h.2.2.2.1, Nat.lt_succ_of_lt h.2.2.2.2⟩
      · simpa using t11
      · rw [pT_s hTI.1, ← hLW.2.2.1]; simp
      · have := hLW.2.2.2.1; omega
      · have := hLW.2.2.2.2; omega
    · refine Gd_callEV (g_cV (x_textF hW hTB.1 hTB.2 hMn hbM hlM hX.2.1 hX.1.1 h6 hG hT hf) ok_X7_text lk_RL_33 (W_s0 hW) ⟨_, _, rfl⟩ rfl rfl (Nat.le_of_ble_eq_true rfl) (Nat.le_of_ble_eq_true rfl) hk0 hn0 eL_law_383) (fun a1 hq => ?_)
      obtain ⟨t1, c1'⟩ := hq
      have c1 : chg scTn a a1 := chg_mono2 Tn_Tt c1'
      have hMA1 := MA_x xo_Tn hMA c1
      have hM1 := MQ_x xo_Tn hM c1
      have hX1 : RXq nt ts cd 0 tp bk ψ so sz cl sh a1 r := by
        refine ⟨TX_Tt hX.1 c1', TP_0 t1, SX_ch hX.2.2.1 c1 (fun {k} j q1 q2 => ?_), (c1 _ _ rfl).trans hX.2.2.2.1, fun z => FA_Tn (by omega) (hX.2.2.2.2 z) c1⟩
        simp [scTn, scTt, scRd]; omega
      refine Gd_aload_n (i := 2) rfl eL_law_386 ?_
      refine Gd_callEV (g_cV (m_text hW h6 hTB.1 hTB.2 hMn hbM (Nat.le_refl 36) hG hT ⟨hM1.2.1, hM1.2.2.1, hM1.1.1⟩) ok_X8_text lk_RL_37 (W_s50 hW) ⟨_, _, rfl⟩ rfl rfl (Nat.le_of_ble_eq_true rfl) (Nat.le_of_ble_eq_true rfl) hk0 hn0 eL_law_387) (fun a2 hq => ?_)
      obtain ⟨⟨w1, w2, w3⟩, c2⟩ := hq
      refine Gd_icmp_eq eL_law_390 (fun _ => ?_) (fun c => absurd (by rw [TXv, if_neg hf]) c)
      obtain ⟨o1, o2⟩ := TM_old hM1.1 hTI c2
      exact hK _ _ _ _ _ _ ⟨φ, nt, ts, cd, 0, tp, bk, ψ, so, sz, cl, ⟨hP, hTI, ⟨Nat.zero_le _, fun i hi => absurd hi (Nat.not_lt_zero _)⟩, hSI, hBK⟩, hLW, FA_m mo_Tm (FA_Tn (by omega) hA c1) c2, MA_Tm hMA1 c2, XQ_m mo_Tm hX1 c2, MQ_Tm hM1 c2 ⟨w2 hf, o1, o2⟩ (TP_0 w1)⟩
  · have h6' : nt = 6 := by have := hTI.2.1; omega
    subst h6'
    refine Gd_callP (g_cV (x_text6 hW hX.1.1 (by omega) (by omega)) ok_X7_text lk_RL_33 (W_s0 hW) ⟨_, _, rfl⟩ rfl rfl (Nat.le_of_ble_eq_true rfl) (Nat.le_of_ble_eq_true rfl) hk0 hn0 eL_law_383) ?_
    refine Gd_aload_n (i := 2) rfl eL_law_386 ?_
    refine Gd_callP (g_cV (m_text6 hW hM.1.1) ok_X8_text lk_RL_37 (W_s50 hW) ⟨_, _, rfl⟩ rfl rfl (Nat.le_of_ble_eq_true rfl) (Nat.le_of_ble_eq_true rfl) hk0 hn0 eL_law_387) ?_
    refine Gd_icmp_eq eL_law_390 (fun _ => ?_) (fun c => absurd rfl c)
    exact hK _ _ _ _ _ _ (LS_F hLI hLW (SG_rf hP) hX hM hA chg_rf hMA chg_rf)
end LAW
