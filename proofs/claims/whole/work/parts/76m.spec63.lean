def scTt (k j : Nat) : Bool := scRd k j || (decide (k = 25) && decide (j = 1))
theorem scTt_Rd {k j : Nat} (h : scTt k j = false) : scRd k j = false := (Bool.or_eq_false_iff.mp h).1
theorem rdF_bG {tq pl : Nat → Nat} {M d : Nat} {G : g_Ps} (hpl : ∀ j, pl j ≤ 160) (hG : rdF tq pl M d = G) : G.2.1 ≤ 161 := by
  rw [← hG, rdF]
  exact pex_b (s := rdA tq pl M d 3) hpl (rdA_b hpl 3)
/-- the class's texts after one more -/
def TAx (nt n : Nat) (ts : Nat → Nat) (c : Nat → Nat) (sh : List (Nat × Nat)) (a : Nat → Nat → Int32) (r : Nat → Nat → Option Nat) (g : Nat → Nat → Int64) (h' : g_H) : Prop :=
  ∃ (a' : Nat → Nat → Int32) (r' : Nat → Nat → Option Nat) (g' : Nat → Nat → Int64), h' = (sh ++ [(5, 2)] ++ [(20, n)] ++ [(20, 4)], a', r', g') ∧ a' 25 1 = nI 0 ∧ a' 31 1 = nI (nt + 1) ∧ (∀ k j, k < sh.length → scTt k j = false → ¬ (k = 31 ∧ j = 1) → a' k j = a k j) ∧ (∀ k j, k < sh.length → ¬ (k = 32 ∧ j = nt) → r' k j = r k j) ∧ (∀ k, k < sh.length → g' k = g k) ∧ r' 32 nt = some sh.length ∧ r' sh.length 0 = some (sh.length + 1) ∧ r' sh.length 1 = some (sh.length + 2) ∧ (∀ i, i < n → a' (sh.length + 1) i = xcd (c i)) ∧ (∀ j, j < 4 → a' (sh.length + 2) j = nI (ts j)) ∧ g_okR (sh.length + 3) r'
theorem x_readG {sh : List (Nat × Nat)} {a : Nat → Nat → Int32} {r : Nat → Nat → Option Nat} {g : Nat → Nat → Int64} {tp : Nat → Nat} {nb : Nat} (hW : WD sh r) (hnb : nb ≤ 160) (h256 : ∀ i, i < nb → tp i < 256) {M : Nat} (hMn : M ≤ nb) (hbM : bs tp nb M = nb) (hlM : ∀ j, j < M → bs tp nb j < nb) (hP : TP 25 1 26 nb tp a) {G : g_Ps} {T : Nat → Nat} (hG : rdF (tqf tp nb) (bs tp nb) M 36 = G) (hT : rdT (tqf tp nb) (bs tp nb) M 36 = T) : Mt YX2_read 76 0 0 [vr 25] (sh, a, r, g) (g_EV sh r g (vi (rdV G)) (fun a' => PSx (tqf tp nb) (bs tp nb) M G a' ∧ (∀ j, j < 4 → a' 30 j = nI (T j)) ∧ chg scRd a a')) := by
  subst hG hT
  exact x_read (WC_of hW) hnb h256 hMn hbM hlM hP
theorem x_text6 {sh : List (Nat × Nat)} {a : Nat → Nat → Int32} {r : Nat → Nat → Option Nat} {g : Nat → Nat → Int64} {nt : Nat} (hW : WD sh r) (hnt : a 31 1 = nI nt) (h6 : 6 ≤ nt) (h7 : nt < 100) : Mt YX7_text 77 0 0 [vr 0] (sh, a, r, g) (g_P (some (vi (-4))) (sh, a, r, g)) := by
  refine Mt_of rfl (Nat.le_of_ble_eq_true rfl) rfl ?_
  refine Gd_aload_n (i := 0) rfl eX7_text_0 ?_
  refine Gd_getR fl_RX7_36 (W_s0 hW) (W_r0_5 hW) eX7_text_1 ?_
  refine Gd_getIe (v := nI (nt)) fl_RX7_106 (W_s31 hW) (hnt :) eX7_text_4 ?_
  refine Gd_bipush kb_6 eX7_text_7 ?_
  refine Gd_icmp_ltN (by first | omega | decide) (by first | omega | decide) eX7_text_9 (fun c9 => ?_) (fun c9 => ?_)
  · exact absurd c9 (by omega)
  · refine Gd_bipush kb_m4 eX7_text_12 ?_
    exact Gd_ireturn eX7_text_14 rfl (Nat.le_refl _) (Nat.le_refl _) ⟨rfl, rfl⟩
theorem x_textF {sh : List (Nat × Nat)} {a : Nat → Nat → Int32} {r : Nat → Nat → Option Nat} {g : Nat → Nat → Int64} {nt : Nat} {tp : Nat → Nat} {nb : Nat} (hW : WD sh r) (hnb : nb ≤ 160) (h256 : ∀ i, i < nb → tp i < 256) {M : Nat} (hMn : M ≤ nb) (hbM : bs tp nb M = nb) (hlM : ∀ j, j < M → bs tp nb j < nb) (hP : TP 25 1 26 nb tp a) (hnt : a 31 1 = nI nt) (h6 : nt < 6) {G : g_Ps} {T : Nat → Nat} (hG : rdF (tqf tp nb) (bs tp nb) M 36 = G) (hTT : rdT (tqf tp nb) (bs tp nb) M 36 = T) (hf : G.2.1 ≠ 0) : Mt YX7_text 77 0 0 [vr 0] (sh, a, r, g) (g_EV sh r g (vi (-100 - nI (G.2.1 - 1))) (fun a' => a' 25 1 = nI 0 ∧ chg scTt a a')) := by
  refine Mt_of rfl (Nat.le_of_ble_eq_true rfl) rfl ?_
  have hb : G.2.1 ≤ 161 := rdF_bG (fun j => Nat.le_trans (bs_le j) hnb) hG
  refine Gd_aload_n (i := 0) rfl eX7_text_0 ?_
  refine Gd_getR fl_RX7_36 (W_s0 hW) (W_r0_5 hW) eX7_text_1 ?_
  refine Gd_getIe (v := nI (nt)) fl_RX7_106 (W_s31 hW) (hnt :) eX7_text_4 ?_
  refine Gd_bipush kb_6 eX7_text_7 ?_
  refine Gd_icmp_ltN (by first | omega | decide) (by first | omega | decide) eX7_text_9 (fun c9 => ?_) (fun c9 => ?_)
  · refine Gd_aload_n (i := 0) rfl eX7_text_15 ?_
    refine Gd_getR fl_RX7_29 (W_s0 hW) (W_r0_4 hW) eX7_text_16 ?_
    refine Gd_callEV (g_cV (x_readG hW hnb h256 hMn hbM hlM hP hG hTT) ok_X2_read lk_RX7_77 (W_s25 hW) ⟨_, _, rfl⟩ rfl rfl (Nat.le_of_ble_eq_true rfl) (Nat.le_of_ble_eq_true rfl) (Nat.le_refl _) (Nat.le_refl _) eX7_text_19) (fun a1 hq => ?_)
    obtain ⟨hS, hT, hc⟩ := hq
    refine Gd_istore_n1 rfl eX7_text_22 ?_
    refine Gd_aload_n (i := 0) rfl eX7_text_23 ?_
    refine Gd_getR fl_RX7_29 (W_s0 hW) (W_r0_4 hW) eX7_text_24 ?_
    refine Gd_callE0 (g_cV (x_clear (WC_of hW)) ok_X2_clear lk_RX7_87 (W_s25 hW) ⟨_, _, rfl⟩ rfl rfl (Nat.le_of_ble_eq_true rfl) (Nat.le_of_ble_eq_true rfl) (Nat.le_refl _) (Nat.le_refl _) eX7_text_27) (fun a2 h2 => ?_)
    subst h2
    refine Gd_iload_n (i := 1) rfl eX7_text_30 ?_
    refine Gd_if_lt eX7_text_31 (fun c31 => ?_) (fun c31 => ?_)
    · exact absurd c31 (by rw [rdV, if_neg hf]; exact nI_lt0 (by omega))
    · refine Gd_bipush kb_m100 eX7_text_34 ?_
      refine Gd_iload_n (i := 1) rfl eX7_text_36 ?_
      refine Gd_isub eX7_text_37 ?_
      exact Gd_ireturn eX7_text_38 rfl (Nat.le_refl _) (Nat.le_refl _) ⟨_, by rw [rdV, if_neg hf], rfl, up2_s _ _ _ _, chg_up (chg_mono2 scTt_Rd hc) rfl⟩
  · exact absurd c9 (by omega)
theorem x_textS_end {sh : List (Nat × Nat)} {a a1 : Nat → Nat → Int32} {r : Nat → Nat → Option Nat} {g : Nat → Nat → Int64} {nt : Nat} {tp : Nat → Nat} {nb M : Nat} {G : g_Ps} {T : Nat → Nat} (hW : WD sh r) (hnt : a 31 1 = nI nt) (hS : PSx (tqf tp nb) (bs tp nb) M G a1) (hT : ∀ j, j < 4 → a1 30 j = nI (T j)) (hc : chg scRd a a1) {a5 : Nat → Nat → Int32} {r5 : Nat → Nat → Option Nat} {g5 : Nat → Nat → Int64}
    (q1 : ∀ k, k < sh.length → a5 k = up2 a1 25 1 (nI 0) k) (q2 : ∀ k, k < sh.length → r5 k = r k) (q3 : ∀ k, k < sh.length → g5 k = g k) (q4 : r5 sh.length 0 = some (sh.length + 1)) (q5 : r5 sh.length 1 = some (sh.length + 2)) (q6 : ∀ i, i < G.2.2.1 → a5 (sh.length + 1) i = up2 a1 25 1 (nI 0) 29 i) (q7 : a5 (sh.length + 2) = up2 a1 25 1 (nI 0) 30) (q8 : g_okR (sh.length + 3) r5) :
    TAx nt G.2.2.1 T G.2.2.2 sh a r g (sh ++ [(5, 2)] ++ [(20, G.2.2.1)] ++ [(20, 4)], up2 a5 31 1 (nI (nt + 1)), upR r5 32 nt (some sh.length), g5) := by
  have h70 := sh_lt (W_s70 hW)
  refine ⟨_, _, _, rfl, ?_, up2_s _ _ _ _, fun k j hk hs hn => ?_, fun k j hk hn => ?_, q3, ?_, ?_, ?_, fun i hi => ?_, fun j hj => ?_, okR_up q8 (by omega)⟩
  · rw [up2_k _ _ (by decide), q1 25 (by omega)]; exact up2_s _ _ _ _
  · have e1 : up2 a5 31 1 (nI (nt + 1)) k j = a5 k j := by
      simp only [up2]
      split
      · next h => exact if_neg (fun z => hn ⟨h, z⟩)
      · rfl
    rw [e1, q1 k hk]
    have e2 : up2 a1 25 1 (nI 0) k j = a1 k j := by
      simp only [up2]
      split
      · next h =>
        refine if_neg (fun z => ?_)
        rw [scTt, h, z] at hs
        exact absurd hs (by decide)
      · rfl
    rw [e2]
    exact hc k j (scTt_Rd hs)
  · rw [← q2 k hk]
    simp only [upR]
    split
    · next h => exact if_neg (fun z => hn ⟨h, z⟩)
    · rfl
  · simp [upR]
  · simp only [upR]; rw [if_neg (by omega)]; exact q4
  · simp only [upR]; rw [if_neg (by omega)]; exact q5
  · rw [up2_k _ _ (by omega), q6 i hi, up2_k _ _ (by decide)]
    exact hS.2.2.2.2.2.1 i hi
  · rw [up2_k _ _ (by omega), q7, up2_k _ _ (by decide)]
    exact hT j hj
theorem x_textS {sh : List (Nat × Nat)} {a : Nat → Nat → Int32} {r : Nat → Nat → Option Nat} {g : Nat → Nat → Int64} {nt : Nat} {tp : Nat → Nat} {nb : Nat} (hW : WD sh r) (hnb : nb ≤ 160) (h256 : ∀ i, i < nb → tp i < 256) {M : Nat} (hMn : M ≤ nb) (hbM : bs tp nb M = nb) (hlM : ∀ j, j < M → bs tp nb j < nb) (hP : TP 25 1 26 nb tp a) (hnt : a 31 1 = nI nt) (h6 : nt < 6) {G : g_Ps} {T : Nat → Nat} (hG : rdF (tqf tp nb) (bs tp nb) M 36 = G) (hTT : rdT (tqf tp nb) (bs tp nb) M 36 = T) (hf : G.2.1 = 0) (okr : g_okR sh.length r) : Mt YX7_text 77 3 166 [vr 0] (sh, a, r, g) ((fun v h' => v = some (vi (nI nt)) ∧ TAx nt G.2.2.1 T G.2.2.2 sh a r g h')) := by
  refine Mt_of rfl (Nat.le_of_ble_eq_true rfl) rfl ?_
  have h70 := sh_lt (W_s70 hW)
  have okl : ∀ N, 0 < N → g_okL N [some (vr 0), some (vi (rdV G))] := fun N hN => g_okL_of (by simp; omega)
  refine Gd_aload_n (i := 0) rfl eX7_text_0 ?_
  refine Gd_getR fl_RX7_36 (W_s0 hW) (W_r0_5 hW) eX7_text_1 ?_
  refine Gd_getIe (v := nI (nt)) fl_RX7_106 (W_s31 hW) (hnt :) eX7_text_4 ?_
  refine Gd_bipush kb_6 eX7_text_7 ?_
  refine Gd_icmp_ltN (by first | omega | decide) (by first | omega | decide) eX7_text_9 (fun c9 => ?_) (fun c9 => ?_)
  · refine Gd_aload_n (i := 0) rfl eX7_text_15 ?_
    refine Gd_getR fl_RX7_29 (W_s0 hW) (W_r0_4 hW) eX7_text_16 ?_
    refine Gd_callEV (g_cV (x_readG hW hnb h256 hMn hbM hlM hP hG hTT) ok_X2_read lk_RX7_77 (W_s25 hW) ⟨_, _, rfl⟩ rfl rfl (Nat.le_of_ble_eq_true rfl) (Nat.le_of_ble_eq_true rfl) (Nat.le_of_ble_eq_true rfl) (by show _ ≤ 166; omega) eX7_text_19) (fun a1 hq => ?_)
    obtain ⟨hS, hT, hc⟩ := hq
    refine Gd_istore_n1 rfl eX7_text_22 ?_
    refine Gd_aload_n (i := 0) rfl eX7_text_23 ?_
    refine Gd_getR fl_RX7_29 (W_s0 hW) (W_r0_4 hW) eX7_text_24 ?_
    refine Gd_callE0 (g_cV (x_clear (WC_of hW)) ok_X2_clear lk_RX7_87 (W_s25 hW) ⟨_, _, rfl⟩ rfl rfl (Nat.le_of_ble_eq_true rfl) (Nat.le_of_ble_eq_true rfl) (Nat.le_of_ble_eq_true rfl) (by show _ ≤ 166; omega) eX7_text_27) (fun a2 h2 => ?_)
    subst h2
    refine Gd_iload_n (i := 1) rfl eX7_text_30 ?_
    refine Gd_if_lt eX7_text_31 (fun c31 => ?_) (fun c31 => ?_)
    · have hn9 : G.2.2.1 ≤ 160 := hS.2.2.2.2.2.2.2
      have h9 : (up2 a1 25 1 (nI 0)) 25 9 = nI G.2.2.1 := hS.2.2.2.2.1
      refine Gd_aload_n (i := 0) rfl eX7_text_39 ?_
      refine Gd_getR fl_RX7_36 (W_s0 hW) (W_r0_5 hW) eX7_text_40 ?_
      refine Gd_aload_n (i := 0) rfl eX7_text_43 ?_
      refine Gd_getR fl_RX7_29 (W_s0 hW) (W_r0_4 hW) eX7_text_44 ?_
      refine g_call1 (g_cV (x_asText (WC_of hW) h9 hn9 okr) ok_X2_asText lk_RX7_80 (W_s25 hW) ⟨_, _, rfl⟩ rfl rfl (Nat.le_of_ble_eq_true rfl) (Nat.le_of_ble_eq_true rfl) (Nat.le_of_ble_eq_true rfl) (by show _ ≤ 166; omega) eX7_text_47) (okl _ (by show 0 < sh.length; omega)) (fun v hv => by rw [List.mem_singleton.mp hv]; show 31 < sh.length; omega) (fun v h' hq => ?_)
      obtain ⟨rfl, a5, r5, g5, rfl, q1, q2, q3, q4, q5, q6, q7, q8⟩ := hq
      have hnt5 : a5 31 1 = nI nt := by rw [q1 31 (by omega)]; exact ((up2_k _ _ (by decide)).trans (hc 31 1 rfl)).trans hnt
      refine Gd_callQ (g_cV (x_tadd (sh := sh ++ [(5, 2)] ++ [(20, G.2.2.1)] ++ [(20, 4)]) (a := a5) (r := r5) (g := g5) (o := sh.length) (nt := nt) (sh_app (sh_app (sh_app (W_s31 hW)))) (sh_app (sh_app (sh_app (W_s32 hW)))) (by rw [q2 31 (by omega)]; exact W_r31_0 hW) (sh_app (sh_app (g_sh_last _ _))) hnt5 h6) ok_X3_add lk_RX7_84 (sh_app (sh_app (sh_app (W_s31 hW)))) ⟨_, _, rfl⟩ rfl rfl (Nat.le_of_ble_eq_true rfl) (Nat.le_of_ble_eq_true rfl) (Nat.le_of_ble_eq_true rfl) (by show _ ≤ 166; omega) eX7_text_50) rfl ?_
      exact Gd_ireturn eX7_text_53 rfl (Nat.le_of_ble_eq_true rfl) (by show _ ≤ 166; omega) ⟨rfl, x_textS_end hW hnt hS hT hc q1 q2 q3 q4 q5 q6 q7 q8⟩
    · exact absurd (by rw [rdV, if_pos hf]; decide) c31
  · exact absurd c9 (by omega)
