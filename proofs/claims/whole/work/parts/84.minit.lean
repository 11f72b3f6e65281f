/-! the reference's constructor -/
def f60 : Nat → Int32 := fun _ => -1
def f63 (i : Nat) : Int32 := nI (tp0 i)
def f64 (i : Nat) : Int32 := nI (wtb (i / 8) (i % 8))
/-- what the rows behind 50 hold at first -/
def KM (i y : Nat) : Int32 := if i = 9 then (if y < 4 then f60 y else 0) else if i = 12 then (if y < 35 then f63 y else 0) else if i = 13 then (if y < 96 then f64 y else 0) else 0
abbrev zM (N0 : Nat) (Q : Option g_V → g_H → Prop) : g_Z := (5, 20, 2218, N0, (0, fun _ => 0), Q)
theorem AL_sh {o N0 : Nat} {W : List (Nat × Nat × Nat)} {F : Nat → Int32} {K : Nat → Nat → Int32} {sh0 : List (Nat × Nat)} {a0 : Nat → Nat → Int32} {r0 : Nat → Nat → Option Nat} {sh sh' : List (Nat × Nat)} {a : Nat → Nat → Int32} {r : Nat → Nat → Option Nat} (h : sh = sh') (hA : AL o N0 W F K sh0 a0 r0 sh a r) : AL o N0 W F K sh0 a0 r0 sh' a r := h ▸ hA
/-- what the reference's constructor leaves, beside what was there -/
def MI (G : g_Ps) (T : Nat → Nat) (a0 : Nat → Nat → Int32) (r0 : Nat → Nat → Option Nat) (a : Nat → Nat → Int32) (r : Nat → Nat → Option Nat) : Prop := (∀ k, k < 50 → a k = a0 k) ∧ (∀ k, k < 50 → r k = r0 k) ∧ (∀ q ∈ RTL, q.1 = 50 → r q.1 q.2.1 = some q.2.2) ∧ g_okR 71 r ∧ MA φ0 a ∧ TM 1 (fun _ => T) (fun _ => G.2.2.2) a ∧ a 50 8 = nI 0 ∧ WT a ∧ MS so0 sz0 cl0 a ∧ a 50 13 = nI 0
def WM : List (Nat × Nat × Nat) := [(1, 20, 6), (2, 20, 6), (3, 20, 24), (4, 20, 10), (7, 20, 160), (9, 20, 1200), (10, 20, 24), (14, 20, 34), (15, 20, 4), (16, 20, 4), (17, 20, 4), (18, 20, 160), (19, 20, 35), (24, 20, 96), (25, 20, 200), (29, 20, 200), (30, 20, 6), (31, 20, 6), (33, 20, 35), (34, 20, 4)]
section MI
variable {a a0 : Nat → Nat → Int32} {r r0 : Nat → Nat → Option Nat} {g : Nat → Nat → Int64} {N0 : Nat} {Q : Option g_V → g_H → Prop} {G : g_Ps} {T : Nat → Nat} {M k n : Nat}
/-- before the tape is filled -/
def MP (a0 : Nat → Nat → Int32) (r0 : Nat → Nat → Option Nat) (a : Nat → Nat → Int32) (r : Nat → Nat → Option Nat) : Prop := (∀ k, k < 50 → a k = a0 k) ∧ (∀ k, k < 50 → r k = r0 k) ∧ WD SHW r ∧ g_okR 71 r ∧ MA φ0 a ∧ a 50 11 = nI 0 ∧ WT a ∧ MS so0 sz0 cl0 a ∧ a 50 13 = nI 0 ∧ ∀ i, i < 35 → a 63 i = nI (tp0 i)
theorem MP_ch {S : Nat → Nat → Bool} {a' : Nat → Nat → Int32} (h : MP a0 r0 a r) (hc : chg S a a') (hS : ∀ k j, k ≠ 55 → S k j = false) : MP a0 r0 a' r := by
  obtain ⟨h1, h2, h3, h4, h5, h6, h7, h8, h9, h10⟩ := h
  exact ⟨fun k hk => by rw [← h1 k hk]; funext y; exact hc _ _ (hS _ _ (by omega)), h2, h3, h4, MA_ch h5 hc (fun k j q => by simp [rM] at q; exact hS _ _ (by omega)), (hc _ _ (hS _ _ (by decide))).trans h6, WT_ch h7 hc (fun _ => hS _ _ (by decide)), MS_ch h8 hc (fun k j q1 q2 => hS _ _ (by omega)), (hc _ _ (hS _ _ (by decide))).trans h9, fun i hi => (hc _ _ (hS _ _ (by decide))).trans (h10 i hi)⟩
theorem m_init_D (hMn : M ≤ 35) (hbM : bs tp0 35 M = 35) (hG : rdF (tqf tp0 35) (bs tp0 35) M 36 = G) (hT : rdT (tqf tp0 35) (bs tp0 35) M 36 = T) (hf : G.2.1 = 0) (hT3 : T 3 = G.2.2.1) (hk : k ≤ 20) (hn : n ≤ 2218) (hP : MP a0 r0 a r) (h55 : ∀ i, i < 35 → a 55 i = nI (tp0 i)) (kq : ∀ (a' : Nat → Nat → Int32), MI G T a0 r0 a' r → Q none (SHW, a', r, g)) {x1 : Int32} : Gd YX8_init (zM N0 Q) k n 988 [some (vr 50), some (vi x1)] [] (SHW, a, r, g) := by
  obtain ⟨h1, h2, hW, h4, h5, h6, h7, h8, h9, h10⟩ := hP
  refine Gd_aload_n (i := 0) rfl eX8_init_988 ?_
  refine Gd_bipush kb_35 eX8_init_989 ?_
  refine Gd_putI fl_RX8_74 (W_s50 hW) eX8_init_991 ?_
  have hc : chg (fun k j => decide (k = 50) && decide (j = 8)) a (up2 a 50 8 (nI 35)) := chg_up chg_rf rfl
  refine Gd_aload_n (i := 0) rfl eX8_init_994 ?_
  refine Gd_callEV (g_cV (m_text (nt := 0) hW (by decide) (by decide) tp0_lt hMn hbM (Nat.le_refl 36) hG hT ⟨⟨up2_s _ _ _ _, fun i hi => (hc _ _ rfl).trans (h55 i hi)⟩, WT_ch h7 hc (fun _ => rfl), (hc _ _ rfl).trans h6⟩) ok_X8_text lk_RX8_77 (W_s50 hW) ⟨_, _, rfl⟩ rfl rfl (Nat.le_of_ble_eq_true rfl) (Nat.le_of_ble_eq_true rfl) (by show k + 0 ≤ 20; omega) (by show n + 0 ≤ 2218; omega) eX8_init_995) (fun a2 hq => ?_)
  obtain ⟨⟨w1, w2, w3⟩, c2⟩ := hq
  obtain ⟨w3, w4, w5⟩ := w3 hf
  refine Gd_pop rfl eX8_init_998 ?_
  refine Gd_return eX8_init_999 rfl (by show k ≤ 20; omega) (by show n ≤ 2218; omega) (kq _ ⟨fun k hk => ?_, h2, fun q hq _ => hW.2 q hq, h4, MA_Tm (MA_ch h5 hc (fun k j q => by simp [rM] at q; simp; omega)) c2, ⟨w3, fun t ht i hi => ?_, fun t ht k hk => ?_⟩, w1, WT_ch (WT_ch h7 hc (fun _ => rfl)) c2 (fun _ => rfl), ?_, ?_⟩)
  · rw [← h1 k hk]
    funext y
    exact (c2 _ _ (mo_Tm _ _ (by omega))).trans (hc _ _ (by simp; omega))
  · obtain rfl : t = 0 := by omega
    exact w4 i hi
  · obtain rfl : t = 0 := by omega
    exact w5 k (by rw [← hT3]; exact hk)
  · exact MS_ch (MS_ch h8 hc (fun k j q1 q2 => by simp; omega)) c2 (fun k j q1 q2 => by simp [scTm, scER, scPm, scNx]; omega)
  · exact ((c2 _ _ rfl).trans (hc _ _ rfl)).trans h9
theorem m_init_C (hMn : M ≤ 35) (hbM : bs tp0 35 M = 35) (hG : rdF (tqf tp0 35) (bs tp0 35) M 36 = G) (hT : rdT (tqf tp0 35) (bs tp0 35) M 36 = T) (hf : G.2.1 = 0) (hT3 : T 3 = G.2.2.1) (hk : k ≤ 20) (hn : n ≤ 2218) (kq : ∀ (a' : Nat → Nat → Int32), MI G T a0 r0 a' r → Q none (SHW, a', r, g)) : ∀ (m i : Nat) (a : Nat → Nat → Int32), i + m = 35 → MP a0 r0 a r → (∀ j, j < i → a 55 j = nI (tp0 j)) → Gd YX8_init (zM N0 Q) k n 964 [some (vr 50), some (vi (nI i))] [] (SHW, a, r, g)
  | 0, i, a, hi, hP, h55 => by
    refine Gd_iload_n (i := 1) rfl eX8_init_964 ?_
    refine Gd_bipush kb_35 eX8_init_965 ?_
    refine Gd_icmp_geN (by omega) (by decide) eX8_init_967 (fun _ => ?_) (fun c => absurd c (by omega))
    obtain rfl : i = 35 := by omega
    exact m_init_D hMn hbM hG hT hf hT3 hk hn hP h55 kq
  | m + 1, i, a, hi, hP, h55 => by
    have hW := hP.2.2.1
    refine Gd_iload_n (i := 1) rfl eX8_init_964 ?_
    refine Gd_bipush kb_35 eX8_init_965 ?_
    refine Gd_icmp_geN (by omega) (by decide) eX8_init_967 (fun c => absurd c (by omega)) (fun c => ?_)
    refine Gd_aload_n (i := 0) rfl eX8_init_970 ?_
    refine Gd_getR fl_RX8_26 (W_s50 hW) (W_r50_7 hW) eX8_init_971 ?_
    refine Gd_iload_n (i := 1) rfl eX8_init_974 ?_
    refine Gd_aload_n (i := 0) rfl eX8_init_975 ?_
    refine Gd_getR fl_RX8_50 (W_s50 hW) (W_r50_19 hW) eX8_init_976 ?_
    refine Gd_iload_n (i := 1) rfl eX8_init_979 ?_
    refine Gd_ialdE (v := nI (tp0 i)) (W_s63 hW) (by omega) (hP.2.2.2.2.2.2.2.2.2 i c) eX8_init_980 ?_
    refine Gd_iastN (W_s55 hW) (by omega) eX8_init_981 ?_
    refine Gd_iinc1 (ho := rfl) (he := nI_inc _) eX8_init_982 ?_
    refine Gd_goto eX8_init_985 ?_
    refine m_init_C hMn hbM hG hT hf hT3 hk hn kq m (i + 1) _ (by omega) (MP_ch (S := fun k _ => decide (k = 55)) hP (chg_up chg_rf rfl) (fun k j hk => by simp [hk])) (fun j hj => ?_)
    by_cases e : j = i
    · rw [e, up2_s]
    · rw [up2_j _ _ e]; exact h55 j (by omega)
theorem MP_of {F : Nat → Int32} (hF : F = upd (fun _ => 0) 5 (nI 1023)) (hA : AL 50 51 WM F KM (SHW.take 51) a0 r0 SHW a r) (hr : ∀ q ∈ RTL, q.2.2 < 50 → r0 q.1 q.2.1 = some q.2.2) : MP a0 r0 a r := by
  obtain ⟨e1, e2, e3, e4, e5, e6, e7, e8⟩ := hA
  have z0 : (0 : Int32) = nI 0 := by decide
  have hrow : ∀ i w, WM[i]? = some w → ∀ j, a (51 + i) j = KM i j := fun i w hw => (e7 i w hw).2.1
  have row : ∀ i, i < 20 → ∀ j, a (51 + i) j = KM i j := fun i hi => by
    obtain ⟨w, hw⟩ : ∃ w, WM[i]? = some w := ⟨WM[i]'(by show i < 20; exact hi), List.getElem?_eq_getElem _⟩
    exact hrow i w hw
  have zr : ∀ i, i < 20 → i ≠ 9 → i ≠ 12 → i ≠ 13 → ∀ j, a (51 + i) j = nI 0 := fun i hi h1 h2 h3 j => by rw [row i hi j, KM, if_neg h1, if_neg h2, if_neg h3, z0]
  refine ⟨fun k hk => e4 k (by omega) (by omega), fun k hk => e5 k (by omega) (by omega), ⟨fun k x hx => hx, fun q hq => ?_⟩, e8, ?_, ?_, fun w hw i hi => ?_, ⟨fun s hs => ?_, fun s hs => ?_, fun s hs i hi => ?_⟩, ?_, fun i hi => ?_⟩
  · rcases (by decide : ∀ q ∈ RTL, (q.1 < 50 ∧ q.2.2 < 50) ∨ (q.1 = 50 ∧ 51 ≤ q.2.2 ∧ (WM[q.2.2 - 51]?).map (fun w => w.1) = some q.2.1)) q hq with ⟨h1, h2⟩ | ⟨h1, h2, h3⟩
    · rw [e5 _ (by omega) (by omega)]; exact hr q hq h2
    · cases hw : WM[q.2.2 - 51]? with
      | none => rw [hw] at h3; cases h3
      | some w =>
        rw [hw] at h3
        have e : w.1 = q.2.1 := by simpa using h3
        have := (e7 _ w hw).1
        rw [h1, ← e, this]
        congr 1; omega
  · rw [hF] at e6
    refine ⟨by rw [e6]; rfl, by rw [e6]; rfl, by rw [e6]; rfl, by rw [e6]; rfl, fun d hd => zr 3 (by decide) (by decide) (by decide) (by decide) d, fun p hp => zr 2 (by decide) (by decide) (by decide) (by decide) _, fun p hp => zr 2 (by decide) (by decide) (by decide) (by decide) _, fun p hp => zr 2 (by decide) (by decide) (by decide) (by decide) _, fun p hp => zr 2 (by decide) (by decide) (by decide) (by decide) _, fun p hp => zr 0 (by decide) (by decide) (by decide) (by decide) _, fun p hp => zr 1 (by decide) (by decide) (by decide) (by decide) _⟩
  · rw [e6, hF]; rfl
  · rw [row 13 (by decide), KM, if_neg (by decide), if_neg (by decide), if_pos rfl, if_pos (by omega), f64]
    congr 2
    · omega
    · omega
  · rw [row 9 (by decide), KM, if_pos rfl, if_pos (by omega)]; exact nI_m1.symm
  · exact zr 10 (by decide) (by decide) (by decide) (by decide) _
  · exact zr 11 (by decide) (by decide) (by decide) (by decide) _
  · rw [e6, hF]; rfl
  · rw [row 12 (by decide), KM, if_neg (by decide), if_pos rfl, if_pos (by omega)]; rfl

theorem m_init (hMn : M ≤ 35) (hbM : bs tp0 35 M = 35) (hG : rdF (tqf tp0 35) (bs tp0 35) M 36 = G) (hT : rdT (tqf tp0 35) (bs tp0 35) M 36 = T) (hf : G.2.1 = 0) (hT3 : T 3 = G.2.2.1) (ha : a0 50 = fun _ => 0) (okr : g_okR 51 r0) (hr : ∀ q ∈ RTL, q.2.2 < 50 → r0 q.1 q.2.1 = some q.2.2) : Mt YX8_init 5 20 2218 [vr 50] (SHW.take 51, a0, r0, g) (fun v h' => v = none ∧ ∃ (a' : Nat → Nat → Int32) (r' : Nat → Nat → Option Nat) (g' : Nat → Nat → Int64), h' = (SHW, a', r', g') ∧ MI G T a0 r0 a' r') := by
  refine Mt_of rfl (Nat.le_of_ble_eq_true rfl) rfl ?_
  have okl1 : ∀ {x1 : Option g_V}, (∀ M, g_okL M [x1]) → ∀ M, 50 < M → g_okL M [some (vr 50), x1] := fun {x1} h1 M hM v hv => by
    rcases List.mem_cons.mp hv with q | hv
    · cases q; exact hM
    · exact h1 M v hv
  have hA : AL 50 51 [] (fun _ => 0) KM (SHW.take 51) a0 r0 (SHW.take 51) a0 r0 := by rw [← ha]; exact AL_0 (sh := SHW.take 51) (by decide) okr
  refine Gd_aload_n (i := 0) rfl eX8_init_0 ?_
  refine Gd_objInit (q := 50) rfl lk_RX8_1 wo_1 wo_2 (Nat.le_of_ble_eq_true rfl) (Nat.le_of_ble_eq_true rfl) eX8_init_1 ?_
  refine Gd_AA (m := 6) (j := 1) hA rfl rfl (okl1 okl_n) (Nat.le_of_ble_eq_true rfl) (Nat.le_of_ble_eq_true rfl) (by decide) (fun _ => rfl) (by decide) fl_RX8_7 rfl (fun C T q => by cases q; rfl) eX8_init_4 (fun st h q => Gd_bipush kb_6 eX8_init_5 q) eX8_init_7 eX8_init_9 (fun a1 r1 g1 hA => ?_)
  refine Gd_sh (sh' := SHW.take 52) rfl ?_
  have hA := AL_sh (show _ = SHW.take 52 from rfl) hA
  refine Gd_AA (m := 6) (j := 2) hA rfl rfl (okl1 okl_n) (Nat.le_of_ble_eq_true rfl) (Nat.le_of_ble_eq_true rfl) (by decide) (fun _ => rfl) (by decide) fl_RX8_13 rfl (fun C T q => by cases q; rfl) eX8_init_12 (fun st h q => Gd_bipush kb_6 eX8_init_13 q) eX8_init_15 eX8_init_17 (fun a1 r1 g1 hA => ?_)
  refine Gd_sh (sh' := SHW.take 53) rfl ?_
  have hA := AL_sh (show _ = SHW.take 53 from rfl) hA
  refine Gd_AA (m := 24) (j := 3) hA rfl rfl (okl1 okl_n) (Nat.le_of_ble_eq_true rfl) (Nat.le_of_ble_eq_true rfl) (by decide) (fun _ => rfl) (by decide) fl_RX8_16 rfl (fun C T q => by cases q; rfl) eX8_init_20 (fun st h q => Gd_bipush kb_24 eX8_init_21 q) eX8_init_23 eX8_init_25 (fun a1 r1 g1 hA => ?_)
  refine Gd_sh (sh' := SHW.take 54) rfl ?_
  have hA := AL_sh (show _ = SHW.take 54 from rfl) hA
  refine Gd_AA (m := 10) (j := 4) hA rfl rfl (okl1 okl_n) (Nat.le_of_ble_eq_true rfl) (Nat.le_of_ble_eq_true rfl) (by decide) (fun _ => rfl) (by decide) fl_RX8_19 rfl (fun C T q => by cases q; rfl) eX8_init_28 (fun st h q => Gd_bipush kb_10 eX8_init_29 q) eX8_init_31 eX8_init_33 (fun a1 r1 g1 hA => ?_)
  refine Gd_sh (sh' := SHW.take 55) rfl ?_
  have hA := AL_sh (show _ = SHW.take 55 from rfl) hA
  refine Gd_AP (v := nI 1023) (j := 5) hA rfl rfl fl_RX8_22 eX8_init_36 (fun st h q => Gd_sipush ks_1023 eX8_init_37 q) eX8_init_40 (fun a1 hA => ?_)
  refine Gd_AA (m := 160) (j := 7) hA rfl rfl (okl1 okl_n) (Nat.le_of_ble_eq_true rfl) (Nat.le_of_ble_eq_true rfl) (by decide) (fun _ => rfl) (by decide) fl_RX8_26 rfl (fun C T q => by cases q; rfl) eX8_init_43 (fun st h q => Gd_sipush ks_160 eX8_init_44 q) eX8_init_47 eX8_init_49 (fun a1 r1 g1 hA => ?_)
  refine Gd_sh (sh' := SHW.take 56) rfl ?_
  have hA := AL_sh (show _ = SHW.take 56 from rfl) hA
  refine Gd_AA (m := 1200) (j := 9) hA rfl rfl (okl1 okl_n) (Nat.le_of_ble_eq_true rfl) (Nat.le_of_ble_eq_true rfl) (by decide) (fun _ => rfl) (by decide) fl_RX8_29 rfl (fun C T q => by cases q; rfl) eX8_init_52 (fun st h q => Gd_sipush ks_1200 eX8_init_53 q) eX8_init_56 eX8_init_58 (fun a1 r1 g1 hA => ?_)
  refine Gd_sh (sh' := SHW.take 57) rfl ?_
  have hA := AL_sh (show _ = SHW.take 57 from rfl) hA
  refine Gd_AA (m := 24) (j := 10) hA rfl rfl (okl1 okl_n) (Nat.le_of_ble_eq_true rfl) (Nat.le_of_ble_eq_true rfl) (by decide) (fun _ => rfl) (by decide) fl_RX8_32 rfl (fun C T q => by cases q; rfl) eX8_init_61 (fun st h q => Gd_bipush kb_24 eX8_init_62 q) eX8_init_64 eX8_init_66 (fun a1 r1 g1 hA => ?_)
  refine Gd_sh (sh' := SHW.take 58) rfl ?_
  have hA := AL_sh (show _ = SHW.take 58 from rfl) hA
  refine Gd_AA (m := 34) (j := 14) hA rfl rfl (okl1 okl_n) (Nat.le_of_ble_eq_true rfl) (Nat.le_of_ble_eq_true rfl) (by decide) (fun _ => rfl) (by decide) fl_RX8_35 rfl (fun C T q => by cases q; rfl) eX8_init_69 (fun st h q => Gd_bipush kb_34 eX8_init_70 q) eX8_init_72 eX8_init_74 (fun a1 r1 g1 hA => ?_)
  refine Gd_sh (sh' := SHW.take 59) rfl ?_
  have hA := AL_sh (show _ = SHW.take 59 from rfl) hA
  refine Gd_AA (m := 4) (j := 15) hA rfl rfl (okl1 okl_n) (Nat.le_of_ble_eq_true rfl) (Nat.le_of_ble_eq_true rfl) (by decide) (fun _ => rfl) (by decide) fl_RX8_38 rfl (fun C T q => by cases q; rfl) eX8_init_77 (fun st h q => Gd_iconst ki_4 eX8_init_78 q) eX8_init_79 eX8_init_81 (fun a1 r1 g1 hA => ?_)
  refine Gd_sh (sh' := SHW.take 60) rfl ?_
  have hA := AL_sh (show _ = SHW.take 60 from rfl) hA
  refine Gd_AFs (m := 4) (f := f60) hA rfl (okl1 okl_n) (Nat.le_of_ble_eq_true rfl) (Nat.le_of_ble_eq_true rfl) (by decide) eX8_init_84 (fun st h q => Gd_iconst ki_4 eX8_init_85 q) eX8_init_86 (fun g1 => ?_)
  have hl := (AL_len hA).trans (show 51 + _ = 60 from rfl)
  have hb := g_sh_last (SHW.take 60) (20, 4)
  rw [show (SHW.take 60).length = 60 from rfl] at hb
  rw [hl] 
  refine Gd_AFi (j := 0) (f := f60) (v := (-1)) hb (by decide) (by decide +kernel) eX8_init_88 (fun st h q => Gd_iconst ki_0 eX8_init_89 q) (fun st h q => Gd_iconst ki_m1 eX8_init_90 q) eX8_init_91 ?_
  refine Gd_AFi (j := 1) (f := f60) (v := (-1)) hb (by decide) (by decide +kernel) eX8_init_92 (fun st h q => Gd_iconst ki_1 eX8_init_93 q) (fun st h q => Gd_iconst ki_m1 eX8_init_94 q) eX8_init_95 ?_
  refine Gd_AFi (j := 2) (f := f60) (v := (-1)) hb (by decide) (by decide +kernel) eX8_init_96 (fun st h q => Gd_iconst ki_2 eX8_init_97 q) (fun st h q => Gd_iconst ki_m1 eX8_init_98 q) eX8_init_99 ?_
  refine Gd_AFi (j := 3) (f := f60) (v := (-1)) hb (by decide) (by decide +kernel) eX8_init_100 (fun st h q => Gd_iconst ki_3 eX8_init_101 q) (fun st h q => Gd_iconst ki_m1 eX8_init_102 q) eX8_init_103 ?_
  rw [← hl]
  refine Gd_AFe (f := f60) (m := 4) (j := 16) hA rfl (fun _ => rfl) (by decide) fl_RX8_41 rfl (fun C T q => by cases q; rfl) eX8_init_104 (fun a1 r1 g1 hA => ?_)
  refine Gd_sh (sh' := SHW.take 61) rfl ?_
  have hA := AL_sh (show _ = SHW.take 61 from rfl) hA
  refine Gd_AA (m := 4) (j := 17) hA rfl rfl (okl1 okl_n) (Nat.le_of_ble_eq_true rfl) (Nat.le_of_ble_eq_true rfl) (by decide) (fun _ => rfl) (by decide) fl_RX8_44 rfl (fun C T q => by cases q; rfl) eX8_init_107 (fun st h q => Gd_iconst ki_4 eX8_init_108 q) eX8_init_109 eX8_init_111 (fun a1 r1 g1 hA => ?_)
  refine Gd_sh (sh' := SHW.take 62) rfl ?_
  have hA := AL_sh (show _ = SHW.take 62 from rfl) hA
  refine Gd_AA (m := 160) (j := 18) hA rfl rfl (okl1 okl_n) (Nat.le_of_ble_eq_true rfl) (Nat.le_of_ble_eq_true rfl) (by decide) (fun _ => rfl) (by decide) fl_RX8_47 rfl (fun C T q => by cases q; rfl) eX8_init_114 (fun st h q => Gd_sipush ks_160 eX8_init_115 q) eX8_init_118 eX8_init_120 (fun a1 r1 g1 hA => ?_)
  refine Gd_sh (sh' := SHW.take 63) rfl ?_
  have hA := AL_sh (show _ = SHW.take 63 from rfl) hA
  refine Gd_AFs (m := 35) (f := f63) hA rfl (okl1 okl_n) (Nat.le_of_ble_eq_true rfl) (Nat.le_of_ble_eq_true rfl) (by decide) eX8_init_123 (fun st h q => Gd_bipush kb_35 eX8_init_124 q) eX8_init_126 (fun g1 => ?_)
  have hl := (AL_len hA).trans (show 51 + _ = 63 from rfl)
  have hb := g_sh_last (SHW.take 63) (20, 35)
  rw [show (SHW.take 63).length = 63 from rfl] at hb
  rw [hl] 
  refine Gd_AFi (j := 0) (f := f63) (v := nI 104) hb (by decide) (by decide +kernel) eX8_init_128 (fun st h q => Gd_iconst ki_0 eX8_init_129 q) (fun st h q => Gd_bipush kb_104 eX8_init_130 q) eX8_init_132 ?_
  refine Gd_AFi (j := 1) (f := f63) (v := nI 111) hb (by decide) (by decide +kernel) eX8_init_133 (fun st h q => Gd_iconst ki_1 eX8_init_134 q) (fun st h q => Gd_bipush kb_111 eX8_init_135 q) eX8_init_137 ?_
  refine Gd_AFi (j := 2) (f := f63) (v := nI 110) hb (by decide) (by decide +kernel) eX8_init_138 (fun st h q => Gd_iconst ki_2 eX8_init_139 q) (fun st h q => Gd_bipush kb_110 eX8_init_140 q) eX8_init_142 ?_
  refine Gd_AFi (j := 3) (f := f63) (v := nI 111) hb (by decide) (by decide +kernel) eX8_init_143 (fun st h q => Gd_iconst ki_3 eX8_init_144 q) (fun st h q => Gd_bipush kb_111 eX8_init_145 q) eX8_init_147 ?_
  refine Gd_AFi (j := 4) (f := f63) (v := nI 117) hb (by decide) (by decide +kernel) eX8_init_148 (fun st h q => Gd_iconst ki_4 eX8_init_149 q) (fun st h q => Gd_bipush kb_117 eX8_init_150 q) eX8_init_152 ?_
  refine Gd_AFi (j := 5) (f := f63) (v := nI 114) hb (by decide) (by decide +kernel) eX8_init_153 (fun st h q => Gd_iconst ki_5 eX8_init_154 q) (fun st h q => Gd_bipush kb_114 eX8_init_155 q) eX8_init_157 ?_
  refine Gd_AFi (j := 6) (f := f63) (v := nI 115) hb (by decide) (by decide +kernel) eX8_init_158 (fun st h q => Gd_bipush kb_6 eX8_init_159 q) (fun st h q => Gd_bipush kb_115 eX8_init_161 q) eX8_init_163 ?_
  refine Gd_AFi (j := 7) (f := f63) (v := nI 32) hb (by decide) (by decide +kernel) eX8_init_164 (fun st h q => Gd_bipush kb_7 eX8_init_165 q) (fun st h q => Gd_bipush kb_32 eX8_init_167 q) eX8_init_169 ?_
  refine Gd_AFi (j := 8) (f := f63) (v := nI 51) hb (by decide) (by decide +kernel) eX8_init_170 (fun st h q => Gd_bipush kb_8 eX8_init_171 q) (fun st h q => Gd_bipush kb_51 eX8_init_173 q) eX8_init_175 ?_
  refine Gd_AFi (j := 9) (f := f63) (v := nI 32) hb (by decide) (by decide +kernel) eX8_init_176 (fun st h q => Gd_bipush kb_9 eX8_init_177 q) (fun st h q => Gd_bipush kb_32 eX8_init_179 q) eX8_init_181 ?_
  refine Gd_AFi (j := 10) (f := f63) (v := nI 59) hb (by decide) (by decide +kernel) eX8_init_182 (fun st h q => Gd_bipush kb_10 eX8_init_183 q) (fun st h q => Gd_bipush kb_59 eX8_init_185 q) eX8_init_187 ?_
  refine Gd_AFi (j := 11) (f := f63) (v := nI 32) hb (by decide) (by decide +kernel) eX8_init_188 (fun st h q => Gd_bipush kb_11 eX8_init_189 q) (fun st h q => Gd_bipush kb_32 eX8_init_191 q) eX8_init_193 ?_
  refine Gd_AFi (j := 12) (f := f63) (v := nI 104) hb (by decide) (by decide +kernel) eX8_init_194 (fun st h q => Gd_bipush kb_12 eX8_init_195 q) (fun st h q => Gd_bipush kb_104 eX8_init_197 q) eX8_init_199 ?_
  refine Gd_AFi (j := 13) (f := f63) (v := nI 105) hb (by decide) (by decide +kernel) eX8_init_200 (fun st h q => Gd_bipush kb_13 eX8_init_201 q) (fun st h q => Gd_bipush kb_105 eX8_init_203 q) eX8_init_205 ?_
  refine Gd_AFi (j := 14) (f := f63) (v := nI 116) hb (by decide) (by decide +kernel) eX8_init_206 (fun st h q => Gd_bipush kb_14 eX8_init_207 q) (fun st h q => Gd_bipush kb_116 eX8_init_209 q) eX8_init_211 ?_
  refine Gd_AFi (j := 15) (f := f63) (v := nI 115) hb (by decide) (by decide +kernel) eX8_init_212 (fun st h q => Gd_bipush kb_15 eX8_init_213 q) (fun st h q => Gd_bipush kb_115 eX8_init_215 q) eX8_init_217 ?_
  refine Gd_AFi (j := 16) (f := f63) (v := nI 32) hb (by decide) (by decide +kernel) eX8_init_218 (fun st h q => Gd_bipush kb_16 eX8_init_219 q) (fun st h q => Gd_bipush kb_32 eX8_init_221 q) eX8_init_223 ?_
  refine Gd_AFi (j := 17) (f := f63) (v := nI 104) hb (by decide) (by decide +kernel) eX8_init_224 (fun st h q => Gd_bipush kb_17 eX8_init_225 q) (fun st h q => Gd_bipush kb_104 eX8_init_227 q) eX8_init_229 ?_
  refine Gd_AFi (j := 18) (f := f63) (v := nI 111) hb (by decide) (by decide +kernel) eX8_init_230 (fun st h q => Gd_bipush kb_18 eX8_init_231 q) (fun st h q => Gd_bipush kb_111 eX8_init_233 q) eX8_init_235 ?_
  refine Gd_AFi (j := 19) (f := f63) (v := nI 110) hb (by decide) (by decide +kernel) eX8_init_236 (fun st h q => Gd_bipush kb_19 eX8_init_237 q) (fun st h q => Gd_bipush kb_110 eX8_init_239 q) eX8_init_241 ?_
  refine Gd_AFi (j := 20) (f := f63) (v := nI 111) hb (by decide) (by decide +kernel) eX8_init_242 (fun st h q => Gd_bipush kb_20 eX8_init_243 q) (fun st h q => Gd_bipush kb_111 eX8_init_245 q) eX8_init_247 ?_
  refine Gd_AFi (j := 21) (f := f63) (v := nI 117) hb (by decide) (by decide +kernel) eX8_init_248 (fun st h q => Gd_bipush kb_21 eX8_init_249 q) (fun st h q => Gd_bipush kb_117 eX8_init_251 q) eX8_init_253 ?_
  refine Gd_AFi (j := 22) (f := f63) (v := nI 114) hb (by decide) (by decide +kernel) eX8_init_254 (fun st h q => Gd_bipush kb_22 eX8_init_255 q) (fun st h q => Gd_bipush kb_114 eX8_init_257 q) eX8_init_259 ?_
  refine Gd_AFi (j := 23) (f := f63) (v := nI 32) hb (by decide) (by decide +kernel) eX8_init_260 (fun st h q => Gd_bipush kb_23 eX8_init_261 q) (fun st h q => Gd_bipush kb_32 eX8_init_263 q) eX8_init_265 ?_
  refine Gd_AFi (j := 24) (f := f63) (v := nI 59) hb (by decide) (by decide +kernel) eX8_init_266 (fun st h q => Gd_bipush kb_24 eX8_init_267 q) (fun st h q => Gd_bipush kb_59 eX8_init_269 q) eX8_init_271 ?_
  refine Gd_AFi (j := 25) (f := f63) (v := nI 32) hb (by decide) (by decide +kernel) eX8_init_272 (fun st h q => Gd_bipush kb_25 eX8_init_273 q) (fun st h q => Gd_bipush kb_32 eX8_init_275 q) eX8_init_277 ?_
  refine Gd_AFi (j := 26) (f := f63) (v := nI 119) hb (by decide) (by decide +kernel) eX8_init_278 (fun st h q => Gd_bipush kb_26 eX8_init_279 q) (fun st h q => Gd_bipush kb_119 eX8_init_281 q) eX8_init_283 ?_
  refine Gd_AFi (j := 27) (f := f63) (v := nI 105) hb (by decide) (by decide +kernel) eX8_init_284 (fun st h q => Gd_bipush kb_27 eX8_init_285 q) (fun st h q => Gd_bipush kb_105 eX8_init_287 q) eX8_init_289 ?_
  refine Gd_AFi (j := 28) (f := f63) (v := nI 108) hb (by decide) (by decide +kernel) eX8_init_290 (fun st h q => Gd_bipush kb_28 eX8_init_291 q) (fun st h q => Gd_bipush kb_108 eX8_init_293 q) eX8_init_295 ?_
  refine Gd_AFi (j := 29) (f := f63) (v := nI 108) hb (by decide) (by decide +kernel) eX8_init_296 (fun st h q => Gd_bipush kb_29 eX8_init_297 q) (fun st h q => Gd_bipush kb_108 eX8_init_299 q) eX8_init_301 ?_
  refine Gd_AFi (j := 30) (f := f63) (v := nI 115) hb (by decide) (by decide +kernel) eX8_init_302 (fun st h q => Gd_bipush kb_30 eX8_init_303 q) (fun st h q => Gd_bipush kb_115 eX8_init_305 q) eX8_init_307 ?_
  refine Gd_AFi (j := 31) (f := f63) (v := nI 32) hb (by decide) (by decide +kernel) eX8_init_308 (fun st h q => Gd_bipush kb_31 eX8_init_309 q) (fun st h q => Gd_bipush kb_32 eX8_init_311 q) eX8_init_313 ?_
  refine Gd_AFi (j := 32) (f := f63) (v := nI 49) hb (by decide) (by decide +kernel) eX8_init_314 (fun st h q => Gd_bipush kb_32 eX8_init_315 q) (fun st h q => Gd_bipush kb_49 eX8_init_317 q) eX8_init_319 ?_
  refine Gd_AFi (j := 33) (f := f63) (v := nI 32) hb (by decide) (by decide +kernel) eX8_init_320 (fun st h q => Gd_bipush kb_33 eX8_init_321 q) (fun st h q => Gd_bipush kb_32 eX8_init_323 q) eX8_init_325 ?_
  refine Gd_AFi (j := 34) (f := f63) (v := nI 59) hb (by decide) (by decide +kernel) eX8_init_326 (fun st h q => Gd_bipush kb_34 eX8_init_327 q) (fun st h q => Gd_bipush kb_59 eX8_init_329 q) eX8_init_331 ?_
  rw [← hl]
  refine Gd_AFe (f := f63) (m := 35) (j := 19) hA rfl (fun _ => rfl) (by decide) fl_RX8_50 rfl (fun C T q => by cases q; rfl) eX8_init_332 (fun a1 r1 g1 hA => ?_)
  refine Gd_sh (sh' := SHW.take 64) rfl ?_
  have hA := AL_sh (show _ = SHW.take 64 from rfl) hA
  refine Gd_AFs (m := 96) (f := f64) hA rfl (okl1 okl_n) (Nat.le_of_ble_eq_true rfl) (Nat.le_of_ble_eq_true rfl) (by decide) eX8_init_335 (fun st h q => Gd_bipush kb_96 eX8_init_336 q) eX8_init_338 (fun g1 => ?_)
  have hl := (AL_len hA).trans (show 51 + _ = 64 from rfl)
  have hb := g_sh_last (SHW.take 64) (20, 96)
  rw [show (SHW.take 64).length = 64 from rfl] at hb
  rw [hl] 
  refine Gd_AFi (j := 0) (f := f64) (v := nI 104) hb (by decide) (by decide +kernel) eX8_init_340 (fun st h q => Gd_iconst ki_0 eX8_init_341 q) (fun st h q => Gd_bipush kb_104 eX8_init_342 q) eX8_init_344 ?_
  refine Gd_AFi (j := 1) (f := f64) (v := nI 111) hb (by decide) (by decide +kernel) eX8_init_345 (fun st h q => Gd_iconst ki_1 eX8_init_346 q) (fun st h q => Gd_bipush kb_111 eX8_init_347 q) eX8_init_349 ?_
  refine Gd_AFi (j := 2) (f := f64) (v := nI 110) hb (by decide) (by decide +kernel) eX8_init_350 (fun st h q => Gd_iconst ki_2 eX8_init_351 q) (fun st h q => Gd_bipush kb_110 eX8_init_352 q) eX8_init_354 ?_
  refine Gd_AFi (j := 3) (f := f64) (v := nI 111) hb (by decide) (by decide +kernel) eX8_init_355 (fun st h q => Gd_iconst ki_3 eX8_init_356 q) (fun st h q => Gd_bipush kb_111 eX8_init_357 q) eX8_init_359 ?_
  refine Gd_AFi (j := 4) (f := f64) (v := nI 117) hb (by decide) (by decide +kernel) eX8_init_360 (fun st h q => Gd_iconst ki_4 eX8_init_361 q) (fun st h q => Gd_bipush kb_117 eX8_init_362 q) eX8_init_364 ?_
  refine Gd_AFi (j := 5) (f := f64) (v := nI 114) hb (by decide) (by decide +kernel) eX8_init_365 (fun st h q => Gd_iconst ki_5 eX8_init_366 q) (fun st h q => Gd_bipush kb_114 eX8_init_367 q) eX8_init_369 ?_
  refine Gd_AFi (j := 6) (f := f64) (v := nI 115) hb (by decide) (by decide +kernel) eX8_init_370 (fun st h q => Gd_bipush kb_6 eX8_init_371 q) (fun st h q => Gd_bipush kb_115 eX8_init_373 q) eX8_init_375 ?_
  refine Gd_AFi (j := 7) (f := f64) (v := nI 32) hb (by decide) (by decide +kernel) eX8_init_376 (fun st h q => Gd_bipush kb_7 eX8_init_377 q) (fun st h q => Gd_bipush kb_32 eX8_init_379 q) eX8_init_381 ?_
  refine Gd_AFi (j := 8) (f := f64) (v := nI 104) hb (by decide) (by decide +kernel) eX8_init_382 (fun st h q => Gd_bipush kb_8 eX8_init_383 q) (fun st h q => Gd_bipush kb_104 eX8_init_385 q) eX8_init_387 ?_
  refine Gd_AFi (j := 9) (f := f64) (v := nI 105) hb (by decide) (by decide +kernel) eX8_init_388 (fun st h q => Gd_bipush kb_9 eX8_init_389 q) (fun st h q => Gd_bipush kb_105 eX8_init_391 q) eX8_init_393 ?_
  refine Gd_AFi (j := 10) (f := f64) (v := nI 116) hb (by decide) (by decide +kernel) eX8_init_394 (fun st h q => Gd_bipush kb_10 eX8_init_395 q) (fun st h q => Gd_bipush kb_116 eX8_init_397 q) eX8_init_399 ?_
  refine Gd_AFi (j := 11) (f := f64) (v := nI 115) hb (by decide) (by decide +kernel) eX8_init_400 (fun st h q => Gd_bipush kb_11 eX8_init_401 q) (fun st h q => Gd_bipush kb_115 eX8_init_403 q) eX8_init_405 ?_
  refine Gd_AFi (j := 12) (f := f64) (v := nI 32) hb (by decide) (by decide +kernel) eX8_init_406 (fun st h q => Gd_bipush kb_12 eX8_init_407 q) (fun st h q => Gd_bipush kb_32 eX8_init_409 q) eX8_init_411 ?_
  refine Gd_AFi (j := 13) (f := f64) (v := nI 32) hb (by decide) (by decide +kernel) eX8_init_412 (fun st h q => Gd_bipush kb_13 eX8_init_413 q) (fun st h q => Gd_bipush kb_32 eX8_init_415 q) eX8_init_417 ?_
  refine Gd_AFi (j := 14) (f := f64) (v := nI 32) hb (by decide) (by decide +kernel) eX8_init_418 (fun st h q => Gd_bipush kb_14 eX8_init_419 q) (fun st h q => Gd_bipush kb_32 eX8_init_421 q) eX8_init_423 ?_
  refine Gd_AFi (j := 15) (f := f64) (v := nI 32) hb (by decide) (by decide +kernel) eX8_init_424 (fun st h q => Gd_bipush kb_15 eX8_init_425 q) (fun st h q => Gd_bipush kb_32 eX8_init_427 q) eX8_init_429 ?_
  refine Gd_AFi (j := 16) (f := f64) (v := nI 119) hb (by decide) (by decide +kernel) eX8_init_430 (fun st h q => Gd_bipush kb_16 eX8_init_431 q) (fun st h q => Gd_bipush kb_119 eX8_init_433 q) eX8_init_435 ?_
  refine Gd_AFi (j := 17) (f := f64) (v := nI 105) hb (by decide) (by decide +kernel) eX8_init_436 (fun st h q => Gd_bipush kb_17 eX8_init_437 q) (fun st h q => Gd_bipush kb_105 eX8_init_439 q) eX8_init_441 ?_
  refine Gd_AFi (j := 18) (f := f64) (v := nI 108) hb (by decide) (by decide +kernel) eX8_init_442 (fun st h q => Gd_bipush kb_18 eX8_init_443 q) (fun st h q => Gd_bipush kb_108 eX8_init_445 q) eX8_init_447 ?_
  refine Gd_AFi (j := 19) (f := f64) (v := nI 108) hb (by decide) (by decide +kernel) eX8_init_448 (fun st h q => Gd_bipush kb_19 eX8_init_449 q) (fun st h q => Gd_bipush kb_108 eX8_init_451 q) eX8_init_453 ?_
  refine Gd_AFi (j := 20) (f := f64) (v := nI 115) hb (by decide) (by decide +kernel) eX8_init_454 (fun st h q => Gd_bipush kb_20 eX8_init_455 q) (fun st h q => Gd_bipush kb_115 eX8_init_457 q) eX8_init_459 ?_
  refine Gd_AFi (j := 21) (f := f64) (v := nI 32) hb (by decide) (by decide +kernel) eX8_init_460 (fun st h q => Gd_bipush kb_21 eX8_init_461 q) (fun st h q => Gd_bipush kb_32 eX8_init_463 q) eX8_init_465 ?_
  refine Gd_AFi (j := 22) (f := f64) (v := nI 32) hb (by decide) (by decide +kernel) eX8_init_466 (fun st h q => Gd_bipush kb_22 eX8_init_467 q) (fun st h q => Gd_bipush kb_32 eX8_init_469 q) eX8_init_471 ?_
  refine Gd_AFi (j := 23) (f := f64) (v := nI 32) hb (by decide) (by decide +kernel) eX8_init_472 (fun st h q => Gd_bipush kb_23 eX8_init_473 q) (fun st h q => Gd_bipush kb_32 eX8_init_475 q) eX8_init_477 ?_
  refine Gd_AFi (j := 24) (f := f64) (v := nI 104) hb (by decide) (by decide +kernel) eX8_init_478 (fun st h q => Gd_bipush kb_24 eX8_init_479 q) (fun st h q => Gd_bipush kb_104 eX8_init_481 q) eX8_init_483 ?_
  refine Gd_AFi (j := 25) (f := f64) (v := nI 111) hb (by decide) (by decide +kernel) eX8_init_484 (fun st h q => Gd_bipush kb_25 eX8_init_485 q) (fun st h q => Gd_bipush kb_111 eX8_init_487 q) eX8_init_489 ?_
  refine Gd_AFi (j := 26) (f := f64) (v := nI 110) hb (by decide) (by decide +kernel) eX8_init_490 (fun st h q => Gd_bipush kb_26 eX8_init_491 q) (fun st h q => Gd_bipush kb_110 eX8_init_493 q) eX8_init_495 ?_
  refine Gd_AFi (j := 27) (f := f64) (v := nI 111) hb (by decide) (by decide +kernel) eX8_init_496 (fun st h q => Gd_bipush kb_27 eX8_init_497 q) (fun st h q => Gd_bipush kb_111 eX8_init_499 q) eX8_init_501 ?_
  refine Gd_AFi (j := 28) (f := f64) (v := nI 117) hb (by decide) (by decide +kernel) eX8_init_502 (fun st h q => Gd_bipush kb_28 eX8_init_503 q) (fun st h q => Gd_bipush kb_117 eX8_init_505 q) eX8_init_507 ?_
  refine Gd_AFi (j := 29) (f := f64) (v := nI 114) hb (by decide) (by decide +kernel) eX8_init_508 (fun st h q => Gd_bipush kb_29 eX8_init_509 q) (fun st h q => Gd_bipush kb_114 eX8_init_511 q) eX8_init_513 ?_
  refine Gd_AFi (j := 30) (f := f64) (v := nI 32) hb (by decide) (by decide +kernel) eX8_init_514 (fun st h q => Gd_bipush kb_30 eX8_init_515 q) (fun st h q => Gd_bipush kb_32 eX8_init_517 q) eX8_init_519 ?_
  refine Gd_AFi (j := 31) (f := f64) (v := nI 32) hb (by decide) (by decide +kernel) eX8_init_520 (fun st h q => Gd_bipush kb_31 eX8_init_521 q) (fun st h q => Gd_bipush kb_32 eX8_init_523 q) eX8_init_525 ?_
  refine Gd_AFi (j := 32) (f := f64) (v := nI 115) hb (by decide) (by decide +kernel) eX8_init_526 (fun st h q => Gd_bipush kb_32 eX8_init_527 q) (fun st h q => Gd_bipush kb_115 eX8_init_529 q) eX8_init_531 ?_
  refine Gd_AFi (j := 33) (f := f64) (v := nI 104) hb (by decide) (by decide +kernel) eX8_init_532 (fun st h q => Gd_bipush kb_33 eX8_init_533 q) (fun st h q => Gd_bipush kb_104 eX8_init_535 q) eX8_init_537 ?_
  refine Gd_AFi (j := 34) (f := f64) (v := nI 121) hb (by decide) (by decide +kernel) eX8_init_538 (fun st h q => Gd_bipush kb_34 eX8_init_539 q) (fun st h q => Gd_bipush kb_121 eX8_init_541 q) eX8_init_543 ?_
  refine Gd_AFi (j := 35) (f := f64) (v := nI 32) hb (by decide) (by decide +kernel) eX8_init_544 (fun st h q => Gd_bipush kb_35 eX8_init_545 q) (fun st h q => Gd_bipush kb_32 eX8_init_547 q) eX8_init_549 ?_
  refine Gd_AFi (j := 36) (f := f64) (v := nI 32) hb (by decide) (by decide +kernel) eX8_init_550 (fun st h q => Gd_bipush kb_36 eX8_init_551 q) (fun st h q => Gd_bipush kb_32 eX8_init_553 q) eX8_init_555 ?_
  refine Gd_AFi (j := 37) (f := f64) (v := nI 32) hb (by decide) (by decide +kernel) eX8_init_556 (fun st h q => Gd_bipush kb_37 eX8_init_557 q) (fun st h q => Gd_bipush kb_32 eX8_init_559 q) eX8_init_561 ?_
  refine Gd_AFi (j := 38) (f := f64) (v := nI 32) hb (by decide) (by decide +kernel) eX8_init_562 (fun st h q => Gd_bipush kb_38 eX8_init_563 q) (fun st h q => Gd_bipush kb_32 eX8_init_565 q) eX8_init_567 ?_
  refine Gd_AFi (j := 39) (f := f64) (v := nI 32) hb (by decide) (by decide +kernel) eX8_init_568 (fun st h q => Gd_bipush kb_39 eX8_init_569 q) (fun st h q => Gd_bipush kb_32 eX8_init_571 q) eX8_init_573 ?_
  refine Gd_AFi (j := 40) (f := f64) (v := nI 109) hb (by decide) (by decide +kernel) eX8_init_574 (fun st h q => Gd_bipush kb_40 eX8_init_575 q) (fun st h q => Gd_bipush kb_109 eX8_init_577 q) eX8_init_579 ?_
  refine Gd_AFi (j := 41) (f := f64) (v := nI 101) hb (by decide) (by decide +kernel) eX8_init_580 (fun st h q => Gd_bipush kb_41 eX8_init_581 q) (fun st h q => Gd_bipush kb_101 eX8_init_583 q) eX8_init_585 ?_
  refine Gd_AFi (j := 42) (f := f64) (v := nI 116) hb (by decide) (by decide +kernel) eX8_init_586 (fun st h q => Gd_bipush kb_42 eX8_init_587 q) (fun st h q => Gd_bipush kb_116 eX8_init_589 q) eX8_init_591 ?_
  refine Gd_AFi (j := 43) (f := f64) (v := nI 32) hb (by decide) (by decide +kernel) eX8_init_592 (fun st h q => Gd_bipush kb_43 eX8_init_593 q) (fun st h q => Gd_bipush kb_32 eX8_init_595 q) eX8_init_597 ?_
  refine Gd_AFi (j := 44) (f := f64) (v := nI 32) hb (by decide) (by decide +kernel) eX8_init_598 (fun st h q => Gd_bipush kb_44 eX8_init_599 q) (fun st h q => Gd_bipush kb_32 eX8_init_601 q) eX8_init_603 ?_
  refine Gd_AFi (j := 45) (f := f64) (v := nI 32) hb (by decide) (by decide +kernel) eX8_init_604 (fun st h q => Gd_bipush kb_45 eX8_init_605 q) (fun st h q => Gd_bipush kb_32 eX8_init_607 q) eX8_init_609 ?_
  refine Gd_AFi (j := 46) (f := f64) (v := nI 32) hb (by decide) (by decide +kernel) eX8_init_610 (fun st h q => Gd_bipush kb_46 eX8_init_611 q) (fun st h q => Gd_bipush kb_32 eX8_init_613 q) eX8_init_615 ?_
  refine Gd_AFi (j := 47) (f := f64) (v := nI 32) hb (by decide) (by decide +kernel) eX8_init_616 (fun st h q => Gd_bipush kb_47 eX8_init_617 q) (fun st h q => Gd_bipush kb_32 eX8_init_619 q) eX8_init_621 ?_
  refine Gd_AFi (j := 48) (f := f64) (v := nI 99) hb (by decide) (by decide +kernel) eX8_init_622 (fun st h q => Gd_bipush kb_48 eX8_init_623 q) (fun st h q => Gd_bipush kb_99 eX8_init_625 q) eX8_init_627 ?_
  refine Gd_AFi (j := 49) (f := f64) (v := nI 97) hb (by decide) (by decide +kernel) eX8_init_628 (fun st h q => Gd_bipush kb_49 eX8_init_629 q) (fun st h q => Gd_bipush kb_97 eX8_init_631 q) eX8_init_633 ?_
  refine Gd_AFi (j := 50) (f := f64) (v := nI 114) hb (by decide) (by decide +kernel) eX8_init_634 (fun st h q => Gd_bipush kb_50 eX8_init_635 q) (fun st h q => Gd_bipush kb_114 eX8_init_637 q) eX8_init_639 ?_
  refine Gd_AFi (j := 51) (f := f64) (v := nI 100) hb (by decide) (by decide +kernel) eX8_init_640 (fun st h q => Gd_bipush kb_51 eX8_init_641 q) (fun st h q => Gd_bipush kb_100 eX8_init_643 q) eX8_init_645 ?_
  refine Gd_AFi (j := 52) (f := f64) (v := nI 115) hb (by decide) (by decide +kernel) eX8_init_646 (fun st h q => Gd_bipush kb_52 eX8_init_647 q) (fun st h q => Gd_bipush kb_115 eX8_init_649 q) eX8_init_651 ?_
  refine Gd_AFi (j := 53) (f := f64) (v := nI 32) hb (by decide) (by decide +kernel) eX8_init_652 (fun st h q => Gd_bipush kb_53 eX8_init_653 q) (fun st h q => Gd_bipush kb_32 eX8_init_655 q) eX8_init_657 ?_
  refine Gd_AFi (j := 54) (f := f64) (v := nI 32) hb (by decide) (by decide +kernel) eX8_init_658 (fun st h q => Gd_bipush kb_54 eX8_init_659 q) (fun st h q => Gd_bipush kb_32 eX8_init_661 q) eX8_init_663 ?_
  refine Gd_AFi (j := 55) (f := f64) (v := nI 32) hb (by decide) (by decide +kernel) eX8_init_664 (fun st h q => Gd_bipush kb_55 eX8_init_665 q) (fun st h q => Gd_bipush kb_32 eX8_init_667 q) eX8_init_669 ?_
  refine Gd_AFi (j := 56) (f := f64) (v := nI 100) hb (by decide) (by decide +kernel) eX8_init_670 (fun st h q => Gd_bipush kb_56 eX8_init_671 q) (fun st h q => Gd_bipush kb_100 eX8_init_673 q) eX8_init_675 ?_
  refine Gd_AFi (j := 57) (f := f64) (v := nI 97) hb (by decide) (by decide +kernel) eX8_init_676 (fun st h q => Gd_bipush kb_57 eX8_init_677 q) (fun st h q => Gd_bipush kb_97 eX8_init_679 q) eX8_init_681 ?_
  refine Gd_AFi (j := 58) (f := f64) (v := nI 121) hb (by decide) (by decide +kernel) eX8_init_682 (fun st h q => Gd_bipush kb_58 eX8_init_683 q) (fun st h q => Gd_bipush kb_121 eX8_init_685 q) eX8_init_687 ?_
  refine Gd_AFi (j := 59) (f := f64) (v := nI 32) hb (by decide) (by decide +kernel) eX8_init_688 (fun st h q => Gd_bipush kb_59 eX8_init_689 q) (fun st h q => Gd_bipush kb_32 eX8_init_691 q) eX8_init_693 ?_
  refine Gd_AFi (j := 60) (f := f64) (v := nI 32) hb (by decide) (by decide +kernel) eX8_init_694 (fun st h q => Gd_bipush kb_60 eX8_init_695 q) (fun st h q => Gd_bipush kb_32 eX8_init_697 q) eX8_init_699 ?_
  refine Gd_AFi (j := 61) (f := f64) (v := nI 32) hb (by decide) (by decide +kernel) eX8_init_700 (fun st h q => Gd_bipush kb_61 eX8_init_701 q) (fun st h q => Gd_bipush kb_32 eX8_init_703 q) eX8_init_705 ?_
  refine Gd_AFi (j := 62) (f := f64) (v := nI 32) hb (by decide) (by decide +kernel) eX8_init_706 (fun st h q => Gd_bipush kb_62 eX8_init_707 q) (fun st h q => Gd_bipush kb_32 eX8_init_709 q) eX8_init_711 ?_
  refine Gd_AFi (j := 63) (f := f64) (v := nI 32) hb (by decide) (by decide +kernel) eX8_init_712 (fun st h q => Gd_bipush kb_63 eX8_init_713 q) (fun st h q => Gd_bipush kb_32 eX8_init_715 q) eX8_init_717 ?_
  refine Gd_AFi (j := 64) (f := f64) (v := nI 109) hb (by decide) (by decide +kernel) eX8_init_718 (fun st h q => Gd_bipush kb_64 eX8_init_719 q) (fun st h q => Gd_bipush kb_109 eX8_init_721 q) eX8_init_723 ?_
  refine Gd_AFi (j := 65) (f := f64) (v := nI 111) hb (by decide) (by decide +kernel) eX8_init_724 (fun st h q => Gd_bipush kb_65 eX8_init_725 q) (fun st h q => Gd_bipush kb_111 eX8_init_727 q) eX8_init_729 ?_
  refine Gd_AFi (j := 66) (f := f64) (v := nI 114) hb (by decide) (by decide +kernel) eX8_init_730 (fun st h q => Gd_bipush kb_66 eX8_init_731 q) (fun st h q => Gd_bipush kb_114 eX8_init_733 q) eX8_init_735 ?_
  refine Gd_AFi (j := 67) (f := f64) (v := nI 101) hb (by decide) (by decide +kernel) eX8_init_736 (fun st h q => Gd_bipush kb_67 eX8_init_737 q) (fun st h q => Gd_bipush kb_101 eX8_init_739 q) eX8_init_741 ?_
  refine Gd_AFi (j := 68) (f := f64) (v := nI 32) hb (by decide) (by decide +kernel) eX8_init_742 (fun st h q => Gd_bipush kb_68 eX8_init_743 q) (fun st h q => Gd_bipush kb_32 eX8_init_745 q) eX8_init_747 ?_
  refine Gd_AFi (j := 69) (f := f64) (v := nI 32) hb (by decide) (by decide +kernel) eX8_init_748 (fun st h q => Gd_bipush kb_69 eX8_init_749 q) (fun st h q => Gd_bipush kb_32 eX8_init_751 q) eX8_init_753 ?_
  refine Gd_AFi (j := 70) (f := f64) (v := nI 32) hb (by decide) (by decide +kernel) eX8_init_754 (fun st h q => Gd_bipush kb_70 eX8_init_755 q) (fun st h q => Gd_bipush kb_32 eX8_init_757 q) eX8_init_759 ?_
  refine Gd_AFi (j := 71) (f := f64) (v := nI 32) hb (by decide) (by decide +kernel) eX8_init_760 (fun st h q => Gd_bipush kb_71 eX8_init_761 q) (fun st h q => Gd_bipush kb_32 eX8_init_763 q) eX8_init_765 ?_
  refine Gd_AFi (j := 72) (f := f64) (v := nI 111) hb (by decide) (by decide +kernel) eX8_init_766 (fun st h q => Gd_bipush kb_72 eX8_init_767 q) (fun st h q => Gd_bipush kb_111 eX8_init_769 q) eX8_init_771 ?_
  refine Gd_AFi (j := 73) (f := f64) (v := nI 114) hb (by decide) (by decide +kernel) eX8_init_772 (fun st h q => Gd_bipush kb_73 eX8_init_773 q) (fun st h q => Gd_bipush kb_114 eX8_init_775 q) eX8_init_777 ?_
  refine Gd_AFi (j := 74) (f := f64) (v := nI 32) hb (by decide) (by decide +kernel) eX8_init_778 (fun st h q => Gd_bipush kb_74 eX8_init_779 q) (fun st h q => Gd_bipush kb_32 eX8_init_781 q) eX8_init_783 ?_
  refine Gd_AFi (j := 75) (f := f64) (v := nI 32) hb (by decide) (by decide +kernel) eX8_init_784 (fun st h q => Gd_bipush kb_75 eX8_init_785 q) (fun st h q => Gd_bipush kb_32 eX8_init_787 q) eX8_init_789 ?_
  refine Gd_AFi (j := 76) (f := f64) (v := nI 32) hb (by decide) (by decide +kernel) eX8_init_790 (fun st h q => Gd_bipush kb_76 eX8_init_791 q) (fun st h q => Gd_bipush kb_32 eX8_init_793 q) eX8_init_795 ?_
  refine Gd_AFi (j := 77) (f := f64) (v := nI 32) hb (by decide) (by decide +kernel) eX8_init_796 (fun st h q => Gd_bipush kb_77 eX8_init_797 q) (fun st h q => Gd_bipush kb_32 eX8_init_799 q) eX8_init_801 ?_
  refine Gd_AFi (j := 78) (f := f64) (v := nI 32) hb (by decide) (by decide +kernel) eX8_init_802 (fun st h q => Gd_bipush kb_78 eX8_init_803 q) (fun st h q => Gd_bipush kb_32 eX8_init_805 q) eX8_init_807 ?_
  refine Gd_AFi (j := 79) (f := f64) (v := nI 32) hb (by decide) (by decide +kernel) eX8_init_808 (fun st h q => Gd_bipush kb_79 eX8_init_809 q) (fun st h q => Gd_bipush kb_32 eX8_init_811 q) eX8_init_813 ?_
  refine Gd_AFi (j := 80) (f := f64) (v := nI 97) hb (by decide) (by decide +kernel) eX8_init_814 (fun st h q => Gd_bipush kb_80 eX8_init_815 q) (fun st h q => Gd_bipush kb_97 eX8_init_817 q) eX8_init_819 ?_
  refine Gd_AFi (j := 81) (f := f64) (v := nI 110) hb (by decide) (by decide +kernel) eX8_init_820 (fun st h q => Gd_bipush kb_81 eX8_init_821 q) (fun st h q => Gd_bipush kb_110 eX8_init_823 q) eX8_init_825 ?_
  refine Gd_AFi (j := 82) (f := f64) (v := nI 100) hb (by decide) (by decide +kernel) eX8_init_826 (fun st h q => Gd_bipush kb_82 eX8_init_827 q) (fun st h q => Gd_bipush kb_100 eX8_init_829 q) eX8_init_831 ?_
  refine Gd_AFi (j := 83) (f := f64) (v := nI 32) hb (by decide) (by decide +kernel) eX8_init_832 (fun st h q => Gd_bipush kb_83 eX8_init_833 q) (fun st h q => Gd_bipush kb_32 eX8_init_835 q) eX8_init_837 ?_
  refine Gd_AFi (j := 84) (f := f64) (v := nI 32) hb (by decide) (by decide +kernel) eX8_init_838 (fun st h q => Gd_bipush kb_84 eX8_init_839 q) (fun st h q => Gd_bipush kb_32 eX8_init_841 q) eX8_init_843 ?_
  refine Gd_AFi (j := 85) (f := f64) (v := nI 32) hb (by decide) (by decide +kernel) eX8_init_844 (fun st h q => Gd_bipush kb_85 eX8_init_845 q) (fun st h q => Gd_bipush kb_32 eX8_init_847 q) eX8_init_849 ?_
  refine Gd_AFi (j := 86) (f := f64) (v := nI 32) hb (by decide) (by decide +kernel) eX8_init_850 (fun st h q => Gd_bipush kb_86 eX8_init_851 q) (fun st h q => Gd_bipush kb_32 eX8_init_853 q) eX8_init_855 ?_
  refine Gd_AFi (j := 87) (f := f64) (v := nI 32) hb (by decide) (by decide +kernel) eX8_init_856 (fun st h q => Gd_bipush kb_87 eX8_init_857 q) (fun st h q => Gd_bipush kb_32 eX8_init_859 q) eX8_init_861 ?_
  refine Gd_AFi (j := 88) (f := f64) (v := nI 110) hb (by decide) (by decide +kernel) eX8_init_862 (fun st h q => Gd_bipush kb_88 eX8_init_863 q) (fun st h q => Gd_bipush kb_110 eX8_init_865 q) eX8_init_867 ?_
  refine Gd_AFi (j := 89) (f := f64) (v := nI 111) hb (by decide) (by decide +kernel) eX8_init_868 (fun st h q => Gd_bipush kb_89 eX8_init_869 q) (fun st h q => Gd_bipush kb_111 eX8_init_871 q) eX8_init_873 ?_
  refine Gd_AFi (j := 90) (f := f64) (v := nI 116) hb (by decide) (by decide +kernel) eX8_init_874 (fun st h q => Gd_bipush kb_90 eX8_init_875 q) (fun st h q => Gd_bipush kb_116 eX8_init_877 q) eX8_init_879 ?_
  refine Gd_AFi (j := 91) (f := f64) (v := nI 32) hb (by decide) (by decide +kernel) eX8_init_880 (fun st h q => Gd_bipush kb_91 eX8_init_881 q) (fun st h q => Gd_bipush kb_32 eX8_init_883 q) eX8_init_885 ?_
  refine Gd_AFi (j := 92) (f := f64) (v := nI 32) hb (by decide) (by decide +kernel) eX8_init_886 (fun st h q => Gd_bipush kb_92 eX8_init_887 q) (fun st h q => Gd_bipush kb_32 eX8_init_889 q) eX8_init_891 ?_
  refine Gd_AFi (j := 93) (f := f64) (v := nI 32) hb (by decide) (by decide +kernel) eX8_init_892 (fun st h q => Gd_bipush kb_93 eX8_init_893 q) (fun st h q => Gd_bipush kb_32 eX8_init_895 q) eX8_init_897 ?_
  refine Gd_AFi (j := 94) (f := f64) (v := nI 32) hb (by decide) (by decide +kernel) eX8_init_898 (fun st h q => Gd_bipush kb_94 eX8_init_899 q) (fun st h q => Gd_bipush kb_32 eX8_init_901 q) eX8_init_903 ?_
  refine Gd_AFi (j := 95) (f := f64) (v := nI 32) hb (by decide) (by decide +kernel) eX8_init_904 (fun st h q => Gd_bipush kb_95 eX8_init_905 q) (fun st h q => Gd_bipush kb_32 eX8_init_907 q) eX8_init_909 ?_
  rw [← hl]
  refine Gd_AFe (f := f64) (m := 96) (j := 24) hA rfl (fun _ => rfl) (by decide) fl_RX8_53 rfl (fun C T q => by cases q; rfl) eX8_init_910 (fun a1 r1 g1 hA => ?_)
  refine Gd_sh (sh' := SHW.take 65) rfl ?_
  have hA := AL_sh (show _ = SHW.take 65 from rfl) hA
  refine Gd_AA (m := 200) (j := 25) hA rfl rfl (okl1 okl_n) (Nat.le_of_ble_eq_true rfl) (Nat.le_of_ble_eq_true rfl) (by decide) (fun _ => rfl) (by decide) fl_RX8_56 rfl (fun C T q => by cases q; rfl) eX8_init_913 (fun st h q => Gd_sipush ks_200 eX8_init_914 q) eX8_init_917 eX8_init_919 (fun a1 r1 g1 hA => ?_)
  refine Gd_sh (sh' := SHW.take 66) rfl ?_
  have hA := AL_sh (show _ = SHW.take 66 from rfl) hA
  refine Gd_AA (m := 200) (j := 29) hA rfl rfl (okl1 okl_n) (Nat.le_of_ble_eq_true rfl) (Nat.le_of_ble_eq_true rfl) (by decide) (fun _ => rfl) (by decide) fl_RX8_59 rfl (fun C T q => by cases q; rfl) eX8_init_922 (fun st h q => Gd_sipush ks_200 eX8_init_923 q) eX8_init_926 eX8_init_928 (fun a1 r1 g1 hA => ?_)
  refine Gd_sh (sh' := SHW.take 67) rfl ?_
  have hA := AL_sh (show _ = SHW.take 67 from rfl) hA
  refine Gd_AA (m := 6) (j := 30) hA rfl rfl (okl1 okl_n) (Nat.le_of_ble_eq_true rfl) (Nat.le_of_ble_eq_true rfl) (by decide) (fun _ => rfl) (by decide) fl_RX8_62 rfl (fun C T q => by cases q; rfl) eX8_init_931 (fun st h q => Gd_bipush kb_6 eX8_init_932 q) eX8_init_934 eX8_init_936 (fun a1 r1 g1 hA => ?_)
  refine Gd_sh (sh' := SHW.take 68) rfl ?_
  have hA := AL_sh (show _ = SHW.take 68 from rfl) hA
  refine Gd_AA (m := 6) (j := 31) hA rfl rfl (okl1 okl_n) (Nat.le_of_ble_eq_true rfl) (Nat.le_of_ble_eq_true rfl) (by decide) (fun _ => rfl) (by decide) fl_RX8_65 rfl (fun C T q => by cases q; rfl) eX8_init_939 (fun st h q => Gd_bipush kb_6 eX8_init_940 q) eX8_init_942 eX8_init_944 (fun a1 r1 g1 hA => ?_)
  refine Gd_sh (sh' := SHW.take 69) rfl ?_
  have hA := AL_sh (show _ = SHW.take 69 from rfl) hA
  refine Gd_AA (m := 35) (j := 33) hA rfl rfl (okl1 okl_n) (Nat.le_of_ble_eq_true rfl) (Nat.le_of_ble_eq_true rfl) (by decide) (fun _ => rfl) (by decide) fl_RX8_68 rfl (fun C T q => by cases q; rfl) eX8_init_947 (fun st h q => Gd_bipush kb_35 eX8_init_948 q) eX8_init_950 eX8_init_952 (fun a1 r1 g1 hA => ?_)
  refine Gd_sh (sh' := SHW.take 70) rfl ?_
  have hA := AL_sh (show _ = SHW.take 70 from rfl) hA
  refine Gd_AA (m := 4) (j := 34) hA rfl rfl (okl1 okl_n) (Nat.le_of_ble_eq_true rfl) (Nat.le_of_ble_eq_true rfl) (by decide) (fun _ => rfl) (by decide) fl_RX8_71 rfl (fun C T q => by cases q; rfl) eX8_init_955 (fun st h q => Gd_iconst ki_4 eX8_init_956 q) eX8_init_957 eX8_init_959 (fun a1 r1 g1 hA => ?_)
  refine Gd_sh (sh' := SHW.take 71) rfl ?_
  have hA := AL_sh (show _ = SHW.take 71 from rfl) hA
  refine Gd_iconst ki_0 eX8_init_962 ?_
  refine Gd_istore_n1 rfl eX8_init_963 ?_
  exact m_init_C hMn hbM hG hT hf hT3 (by decide) (by decide) (fun a' h => ⟨rfl, _, _, _, rfl, h⟩) 35 0 _ rfl (MP_of rfl hA hr) (fun j hj => absurd hj (Nat.not_lt_zero _))
end MI
