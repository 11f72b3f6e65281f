abbrev zI (N0 : Nat) (Q : Option g_V → g_H → Prop) : g_Z := (78, 49, 1198, N0, (0, fun _ => 0), Q)
theorem okl1 {x1 : Option g_V} (h1 : ∀ M, g_okL M [x1]) : ∀ M, 0 < M → g_okL M [some (vr 0), x1] := fun M hM v hv => by
  rcases List.mem_cons.mp hv with q | hv
  · cases q; exact hM
  · exact h1 M v hv
theorem okl_n : ∀ M, g_okL M [none] := fun M v hv => by cases List.mem_singleton.mp hv
theorem okl_i (x : Int32) : ∀ M, g_okL M [some (vi x)] := fun M v hv => by cases List.mem_singleton.mp hv; trivial
theorem CX_03 {N : Nat} {a : Nat → Nat → Int32} {r : Nat → Nat → Option Nat} {v : Int32} (h : CX N a r) : CX N (up2 a 0 3 v) r := by
  obtain ⟨c1, c2, c3, c4, c5⟩ := h
  exact ⟨c1, c2, fun z => FA_fr (c3 z) (fun k h1 h2 => up2_rowne _ _ _ (by omega)), fun z => (up2_k _ _ (by decide)).trans (c4 z), fun z => (up2_k _ _ (by decide)).trans (c5 z)⟩
def tpL : List Nat := [104, 111, 110, 111, 117, 114, 115, 32, 51, 32, 59, 32, 104, 105, 116, 115, 32, 104, 111, 110, 111, 117, 114, 32, 59, 32, 119, 105, 108, 108, 115, 32, 49, 32, 59]
def tp0 (i : Nat) : Nat := tpL.getD i 0
theorem tp0_lt : ∀ i, i < 35 → tp0 i < 256 := by decide
theorem tp0_by : ∀ i, i < 35 → byq 0 i = tp0 i := by decide
def so0 : Nat → Nat := fun _ => 4294967295
def sz0 : Nat → Nat := fun _ => 0
def cl0 : Nat → Nat → Int32 := fun _ _ => nI 0
/-- what the class's constructor leaves -/
def XI (G : g_Ps) (T : Nat → Nat) (a : Nat → Nat → Int32) (r : Nat → Nat → Option Nat) : Prop := (∀ q ∈ RTL, q.2.2 < 50 → r q.1 q.2.1 = some q.2.2) ∧ g_okR 50 r ∧ FA 1 φ0 a ∧ a 25 1 = nI 0 ∧ SX so0 sz0 cl0 a ∧ a 0 3 = nI 0 ∧ a 31 1 = nI 1 ∧ r 32 0 = some 47 ∧ (∀ i, i < G.2.2.1 → a 48 i = xcd (G.2.2.2 i)) ∧ ∀ j, j < 4 → a 49 j = nI (T j)
theorem WC_fr {sh t : List (Nat × Nat)} {r r' : Nat → Nat → Option Nat} (h : WC sh r) (hr : ∀ k j, k < 47 → k ≠ 32 → r' k j = r k j) : WC (sh ++ t) r' := ⟨fun k x hk hx => sh_app (h.1 k x hk hx), fun q hq hk => by
  rw [hr _ _ hk ((by decide : ∀ q ∈ RTL, q.1 ≠ 32) q hq)]; exact h.2 q hq hk⟩
theorem y_readG {sh : List (Nat × Nat)} {a : Nat → Nat → Int32} {r : Nat → Nat → Option Nat} {g : Nat → Nat → Int64} {tp : Nat → Nat} {nb : Nat} (hW : WC sh r) (hnb : nb ≤ 160) (h256 : ∀ i, i < nb → tp i < 256) {M : Nat} (hMn : M ≤ nb) (hbM : bs tp nb M = nb) (hlM : ∀ j, j < M → bs tp nb j < nb) (hP : TP 25 1 26 nb tp a) {G : g_Ps} {T : Nat → Nat} (hG : rdF (tqf tp nb) (bs tp nb) M 36 = G) (hT : rdT (tqf tp nb) (bs tp nb) M 36 = T) : Mt YX2_read 76 0 0 [vr 25] (sh, a, r, g) (g_EV sh r g (vi (rdV G)) (fun a' => PSx (tqf tp nb) (bs tp nb) M G a' ∧ (∀ j, j < 4 → a' 30 j = nI (T j)) ∧ chg scRd a a')) := by
  subst hG hT
  exact x_read hW hnb h256 hMn hbM hlM hP
section XI
variable {a : Nat → Nat → Int32} {r : Nat → Nat → Option Nat} {g : Nat → Nat → Int64} {N0 : Nat} {Q : Option g_V → g_H → Prop} {G : g_Ps} {T : Nat → Nat} {M k n : Nat}
def CY (a : Nat → Nat → Int32) (r : Nat → Nat → Option Nat) : Prop := (∀ q ∈ RTL, q.2.2 < 47 → r q.1 q.2.1 = some q.2.2) ∧ g_okR 47 r ∧ FA 1 φ0 a ∧ a 31 1 = nI 0
theorem WC_47 (h : CY a r) : WC (SHW.take 47) r := ⟨fun k x hk hx => by rw [List.getElem?_take_of_lt hk]; exact hx, fun q hq hk => h.1 q hq ((by decide : ∀ q ∈ RTL, q.1 < 47 → q.2.2 < 47) q hq hk)⟩
theorem x_init_D (hMn : M ≤ 35) (hbM : bs tp0 35 M = 35) (hlM : ∀ j, j < M → bs tp0 35 j < 35) (hG : rdF (tqf tp0 35) (bs tp0 35) M 36 = G) (hT : rdT (tqf tp0 35) (bs tp0 35) M 36 = T) (hG3 : G.2.2.1 = 3) (hk : k ≤ 46) (hn : n ≤ 1189) (hC : CY a r) (h03 : a 0 3 = nI 0) (hS : SX so0 sz0 cl0 a) (hP : TP 25 1 26 35 tp0 a) (kq : ∀ (a' : Nat → Nat → Int32) (r' : Nat → Nat → Option Nat) (g' : Nat → Nat → Int64), XI G T a' r' → Q none (SHW.take 50, a', r', g')) {x1 : Int32} : Gd YX7_init (zI N0 Q) k n 150 [some (vr 0), some (vi x1)] [] (SHW.take 47, a, r, g) := by
  have hW := WC_47 hC
  have r04 : r 0 4 = some 25 := hC.1 (0, 4, 25) (by decide) (by decide)
  have r05 : r 0 5 = some 31 := hC.1 (0, 5, 31) (by decide) (by decide)
  have r310 : r 31 0 = some 32 := hC.1 (31, 0, 32) (by decide) (by decide)
  refine Gd_aload_n (i := 0) rfl eX7_init_150 ?_
  refine Gd_getR fl_RX7_29 (show (SHW.take 47)[0]? = some (7, 9) from rfl) r04 eX7_init_151 ?_
  refine Gd_callEV (g_cV (y_readG hW (by decide) tp0_lt hMn hbM hlM hP hG hT) ok_X2_read lk_RX7_77 (V_s25 hW) ⟨_, _, rfl⟩ rfl rfl (Nat.le_of_ble_eq_true rfl) (Nat.le_of_ble_eq_true rfl) (by show k + 0 ≤ 49; omega) (by show n + 0 ≤ 1198; omega) eX7_init_154) (fun a1 hq => ?_)
  obtain ⟨hPS, hT4, hc⟩ := hq
  refine Gd_pop rfl eX7_init_157 ?_
  refine Gd_aload_n (i := 0) rfl eX7_init_158 ?_
  refine Gd_getR fl_RX7_36 (show (SHW.take 47)[0]? = some (7, 9) from rfl) r05 eX7_init_159 ?_
  refine Gd_aload_n (i := 0) rfl eX7_init_162 ?_
  refine Gd_getR fl_RX7_29 (show (SHW.take 47)[0]? = some (7, 9) from rfl) r04 eX7_init_163 ?_
  refine g_call1 (g_cV (x_asText hW hPS.2.2.2.2.1 (by omega) (show g_okR (SHW.take 47).length r from hC.2.1)) ok_X2_asText lk_RX7_80 (V_s25 hW) ⟨_, _, rfl⟩ rfl rfl (Nat.le_of_ble_eq_true rfl) (Nat.le_of_ble_eq_true rfl) (by show k + 3 ≤ 49; omega) (by show n + (G.2.2.1 + 6) ≤ 1198; omega) eX7_init_166) (okl1 (okl_i _) _ (by show 0 < (SHW.take 47).length; decide)) (fun v hv => by rw [List.mem_singleton.mp hv]; show 31 < (SHW.take 47).length; decide) (fun v h' hq => ?_)
  obtain ⟨rfl, a5, r5, g5, rfl, q1, q2, q3, q4, q5, q6, q7, q8⟩ := hq
  rw [hG3] at q6
  have hl : (SHW.take 47).length = 47 := rfl
  rw [hl] at q1 q2 q3 q4 q5 q6 q7 q8
  have q2' : ∀ k j, k < 47 → r5 k j = r k j := fun k j hk => by rw [q2 k hk]
  refine Gd_sh (sh' := SHW.take 50) (by rw [hG3]; rfl) ?_
  have n31 : a5 31 1 = nI 0 := by rw [q1 31 (by decide)]; exact (hc _ _ rfl).trans hC.2.2.2
  refine Gd_callQ (g_cV (x_tadd (sh := SHW.take 50) (a := a5) (r := r5) (g := g5) (o := 47) (nt := 0) rfl rfl ((q2' _ _ (by decide)).trans r310) rfl n31 (by decide)) ok_X3_add lk_RX7_84 rfl ⟨_, _, rfl⟩ rfl rfl (Nat.le_of_ble_eq_true rfl) (Nat.le_of_ble_eq_true rfl) (by show k + 3 + 0 ≤ 49; omega) (by show n + (G.2.2.1 + 6) + 0 ≤ 1198; omega) eX7_init_169) rfl ?_
  refine Gd_pop rfl eX7_init_172 ?_
  have u1 : ∀ k j, k ≠ 32 → upR r5 32 0 (some 47) k j = r5 k j := fun k j hk => by simp only [upR, if_neg hk]
  have hW5 : WC (SHW.take 50) (upR r5 32 0 (some 47)) := by
    rw [show SHW.take 50 = SHW.take 47 ++ [(5, 2), (20, 3), (20, 4)] from rfl]
    exact WC_fr hW (fun k j h1 h2 => (u1 k j h2).trans (q2' k j h1))
  refine Gd_aload_n (i := 0) rfl eX7_init_173 ?_
  refine Gd_getR fl_RX7_29 (show (SHW.take 50)[0]? = some (7, 9) from rfl) ((u1 0 4 (by decide)).trans ((q2' _ _ (by decide)).trans r04)) eX7_init_174 ?_
  refine Gd_callE0 (g_cV (x_clear hW5) ok_X2_clear lk_RX7_87 (V_s25 hW5) ⟨_, _, rfl⟩ rfl rfl (Nat.le_of_ble_eq_true rfl) (Nat.le_of_ble_eq_true rfl) (by show k + 3 + 0 ≤ 49; omega) (by show n + (G.2.2.1 + 6) + 0 ≤ 1198; omega) eX7_init_177) (fun a6 h6 => ?_)
  subst h6
  have fr : ∀ k j, k < 47 → scRd k j = false → ¬ (k = 31 ∧ j = 1) → ¬ (k = 25 ∧ j = 1) → up2 (up2 a5 31 1 (nI (0 + 1))) 25 1 (nI 0) k j = a k j := fun k j h1 h2 h3 h4 => by
    have e1 : up2 (up2 a5 31 1 (nI (0 + 1))) 25 1 (nI 0) k j = a5 k j := by
      simp only [up2]
      by_cases z : k = 25
      · rw [if_pos z, if_neg (fun w => h4 ⟨z, w⟩), if_neg (by omega)]
      · rw [if_neg z]
        by_cases z2 : k = 31
        · rw [if_pos z2, if_neg (fun w => h3 ⟨z2, w⟩)]
        · rw [if_neg z2]
    rw [e1, q1 k h1]; exact hc _ _ h2
  refine Gd_return eX7_init_180 rfl (by show k + 3 ≤ 49; omega) (by show n + (G.2.2.1 + 6) ≤ 1198; omega) (kq _ _ _ ⟨fun q hq hlt => ?_, okR_up q8 (by decide), ?_, up2_s _ _ _ _, ⟨fun s hs => ?_, fun s hs => ?_, fun s hs i hi => ?_⟩, ?_, ?_, ?_, fun i hi => ?_, fun j hj => ?_⟩)
  · have h32 := (by decide : ∀ q ∈ RTL, q.1 ≠ 32) q hq
    rw [u1 _ _ h32]
    rcases (by decide : ∀ q ∈ RTL, q.2.2 < 50 → (q.1 < 47 ∧ q.2.2 < 47) ∨ q = (47, 0, 48) ∨ q = (47, 1, 49)) q hq hlt with ⟨h1, h2⟩ | rfl | rfl
    · rw [q2' _ _ h1]; exact hC.1 q hq h2
    · exact q4
    · exact q5
  · exact FA_ch (S := fun k _ => !(decide (1 ≤ k ∧ k ≤ 8))) hC.2.2.1 (fun k j hk => fr k j (by simp at hk; omega) (by simp at hk; simp [scRd]; omega) (by simp at hk; omega) (by simp at hk; omega)) (fun i j hi => by simp; omega)
  · rw [fr _ _ (by omega) (by simp [scRd]; omega) (by omega) (by omega)]; exact hS.1 s hs
  · rw [fr _ _ (by omega) (by simp [scRd]; omega) (by omega) (by omega)]; exact hS.2.1 s hs
  · rw [fr _ _ (by omega) (by simp [scRd]; omega) (by omega) (by omega)]; exact hS.2.2 s hs i hi
  · rw [fr _ _ (by decide) rfl (by decide) (by decide)]; exact h03
  · rw [up2_k _ _ (by decide)]; exact up2_s _ _ _ _
  · simp [upR]
  · rw [up2_k _ _ (by decide), up2_k _ _ (by decide), q6 i (by omega)]
    exact hPS.2.2.2.2.2.1 i hi
  · rw [up2_k _ _ (by decide), up2_k _ _ (by decide), q7]
    exact hT4 j hj
theorem x_init_C (hMn : M ≤ 35) (hbM : bs tp0 35 M = 35) (hlM : ∀ j, j < M → bs tp0 35 j < 35) (hG : rdF (tqf tp0 35) (bs tp0 35) M 36 = G) (hT : rdT (tqf tp0 35) (bs tp0 35) M 36 = T) (hG3 : G.2.2.1 = 3) (hk : k ≤ 46) (hn : n ≤ 1189) (kq : ∀ (a' : Nat → Nat → Int32) (r' : Nat → Nat → Option Nat) (g' : Nat → Nat → Int64), XI G T a' r' → Q none (SHW.take 50, a', r', g')) : ∀ (m i : Nat) (a : Nat → Nat → Int32), i + m = 35 → CY a r → a 0 3 = nI 0 → SX so0 sz0 cl0 a → TP 25 1 26 i tp0 a → Gd YX7_init (zI N0 Q) k n 122 [some (vr 0), some (vi (nI i))] [] (SHW.take 47, a, r, g)
  | 0, i, a, hi, hC, h03, hS, hP => by
    refine Gd_iload_n (i := 1) rfl eX7_init_122 ?_
    refine Gd_ldcS (q := 0) (tx := "honours 3 ; hits honour ; wills 1 ;") (by decide) eX7_init_123 ?_
    refine Gd_callP (g_cVt (by decide) (j_length (by decide)) ok_J0_length_8abf5 rfl lk_RX7_63 rfl rfl (Nat.le_of_ble_eq_true rfl) (Nat.le_of_ble_eq_true rfl) (by show k + 0 ≤ 49; omega) (by show n + 0 ≤ 1198; omega) eX7_init_125) ?_
    refine Gd_icmp_geN (by omega) (by decide) eX7_init_128 (fun _ => ?_) (fun c => absurd (show i < 35 from c) (by omega))
    obtain rfl : i = 35 := by omega
    exact x_init_D hMn hbM hlM hG hT hG3 hk hn hC h03 hS hP kq
  | m + 1, i, a, hi, hC, h03, hS, hP => by
    have hW := WC_47 hC
    refine Gd_iload_n (i := 1) rfl eX7_init_122 ?_
    refine Gd_ldcS (q := 0) (tx := "honours 3 ; hits honour ; wills 1 ;") (by decide) eX7_init_123 ?_
    refine Gd_callP (g_cVt (by decide) (j_length (by decide)) ok_J0_length_8abf5 rfl lk_RX7_63 rfl rfl (Nat.le_of_ble_eq_true rfl) (Nat.le_of_ble_eq_true rfl) (by show k + 0 ≤ 49; omega) (by show n + 0 ≤ 1198; omega) eX7_init_125) ?_
    refine Gd_icmp_geN (by omega) (by decide) eX7_init_128 (fun c => absurd (show 35 ≤ i from c) (by omega)) (fun c => ?_)
    refine Gd_aload_n (i := 0) rfl eX7_init_131 ?_
    refine Gd_getR fl_RX7_29 (show (SHW.take 47)[0]? = some (7, 9) from rfl) (hC.1 (0, 4, 25) (by decide) (by decide)) eX7_init_132 ?_
    refine Gd_ldcS (q := 0) (tx := "honours 3 ; hits honour ; wills 1 ;") (by decide) eX7_init_135 ?_
    refine Gd_iload_n (i := 1) rfl eX7_init_137 ?_
    refine Gd_callP (g_cVt (by decide) (j_charAt (by decide) c) ok_J0_charAt_5068e rfl lk_RX7_69 rfl rfl (Nat.le_of_ble_eq_true rfl) (Nat.le_of_ble_eq_true rfl) (by show k + 0 ≤ 49; omega) (by show n + 0 ≤ 1198; omega) eX7_init_138) ?_
    refine Gd_callP0 (g_cV (y_radd hW hP.1 (by omega)) ok_X2_add lk_RX7_73 (V_s25 hW) ⟨_, _, rfl⟩ rfl rfl (Nat.le_of_ble_eq_true rfl) (Nat.le_of_ble_eq_true rfl) (by show k + 0 ≤ 49; omega) (by show n + 0 ≤ 1198; omega) eX7_init_141) rfl ?_
    refine Gd_iinc1 (ho := rfl) (he := nI_inc _) eX7_init_144 ?_
    refine Gd_goto eX7_init_147 ?_
    have hc : chg (scN 25 1 26) a (up2 (up2 a 26 i (nI (byq 0 i))) 25 1 (nI (i + 1))) := chg_up (chg_up chg_rf rfl) rfl
    refine x_init_C hMn hbM hlM hG hT hG3 hk hn kq m (i + 1) _ (by omega) ⟨hC.1, hC.2.1, FA_ch hC.2.2.1 hc (fun i j q => by simp [scN]; omega), (hc _ _ rfl).trans hC.2.2.2⟩ ((hc _ _ rfl).trans h03) (SX_ch hS hc (fun {k} j q1 q2 => by simp [scN]; omega)) ⟨up2_s _ _ _ _, fun j hj => ?_⟩
    rw [up2_k _ _ (by decide)]
    by_cases e : j = i
    · rw [e, up2_s, tp0_by i (by omega)]
    · rw [up2_j _ _ e]; exact hP.2 j (by omega)
-- the sheets
def CS (s : Nat) (a : Nat → Nat → Int32) (r : Nat → Nat → Option Nat) : Prop := (∀ q ∈ RTL, q.2.2 < 39 + 2 * s → r q.1 q.2.1 = some q.2.2) ∧ g_okR (39 + 2 * s) r ∧ FA 1 φ0 a ∧ a 31 1 = nI 0 ∧ a 25 1 = nI 0 ∧ a 0 3 = nI 0 ∧ ∀ t, t < s → a (39 + 2 * t) 0 = nI 4294967295 ∧ a (39 + 2 * t) 1 = nI 0 ∧ ∀ i, a (39 + 2 * t + 1) i = nI 0
theorem x_init_S1 {s : Nat} (hs : s < 4) (hk : k + 2 ≤ 46) (hn : n + 43 ≤ 1189) (hC : CS s a r) (kk : ∀ (a' : Nat → Nat → Int32) (r' : Nat → Nat → Option Nat) (g' : Nat → Nat → Int64), CS (s + 1) a' r' → Gd YX7_init (zI N0 Q) (k + 2) (n + 43) 96 [some (vr 0), some (vi (nI (s + 1)))] [] (SHW.take (39 + 2 * (s + 1)), a', r', g')) : Gd YX7_init (zI N0 Q) k n 101 [some (vr 0), some (vi (nI s))] [] (SHW.take (39 + 2 * s), a, r, g) := by
  obtain ⟨c1, c2, c3, c4, c5, c6, c7⟩ := hC
  have hlen : (SHW.take (39 + 2 * s)).length = 39 + 2 * s := by rw [List.length_take, show SHW.length = 71 from rfl]; omega
  have hsh : ∀ k x, k < 39 + 2 * s → SHW[k]? = some x → (SHW.take (39 + 2 * s))[k]? = some x := fun k x hk hx => by rw [List.getElem?_take_of_lt hk]; exact hx
  have hnx : SHW.take (39 + 2 * s) ++ [(4, 3)] ++ [(20, 40)] = SHW.take (39 + 2 * (s + 1)) := by
    rcases (by omega : s = 0 ∨ s = 1 ∨ s = 2 ∨ s = 3) with rfl | rfl | rfl | rfl <;> rfl
  refine Gd_aload_n (i := 0) rfl eX7_init_101 ?_
  refine Gd_getR fl_RX7_56 (hsh 0 _ (by omega) rfl) (c1 (0, 8, 38) (by decide) (by show 38 < _; omega)) eX7_init_102 ?_
  refine Gd_iload_n (i := 1) rfl eX7_init_105 ?_
  refine Gd_new (c := 4) (nf := 3) (CC := RX4) (T := TX4) rfl (by decide) (by decide) (by show k + 1 ≤ 49; omega) (by show n + 3 ≤ 1198; omega) (by rw [hlen]; exact c2) (okl1 (okl_i _) _ (by omega)) (fun v hv => ?_) lc_RX7_54 wm_RX4 wi_RX4 eX7_init_106 ?_
  · rcases List.mem_cons.mp hv with rfl | hv
    · trivial
    · rw [List.mem_singleton.mp hv]; show 38 < _; omega
  rw [show g_nw (SHW.take (39 + 2 * s), a, r, g) (4, 3) = (SHW.take (39 + 2 * s) ++ [(4, 3)], va_up a (SHW.take (39 + 2 * s)).length (fun _ => 0), va_up r (SHW.take (39 + 2 * s)).length (fun _ => none), va_up g (SHW.take (39 + 2 * s)).length (fun _ => 0)) from rfl]
  have hnew : (SHW.take (39 + 2 * s) ++ [(4, 3)])[39 + 2 * s]? = some (4, 3) := by
    have := g_sh_last (SHW.take (39 + 2 * s)) (4, 3)
    rwa [hlen] at this
  rw [hlen]
  have hl2 : (SHW.take (39 + 2 * s) ++ [(4, 3)]).length = 39 + 2 * s + 1 := by rw [List.length_append, hlen]; rfl
  refine Gd_dup rfl eX7_init_109 ?_
  refine g_call1 (g_cIN (x_ini4 (o := 39 + 2 * s) (sh := SHW.take (39 + 2 * s) ++ [(4, 3)]) hnew (by rw [hl2]; exact okR_nw c2)) ok_X4_init ln_RX7_60 rfl rfl (Nat.le_of_ble_eq_true rfl) (Nat.le_of_ble_eq_true rfl) (by show k + 1 + 1 ≤ 49; omega) (by show n + 3 + 40 ≤ 1198; omega) eX7_init_110) (okl1 (okl_i _) _ (by show 0 < (SHW.take (39 + 2 * s) ++ [(4, 3)]).length; omega)) (fun v hv => ?_) (fun v h' hq => ?_)
  · rcases List.mem_cons.mp hv with rfl | hv
    · show 39 + 2 * s < (SHW.take (39 + 2 * s) ++ [(4, 3)]).length; omega
    · rcases List.mem_cons.mp hv with rfl | hv
      · trivial
      · rw [List.mem_singleton.mp hv]; show 38 < (SHW.take (39 + 2 * s) ++ [(4, 3)]).length; omega
  obtain ⟨rfl, sh', a', r', g', rfl, e1, e2, e3, e4, e5, e6, e7, e8⟩ := hq
  subst e1
  rw [hl2] at e4 e5 e7
  have e9 : SHW.take (39 + 2 * s) ++ [(4, 3)] ++ [(2, 20, 40)].map (fun w => w.2) = SHW.take (39 + 2 * (s + 1)) := hnx
  have hl3 : (SHW.take (39 + 2 * (s + 1))).length = 39 + 2 * (s + 1) := by rw [List.length_take, show SHW.length = 71 from rfl]; omega
  rw [e9, hl3] at e8
  refine Gd_aast (t := 1) (ci := 4) (Or.inl ⟨rfl, rfl, rfl⟩) (sh_app (sh_app (hsh 38 _ (by omega) rfl))) (sh_app hnew) (vp_in_nI hs (by decide)) eX7_init_113 ?_
  rw [nI_clamp (by omega)]
  refine Gd_iinc1 (ho := rfl) (he := nI_inc _) eX7_init_114 ?_
  refine Gd_goto eX7_init_117 ?_
  refine Gd_sh e9 (kk _ _ _ ?_)
  have fa : ∀ k, k < 39 + 2 * s → a' k = a k := fun k hk => by rw [e4 k (by omega) (by omega), va_up_n _ _ (by omega)]
  have fr : ∀ k j, k < 39 + 2 * s → ¬ (k = 38 ∧ j = s) → upR r' 38 s (some (39 + 2 * s)) k j = r k j := fun k j hk h38 => by
    have e : r' k = r k := by rw [e5 k (by omega) (by omega), va_up_n _ _ (by omega)]
    simp only [upR]
    by_cases z : k = 38
    · rw [if_pos z, if_neg (fun w => h38 ⟨z, w⟩), e]
    · rw [if_neg z, e]
  have z0 : (0 : Int32) = nI 0 := by decide
  refine ⟨fun q hq hlt => ?_, okR_up e8 (by omega), FA_fr c3 (fun k h1 h2 => fa k (by omega)), by rw [fa 31 (by omega)]; exact c4, by rw [fa 25 (by omega)]; exact c5, by rw [fa 0 (by omega)]; exact c6, fun t ht => ?_⟩
  · have key : ∀ q ∈ RTL, q.2.2 < 47 → (q.2.2 < 39 + 2 * s ∧ q.1 < 39 + 2 * s ∧ ¬ (q.1 = 38 ∧ q.2.1 = s)) ∨ q = (38, s, 39 + 2 * s) ∨ q = (39 + 2 * s, 2, 39 + 2 * s + 1) ∨ 39 + 2 * (s + 1) ≤ q.2.2 := by
      rcases (by omega : s = 0 ∨ s = 1 ∨ s = 2 ∨ s = 3) with rfl | rfl | rfl | rfl <;> decide
    rcases key q hq (by omega) with ⟨h1, h2, h3⟩ | rfl | rfl | h1
    · rw [fr _ _ h2 h3]; exact c1 q hq h1
    · simp [upR]
    · have := (e7 0 _ rfl).1
      simp only [upR]
      rw [if_neg (by omega)]; exact this
    · omega
  · by_cases e : t = s
    · subst e
      rw [e6]
      refine ⟨by rw [nI_m1]; simp [upd], by simp [upd], fun i => ?_⟩
      exact ((e7 0 _ rfl).2.1 i).trans z0
    · rw [fa _ (by omega), fa _ (by omega)]
      exact c7 t (by omega)
theorem x_init_S (hMn : M ≤ 35) (hbM : bs tp0 35 M = 35) (hlM : ∀ j, j < M → bs tp0 35 j < 35) (hG : rdF (tqf tp0 35) (bs tp0 35) M 36 = G) (hT : rdT (tqf tp0 35) (bs tp0 35) M 36 = T) (hG3 : G.2.2.1 = 3) (kq : ∀ (a' : Nat → Nat → Int32) (r' : Nat → Nat → Option Nat) (g' : Nat → Nat → Int64), XI G T a' r' → Q none (SHW.take 50, a', r', g')) : ∀ (m s k n : Nat) (a : Nat → Nat → Int32) (r : Nat → Nat → Option Nat) (g : Nat → Nat → Int64), s + m = 4 → k ≤ 38 + 2 * s → n ≤ 1017 + 43 * s → CS s a r → Gd YX7_init (zI N0 Q) k n 96 [some (vr 0), some (vi (nI s))] [] (SHW.take (39 + 2 * s), a, r, g)
  | 0, s, k, n, a, r, g, hs, hk, hn, hC => by
    obtain rfl : s = 4 := by omega
    refine Gd_iload_n (i := 1) rfl eX7_init_96 ?_
    refine Gd_iconst ki_4 eX7_init_97 ?_
    refine Gd_icmp_geN (by decide) (by decide) eX7_init_98 (fun _ => ?_) (fun c => absurd c (by decide))
    refine Gd_iconst ki_0 eX7_init_120 ?_
    refine Gd_istore_n1 rfl eX7_init_121 ?_
    obtain ⟨c1, c2, c3, c4, c5, c6, c7⟩ := hC
    exact x_init_C hMn hbM hlM hG hT hG3 hk hn kq 35 0 a rfl ⟨c1, c2, c3, c4⟩ c6 ⟨fun s hs => (c7 s hs).1, fun s hs => (c7 s hs).2.1, fun s hs i _ => (c7 s hs).2.2 i⟩ ⟨c5, fun i hi => absurd hi (Nat.not_lt_zero _)⟩
  | m + 1, s, k, n, a, r, g, hs, hk, hn, hC => by
    refine Gd_iload_n (i := 1) rfl eX7_init_96 ?_
    refine Gd_iconst ki_4 eX7_init_97 ?_
    refine Gd_icmp_geN (by omega) (by decide) eX7_init_98 (fun c => absurd c (by omega)) (fun c => ?_)
    exact x_init_S1 c (by omega) (by omega) hC (fun a' r' g' hC' => x_init_S hMn hbM hlM hG hT hG3 kq m (s + 1) (k + 2) (n + 43) a' r' g' (by omega) (by omega) (by omega) hC')
theorem x_init_B (hMn : M ≤ 35) (hbM : bs tp0 35 M = 35) (hlM : ∀ j, j < M → bs tp0 35 j < 35) (hG : rdF (tqf tp0 35) (bs tp0 35) M 36 = G) (hT : rdT (tqf tp0 35) (bs tp0 35) M 36 = T) (hG3 : G.2.2.1 = 3) (hk : k ≤ 37) (hn : n ≤ 1013) (kq : ∀ (a' : Nat → Nat → Int32) (r' : Nat → Nat → Option Nat) (g' : Nat → Nat → Int64), XI G T a' r' → Q none (SHW.take 50, a', r', g')) (hC : CX 38 a r) (h03 : a 0 3 = nI 0) : Gd YX7_init (zI N0 Q) k n 86 [some (vr 0), none] [] (SHW.take 38, a, r, g) := by
  obtain ⟨c1, c2, c3, c4, c5⟩ := hC
  refine Gd_aload_n (i := 0) rfl eX7_init_86 ?_
  refine Gd_iconst ki_4 eX7_init_87 ?_
  refine Gd_newq (N' := 4) (c := 21) (Or.inl ⟨rfl, rfl, rfl⟩) rfl (by decide) (by decide) (by decide) (by show k + 1 ≤ 49; omega) (by show n + 4 ≤ 1198; omega) c2 (okl1 okl_n _ (by decide)) (fun v hv => by rw [List.mem_singleton.mp hv]; show 0 < (SHW.take 38).length; decide) lc_RX7_54 eX7_init_88 ?_
  rw [show g_nw (SHW.take 38, a, r, g) (21, 4) = (SHW.take 38 ++ [(21, 4)], va_up a 38 (fun _ => 0), va_up r 38 (fun _ => none), va_up g 38 (fun _ => 0)) from rfl]
  refine Gd_putR fl_RX7_56 rfl (fun C T q => by cases q; rfl) (show (SHW.take 38 ++ [(21, 4)])[0]? = some (7, 9) from rfl) eX7_init_91 ?_
  refine Gd_iconst ki_0 eX7_init_94 ?_
  refine Gd_istore_n1 rfl eX7_init_95 ?_
  refine Gd_sh (sh' := SHW.take 39) rfl ?_
  have fa : ∀ k, k < 38 → va_up a 38 (fun _ => (0 : Int32)) k = a k := fun k hk => va_up_n _ _ (by omega)
  have okr' : g_okR (38 + 1) (va_up r 38 (fun _ => none)) := okR_nw c2
  refine x_init_S hMn hbM hlM hG hT hG3 kq 4 0 (k + 1) (n + 4) _ _ _ rfl (by omega) (by omega) ⟨fun q hq hlt => ?_, okR_up okr' (by decide), FA_fr (c3 (by decide)) (fun k h1 h2 => fa k (by omega)), by rw [fa 31 (by decide)]; exact c5 (by decide), by rw [fa 25 (by decide)]; exact c4 (by decide), by rw [fa 0 (by decide)]; exact h03, fun t ht => absurd ht (Nat.not_lt_zero _)⟩
  rcases (by decide : ∀ q ∈ RTL, q.2.2 < 39 → (q.2.2 < 38 ∧ q.1 < 38 ∧ ¬ (q.1 = 0 ∧ q.2.1 = 8)) ∨ q = (0, 8, 38)) q hq hlt with ⟨h1, h2, h3⟩ | rfl
  · have e : upR (va_up r 38 (fun _ => none)) 0 8 (some (SHW.take 38).length) q.1 q.2.1 = r q.1 q.2.1 := by
      simp only [upR]
      by_cases z : q.1 = 0
      · rw [if_pos z, if_neg (fun w => h3 ⟨z, w⟩), va_up_n _ _ (by omega)]
      · rw [if_neg z, va_up_n _ _ (by omega)]
    rw [e]; exact c1 q hq h1
  · rfl
theorem x_init (hMn : M ≤ 35) (hbM : bs tp0 35 M = 35) (hlM : ∀ j, j < M → bs tp0 35 j < 35) (hG : rdF (tqf tp0 35) (bs tp0 35) M 36 = G) (hT : rdT (tqf tp0 35) (bs tp0 35) M 36 = T) (hG3 : G.2.2.1 = 3) (ha : a 0 = fun _ => 0) (okr : g_okR 1 r) : Mt YX7_init 78 49 1198 [vr 0] ([(7, 9)], a, r, g) (fun v h' => v = none ∧ ∃ (a' : Nat → Nat → Int32) (r' : Nat → Nat → Option Nat) (g' : Nat → Nat → Int64), h' = (SHW.take 50, a', r', g') ∧ XI G T a' r') := by
  refine Mt_of rfl (Nat.le_of_ble_eq_true rfl) rfl ?_
  have hC : CX 1 a r := ⟨fun q hq hlt => absurd hlt ((by decide : ∀ q ∈ RTL, ¬ q.2.2 < 1) q hq), okr, fun z => absurd z (by decide), fun z => absurd z (by decide), fun z => absurd z (by decide)⟩
  refine Gd_aload_n (i := 0) rfl eX7_init_0 ?_
  refine Gd_objInit (q := 0) rfl lk_RX7_1 wo_1 wo_2 (Nat.le_of_ble_eq_true rfl) (Nat.le_of_ble_eq_true rfl) eX7_init_1 ?_
  refine Gd_blk (N := 1) (c := 0) (nf := 11) (j := 0) (CC := RX0) (T := TX0) (Yi := YX0_init) (W := [(0, 20, 10), (5, 20, 6), (6, 20, 6), (7, 20, 6), (8, 20, 6), (9, 20, 6), (10, 20, 6)]) (F := upd (upd (upd (upd (fun _ => 0) 1 (nI 1023)) 2 (nI 0)) 3 (nI 0)) 4 (nI 0)) (mc := 7) (ms := 46) rfl (by decide) rfl hC.2.1 (okl1 okl_n) rfl rfl (by decide) (by decide) lc_RX7_7 wm_RX0 wi_RX0 (fun sh a r g h1 h2 h3 => ?_) ok_X0_init ln_RX7_9 (Nat.le_of_ble_eq_true rfl) (Nat.le_of_ble_eq_true rfl) (Nat.le_of_ble_eq_true rfl) fl_RX7_10 rfl (fun C T q => by cases q; rfl) eX7_init_4 eX7_init_5 eX7_init_8 eX7_init_9 eX7_init_12 (fun a9 r9 g9 hb => ?_)
  · have := x_ini0 (a := a) (g := g) h1 h3
    rw [h2] at this; exact this
  have hC : CX 9 a9 r9 := CX_bk hC hb (by decide) (fun _ => FA_0 hb rfl rfl rfl rfl) (fun z w => by first | exact absurd z (by decide) | exact absurd w (by decide)) (fun z w => by first | exact absurd z (by decide) | exact absurd w (by decide))
  refine Gd_sh (sh' := SHW.take 9) rfl ?_
  refine Gd_blk (N := 9) (c := 0) (nf := 11) (j := 1) (CC := RX0) (T := TX0) (Yi := YX0_init) (W := [(0, 20, 10), (5, 20, 6), (6, 20, 6), (7, 20, 6), (8, 20, 6), (9, 20, 6), (10, 20, 6)]) (F := upd (upd (upd (upd (fun _ => 0) 1 (nI 1023)) 2 (nI 0)) 3 (nI 0)) 4 (nI 0)) (mc := 7) (ms := 46) rfl (by decide) rfl hC.2.1 (okl1 okl_n) rfl rfl (by decide) (by decide) lc_RX7_7 wm_RX0 wi_RX0 (fun sh a r g h1 h2 h3 => ?_) ok_X0_init ln_RX7_9 (Nat.le_of_ble_eq_true rfl) (Nat.le_of_ble_eq_true rfl) (Nat.le_of_ble_eq_true rfl) fl_RX7_16 rfl (fun C T q => by cases q; rfl) eX7_init_15 eX7_init_16 eX7_init_19 eX7_init_20 eX7_init_23 (fun a17 r17 g17 hb => ?_)
  · have := x_ini0 (a := a) (g := g) h1 h3
    rw [h2] at this; exact this
  have hC : CX 17 a17 r17 := CX_bk hC hb (by decide) (fun z => absurd z (by decide)) (fun z w => by first | exact absurd z (by decide) | exact absurd w (by decide)) (fun z w => by first | exact absurd z (by decide) | exact absurd w (by decide))
  refine Gd_sh (sh' := SHW.take 17) rfl ?_
  refine Gd_blk (N := 17) (c := 0) (nf := 11) (j := 2) (CC := RX0) (T := TX0) (Yi := YX0_init) (W := [(0, 20, 10), (5, 20, 6), (6, 20, 6), (7, 20, 6), (8, 20, 6), (9, 20, 6), (10, 20, 6)]) (F := upd (upd (upd (upd (fun _ => 0) 1 (nI 1023)) 2 (nI 0)) 3 (nI 0)) 4 (nI 0)) (mc := 7) (ms := 46) rfl (by decide) rfl hC.2.1 (okl1 okl_n) rfl rfl (by decide) (by decide) lc_RX7_7 wm_RX0 wi_RX0 (fun sh a r g h1 h2 h3 => ?_) ok_X0_init ln_RX7_9 (Nat.le_of_ble_eq_true rfl) (Nat.le_of_ble_eq_true rfl) (Nat.le_of_ble_eq_true rfl) fl_RX7_19 rfl (fun C T q => by cases q; rfl) eX7_init_26 eX7_init_27 eX7_init_30 eX7_init_31 eX7_init_34 (fun a25 r25 g25 hb => ?_)
  · have := x_ini0 (a := a) (g := g) h1 h3
    rw [h2] at this; exact this
  have hC : CX 25 a25 r25 := CX_bk hC hb (by decide) (fun z => absurd z (by decide)) (fun z w => by first | exact absurd z (by decide) | exact absurd w (by decide)) (fun z w => by first | exact absurd z (by decide) | exact absurd w (by decide))
  refine Gd_sh (sh' := SHW.take 25) rfl ?_
  refine Gd_aload_n (i := 0) rfl eX7_init_37 ?_
  refine Gd_iconst ki_0 eX7_init_38 ?_
  refine Gd_putZ fl_RX7_22 (by decide) (show (SHW.take 25)[0]? = some (7, 9) from rfl) eX7_init_39 ?_
  have hC := CX_03 (v := nI 0) hC
  have h03 : up2 a25 0 3 (nI 0) 0 3 = nI 0 := up2_s _ _ _ _
  generalize up2 a25 0 3 (nI 0) = a25 at hC h03 ⊢
  refine Gd_blk (N := 25) (c := 2) (nf := 11) (j := 4) (CC := RX2) (T := TX2) (Yi := YX2_init) (W := [(0, 20, 160), (2, 20, 161), (3, 20, 161), (8, 20, 160), (10, 20, 4)]) (F := upd (upd (upd (upd (upd (upd (fun _ => 0) 1 (nI 0)) 4 (nI 0)) 5 (nI 0)) 6 (nI 0)) 7 ((-1))) 9 (nI 0)) (mc := 5) (ms := 646) rfl (by decide) rfl hC.2.1 (okl1 okl_n) rfl rfl (by decide) (by decide) lc_RX7_26 wm_RX2 wi_RX2 (fun sh a r g h1 h2 h3 => ?_) ok_X2_init ln_RX7_28 (Nat.le_of_ble_eq_true rfl) (Nat.le_of_ble_eq_true rfl) (Nat.le_of_ble_eq_true rfl) fl_RX7_29 rfl (fun C T q => by cases q; rfl) eX7_init_42 eX7_init_43 eX7_init_46 eX7_init_47 eX7_init_50 (fun a31 r31 g31 hb => ?_)
  · have := x_ini2 (a := a) (g := g) h1 h3
    rw [h2] at this; exact this
  have h03 : a31 0 3 = nI 0 := by rw [hb.1 0 (by decide)]; exact h03
  have hC : CX 31 a31 r31 := CX_bk hC hb (by decide) (fun z => absurd z (by decide)) (fun _ _ => by rw [hb.2.2.2.1]; rfl) (fun z w => by first | exact absurd z (by decide) | exact absurd w (by decide))
  refine Gd_sh (sh' := SHW.take 31) rfl ?_
  refine Gd_blk (N := 31) (c := 3) (nf := 4) (j := 5) (CC := RX3) (T := TX3) (Yi := YX3_init) (W := [(0, 22, 6), (2, 20, 6), (3, 20, 160)]) (F := upd (fun _ => 0) 1 (nI 0)) (mc := 3) (ms := 172) rfl (by decide) rfl hC.2.1 (okl1 okl_n) rfl rfl (by decide) (by decide) lc_RX7_33 wm_RX3 wi_RX3 (fun sh a r g h1 h2 h3 => ?_) ok_X3_init ln_RX7_35 (Nat.le_of_ble_eq_true rfl) (Nat.le_of_ble_eq_true rfl) (Nat.le_of_ble_eq_true rfl) fl_RX7_36 rfl (fun C T q => by cases q; rfl) eX7_init_53 eX7_init_54 eX7_init_57 eX7_init_58 eX7_init_61 (fun a35 r35 g35 hb => ?_)
  · have := x_ini3 (a := a) (g := g) h1 h3
    rw [h2] at this; exact this
  have h03 : a35 0 3 = nI 0 := by rw [hb.1 0 (by decide)]; exact h03
  have hC : CX 35 a35 r35 := CX_bk hC hb (by decide) (fun z => absurd z (by decide)) (fun z w => by first | exact absurd z (by decide) | exact absurd w (by decide)) (fun _ _ => by rw [hb.2.2.2.1]; rfl)
  refine Gd_sh (sh' := SHW.take 35) rfl ?_
  refine Gd_blk (N := 35) (c := 6) (nf := 2) (j := 6) (CC := RX6) (T := TX6) (Yi := YX6_init) (W := [(1, 20, 6)]) (F := upd (fun _ => 0) 0 (nI 0)) (mc := 1) (ms := 6) rfl (by decide) rfl hC.2.1 (okl1 okl_n) rfl rfl (by decide) (by decide) lc_RX7_40 wm_RX6 wi_RX6 (fun sh a r g h1 h2 h3 => ?_) ok_X6_init ln_RX7_42 (Nat.le_of_ble_eq_true rfl) (Nat.le_of_ble_eq_true rfl) (Nat.le_of_ble_eq_true rfl) fl_RX7_43 rfl (fun C T q => by cases q; rfl) eX7_init_64 eX7_init_65 eX7_init_68 eX7_init_69 eX7_init_72 (fun a37 r37 g37 hb => ?_)
  · have := x_ini6 (a := a) (g := g) h1 h3
    rw [h2] at this; exact this
  have h03 : a37 0 3 = nI 0 := by rw [hb.1 0 (by decide)]; exact h03
  have hC : CX 37 a37 r37 := CX_bk hC hb (by decide) (fun z => absurd z (by decide)) (fun z w => by first | exact absurd z (by decide) | exact absurd w (by decide)) (fun z w => by first | exact absurd z (by decide) | exact absurd w (by decide))
  refine Gd_sh (sh' := SHW.take 37) rfl ?_
  refine Gd_blk (N := 37) (c := 1) (nf := 1) (j := 7) (CC := RX1) (T := TX1) (Yi := YX1_init) (W := []) (F := fun _ => 0) (mc := 0) (ms := 0) rfl (by decide) rfl hC.2.1 (okl1 okl_n) rfl rfl (by decide) (by decide) lc_RX7_47 wm_RX1 wi_RX1 (fun sh a r g h1 h2 h3 => ?_) ok_X1_init ln_RX7_49 (Nat.le_of_ble_eq_true rfl) (Nat.le_of_ble_eq_true rfl) (Nat.le_of_ble_eq_true rfl) fl_RX7_50 rfl (fun C T q => by cases q; rfl) eX7_init_75 eX7_init_76 eX7_init_79 eX7_init_80 eX7_init_83 (fun a38 r38 g38 hb => ?_)
  · have := x_ini1 (a := a) (g := g) h1 h3
    rw [h2] at this; exact this
  have h03 : a38 0 3 = nI 0 := by rw [hb.1 0 (by decide)]; exact h03
  have hC : CX 38 a38 r38 := CX_bk hC hb (by decide) (fun z => absurd z (by decide)) (fun z w => by first | exact absurd z (by decide) | exact absurd w (by decide)) (fun z w => by first | exact absurd z (by decide) | exact absurd w (by decide))
  refine Gd_sh (sh' := SHW.take 38) rfl ?_
  exact x_init_B hMn hbM hlM hG hT hG3 (by decide) (by decide) (fun a' r' g' h => ⟨rfl, _, _, _, rfl, h⟩) hC h03
end XI
