/-! the law's loop: what holds at its head -/
abbrev zL (L : Nat) (xs : Nat → Int32) (Q : Option g_V → g_H → Prop) : g_Z := (100, 600000, 7302250, 0, (L + 1, xs), Q)
abbrev lcs (i : Nat) : List (Option g_V) := [some (vc 300), some (vr 0), some (vr 50), some (vi (nI i))]
theorem Gd_sldL {Y : g_Y} {L : Nat} {xs : Nat → Int32} {Q : Option g_V → g_H → Prop} {k n pc pc' i : Nat} {L0 : List (Option g_V)} {st : List g_V} {h : g_H} (hi : i < L) (hL : L ≤ 3584) (hd : g_D Y pc .iaload 1 pc') (kk : Gd Y (zL L xs Q) k n pc' L0 (vi (xs i) :: st) h) : Gd Y (zL L xs Q) k n pc L0 (vi (nI i) :: vc 300 :: st) h :=
  Gd_sld (Z := zL L xs Q) (by show L + 1 ≠ 0; omega) (show vp_in (nI i) (L + 1 - 1) by rw [Nat.add_sub_cancel]; exact vp_in_nI hi (by omega)) hd (by rw [nI_clamp (by omega)]; exact kk)
theorem lg_cmp_rf (x : Int64) : lg_cmp x x = 0 := (lg_cmp_eq x x).mpr rfl
def RLi (φ : g_Fo) (nt : Nat) (ts cd : g_Fo) (nb : Nat) (tp : Nat → Nat) (bk : Bool) (ψ : g_Fo) (so sz : Nat → Nat) : Prop := PH nt φ ∧ TI nt ts cd ∧ (nb ≤ 160 ∧ ∀ i, i < nb → tp i < 256) ∧ SI so sz ∧ (bk = true → PH nt ψ ∧ IK ψ φ)
def RLw (nt : Nat) (sh : List (Nat × Nat)) (r : Nat → Nat → Option Nat) (k n : Nat) : Prop := WD sh r ∧ g_okR sh.length r ∧ sh.length = pT nt ∧ k ≤ 100 + 3 * nt ∧ n ≤ 9000 + 166 * nt
def RLs (k n : Nat) (sh : List (Nat × Nat)) (a : Nat → Nat → Int32) (r : Nat → Nat → Option Nat) : Prop :=
  ∃ (φ : g_Fo) (nt : Nat) (ts cd : g_Fo) (nb : Nat) (tp : Nat → Nat) (bk : Bool) (ψ : g_Fo) (so sz : Nat → Nat) (cl : Nat → Nat → Int32), RLi φ nt ts cd nb tp bk ψ so sz ∧ RLw nt sh r k n ∧ FA 1 φ a ∧ MA φ a ∧ RXq nt ts cd nb tp bk ψ so sz cl sh a r ∧ RMq nt ts cd nb tp bk ψ so sz cl a
def RLk (L : Nat) (xs : Nat → Int32) (Q : Option g_V → g_H → Prop) (i : Nat) : Prop := ∀ (k n : Nat) (sh : List (Nat × Nat)) (a : Nat → Nat → Int32) (r : Nat → Nat → Option Nat) (g : Nat → Nat → Int64), RLs k n sh a r → Gd YL_law (zL L xs Q) k n 1732 (lcs i) [] (sh, a, r, g)
section RLs
variable {φ φ' : g_Fo} {nt : Nat} {ts cd : g_Fo} {nb : Nat} {tp : Nat → Nat} {bk : Bool} {ψ : g_Fo} {so sz : Nat → Nat} {cl : Nat → Nat → Int32} {sh : List (Nat × Nat)} {a a1 a2 : Nat → Nat → Int32} {r : Nat → Nat → Option Nat} {S : Nat → Nat → Bool} {k n : Nat}
theorem LW_k (h : RLw nt sh r k n) (hT : TI nt ts cd) : k + 0 ≤ 600000 := by have := h.2.2.2.1; have := hT.2.1; omega
theorem LW_n (h : RLw nt sh r k n) (hT : TI nt ts cd) : n + 0 ≤ 7302250 := by have := h.2.2.2.2; have := hT.2.1; omega
theorem FA_s (h : FA 1 φ a) (hc : chg S a a1) (hS : ∀ k j, 1 ≤ k → k ≤ 8 → S k j = false) : FA 1 φ a1 := FA_ch h hc (fun i j q => hS _ _ (by omega) (by omega))
theorem s_R : ∀ k j, 1 ≤ k → k ≤ 8 → scR k j = false := fun k j h1 h2 => by simp [scR]; omega
theorem s_V : ∀ k j, 1 ≤ k → k ≤ 8 → scV k j = false := fun k j h1 h2 => by simp [scV, scR]; omega
theorem s_X : ∀ k j, 1 ≤ k → k ≤ 8 → scX k j = false := fun k j h1 h2 => by simp [scX]; omega
theorem MA_sM (h : MA φ a) (hc : chg scM a a1) : MA φ a1 := MA_sc h hc
theorem MA_sW (h : MA φ a) (hc : chg scW a a1) : MA φ a1 := MA_ch h hc (fun k j q => by simp [rM] at q; simp [scW, scM]; omega)
theorem LS_F (hLI : RLi φ nt ts cd nb tp bk ψ so sz) (hLW : RLw nt sh r k n) (hG : SG nt φ φ') (hX : RXq nt ts cd nb tp bk ψ so sz cl sh a r) (hM : RMq nt ts cd nb tp bk ψ so sz cl a) (hA1 : FA 1 φ' a1) (c1 : chg scU a a1) (hA2 : MA φ' a2) (c2 : chg scZ a1 a2) : RLs k n sh a2 r :=
  ⟨φ', nt, ts, cd, nb, tp, bk, ψ, so, sz, cl, ⟨hG.1, hLI.2.1, hLI.2.2.1, hLI.2.2.2.1, fun z => ⟨(hLI.2.2.2.2 z).1, IK_tr (hLI.2.2.2.2 z).2 hG.2⟩⟩, hLW, FA_m mo_Z hA1 c2, hA2, XQ_m mo_Z (XQ_U hX c1) c2, MQ_Z (MQ_x xo_U hM c1) c2⟩
end RLs
