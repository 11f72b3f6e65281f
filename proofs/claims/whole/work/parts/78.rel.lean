/-! both sides over one state: φ the forest, texts nt ts cd, tape nb tp, image bk ψ, sheets so sz cl -/
def RXq (nt : Nat) (ts cd : g_Fo) (nb : Nat) (tp : Nat → Nat) (bk : Bool) (ψ : g_Fo) (so sz : Nat → Nat) (cl : Nat → Nat → Int32) (sh : List (Nat × Nat)) (a : Nat → Nat → Int32) (r : Nat → Nat → Option Nat) : Prop :=
  TX nt ts cd sh a r ∧ TP 25 1 26 nb tp a ∧ SX so sz cl a ∧ a 0 3 = bI bk ∧ (bk = true → FA 17 ψ a)
def RMq (nt : Nat) (ts cd : g_Fo) (nb : Nat) (tp : Nat → Nat) (bk : Bool) (ψ : g_Fo) (so sz : Nat → Nat) (cl : Nat → Nat → Int32) (a : Nat → Nat → Int32) : Prop :=
  TM nt ts cd a ∧ TP 50 8 55 nb tp a ∧ WT a ∧ MS so sz cl a ∧ a 50 13 = bI bk ∧ (bk = true → IM ψ a)
/-- of X a set may touch the class's cells alone; of M the reference's alone -/
def xOnly (S : Nat → Nat → Bool) : Prop := ∀ k j, 50 ≤ k → k ≤ 70 → S k j = false
def mOnly (S : Nat → Nat → Bool) : Prop := ∀ k j, k < 50 ∨ 70 < k → S k j = false
section REL
variable {φ : g_Fo} {nt : Nat} {ts cd : g_Fo} {nb : Nat} {tp : Nat → Nat} {bk : Bool} {ψ : g_Fo} {so sz : Nat → Nat} {cl : Nat → Nat → Int32} {sh : List (Nat × Nat)} {a a' : Nat → Nat → Int32} {r : Nat → Nat → Option Nat} {S : Nat → Nat → Bool}
theorem XQ_U (h : RXq nt ts cd nb tp bk ψ so sz cl sh a r) (hc : chg scU a a') : RXq nt ts cd nb tp bk ψ so sz cl sh a' r := by
  obtain ⟨h1, h2, h3, h4, h5⟩ := h
  refine ⟨TX_ch h1 hc rfl (fun k j q => ?_), TP_ch h2 hc rfl (fun _ => rfl), SX_ch h3 hc (fun {k} j q1 q2 => ?_), (hc _ _ rfl).trans h4, fun z => FA_ch (h5 z) hc (fun i j q => ?_)⟩
  · simp [scU]; omega
  · simp [scU]; omega
  · simp [scU]; omega
theorem MQ_Z (h : RMq nt ts cd nb tp bk ψ so sz cl a) (hc : chg scZ a a') : RMq nt ts cd nb tp bk ψ so sz cl a' := by
  obtain ⟨h1, h2, h3, h4, h5, h6⟩ := h
  refine ⟨TM_Z h1 hc, TP_ch h2 hc rfl (fun _ => rfl), WT_ch h3 hc (fun _ => rfl), MS_Z h4 hc, (hc _ _ rfl).trans h5, fun z => IM_ch (h6 z) hc (fun k j q => ?_)⟩
  rcases q with rfl | rfl <;> rfl
theorem MQ_x (hS : xOnly S) (h : RMq nt ts cd nb tp bk ψ so sz cl a) (hc : chg S a a') : RMq nt ts cd nb tp bk ψ so sz cl a' := by
  obtain ⟨h1, h2, h3, h4, h5, h6⟩ := h
  refine ⟨TM_ch h1 hc (fun k j q => ?_), TP_ch h2 hc (hS _ _ (by omega) (by omega)) (fun _ => hS _ _ (by omega) (by omega)), WT_ch h3 hc (fun _ => hS _ _ (by omega) (by omega)), MS_ch h4 hc (fun k j q1 q2 => hS _ _ (by omega) (by omega)), (hc _ _ (hS _ _ (by omega) (by omega))).trans h5, fun z => IM_ch (h6 z) hc (fun k j q => hS _ _ (by omega) (by omega))⟩
  simp [rT] at q; exact hS _ _ (by omega) (by omega)
theorem MA_x (hS : xOnly S) (h : MA φ a) (hc : chg S a a') : MA φ a' := MA_ch h hc (fun k j q => by simp [rM] at q; exact hS _ _ (by omega) (by omega))
theorem FA_m (hS : mOnly S) (h : FA 1 φ a) (hc : chg S a a') : FA 1 φ a' := FA_ch h hc (fun i j q => hS _ _ (by omega))
theorem XQ_m (hS : mOnly S) (h : RXq nt ts cd nb tp bk ψ so sz cl sh a r) (hc : chg S a a') : RXq nt ts cd nb tp bk ψ so sz cl sh a' r := by
  obtain ⟨h1, h2, h3, h4, h5⟩ := h
  exact ⟨TX_ch h1 hc (hS _ _ (by omega)) (fun k j q => hS _ _ (by omega)), TP_ch h2 hc (hS _ _ (by omega)) (fun _ => hS _ _ (by omega)), SX_ch h3 hc (fun {k} j q1 q2 => hS _ _ (by omega)), (hc _ _ (hS _ _ (by omega))).trans h4, fun z => FA_ch (h5 z) hc (fun i j q => hS _ _ (by omega))⟩
theorem TP_m {R j C : Nat} (hR : R < 50) (hC : C < 50) (hS : mOnly S) (h : TP R j C nb tp a) (hc : chg S a a') : TP R j C nb tp a' := TP_ch h hc (hS _ _ (by omega)) (fun _ => hS _ _ (by omega))
theorem SX_m (hS : mOnly S) (h : SX so sz cl a) (hc : chg S a a') : SX so sz cl a' := SX_ch h hc (fun {k} j q1 q2 => hS _ _ (by omega))
end REL
-- the calls' sets
theorem U_R {k j : Nat} (h : scU k j = false) : scR k j = false := by simp [scU] at h; simp [scR]; omega
theorem U_V {k j : Nat} (h : scU k j = false) : scV k j = false := by simp [scU] at h; simp [scV, scR]; omega
theorem U_X {k j : Nat} (h : scU k j = false) : scX k j = false := by simp [scU] at h; simp [scX]; omega
theorem U_T {k j : Nat} (h : scU k j = false) : scT 1 k j = false := by simp [scU] at h; simp [scT, scR]; omega
theorem U_Hx {k j : Nat} (h : scU k j = false) : scHx 1 k j = false := by simp [scU] at h; simp [scHx]; omega
theorem U_P {k j : Nat} (h : scU k j = false) : scP k j = false := by simp [scU] at h; simp [scP]; omega
theorem U_13 {k j : Nat} (h : scU k j = false) : s1_3 k j = false := by simp [scU] at h; simp [s1_3]; omega
theorem U_s6 {k j : Nat} (h : scU k j = false) : sR (1 + 5) k j = false := by simp [scU] at h; simp [sR]; omega
theorem U_Fx {k j : Nat} (h : scU k j = false) : scFx k j = false := by simp [scU] at h; simp [scFx]; omega
theorem U_1 {k j : Nat} (h : scU k j = false) : s1_ k j = false := by simp [scU] at h; simp [s1_]; omega
theorem Z_F {k j : Nat} (h : scZ k j = false) : scF k j = false := by simp [scZ] at h; simp [scF]; omega
theorem Z_M {k j : Nat} (h : scZ k j = false) : scM k j = false := by simp [scZ] at h; simp [scM]; omega
theorem Z_12 {k j : Nat} (h : scZ k j = false) : s50_12 k j = false := by simp [scZ] at h; simp [s50_12]; omega
theorem Z_H {k j : Nat} (h : scZ k j = false) : scH k j = false := by simp [scZ] at h; simp [scH]; omega
theorem Z_53 {k j : Nat} (h : scZ k j = false) : s53 k j = false := by simp [scZ] at h; simp [s53]; omega
theorem Z_S {k j : Nat} (h : scZ k j = false) : scS k j = false := by simp [scZ] at h; simp [scS, scM]; omega
theorem Z_W {k j : Nat} (h : scZ k j = false) : scW k j = false := by simp [scZ] at h; simp [scW, scM]; omega
theorem Z_Z {k j : Nat} (h : scZ k j = false) : scZ k j = false := h
theorem U_U {k j : Nat} (h : scU k j = false) : scU k j = false := h
theorem xo_U : xOnly scU := fun k j h1 h2 => by simp [scU]; omega
theorem mo_Z : mOnly scZ := fun k j h => by simp [scZ]; omega
theorem xo_Cx : xOnly scCx := fun k j h1 h2 => by simp [scCx]; omega
theorem mo_C : mOnly scC := fun k j h => by simp [scC]; omega
theorem xo_XC : xOnly scXC := fun k j h1 h2 => by simp [scXC, scX, scCx]; omega
theorem xo_N : xOnly (scN 25 1 26) := fun k j h1 h2 => by simp [scN]; omega
theorem mo_N : mOnly (scN 50 8 55) := fun k j h => by simp [scN]; omega
theorem xo_Ix : xOnly scIx := fun k j h1 h2 => by simp [scIx]; omega
theorem mo_I : mOnly scI := fun k j h => by simp [scI]; omega
