section LSS
variable {φ φ' : g_Fo} {nt : Nat} {ts cd : g_Fo} {nb nb' : Nat} {tp tp' : Nat → Nat} {bk : Bool} {ψ : g_Fo} {so sz so' sz' : Nat → Nat} {cl cl' : Nat → Nat → Int32} {sh : List (Nat × Nat)} {a a1 a2 : Nat → Nat → Int32} {r : Nat → Nat → Option Nat} {k n : Nat}
theorem LS_G (hLI : RLi φ nt ts cd nb tp bk ψ so sz) (hLW : RLw nt sh r k n) (hP : PH nt φ') (hB : bk = true → IK ψ φ') (hX : RXq nt ts cd nb tp bk ψ so sz cl sh a r) (hM : RMq nt ts cd nb tp bk ψ so sz cl a) (hA1 : FA 1 φ' a1) (c1 : chg scU a a1) (hA2 : MA φ' a2) (c2 : chg scZ a1 a2) : RLs k n sh a2 r :=
  ⟨φ', nt, ts, cd, nb, tp, bk, ψ, so, sz, cl, ⟨hP, hLI.2.1, hLI.2.2.1, hLI.2.2.2.1, fun z => ⟨(hLI.2.2.2.2 z).1, hB z⟩⟩, hLW, FA_m mo_Z hA1 c2, hA2, XQ_m mo_Z (XQ_U hX c1) c2, MQ_Z (MQ_x xo_U hM c1) c2⟩
-- the tape
theorem LS_T (hLI : RLi φ nt ts cd nb tp bk ψ so sz) (hLW : RLw nt sh r k n) (hT : nb' ≤ 160 ∧ ∀ i, i < nb' → tp' i < 256) (hA : FA 1 φ a) (hMA1 : MA φ a1) (hX : RXq nt ts cd nb tp bk ψ so sz cl sh a r) (hM1 : RMq nt ts cd nb tp bk ψ so sz cl a1) (hT1 : TP 25 1 26 nb' tp' a1) (c1 : chg (scN 25 1 26) a a1) (hT2 : TP 50 8 55 nb' tp' a2) (c2 : chg (scN 50 8 55) a1 a2) : RLs k n sh a2 r := by
  have hA1 : FA 1 φ a1 := FA_ch hA c1 (fun i j q => by simp [scN]; omega)
  have hX1 : RXq nt ts cd nb' tp' bk ψ so sz cl sh a1 r := by
    obtain ⟨h1, h2, h3, h4, h5⟩ := hX
    exact ⟨TX_ch h1 c1 rfl (fun k j q => by simp [scN]; omega), hT1, SX_ch h3 c1 (fun {k} j q1 q2 => by simp [scN]; omega), (c1 _ _ rfl).trans h4, fun z => FA_ch (h5 z) c1 (fun i j q => by simp [scN]; omega)⟩
  have hMA2 : MA φ a2 := MA_ch hMA1 c2 (fun k j q => by simp [rM] at q; simp [scN]; omega)
  have hM2 : RMq nt ts cd nb' tp' bk ψ so sz cl a2 := by
    obtain ⟨h1, h2, h3, h4, h5, h6⟩ := hM1
    exact ⟨TM_ch h1 c2 (fun k j q => by simp [rT] at q; simp [scN]; omega), hT2, WT_ch h3 c2 (fun _ => rfl), MS_ch h4 c2 (fun k j q1 q2 => by simp [scN]; omega), (c2 _ _ rfl).trans h5, fun z => IM_ch (h6 z) c2 (fun k j q => by simp [scN]; omega)⟩
  exact ⟨φ, nt, ts, cd, nb', tp', bk, ψ, so, sz, cl, ⟨hLI.1, hLI.2.1, hT, hLI.2.2.2.1, hLI.2.2.2.2⟩, hLW, FA_m mo_N hA1 c2, hMA2, XQ_m mo_N hX1 c2, hM2⟩
-- sheets
theorem XC_Cx {k j : Nat} (h : scXC k j = false) : scCx k j = false := by simp [scXC] at h; exact h.2
theorem Fi_C {k j : Nat} (h : scFi k j = false) : scC k j = false := by simp [scFi, scQ] at h; simp [scC]; omega
theorem mo_Fi : mOnly scFi := fun k j h => by simp [scFi, scQ, scZ]; omega
theorem MA_C (h : MA φ a1) (hc : chg scC a1 a2) : MA φ a2 := MA_ch h hc (fun k j q => by simp [rM] at q; simp [scC]; omega)
theorem LS_S (hLI : RLi φ nt ts cd nb tp bk ψ so sz) (hLW : RLw nt sh r k n) (hSI : SI so' sz') (hA : FA 1 φ a) (hX : RXq nt ts cd nb tp bk ψ so sz cl sh a r) (hM : RMq nt ts cd nb tp bk ψ so sz cl a) (hS1 : SX so' sz' cl' a1) (c1 : chg scXC a a1) (hMA2 : MA φ a2) (hS2 : MS so' sz' cl' a2) (c2 : chg scFi a1 a2) : RLs k n sh a2 r := by
  have hA1 : FA 1 φ a1 := FA_ch hA c1 (fun i j q => by simp [scXC, scX, scCx]; omega)
  have hX1 : RXq nt ts cd nb tp bk ψ so' sz' cl' sh a1 r := by
    obtain ⟨h1, h2, h3, h4, h5⟩ := hX
    exact ⟨TX_ch h1 c1 rfl (fun k j q => by simp [scXC, scX, scCx]; omega), TP_ch h2 c1 rfl (fun _ => rfl), hS1, (c1 _ _ rfl).trans h4, fun z => FA_ch (h5 z) c1 (fun i j q => by simp [scXC, scX, scCx]; omega)⟩
  have hM1 := MQ_x xo_XC hM c1
  have hM2 : RMq nt ts cd nb tp bk ψ so' sz' cl' a2 := by
    obtain ⟨h1, h2, h3, h4, h5, h6⟩ := hM1
    exact ⟨TM_ch h1 c2 (fun k j q => by simp [rT] at q; simp [scFi, scQ, scZ]; omega), TP_ch h2 c2 rfl (fun _ => rfl), WT_ch h3 c2 (fun _ => rfl), hS2, (c2 _ _ rfl).trans h5, fun z => IM_ch (h6 z) c2 (fun k j q => by simp [scFi, scQ, scZ]; omega)⟩
  exact ⟨φ, nt, ts, cd, nb, tp, bk, ψ, so', sz', cl', ⟨hLI.1, hLI.2.1, hLI.2.2.1, hSI, hLI.2.2.2.2⟩, hLW, FA_m mo_Fi hA1 c2, hMA2, XQ_m mo_Fi hX1 c2, hM2⟩
-- the image
theorem LS_I (hLI : RLi φ nt ts cd nb tp bk ψ so sz) (hLW : RLw nt sh r k n) (hX : RXq nt ts cd nb tp bk ψ so sz cl sh a r) (hM : RMq nt ts cd nb tp bk ψ so sz cl a) (hA1 : FA 1 φ a1) (h17 : FA 17 φ a1) (h03 : a1 0 3 = nI 1) (c1 : chg scIx a a1) (hMA2 : MA φ a2) (hIM : IM φ a2) (h13 : a2 50 13 = nI 1) (c2 : chg scI a1 a2) : RLs k n sh a2 r := by
  have hX1 : RXq nt ts cd nb tp true φ so sz cl sh a1 r := by
    obtain ⟨h1, h2, h3, h4, h5⟩ := hX
    exact ⟨TX_ch h1 c1 rfl (fun k j q => by simp [scIx]; omega), TP_ch h2 c1 rfl (fun _ => rfl), SX_ch h3 c1 (fun {k} j q1 q2 => by simp [scIx]; omega), h03, fun _ => h17⟩
  have hM1 := MQ_x xo_Ix hM c1
  have hM2 : RMq nt ts cd nb tp true φ so sz cl a2 := by
    obtain ⟨h1, h2, h3, h4, h5, h6⟩ := hM1
    exact ⟨TM_ch h1 c2 (fun k j q => by simp [rT] at q; simp [scI]; omega), TP_ch h2 c2 rfl (fun _ => rfl), WT_ch h3 c2 (fun _ => rfl), MS_ch h4 c2 (fun k j q1 q2 => by simp [scI]; omega), h13, fun _ => hIM⟩
  exact ⟨φ, nt, ts, cd, nb, tp, true, φ, so, sz, cl, ⟨hLI.1, hLI.2.1, hLI.2.2.1, hLI.2.2.2.1, fun _ => ⟨hLI.1, IK_rf φ⟩⟩, hLW, FA_m mo_I hA1 c2, hMA2, XQ_m mo_I hX1 c2, hM2⟩
end LSS
