theorem x_ini0 {sh : List (Nat × Nat)} {a : Nat → Nat → Int32} {r : Nat → Nat → Option Nat} {g : Nat → Nat → Int64} {o : Nat} (ho : sh[o]? = some (0, 11)) (okr : g_okR sh.length r) : Mt YX0_init 1 7 46 [vr o] (sh, a, r, g) (fun v h' => v = none ∧ ∃ (sh' : List (Nat × Nat)) (a' : Nat → Nat → Int32) (r' : Nat → Nat → Option Nat) (g' : Nat → Nat → Int64), h' = (sh', a', r', g') ∧ AL o sh.length [(0, 20, 10), (5, 20, 6), (6, 20, 6), (7, 20, 6), (8, 20, 6), (9, 20, 6), (10, 20, 6)] (upd (upd (upd (upd (a o) 1 (nI 1023)) 2 (nI 0)) 3 (nI 0)) 4 (nI 0)) (fun _ _ => 0) sh a r sh' a' r') := by
  have okl : ∀ M, o < M → g_okL M [some (vr o)] := fun M hM => g_okL_of (by simpa using hM)
  have hA := AL_0 (a := a) (K := fun _ _ => 0) (sh_lt ho) okr
  refine Mt_of rfl (Nat.le_of_ble_eq_true rfl) rfl ?_
  refine Gd_aload_n (i := 0) rfl eX0_init_0 ?_
  refine Gd_objInit (q := o) rfl lk_RX0_3 wo_1 wo_2 (Nat.le_of_ble_eq_true rfl) (Nat.le_of_ble_eq_true rfl) eX0_init_1 ?_
  refine Gd_AA (m := 10) (j := 0) hA ho rfl okl (Nat.le_of_ble_eq_true rfl) (Nat.le_of_ble_eq_true rfl) (by decide) (fun _ => rfl) (by decide) fl_RX0_9 rfl (fun C T q => by cases q; rfl) eX0_init_4 (fun st h q => Gd_bipush kb_10 eX0_init_5 q) eX0_init_7 eX0_init_9 (fun a1 r1 g1 hA => ?_)
  refine Gd_AP (v := nI 1023) (j := 1) hA ho rfl fl_RX0_15 eX0_init_12 (fun st h q => Gd_sipush ks_1023 eX0_init_13 q) eX0_init_16 (fun a1 hA => ?_)
  refine Gd_AP (v := nI 0) (j := 2) hA ho rfl fl_RX0_19 eX0_init_19 (fun st h q => Gd_iconst ki_0 eX0_init_20 q) eX0_init_21 (fun a1 hA => ?_)
  refine Gd_AP (v := nI 0) (j := 3) hA ho rfl fl_RX0_22 eX0_init_24 (fun st h q => Gd_iconst ki_0 eX0_init_25 q) eX0_init_26 (fun a1 hA => ?_)
  refine Gd_AP (v := nI 0) (j := 4) hA ho rfl fl_RX0_25 eX0_init_29 (fun st h q => Gd_iconst ki_0 eX0_init_30 q) eX0_init_31 (fun a1 hA => ?_)
  refine Gd_AA (m := 6) (j := 5) hA ho rfl okl (Nat.le_of_ble_eq_true rfl) (Nat.le_of_ble_eq_true rfl) (by decide) (fun _ => rfl) (by decide) fl_RX0_28 rfl (fun C T q => by cases q; rfl) eX0_init_34 (fun st h q => Gd_bipush kb_6 eX0_init_35 q) eX0_init_37 eX0_init_39 (fun a1 r1 g1 hA => ?_)
  refine Gd_AA (m := 6) (j := 6) hA ho rfl okl (Nat.le_of_ble_eq_true rfl) (Nat.le_of_ble_eq_true rfl) (by decide) (fun _ => rfl) (by decide) fl_RX0_31 rfl (fun C T q => by cases q; rfl) eX0_init_42 (fun st h q => Gd_bipush kb_6 eX0_init_43 q) eX0_init_45 eX0_init_47 (fun a1 r1 g1 hA => ?_)
  refine Gd_AA (m := 6) (j := 7) hA ho rfl okl (Nat.le_of_ble_eq_true rfl) (Nat.le_of_ble_eq_true rfl) (by decide) (fun _ => rfl) (by decide) fl_RX0_34 rfl (fun C T q => by cases q; rfl) eX0_init_50 (fun st h q => Gd_bipush kb_6 eX0_init_51 q) eX0_init_53 eX0_init_55 (fun a1 r1 g1 hA => ?_)
  refine Gd_AA (m := 6) (j := 8) hA ho rfl okl (Nat.le_of_ble_eq_true rfl) (Nat.le_of_ble_eq_true rfl) (by decide) (fun _ => rfl) (by decide) fl_RX0_37 rfl (fun C T q => by cases q; rfl) eX0_init_58 (fun st h q => Gd_bipush kb_6 eX0_init_59 q) eX0_init_61 eX0_init_63 (fun a1 r1 g1 hA => ?_)
  refine Gd_AA (m := 6) (j := 9) hA ho rfl okl (Nat.le_of_ble_eq_true rfl) (Nat.le_of_ble_eq_true rfl) (by decide) (fun _ => rfl) (by decide) fl_RX0_40 rfl (fun C T q => by cases q; rfl) eX0_init_66 (fun st h q => Gd_bipush kb_6 eX0_init_67 q) eX0_init_69 eX0_init_71 (fun a1 r1 g1 hA => ?_)
  refine Gd_AA (m := 6) (j := 10) hA ho rfl okl (Nat.le_of_ble_eq_true rfl) (Nat.le_of_ble_eq_true rfl) (by decide) (fun _ => rfl) (by decide) fl_RX0_43 rfl (fun C T q => by cases q; rfl) eX0_init_74 (fun st h q => Gd_bipush kb_6 eX0_init_75 q) eX0_init_77 eX0_init_79 (fun a1 r1 g1 hA => ?_)
  exact Gd_return eX0_init_82 rfl (Nat.le_of_ble_eq_true rfl) (Nat.le_of_ble_eq_true rfl) ⟨rfl, _, _, _, _, rfl, hA⟩
theorem x_ini2 {sh : List (Nat × Nat)} {a : Nat → Nat → Int32} {r : Nat → Nat → Option Nat} {g : Nat → Nat → Int64} {o : Nat} (ho : sh[o]? = some (2, 11)) (okr : g_okR sh.length r) : Mt YX2_init 1 5 646 [vr o] (sh, a, r, g) (fun v h' => v = none ∧ ∃ (sh' : List (Nat × Nat)) (a' : Nat → Nat → Int32) (r' : Nat → Nat → Option Nat) (g' : Nat → Nat → Int64), h' = (sh', a', r', g') ∧ AL o sh.length [(0, 20, 160), (2, 20, 161), (3, 20, 161), (8, 20, 160), (10, 20, 4)] (upd (upd (upd (upd (upd (upd (a o) 1 (nI 0)) 4 (nI 0)) 5 (nI 0)) 6 (nI 0)) 7 ((-1))) 9 (nI 0)) (fun _ _ => 0) sh a r sh' a' r') := by
  have okl : ∀ M, o < M → g_okL M [some (vr o)] := fun M hM => g_okL_of (by simpa using hM)
  have hA := AL_0 (a := a) (K := fun _ _ => 0) (sh_lt ho) okr
  refine Mt_of rfl (Nat.le_of_ble_eq_true rfl) rfl ?_
  refine Gd_aload_n (i := 0) rfl eX2_init_0 ?_
  refine Gd_objInit (q := o) rfl lk_RX2_3 wo_1 wo_2 (Nat.le_of_ble_eq_true rfl) (Nat.le_of_ble_eq_true rfl) eX2_init_1 ?_
  refine Gd_AA (m := 160) (j := 0) hA ho rfl okl (Nat.le_of_ble_eq_true rfl) (Nat.le_of_ble_eq_true rfl) (by decide) (fun _ => rfl) (by decide) fl_RX2_9 rfl (fun C T q => by cases q; rfl) eX2_init_4 (fun st h q => Gd_sipush ks_160 eX2_init_5 q) eX2_init_8 eX2_init_10 (fun a1 r1 g1 hA => ?_)
  refine Gd_AP (v := nI 0) (j := 1) hA ho rfl fl_RX2_15 eX2_init_13 (fun st h q => Gd_iconst ki_0 eX2_init_14 q) eX2_init_15 (fun a1 hA => ?_)
  refine Gd_AA (m := 161) (j := 2) hA ho rfl okl (Nat.le_of_ble_eq_true rfl) (Nat.le_of_ble_eq_true rfl) (by decide) (fun _ => rfl) (by decide) fl_RX2_19 rfl (fun C T q => by cases q; rfl) eX2_init_18 (fun st h q => Gd_sipush ks_161 eX2_init_19 q) eX2_init_22 eX2_init_24 (fun a1 r1 g1 hA => ?_)
  refine Gd_AA (m := 161) (j := 3) hA ho rfl okl (Nat.le_of_ble_eq_true rfl) (Nat.le_of_ble_eq_true rfl) (by decide) (fun _ => rfl) (by decide) fl_RX2_22 rfl (fun C T q => by cases q; rfl) eX2_init_27 (fun st h q => Gd_sipush ks_161 eX2_init_28 q) eX2_init_31 eX2_init_33 (fun a1 r1 g1 hA => ?_)
  refine Gd_AP (v := nI 0) (j := 4) hA ho rfl fl_RX2_25 eX2_init_36 (fun st h q => Gd_iconst ki_0 eX2_init_37 q) eX2_init_38 (fun a1 hA => ?_)
  refine Gd_AP (v := nI 0) (j := 5) hA ho rfl fl_RX2_28 eX2_init_41 (fun st h q => Gd_iconst ki_0 eX2_init_42 q) eX2_init_43 (fun a1 hA => ?_)
  refine Gd_AP (v := nI 0) (j := 6) hA ho rfl fl_RX2_31 eX2_init_46 (fun st h q => Gd_iconst ki_0 eX2_init_47 q) eX2_init_48 (fun a1 hA => ?_)
  refine Gd_AP (v := (-1)) (j := 7) hA ho rfl fl_RX2_34 eX2_init_51 (fun st h q => Gd_iconst ki_m1 eX2_init_52 q) eX2_init_53 (fun a1 hA => ?_)
  refine Gd_AA (m := 160) (j := 8) hA ho rfl okl (Nat.le_of_ble_eq_true rfl) (Nat.le_of_ble_eq_true rfl) (by decide) (fun _ => rfl) (by decide) fl_RX2_37 rfl (fun C T q => by cases q; rfl) eX2_init_56 (fun st h q => Gd_sipush ks_160 eX2_init_57 q) eX2_init_60 eX2_init_62 (fun a1 r1 g1 hA => ?_)
  refine Gd_AP (v := nI 0) (j := 9) hA ho rfl fl_RX2_40 eX2_init_65 (fun st h q => Gd_iconst ki_0 eX2_init_66 q) eX2_init_67 (fun a1 hA => ?_)
  refine Gd_AA (m := 4) (j := 10) hA ho rfl okl (Nat.le_of_ble_eq_true rfl) (Nat.le_of_ble_eq_true rfl) (by decide) (fun _ => rfl) (by decide) fl_RX2_43 rfl (fun C T q => by cases q; rfl) eX2_init_70 (fun st h q => Gd_iconst ki_4 eX2_init_71 q) eX2_init_72 eX2_init_74 (fun a1 r1 g1 hA => ?_)
  exact Gd_return eX2_init_77 rfl (Nat.le_of_ble_eq_true rfl) (Nat.le_of_ble_eq_true rfl) ⟨rfl, _, _, _, _, rfl, hA⟩
theorem x_ini3 {sh : List (Nat × Nat)} {a : Nat → Nat → Int32} {r : Nat → Nat → Option Nat} {g : Nat → Nat → Int64} {o : Nat} (ho : sh[o]? = some (3, 4)) (okr : g_okR sh.length r) : Mt YX3_init 1 3 172 [vr o] (sh, a, r, g) (fun v h' => v = none ∧ ∃ (sh' : List (Nat × Nat)) (a' : Nat → Nat → Int32) (r' : Nat → Nat → Option Nat) (g' : Nat → Nat → Int64), h' = (sh', a', r', g') ∧ AL o sh.length [(0, 22, 6), (2, 20, 6), (3, 20, 160)] (upd (a o) 1 (nI 0)) (fun _ _ => 0) sh a r sh' a' r') := by
  have okl : ∀ M, o < M → g_okL M [some (vr o)] := fun M hM => g_okL_of (by simpa using hM)
  have hA := AL_0 (a := a) (K := fun _ _ => 0) (sh_lt ho) okr
  refine Mt_of rfl (Nat.le_of_ble_eq_true rfl) rfl ?_
  refine Gd_aload_n (i := 0) rfl eX3_init_0 ?_
  refine Gd_objInit (q := o) rfl lk_RX3_3 wo_1 wo_2 (Nat.le_of_ble_eq_true rfl) (Nat.le_of_ble_eq_true rfl) eX3_init_1 ?_
  refine Gd_AQ (c2 := 22) (m := 6) (j := 0) (CC := RX5) (Or.inr ⟨rfl, rfl, rfl⟩) rfl lc_RX3_9 hA ho rfl okl (Nat.le_of_ble_eq_true rfl) (Nat.le_of_ble_eq_true rfl) (by decide) (fun _ => rfl) (by decide) fl_RX3_11 rfl (fun C T q => by cases q; rfl) eX3_init_4 (fun st h q => Gd_bipush kb_6 eX3_init_5 q) eX3_init_7 eX3_init_10 (fun a1 r1 g1 hA => ?_)
  refine Gd_AP (v := nI 0) (j := 1) hA ho rfl fl_RX3_17 eX3_init_13 (fun st h q => Gd_iconst ki_0 eX3_init_14 q) eX3_init_15 (fun a1 hA => ?_)
  refine Gd_AA (m := 6) (j := 2) hA ho rfl okl (Nat.le_of_ble_eq_true rfl) (Nat.le_of_ble_eq_true rfl) (by decide) (fun _ => rfl) (by decide) fl_RX3_21 rfl (fun C T q => by cases q; rfl) eX3_init_18 (fun st h q => Gd_bipush kb_6 eX3_init_19 q) eX3_init_21 eX3_init_23 (fun a1 r1 g1 hA => ?_)
  refine Gd_AA (m := 160) (j := 3) hA ho rfl okl (Nat.le_of_ble_eq_true rfl) (Nat.le_of_ble_eq_true rfl) (by decide) (fun _ => rfl) (by decide) fl_RX3_25 rfl (fun C T q => by cases q; rfl) eX3_init_26 (fun st h q => Gd_sipush ks_160 eX3_init_27 q) eX3_init_30 eX3_init_32 (fun a1 r1 g1 hA => ?_)
  exact Gd_return eX3_init_35 rfl (Nat.le_of_ble_eq_true rfl) (Nat.le_of_ble_eq_true rfl) ⟨rfl, _, _, _, _, rfl, hA⟩
theorem x_ini4 {sh : List (Nat × Nat)} {a : Nat → Nat → Int32} {r : Nat → Nat → Option Nat} {g : Nat → Nat → Int64} {o : Nat} (ho : sh[o]? = some (4, 3)) (okr : g_okR sh.length r) : Mt YX4_init 1 1 40 [vr o] (sh, a, r, g) (fun v h' => v = none ∧ ∃ (sh' : List (Nat × Nat)) (a' : Nat → Nat → Int32) (r' : Nat → Nat → Option Nat) (g' : Nat → Nat → Int64), h' = (sh', a', r', g') ∧ AL o sh.length [(2, 20, 40)] (upd (upd (a o) 0 ((-1))) 1 (nI 0)) (fun _ _ => 0) sh a r sh' a' r') := by
  have okl : ∀ M, o < M → g_okL M [some (vr o)] := fun M hM => g_okL_of (by simpa using hM)
  have hA := AL_0 (a := a) (K := fun _ _ => 0) (sh_lt ho) okr
  refine Mt_of rfl (Nat.le_of_ble_eq_true rfl) rfl ?_
  refine Gd_aload_n (i := 0) rfl eX4_init_0 ?_
  refine Gd_objInit (q := o) rfl lk_RX4_3 wo_1 wo_2 (Nat.le_of_ble_eq_true rfl) (Nat.le_of_ble_eq_true rfl) eX4_init_1 ?_
  refine Gd_AP (v := (-1)) (j := 0) hA ho rfl fl_RX4_9 eX4_init_4 (fun st h q => Gd_iconst ki_m1 eX4_init_5 q) eX4_init_6 (fun a1 hA => ?_)
  refine Gd_AP (v := nI 0) (j := 1) hA ho rfl fl_RX4_15 eX4_init_9 (fun st h q => Gd_iconst ki_0 eX4_init_10 q) eX4_init_11 (fun a1 hA => ?_)
  refine Gd_AA (m := 40) (j := 2) hA ho rfl okl (Nat.le_of_ble_eq_true rfl) (Nat.le_of_ble_eq_true rfl) (by decide) (fun _ => rfl) (by decide) fl_RX4_18 rfl (fun C T q => by cases q; rfl) eX4_init_14 (fun st h q => Gd_bipush kb_40 eX4_init_15 q) eX4_init_17 eX4_init_19 (fun a1 r1 g1 hA => ?_)
  exact Gd_return eX4_init_22 rfl (Nat.le_of_ble_eq_true rfl) (Nat.le_of_ble_eq_true rfl) ⟨rfl, _, _, _, _, rfl, hA⟩
theorem x_ini6 {sh : List (Nat × Nat)} {a : Nat → Nat → Int32} {r : Nat → Nat → Option Nat} {g : Nat → Nat → Int64} {o : Nat} (ho : sh[o]? = some (6, 2)) (okr : g_okR sh.length r) : Mt YX6_init 1 1 6 [vr o] (sh, a, r, g) (fun v h' => v = none ∧ ∃ (sh' : List (Nat × Nat)) (a' : Nat → Nat → Int32) (r' : Nat → Nat → Option Nat) (g' : Nat → Nat → Int64), h' = (sh', a', r', g') ∧ AL o sh.length [(1, 20, 6)] (upd (a o) 0 (nI 0)) (fun _ _ => 0) sh a r sh' a' r') := by
  have okl : ∀ M, o < M → g_okL M [some (vr o)] := fun M hM => g_okL_of (by simpa using hM)
  have hA := AL_0 (a := a) (K := fun _ _ => 0) (sh_lt ho) okr
  refine Mt_of rfl (Nat.le_of_ble_eq_true rfl) rfl ?_
  refine Gd_aload_n (i := 0) rfl eX6_init_0 ?_
  refine Gd_objInit (q := o) rfl lk_RX6_3 wo_1 wo_2 (Nat.le_of_ble_eq_true rfl) (Nat.le_of_ble_eq_true rfl) eX6_init_1 ?_
  refine Gd_AP (v := nI 0) (j := 0) hA ho rfl fl_RX6_9 eX6_init_4 (fun st h q => Gd_iconst ki_0 eX6_init_5 q) eX6_init_6 (fun a1 hA => ?_)
  refine Gd_AA (m := 6) (j := 1) hA ho rfl okl (Nat.le_of_ble_eq_true rfl) (Nat.le_of_ble_eq_true rfl) (by decide) (fun _ => rfl) (by decide) fl_RX6_15 rfl (fun C T q => by cases q; rfl) eX6_init_9 (fun st h q => Gd_bipush kb_6 eX6_init_10 q) eX6_init_12 eX6_init_14 (fun a1 r1 g1 hA => ?_)
  exact Gd_return eX6_init_17 rfl (Nat.le_of_ble_eq_true rfl) (Nat.le_of_ble_eq_true rfl) ⟨rfl, _, _, _, _, rfl, hA⟩
theorem x_ini1 {sh : List (Nat × Nat)} {a : Nat → Nat → Int32} {r : Nat → Nat → Option Nat} {g : Nat → Nat → Int64} {o : Nat} (ho : sh[o]? = some (1, 1)) (okr : g_okR sh.length r) : Mt YX1_init 1 0 0 [vr o] (sh, a, r, g) (fun v h' => v = none ∧ ∃ (sh' : List (Nat × Nat)) (a' : Nat → Nat → Int32) (r' : Nat → Nat → Option Nat) (g' : Nat → Nat → Int64), h' = (sh', a', r', g') ∧ AL o sh.length [] (a o) (fun _ _ => 0) sh a r sh' a' r') := by
  refine Mt_of rfl (Nat.le_of_ble_eq_true rfl) rfl ?_
  refine Gd_aload_n (i := 0) rfl eX1_init_0 ?_
  refine Gd_objInit (q := o) rfl lk_RX1_1 wo_1 wo_2 (Nat.le_of_ble_eq_true rfl) (Nat.le_of_ble_eq_true rfl) eX1_init_1 ?_
  refine Gd_aload_n (i := 0) rfl eX1_init_4 ?_
  refine Gd_lconst (v := lN 1) rfl eX1_init_5 ?_
  refine Gd_putL fl_RX1_7 ho eX1_init_6 ?_
  exact Gd_return eX1_init_9 rfl (Nat.le_refl _) (Nat.le_refl _) ⟨rfl, _, _, _, _, rfl, AL_0 (sh_lt ho) okr⟩
