section LAW
variable {L : Nat} {xs : Nat → Int32} {Q : Option g_V → g_H → Prop} {i k n : Nat} {sh : List (Nat × Nat)} {a : Nat → Nat → Int32} {r : Nat → Nat → Option Nat} {g : Nat → Nat → Int64}
theorem L_season (hL : L ≤ 3584) (hi : i + 7 ≤ L) (hS : RLs k n sh a r) (hK : RLk L xs Q i) : Gd YL_law (zL L xs Q) k n 884 (lcs i) [] (sh, a, r, g) := by
  obtain ⟨φ, nt, ts, cd, nb, tp, bk, ψ, so, sz, cl, hLI, hLW, hA, hMA, hX, hM⟩ := hS
  obtain ⟨hP, hTI, hTB, hSI, hBK⟩ := id hLI
  have hW := hLW.1
  have hk0 : k + 0 ≤ 600000 := LW_k hLW hTI
  have hn0 : n + 0 ≤ 7302250 := LW_n hLW hTI
  refine Gd_aload_n (i := 1) rfl eL_law_884 ?_
  refine Gd_aload_n (i := 0) rfl eL_law_885 ?_
  refine Gd_iload_n (i := 3) rfl eL_law_886 ?_
  refine Gd_iconst ki_1 eL_law_887 ?_
  refine Gd_iaddN eL_law_888 ?_
  refine Gd_sldL (by omega) hL eL_law_889 ?_
  refine Gd_aload_n (i := 0) rfl eL_law_890 ?_
  refine Gd_iload_n (i := 3) rfl eL_law_891 ?_
  refine Gd_iconst ki_2 eL_law_892 ?_
  refine Gd_iaddN eL_law_893 ?_
  refine Gd_sldL (by omega) hL eL_law_894 ?_
  refine Gd_aload_n (i := 0) rfl eL_law_895 ?_
  refine Gd_iload_n (i := 3) rfl eL_law_896 ?_
  refine Gd_iconst ki_3 eL_law_897 ?_
  refine Gd_iaddN eL_law_898 ?_
  refine Gd_sldL (by omega) hL eL_law_899 ?_
  refine Gd_callEV (g_cV (x_season hW hA hP.1 hX.1 hTI hP.2.2.2.2 hX.2.2.1 hSI _ _ _) ok_X7_season lk_RL_90 (W_s0 hW) ⟨_, _, rfl⟩ rfl rfl (Nat.le_of_ble_eq_true rfl) (Nat.le_of_ble_eq_true rfl) hk0 hn0 eL_law_900) (fun a1 hq1 => ?_)
  have c1 := chg_mono2 U_X hq1
  have hA1 := FA_s hA hq1 s_X
  have hMA1 := MA_x xo_U hMA c1
  have hM1 := MQ_x xo_U hM c1
  refine Gd_aload_n (i := 2) rfl eL_law_903 ?_
  refine Gd_aload_n (i := 0) rfl eL_law_904 ?_
  refine Gd_iload_n (i := 3) rfl eL_law_905 ?_
  refine Gd_iconst ki_1 eL_law_906 ?_
  refine Gd_iaddN eL_law_907 ?_
  refine Gd_sldL (by omega) hL eL_law_908 ?_
  refine Gd_aload_n (i := 0) rfl eL_law_909 ?_
  refine Gd_iload_n (i := 3) rfl eL_law_910 ?_
  refine Gd_iconst ki_2 eL_law_911 ?_
  refine Gd_iaddN eL_law_912 ?_
  refine Gd_sldL (by omega) hL eL_law_913 ?_
  refine Gd_aload_n (i := 0) rfl eL_law_914 ?_
  refine Gd_iload_n (i := 3) rfl eL_law_915 ?_
  refine Gd_iconst ki_3 eL_law_916 ?_
  refine Gd_iaddN eL_law_917 ?_
  refine Gd_sldL (by omega) hL eL_law_918 ?_
  refine Gd_callEV (g_cV (m_season hW hMA1 hP.1 hM1.1 hTI hP.2.2.2.2 hM1.2.2.2.1 hSI _ _ _) ok_X8_season lk_RL_93 (W_s50 hW) ⟨_, _, rfl⟩ rfl rfl (Nat.le_of_ble_eq_true rfl) (Nat.le_of_ble_eq_true rfl) hk0 hn0 eL_law_919) (fun a2 hq2 => ?_)
  obtain ⟨hMA2, hq2⟩ := hq2
  have c2 := chg_mono2 Z_Z hq2
  refine Gd_icmp_eq eL_law_922 (fun _ => ?_) (fun c => absurd rfl c)
  exact hK _ _ _ _ _ _ (LS_F hLI hLW (SG_rf hP) hX hM hA1 c1 hMA2 c2)
theorem L_hunt (hL : L ≤ 3584) (hi : i + 7 ≤ L) (hS : RLs k n sh a r) (hK : RLk L xs Q i) : Gd YL_law (zL L xs Q) k n 927 (lcs i) [] (sh, a, r, g) := by
  obtain ⟨φ, nt, ts, cd, nb, tp, bk, ψ, so, sz, cl, hLI, hLW, hA, hMA, hX, hM⟩ := hS
  obtain ⟨hP, hTI, hTB, hSI, hBK⟩ := id hLI
  have hW := hLW.1
  have hk0 : k + 0 ≤ 600000 := LW_k hLW hTI
  have hn0 : n + 0 ≤ 7302250 := LW_n hLW hTI
  refine Gd_aload_n (i := 1) rfl eL_law_927 ?_
  refine Gd_aload_n (i := 0) rfl eL_law_928 ?_
  refine Gd_iload_n (i := 3) rfl eL_law_929 ?_
  refine Gd_iconst ki_1 eL_law_930 ?_
  refine Gd_iaddN eL_law_931 ?_
  refine Gd_sldL (by omega) hL eL_law_932 ?_
  refine Gd_aload_n (i := 0) rfl eL_law_933 ?_
  refine Gd_iload_n (i := 3) rfl eL_law_934 ?_
  refine Gd_iconst ki_2 eL_law_935 ?_
  refine Gd_iaddN eL_law_936 ?_
  refine Gd_sldL (by omega) hL eL_law_937 ?_
  refine Gd_callEV (g_cV (x_hunt hW hA hP.1 hX.1 hTI hP.2.2.2.2 hX.2.2.1 hSI _ _) ok_X7_hunt lk_RL_94 (W_s0 hW) ⟨_, _, rfl⟩ rfl rfl (Nat.le_of_ble_eq_true rfl) (Nat.le_of_ble_eq_true rfl) hk0 hn0 eL_law_938) (fun a1 hq1 => ?_)
  obtain ⟨hA1, hq1⟩ := hq1
  have c1 := chg_mono2 U_U hq1
  have hMA1 := MA_x xo_U hMA c1
  have hM1 := MQ_x xo_U hM c1
  refine Gd_aload_n (i := 2) rfl eL_law_941 ?_
  refine Gd_aload_n (i := 0) rfl eL_law_942 ?_
  refine Gd_iload_n (i := 3) rfl eL_law_943 ?_
  refine Gd_iconst ki_1 eL_law_944 ?_
  refine Gd_iaddN eL_law_945 ?_
  refine Gd_sldL (by omega) hL eL_law_946 ?_
  refine Gd_aload_n (i := 0) rfl eL_law_947 ?_
  refine Gd_iload_n (i := 3) rfl eL_law_948 ?_
  refine Gd_iconst ki_2 eL_law_949 ?_
  refine Gd_iaddN eL_law_950 ?_
  refine Gd_sldL (by omega) hL eL_law_951 ?_
  refine Gd_callEV (g_cV (m_hunt hW hMA1 hP.1 hM1.1 hTI hP.2.2.2.2 hM1.2.2.2.1 hSI _ _) ok_X8_hunt lk_RL_97 (W_s50 hW) ⟨_, _, rfl⟩ rfl rfl (Nat.le_of_ble_eq_true rfl) (Nat.le_of_ble_eq_true rfl) hk0 hn0 eL_law_952) (fun a2 hq2 => ?_)
  obtain ⟨hMA2, hq2⟩ := hq2
  have c2 := chg_mono2 Z_Z hq2
  refine Gd_icmp_eq eL_law_955 (fun _ => ?_) (fun c => absurd rfl c)
  exact hK _ _ _ _ _ _ (LS_F hLI hLW (SG_rHunt hP _ _) hX hM hA1 c1 hMA2 c2)
theorem L_ball (hL : L ≤ 3584) (hi : i + 7 ≤ L) (hS : RLs k n sh a r) (hK : RLk L xs Q i) : Gd YL_law (zL L xs Q) k n 960 (lcs i) [] (sh, a, r, g) := by
  obtain ⟨φ, nt, ts, cd, nb, tp, bk, ψ, so, sz, cl, hLI, hLW, hA, hMA, hX, hM⟩ := hS
  obtain ⟨hP, hTI, hTB, hSI, hBK⟩ := id hLI
  have hW := hLW.1
  have hk0 : k + 0 ≤ 600000 := LW_k hLW hTI
  have hn0 : n + 0 ≤ 7302250 := LW_n hLW hTI
  refine Gd_aload_n (i := 1) rfl eL_law_960 ?_
  refine Gd_aload_n (i := 0) rfl eL_law_961 ?_
  refine Gd_iload_n (i := 3) rfl eL_law_962 ?_
  refine Gd_iconst ki_1 eL_law_963 ?_
  refine Gd_iaddN eL_law_964 ?_
  refine Gd_sldL (by omega) hL eL_law_965 ?_
  refine Gd_callEV (g_cV (x_ball hW hA hP.1 hX.1 hTI hP.2.2.2.2 hP.2.1 hP.2.2.1 _) ok_X7_ball lk_RL_98 (W_s0 hW) ⟨_, _, rfl⟩ rfl rfl (Nat.le_of_ble_eq_true rfl) (Nat.le_of_ble_eq_true rfl) hk0 hn0 eL_law_966) (fun a1 hq1 => ?_)
  have c1 := chg_mono2 U_X hq1
  have hA1 := FA_s hA hq1 s_X
  have hMA1 := MA_x xo_U hMA c1
  have hM1 := MQ_x xo_U hM c1
  refine Gd_aload_n (i := 2) rfl eL_law_969 ?_
  refine Gd_aload_n (i := 0) rfl eL_law_970 ?_
  refine Gd_iload_n (i := 3) rfl eL_law_971 ?_
  refine Gd_iconst ki_1 eL_law_972 ?_
  refine Gd_iaddN eL_law_973 ?_
  refine Gd_sldL (by omega) hL eL_law_974 ?_
  refine Gd_callEV (g_cV (m_ball hW hMA1 hP.1 hM1.1 hTI hP.2.2.2.2 hP.2.1 hP.2.2.1 _) ok_X8_ball lk_RL_101 (W_s50 hW) ⟨_, _, rfl⟩ rfl rfl (Nat.le_of_ble_eq_true rfl) (Nat.le_of_ble_eq_true rfl) hk0 hn0 eL_law_975) (fun a2 hq2 => ?_)
  obtain ⟨hMA2, hq2⟩ := hq2
  have c2 := chg_mono2 Z_Z hq2
  refine Gd_icmp_eq eL_law_978 (fun _ => ?_) (fun c => absurd rfl c)
  exact hK _ _ _ _ _ _ (LS_F hLI hLW (SG_rf hP) hX hM hA1 c1 hMA2 c2)
theorem L_safest (hL : L ≤ 3584) (hi : i + 7 ≤ L) (hS : RLs k n sh a r) (hK : RLk L xs Q i) : Gd YL_law (zL L xs Q) k n 983 (lcs i) [] (sh, a, r, g) := by
  obtain ⟨φ, nt, ts, cd, nb, tp, bk, ψ, so, sz, cl, hLI, hLW, hA, hMA, hX, hM⟩ := hS
  obtain ⟨hP, hTI, hTB, hSI, hBK⟩ := id hLI
  have hW := hLW.1
  have hk0 : k + 0 ≤ 600000 := LW_k hLW hTI
  have hn0 : n + 0 ≤ 7302250 := LW_n hLW hTI
  refine Gd_aload_n (i := 1) rfl eL_law_983 ?_
  refine Gd_aload_n (i := 0) rfl eL_law_984 ?_
  refine Gd_iload_n (i := 3) rfl eL_law_985 ?_
  refine Gd_iconst ki_1 eL_law_986 ?_
  refine Gd_iaddN eL_law_987 ?_
  refine Gd_sldL (by omega) hL eL_law_988 ?_
  refine Gd_callP (g_cV (x_safest hW hA hP.1 _) ok_X7_safest lk_RL_102 (W_s0 hW) ⟨_, _, rfl⟩ rfl rfl (Nat.le_of_ble_eq_true rfl) (Nat.le_of_ble_eq_true rfl) hk0 hn0 eL_law_989) ?_
  have c1 : chg scU a a := chg_rf
  have hA1 := hA
  have hMA1 := MA_x xo_U hMA c1
  have hM1 := MQ_x xo_U hM c1
  refine Gd_aload_n (i := 2) rfl eL_law_992 ?_
  refine Gd_aload_n (i := 0) rfl eL_law_993 ?_
  refine Gd_iload_n (i := 3) rfl eL_law_994 ?_
  refine Gd_iconst ki_1 eL_law_995 ?_
  refine Gd_iaddN eL_law_996 ?_
  refine Gd_sldL (by omega) hL eL_law_997 ?_
  refine Gd_callP (g_cV (m_safest hW hMA1 hP.1 _) ok_X8_safest lk_RL_105 (W_s50 hW) ⟨_, _, rfl⟩ rfl rfl (Nat.le_of_ble_eq_true rfl) (Nat.le_of_ble_eq_true rfl) hk0 hn0 eL_law_998) ?_
  have c2 := chg_rf (S := scZ) (a := a)
  have hMA2 := hMA1
  refine Gd_icmp_eq eL_law_1001 (fun _ => ?_) (fun c => absurd rfl c)
  exact hK _ _ _ _ _ _ (LS_F hLI hLW (SG_rf hP) hX hM hA1 c1 hMA2 c2)
theorem L_prize (hL : L ≤ 3584) (hi : i + 7 ≤ L) (hS : RLs k n sh a r) (hK : RLk L xs Q i) : Gd YL_law (zL L xs Q) k n 1006 (lcs i) [] (sh, a, r, g) := by
  obtain ⟨φ, nt, ts, cd, nb, tp, bk, ψ, so, sz, cl, hLI, hLW, hA, hMA, hX, hM⟩ := hS
  obtain ⟨hP, hTI, hTB, hSI, hBK⟩ := id hLI
  have hW := hLW.1
  have hk0 : k + 0 ≤ 600000 := LW_k hLW hTI
  have hn0 : n + 0 ≤ 7302250 := LW_n hLW hTI
  refine Gd_aload_n (i := 1) rfl eL_law_1006 ?_
  refine Gd_aload_n (i := 0) rfl eL_law_1007 ?_
  refine Gd_iload_n (i := 3) rfl eL_law_1008 ?_
  refine Gd_iconst ki_1 eL_law_1009 ?_
  refine Gd_iaddN eL_law_1010 ?_
  refine Gd_sldL (by omega) hL eL_law_1011 ?_
  refine Gd_aload_n (i := 0) rfl eL_law_1012 ?_
  refine Gd_iload_n (i := 3) rfl eL_law_1013 ?_
  refine Gd_iconst ki_2 eL_law_1014 ?_
  refine Gd_iaddN eL_law_1015 ?_
  refine Gd_sldL (by omega) hL eL_law_1016 ?_
  refine Gd_callEV (g_cV (x_prize hW hA hP.1 hX.1 hTI hP.2.2.2.2 _ _) ok_X7_prize lk_RL_106 (W_s0 hW) ⟨_, _, rfl⟩ rfl rfl (Nat.le_of_ble_eq_true rfl) (Nat.le_of_ble_eq_true rfl) hk0 hn0 eL_law_1017) (fun a1 hq1 => ?_)
  have c1 := chg_mono2 U_R hq1
  have hA1 := FA_s hA hq1 s_R
  have hMA1 := MA_x xo_U hMA c1
  have hM1 := MQ_x xo_U hM c1
  refine Gd_aload_n (i := 2) rfl eL_law_1020 ?_
  refine Gd_aload_n (i := 0) rfl eL_law_1021 ?_
  refine Gd_iload_n (i := 3) rfl eL_law_1022 ?_
  refine Gd_iconst ki_1 eL_law_1023 ?_
  refine Gd_iaddN eL_law_1024 ?_
  refine Gd_sldL (by omega) hL eL_law_1025 ?_
  refine Gd_aload_n (i := 0) rfl eL_law_1026 ?_
  refine Gd_iload_n (i := 3) rfl eL_law_1027 ?_
  refine Gd_iconst ki_2 eL_law_1028 ?_
  refine Gd_iaddN eL_law_1029 ?_
  refine Gd_sldL (by omega) hL eL_law_1030 ?_
  refine Gd_callEV (g_cV (m_prize hW hMA1 hP.1 hM1.1 hTI hP.2.2.2.2 _ _) ok_X8_prize lk_RL_109 (W_s50 hW) ⟨_, _, rfl⟩ rfl rfl (Nat.le_of_ble_eq_true rfl) (Nat.le_of_ble_eq_true rfl) hk0 hn0 eL_law_1031) (fun a2 hq2 => ?_)
  have c2 := chg_mono2 Z_M hq2
  have hMA2 := MA_sM hMA1 hq2
  refine Gd_icmp_eq eL_law_1034 (fun _ => ?_) (fun c => absurd rfl c)
  exact hK _ _ _ _ _ _ (LS_F hLI hLW (SG_rf hP) hX hM hA1 c1 hMA2 c2)
theorem L_society (hL : L ≤ 3584) (hi : i + 7 ≤ L) (hS : RLs k n sh a r) (hK : RLk L xs Q i) : Gd YL_law (zL L xs Q) k n 1039 (lcs i) [] (sh, a, r, g) := by
  obtain ⟨φ, nt, ts, cd, nb, tp, bk, ψ, so, sz, cl, hLI, hLW, hA, hMA, hX, hM⟩ := hS
  obtain ⟨hP, hTI, hTB, hSI, hBK⟩ := id hLI
  have hW := hLW.1
  have hk0 : k + 0 ≤ 600000 := LW_k hLW hTI
  have hn0 : n + 0 ≤ 7302250 := LW_n hLW hTI
  refine Gd_aload_n (i := 1) rfl eL_law_1039 ?_
  refine Gd_aload_n (i := 0) rfl eL_law_1040 ?_
  refine Gd_iload_n (i := 3) rfl eL_law_1041 ?_
  refine Gd_iconst ki_1 eL_law_1042 ?_
  refine Gd_iaddN eL_law_1043 ?_
  refine Gd_sldL (by omega) hL eL_law_1044 ?_
  refine Gd_callP (g_cV (x_society hW hA hP.1 _) ok_X7_society lk_RL_110 (W_s0 hW) ⟨_, _, rfl⟩ rfl rfl (Nat.le_of_ble_eq_true rfl) (Nat.le_of_ble_eq_true rfl) hk0 hn0 eL_law_1045) ?_
  have c1 : chg scU a a := chg_rf
  have hA1 := hA
  have hMA1 := MA_x xo_U hMA c1
  have hM1 := MQ_x xo_U hM c1
  refine Gd_aload_n (i := 2) rfl eL_law_1048 ?_
  refine Gd_aload_n (i := 0) rfl eL_law_1049 ?_
  refine Gd_iload_n (i := 3) rfl eL_law_1050 ?_
  refine Gd_iconst ki_1 eL_law_1051 ?_
  refine Gd_iaddN eL_law_1052 ?_
  refine Gd_sldL (by omega) hL eL_law_1053 ?_
  refine Gd_callP (g_cV (m_society hW hMA1 hP.1 _) ok_X8_society lk_RL_114 (W_s50 hW) ⟨_, _, rfl⟩ rfl rfl (Nat.le_of_ble_eq_true rfl) (Nat.le_of_ble_eq_true rfl) hk0 hn0 eL_law_1054) ?_
  have c2 := chg_rf (S := scZ) (a := a)
  have hMA2 := hMA1
  refine Gd_lcmp eL_law_1057 ?_
  rw [lg_cmp_rf]
  refine Gd_if_eq eL_law_1058 (fun _ => ?_) (fun c => absurd rfl c)
  exact hK _ _ _ _ _ _ (LS_F hLI hLW (SG_rf hP) hX hM hA1 c1 hMA2 c2)
theorem L_judge (hL : L ≤ 3584) (hi : i + 7 ≤ L) (hS : RLs k n sh a r) (hK : RLk L xs Q i) : Gd YL_law (zL L xs Q) k n 1063 (lcs i) [] (sh, a, r, g) := by
  obtain ⟨φ, nt, ts, cd, nb, tp, bk, ψ, so, sz, cl, hLI, hLW, hA, hMA, hX, hM⟩ := hS
  obtain ⟨hP, hTI, hTB, hSI, hBK⟩ := id hLI
  have hW := hLW.1
  have hk0 : k + 0 ≤ 600000 := LW_k hLW hTI
  have hn0 : n + 0 ≤ 7302250 := LW_n hLW hTI
  refine Gd_aload_n (i := 1) rfl eL_law_1063 ?_
  refine Gd_aload_n (i := 0) rfl eL_law_1064 ?_
  refine Gd_iload_n (i := 3) rfl eL_law_1065 ?_
  refine Gd_iconst ki_1 eL_law_1066 ?_
  refine Gd_iaddN eL_law_1067 ?_
  refine Gd_sldL (by omega) hL eL_law_1068 ?_
  refine Gd_aload_n (i := 0) rfl eL_law_1069 ?_
  refine Gd_iload_n (i := 3) rfl eL_law_1070 ?_
  refine Gd_iconst ki_2 eL_law_1071 ?_
  refine Gd_iaddN eL_law_1072 ?_
  refine Gd_sldL (by omega) hL eL_law_1073 ?_
  refine Gd_aload_n (i := 0) rfl eL_law_1074 ?_
  refine Gd_iload_n (i := 3) rfl eL_law_1075 ?_
  refine Gd_iconst ki_3 eL_law_1076 ?_
  refine Gd_iaddN eL_law_1077 ?_
  refine Gd_sldL (by omega) hL eL_law_1078 ?_
  refine Gd_callEV (g_cV (x_judge hW hA hP.1 hX.1 hTI hP.2.2.2.2 hX.2.2.1 hSI _ _ _) ok_X7_judge lk_RL_115 (W_s0 hW) ⟨_, _, rfl⟩ rfl rfl (Nat.le_of_ble_eq_true rfl) (Nat.le_of_ble_eq_true rfl) hk0 hn0 eL_law_1079) (fun a1 hq1 => ?_)
  have c1 := chg_mono2 U_X hq1
  have hA1 := FA_s hA hq1 s_X
  have hMA1 := MA_x xo_U hMA c1
  have hM1 := MQ_x xo_U hM c1
  refine Gd_aload_n (i := 2) rfl eL_law_1082 ?_
  refine Gd_aload_n (i := 0) rfl eL_law_1083 ?_
  refine Gd_iload_n (i := 3) rfl eL_law_1084 ?_
  refine Gd_iconst ki_1 eL_law_1085 ?_
  refine Gd_iaddN eL_law_1086 ?_
  refine Gd_sldL (by omega) hL eL_law_1087 ?_
  refine Gd_aload_n (i := 0) rfl eL_law_1088 ?_
  refine Gd_iload_n (i := 3) rfl eL_law_1089 ?_
  refine Gd_iconst ki_2 eL_law_1090 ?_
  refine Gd_iaddN eL_law_1091 ?_
  refine Gd_sldL (by omega) hL eL_law_1092 ?_
  refine Gd_aload_n (i := 0) rfl eL_law_1093 ?_
  refine Gd_iload_n (i := 3) rfl eL_law_1094 ?_
  refine Gd_iconst ki_3 eL_law_1095 ?_
  refine Gd_iaddN eL_law_1096 ?_
  refine Gd_sldL (by omega) hL eL_law_1097 ?_
  refine Gd_callEV (g_cV (m_judge hW hMA1 hP.1 hM1.1 hTI hP.2.2.2.2 hM1.2.2.2.1 hSI _ _ _) ok_X8_judge lk_RL_118 (W_s50 hW) ⟨_, _, rfl⟩ rfl rfl (Nat.le_of_ble_eq_true rfl) (Nat.le_of_ble_eq_true rfl) hk0 hn0 eL_law_1098) (fun a2 hq2 => ?_)
  obtain ⟨hMA2, hq2⟩ := hq2
  have c2 := chg_mono2 Z_Z hq2
  refine Gd_icmp_eq eL_law_1101 (fun _ => ?_) (fun c => absurd rfl c)
  exact hK _ _ _ _ _ _ (LS_F hLI hLW (SG_rf hP) hX hM hA1 c1 hMA2 c2)
theorem L_kinds (hL : L ≤ 3584) (hi : i + 7 ≤ L) (hS : RLs k n sh a r) (hK : RLk L xs Q i) : Gd YL_law (zL L xs Q) k n 1106 (lcs i) [] (sh, a, r, g) := by
  obtain ⟨φ, nt, ts, cd, nb, tp, bk, ψ, so, sz, cl, hLI, hLW, hA, hMA, hX, hM⟩ := hS
  obtain ⟨hP, hTI, hTB, hSI, hBK⟩ := id hLI
  have hW := hLW.1
  have hk0 : k + 0 ≤ 600000 := LW_k hLW hTI
  have hn0 : n + 0 ≤ 7302250 := LW_n hLW hTI
  refine Gd_aload_n (i := 1) rfl eL_law_1106 ?_
  refine Gd_aload_n (i := 0) rfl eL_law_1107 ?_
  refine Gd_iload_n (i := 3) rfl eL_law_1108 ?_
  refine Gd_iconst ki_1 eL_law_1109 ?_
  refine Gd_iaddN eL_law_1110 ?_
  refine Gd_sldL (by omega) hL eL_law_1111 ?_
  refine Gd_aload_n (i := 0) rfl eL_law_1112 ?_
  refine Gd_iload_n (i := 3) rfl eL_law_1113 ?_
  refine Gd_iconst ki_2 eL_law_1114 ?_
  refine Gd_iaddN eL_law_1115 ?_
  refine Gd_sldL (by omega) hL eL_law_1116 ?_
  refine Gd_aload_n (i := 0) rfl eL_law_1117 ?_
  refine Gd_iload_n (i := 3) rfl eL_law_1118 ?_
  refine Gd_iconst ki_3 eL_law_1119 ?_
  refine Gd_iaddN eL_law_1120 ?_
  refine Gd_sldL (by omega) hL eL_law_1121 ?_
  refine Gd_aload_n (i := 0) rfl eL_law_1122 ?_
  refine Gd_iload_n (i := 3) rfl eL_law_1123 ?_
  refine Gd_iconst ki_4 eL_law_1124 ?_
  refine Gd_iaddN eL_law_1125 ?_
  refine Gd_sldL (by omega) hL eL_law_1126 ?_
  refine Gd_callEV (g_cV (x_kinds hW hA hP.1 hX.1 hTI hP.2.2.2.2 hX.2.2.1 hSI _ _ _ _) ok_X7_kinds lk_RL_119 (W_s0 hW) ⟨_, _, rfl⟩ rfl rfl (Nat.le_of_ble_eq_true rfl) (Nat.le_of_ble_eq_true rfl) hk0 hn0 eL_law_1127) (fun a1 hq1 => ?_)
  have c1 := chg_mono2 U_X hq1
  have hA1 := FA_s hA hq1 s_X
  have hMA1 := MA_x xo_U hMA c1
  have hM1 := MQ_x xo_U hM c1
  refine Gd_aload_n (i := 2) rfl eL_law_1130 ?_
  refine Gd_aload_n (i := 0) rfl eL_law_1131 ?_
  refine Gd_iload_n (i := 3) rfl eL_law_1132 ?_
  refine Gd_iconst ki_1 eL_law_1133 ?_
  refine Gd_iaddN eL_law_1134 ?_
  refine Gd_sldL (by omega) hL eL_law_1135 ?_
  refine Gd_aload_n (i := 0) rfl eL_law_1136 ?_
  refine Gd_iload_n (i := 3) rfl eL_law_1137 ?_
  refine Gd_iconst ki_2 eL_law_1138 ?_
  refine Gd_iaddN eL_law_1139 ?_
  refine Gd_sldL (by omega) hL eL_law_1140 ?_
  refine Gd_aload_n (i := 0) rfl eL_law_1141 ?_
  refine Gd_iload_n (i := 3) rfl eL_law_1142 ?_
  refine Gd_iconst ki_3 eL_law_1143 ?_
  refine Gd_iaddN eL_law_1144 ?_
  refine Gd_sldL (by omega) hL eL_law_1145 ?_
  refine Gd_aload_n (i := 0) rfl eL_law_1146 ?_
  refine Gd_iload_n (i := 3) rfl eL_law_1147 ?_
  refine Gd_iconst ki_4 eL_law_1148 ?_
  refine Gd_iaddN eL_law_1149 ?_
  refine Gd_sldL (by omega) hL eL_law_1150 ?_
  refine Gd_callEV (g_cV (m_kinds hW hMA1 hP.1 hM1.1 hTI hP.2.2.2.2 hM1.2.2.2.1 hSI _ _ _ _) ok_X8_kinds lk_RL_123 (W_s50 hW) ⟨_, _, rfl⟩ rfl rfl (Nat.le_of_ble_eq_true rfl) (Nat.le_of_ble_eq_true rfl) hk0 hn0 eL_law_1151) (fun a2 hq2 => ?_)
  obtain ⟨hMA2, hq2⟩ := hq2
  have c2 := chg_mono2 Z_Z hq2
  refine Gd_icmp_eq eL_law_1154 (fun _ => ?_) (fun c => absurd rfl c)
  exact hK _ _ _ _ _ _ (LS_F hLI hLW (SG_rf hP) hX hM hA1 c1 hMA2 c2)
theorem L_turned (hL : L ≤ 3584) (hi : i + 7 ≤ L) (hS : RLs k n sh a r) (hK : RLk L xs Q i) : Gd YL_law (zL L xs Q) k n 1159 (lcs i) [] (sh, a, r, g) := by
  obtain ⟨φ, nt, ts, cd, nb, tp, bk, ψ, so, sz, cl, hLI, hLW, hA, hMA, hX, hM⟩ := hS
  obtain ⟨hP, hTI, hTB, hSI, hBK⟩ := id hLI
  have hW := hLW.1
  have hk0 : k + 0 ≤ 600000 := LW_k hLW hTI
  have hn0 : n + 0 ≤ 7302250 := LW_n hLW hTI
  refine Gd_aload_n (i := 1) rfl eL_law_1159 ?_
  refine Gd_aload_n (i := 0) rfl eL_law_1160 ?_
  refine Gd_iload_n (i := 3) rfl eL_law_1161 ?_
  refine Gd_iconst ki_1 eL_law_1162 ?_
  refine Gd_iaddN eL_law_1163 ?_
  refine Gd_sldL (by omega) hL eL_law_1164 ?_
  refine Gd_aload_n (i := 0) rfl eL_law_1165 ?_
  refine Gd_iload_n (i := 3) rfl eL_law_1166 ?_
  refine Gd_iconst ki_2 eL_law_1167 ?_
  refine Gd_iaddN eL_law_1168 ?_
  refine Gd_sldL (by omega) hL eL_law_1169 ?_
  refine Gd_aload_n (i := 0) rfl eL_law_1170 ?_
  refine Gd_iload_n (i := 3) rfl eL_law_1171 ?_
  refine Gd_iconst ki_3 eL_law_1172 ?_
  refine Gd_iaddN eL_law_1173 ?_
  refine Gd_sldL (by omega) hL eL_law_1174 ?_
  refine Gd_callEV (g_cV (x_turned hW hA hP.1 hX.1 hTI hP.2.2.2.2 hX.2.2.1 hSI _ _ _) ok_X7_turned lk_RL_124 (W_s0 hW) ⟨_, _, rfl⟩ rfl rfl (Nat.le_of_ble_eq_true rfl) (Nat.le_of_ble_eq_true rfl) hk0 hn0 eL_law_1175) (fun a1 hq1 => ?_)
  have c1 := chg_mono2 U_X hq1
  have hA1 := FA_s hA hq1 s_X
  have hMA1 := MA_x xo_U hMA c1
  have hM1 := MQ_x xo_U hM c1
  refine Gd_aload_n (i := 2) rfl eL_law_1178 ?_
  refine Gd_aload_n (i := 0) rfl eL_law_1179 ?_
  refine Gd_iload_n (i := 3) rfl eL_law_1180 ?_
  refine Gd_iconst ki_1 eL_law_1181 ?_
  refine Gd_iaddN eL_law_1182 ?_
  refine Gd_sldL (by omega) hL eL_law_1183 ?_
  refine Gd_aload_n (i := 0) rfl eL_law_1184 ?_
  refine Gd_iload_n (i := 3) rfl eL_law_1185 ?_
  refine Gd_iconst ki_2 eL_law_1186 ?_
  refine Gd_iaddN eL_law_1187 ?_
  refine Gd_sldL (by omega) hL eL_law_1188 ?_
  refine Gd_aload_n (i := 0) rfl eL_law_1189 ?_
  refine Gd_iload_n (i := 3) rfl eL_law_1190 ?_
  refine Gd_iconst ki_3 eL_law_1191 ?_
  refine Gd_iaddN eL_law_1192 ?_
  refine Gd_sldL (by omega) hL eL_law_1193 ?_
  refine Gd_callEV (g_cV (m_turned hW hMA1 hP.1 hM1.1 hTI hP.2.2.2.2 hM1.2.2.2.1 hSI _ _ _) ok_X8_turned lk_RL_127 (W_s50 hW) ⟨_, _, rfl⟩ rfl rfl (Nat.le_of_ble_eq_true rfl) (Nat.le_of_ble_eq_true rfl) hk0 hn0 eL_law_1194) (fun a2 hq2 => ?_)
  obtain ⟨hMA2, hq2⟩ := hq2
  have c2 := chg_mono2 Z_Z hq2
  refine Gd_icmp_eq eL_law_1197 (fun _ => ?_) (fun c => absurd rfl c)
  exact hK _ _ _ _ _ _ (LS_F hLI hLW (SG_rf hP) hX hM hA1 c1 hMA2 c2)
theorem L_honours (hL : L ≤ 3584) (hi : i + 7 ≤ L) (hS : RLs k n sh a r) (hK : RLk L xs Q i) : Gd YL_law (zL L xs Q) k n 1202 (lcs i) [] (sh, a, r, g) := by
  obtain ⟨φ, nt, ts, cd, nb, tp, bk, ψ, so, sz, cl, hLI, hLW, hA, hMA, hX, hM⟩ := hS
  obtain ⟨hP, hTI, hTB, hSI, hBK⟩ := id hLI
  have hW := hLW.1
  have hk0 : k + 0 ≤ 600000 := LW_k hLW hTI
  have hn0 : n + 0 ≤ 7302250 := LW_n hLW hTI
  refine Gd_aload_n (i := 1) rfl eL_law_1202 ?_
  refine Gd_aload_n (i := 0) rfl eL_law_1203 ?_
  refine Gd_iload_n (i := 3) rfl eL_law_1204 ?_
  refine Gd_iconst ki_1 eL_law_1205 ?_
  refine Gd_iaddN eL_law_1206 ?_
  refine Gd_sldL (by omega) hL eL_law_1207 ?_
  refine Gd_aload_n (i := 0) rfl eL_law_1208 ?_
  refine Gd_iload_n (i := 3) rfl eL_law_1209 ?_
  refine Gd_iconst ki_2 eL_law_1210 ?_
  refine Gd_iaddN eL_law_1211 ?_
  refine Gd_sldL (by omega) hL eL_law_1212 ?_
  refine Gd_aload_n (i := 0) rfl eL_law_1213 ?_
  refine Gd_iload_n (i := 3) rfl eL_law_1214 ?_
  refine Gd_iconst ki_3 eL_law_1215 ?_
  refine Gd_iaddN eL_law_1216 ?_
  refine Gd_sldL (by omega) hL eL_law_1217 ?_
  refine Gd_aload_n (i := 0) rfl eL_law_1218 ?_
  refine Gd_iload_n (i := 3) rfl eL_law_1219 ?_
  refine Gd_iconst ki_4 eL_law_1220 ?_
  refine Gd_iaddN eL_law_1221 ?_
  refine Gd_sldL (by omega) hL eL_law_1222 ?_
  refine Gd_callEV (g_cV (x_honours hW hA hP.1 hX.1 hTI hP.2.2.2.2 hX.2.2.1 hSI _ _ _ _) ok_X7_honours lk_RL_128 (W_s0 hW) ⟨_, _, rfl⟩ rfl rfl (Nat.le_of_ble_eq_true rfl) (Nat.le_of_ble_eq_true rfl) hk0 hn0 eL_law_1223) (fun a1 hq1 => ?_)
  have c1 := chg_mono2 U_X hq1
  have hA1 := FA_s hA hq1 s_X
  have hMA1 := MA_x xo_U hMA c1
  have hM1 := MQ_x xo_U hM c1
  refine Gd_aload_n (i := 2) rfl eL_law_1226 ?_
  refine Gd_aload_n (i := 0) rfl eL_law_1227 ?_
  refine Gd_iload_n (i := 3) rfl eL_law_1228 ?_
  refine Gd_iconst ki_1 eL_law_1229 ?_
  refine Gd_iaddN eL_law_1230 ?_
  refine Gd_sldL (by omega) hL eL_law_1231 ?_
  refine Gd_aload_n (i := 0) rfl eL_law_1232 ?_
  refine Gd_iload_n (i := 3) rfl eL_law_1233 ?_
  refine Gd_iconst ki_2 eL_law_1234 ?_
  refine Gd_iaddN eL_law_1235 ?_
  refine Gd_sldL (by omega) hL eL_law_1236 ?_
  refine Gd_aload_n (i := 0) rfl eL_law_1237 ?_
  refine Gd_iload_n (i := 3) rfl eL_law_1238 ?_
  refine Gd_iconst ki_3 eL_law_1239 ?_
  refine Gd_iaddN eL_law_1240 ?_
  refine Gd_sldL (by omega) hL eL_law_1241 ?_
  refine Gd_aload_n (i := 0) rfl eL_law_1242 ?_
  refine Gd_iload_n (i := 3) rfl eL_law_1243 ?_
  refine Gd_iconst ki_4 eL_law_1244 ?_
  refine Gd_iaddN eL_law_1245 ?_
  refine Gd_sldL (by omega) hL eL_law_1246 ?_
  refine Gd_callEV (g_cV (m_honours hW hMA1 hP.1 hM1.1 hTI hP.2.2.2.2 hM1.2.2.2.1 hSI _ _ _ _) ok_X8_honours lk_RL_131 (W_s50 hW) ⟨_, _, rfl⟩ rfl rfl (Nat.le_of_ble_eq_true rfl) (Nat.le_of_ble_eq_true rfl) hk0 hn0 eL_law_1247) (fun a2 hq2 => ?_)
  obtain ⟨hMA2, hq2⟩ := hq2
  have c2 := chg_mono2 Z_Z hq2
  refine Gd_icmp_eq eL_law_1250 (fun _ => ?_) (fun c => absurd rfl c)
  exact hK _ _ _ _ _ _ (LS_F hLI hLW (SG_rf hP) hX hM hA1 c1 hMA2 c2)
theorem L_whose (hL : L ≤ 3584) (hi : i + 7 ≤ L) (hS : RLs k n sh a r) (hK : RLk L xs Q i) : Gd YL_law (zL L xs Q) k n 1255 (lcs i) [] (sh, a, r, g) := by
  obtain ⟨φ, nt, ts, cd, nb, tp, bk, ψ, so, sz, cl, hLI, hLW, hA, hMA, hX, hM⟩ := hS
  obtain ⟨hP, hTI, hTB, hSI, hBK⟩ := id hLI
  have hW := hLW.1
  have hk0 : k + 0 ≤ 600000 := LW_k hLW hTI
  have hn0 : n + 0 ≤ 7302250 := LW_n hLW hTI
  refine Gd_aload_n (i := 1) rfl eL_law_1255 ?_
  refine Gd_aload_n (i := 0) rfl eL_law_1256 ?_
  refine Gd_iload_n (i := 3) rfl eL_law_1257 ?_
  refine Gd_iconst ki_1 eL_law_1258 ?_
  refine Gd_iaddN eL_law_1259 ?_
  refine Gd_sldL (by omega) hL eL_law_1260 ?_
  refine Gd_aload_n (i := 0) rfl eL_law_1261 ?_
  refine Gd_iload_n (i := 3) rfl eL_law_1262 ?_
  refine Gd_iconst ki_2 eL_law_1263 ?_
  refine Gd_iaddN eL_law_1264 ?_
  refine Gd_sldL (by omega) hL eL_law_1265 ?_
  refine Gd_callEV (g_cV (x_whose hW hA hP.1 hX.1 hTI hP.2.2.2.2 hX.2.2.1 hSI _ _) ok_X7_whose lk_RL_132 (W_s0 hW) ⟨_, _, rfl⟩ rfl rfl (Nat.le_of_ble_eq_true rfl) (Nat.le_of_ble_eq_true rfl) hk0 hn0 eL_law_1266) (fun a1 hq1 => ?_)
  have c1 := chg_mono2 U_X hq1
  have hA1 := FA_s hA hq1 s_X
  have hMA1 := MA_x xo_U hMA c1
  have hM1 := MQ_x xo_U hM c1
  refine Gd_aload_n (i := 2) rfl eL_law_1269 ?_
  refine Gd_aload_n (i := 0) rfl eL_law_1270 ?_
  refine Gd_iload_n (i := 3) rfl eL_law_1271 ?_
  refine Gd_iconst ki_1 eL_law_1272 ?_
  refine Gd_iaddN eL_law_1273 ?_
  refine Gd_sldL (by omega) hL eL_law_1274 ?_
  refine Gd_aload_n (i := 0) rfl eL_law_1275 ?_
  refine Gd_iload_n (i := 3) rfl eL_law_1276 ?_
  refine Gd_iconst ki_2 eL_law_1277 ?_
  refine Gd_iaddN eL_law_1278 ?_
  refine Gd_sldL (by omega) hL eL_law_1279 ?_
  refine Gd_callEV (g_cV (m_whose hW hMA1 hP.1 hM1.1 hTI hP.2.2.2.2 hM1.2.2.2.1 hSI _ _) ok_X8_whose lk_RL_135 (W_s50 hW) ⟨_, _, rfl⟩ rfl rfl (Nat.le_of_ble_eq_true rfl) (Nat.le_of_ble_eq_true rfl) hk0 hn0 eL_law_1280) (fun a2 hq2 => ?_)
  obtain ⟨hMA2, hq2⟩ := hq2
  have c2 := chg_mono2 Z_Z hq2
  refine Gd_icmp_eq eL_law_1283 (fun _ => ?_) (fun c => absurd rfl c)
  exact hK _ _ _ _ _ _ (LS_F hLI hLW (SG_rf hP) hX hM hA1 c1 hMA2 c2)
theorem L_laws (hL : L ≤ 3584) (hi : i + 7 ≤ L) (hS : RLs k n sh a r) (hK : RLk L xs Q i) : Gd YL_law (zL L xs Q) k n 1288 (lcs i) [] (sh, a, r, g) := by
  obtain ⟨φ, nt, ts, cd, nb, tp, bk, ψ, so, sz, cl, hLI, hLW, hA, hMA, hX, hM⟩ := hS
  obtain ⟨hP, hTI, hTB, hSI, hBK⟩ := id hLI
  have hW := hLW.1
  have hk0 : k + 0 ≤ 600000 := LW_k hLW hTI
  have hn0 : n + 0 ≤ 7302250 := LW_n hLW hTI
  refine Gd_aload_n (i := 1) rfl eL_law_1288 ?_
  refine Gd_aload_n (i := 0) rfl eL_law_1289 ?_
  refine Gd_iload_n (i := 3) rfl eL_law_1290 ?_
  refine Gd_iconst ki_1 eL_law_1291 ?_
  refine Gd_iaddN eL_law_1292 ?_
  refine Gd_sldL (by omega) hL eL_law_1293 ?_
  refine Gd_aload_n (i := 0) rfl eL_law_1294 ?_
  refine Gd_iload_n (i := 3) rfl eL_law_1295 ?_
  refine Gd_iconst ki_2 eL_law_1296 ?_
  refine Gd_iaddN eL_law_1297 ?_
  refine Gd_sldL (by omega) hL eL_law_1298 ?_
  refine Gd_aload_n (i := 0) rfl eL_law_1299 ?_
  refine Gd_iload_n (i := 3) rfl eL_law_1300 ?_
  refine Gd_iconst ki_3 eL_law_1301 ?_
  refine Gd_iaddN eL_law_1302 ?_
  refine Gd_sldL (by omega) hL eL_law_1303 ?_
  refine Gd_callEV (g_cV (x_laws hW hA hP.1 hX.1 hTI hP.2.2.2.2 hX.2.2.1 hSI _ _ _) ok_X7_laws lk_RL_136 (W_s0 hW) ⟨_, _, rfl⟩ rfl rfl (Nat.le_of_ble_eq_true rfl) (Nat.le_of_ble_eq_true rfl) hk0 hn0 eL_law_1304) (fun a1 hq1 => ?_)
  have c1 := chg_mono2 U_X hq1
  have hA1 := FA_s hA hq1 s_X
  have hMA1 := MA_x xo_U hMA c1
  have hM1 := MQ_x xo_U hM c1
  refine Gd_aload_n (i := 2) rfl eL_law_1307 ?_
  refine Gd_aload_n (i := 0) rfl eL_law_1308 ?_
  refine Gd_iload_n (i := 3) rfl eL_law_1309 ?_
  refine Gd_iconst ki_1 eL_law_1310 ?_
  refine Gd_iaddN eL_law_1311 ?_
  refine Gd_sldL (by omega) hL eL_law_1312 ?_
  refine Gd_aload_n (i := 0) rfl eL_law_1313 ?_
  refine Gd_iload_n (i := 3) rfl eL_law_1314 ?_
  refine Gd_iconst ki_2 eL_law_1315 ?_
  refine Gd_iaddN eL_law_1316 ?_
  refine Gd_sldL (by omega) hL eL_law_1317 ?_
  refine Gd_aload_n (i := 0) rfl eL_law_1318 ?_
  refine Gd_iload_n (i := 3) rfl eL_law_1319 ?_
  refine Gd_iconst ki_3 eL_law_1320 ?_
  refine Gd_iaddN eL_law_1321 ?_
  refine Gd_sldL (by omega) hL eL_law_1322 ?_
  refine Gd_callEV (g_cV (m_laws hW hMA1 hP.1 hM1.1 hTI hP.2.2.2.2 hM1.2.2.2.1 hSI _ _ _) ok_X8_laws lk_RL_139 (W_s50 hW) ⟨_, _, rfl⟩ rfl rfl (Nat.le_of_ble_eq_true rfl) (Nat.le_of_ble_eq_true rfl) hk0 hn0 eL_law_1323) (fun a2 hq2 => ?_)
  obtain ⟨hMA2, hq2⟩ := hq2
  have c2 := chg_mono2 Z_Z hq2
  refine Gd_icmp_eq eL_law_1326 (fun _ => ?_) (fun c => absurd rfl c)
  exact hK _ _ _ _ _ _ (LS_F hLI hLW (SG_rf hP) hX hM hA1 c1 hMA2 c2)
theorem L_drawn (hL : L ≤ 3584) (hi : i + 7 ≤ L) (hS : RLs k n sh a r) (hK : RLk L xs Q i) : Gd YL_law (zL L xs Q) k n 1374 (lcs i) [] (sh, a, r, g) := by
  obtain ⟨φ, nt, ts, cd, nb, tp, bk, ψ, so, sz, cl, hLI, hLW, hA, hMA, hX, hM⟩ := hS
  obtain ⟨hP, hTI, hTB, hSI, hBK⟩ := id hLI
  have hW := hLW.1
  have hk0 : k + 0 ≤ 600000 := LW_k hLW hTI
  have hn0 : n + 0 ≤ 7302250 := LW_n hLW hTI
  refine Gd_aload_n (i := 1) rfl eL_law_1374 ?_
  refine Gd_aload_n (i := 0) rfl eL_law_1375 ?_
  refine Gd_iload_n (i := 3) rfl eL_law_1376 ?_
  refine Gd_iconst ki_1 eL_law_1377 ?_
  refine Gd_iaddN eL_law_1378 ?_
  refine Gd_sldL (by omega) hL eL_law_1379 ?_
  refine Gd_aload_n (i := 0) rfl eL_law_1380 ?_
  refine Gd_iload_n (i := 3) rfl eL_law_1381 ?_
  refine Gd_iconst ki_2 eL_law_1382 ?_
  refine Gd_iaddN eL_law_1383 ?_
  refine Gd_sldL (by omega) hL eL_law_1384 ?_
  refine Gd_aload_n (i := 0) rfl eL_law_1385 ?_
  refine Gd_iload_n (i := 3) rfl eL_law_1386 ?_
  refine Gd_iconst ki_3 eL_law_1387 ?_
  refine Gd_iaddN eL_law_1388 ?_
  refine Gd_sldL (by omega) hL eL_law_1389 ?_
  refine Gd_callEG (g_cV (x_drawn hW hA hP.1 hX.1 hTI hP.2.2.2.2 _ _ _) ok_X7_drawn lk_RL_144 (W_s0 hW) ⟨_, _, rfl⟩ rfl rfl (Nat.le_of_ble_eq_true rfl) (Nat.le_of_ble_eq_true rfl) hk0 hn0 eL_law_1390) (fun a1 g hq1 => ?_)
  have c1 := chg_mono2 U_X hq1
  have hA1 := FA_s hA hq1 s_X
  have hMA1 := MA_x xo_U hMA c1
  have hM1 := MQ_x xo_U hM c1
  refine Gd_aload_n (i := 2) rfl eL_law_1393 ?_
  refine Gd_aload_n (i := 0) rfl eL_law_1394 ?_
  refine Gd_iload_n (i := 3) rfl eL_law_1395 ?_
  refine Gd_iconst ki_1 eL_law_1396 ?_
  refine Gd_iaddN eL_law_1397 ?_
  refine Gd_sldL (by omega) hL eL_law_1398 ?_
  refine Gd_aload_n (i := 0) rfl eL_law_1399 ?_
  refine Gd_iload_n (i := 3) rfl eL_law_1400 ?_
  refine Gd_iconst ki_2 eL_law_1401 ?_
  refine Gd_iaddN eL_law_1402 ?_
  refine Gd_sldL (by omega) hL eL_law_1403 ?_
  refine Gd_aload_n (i := 0) rfl eL_law_1404 ?_
  refine Gd_iload_n (i := 3) rfl eL_law_1405 ?_
  refine Gd_iconst ki_3 eL_law_1406 ?_
  refine Gd_iaddN eL_law_1407 ?_
  refine Gd_sldL (by omega) hL eL_law_1408 ?_
  refine Gd_callEV (g_cV (m_drawn hW hMA1 hP.1 hM1.1 hTI hP.2.2.2.2 _ _ _) ok_X8_drawn lk_RL_147 (W_s50 hW) ⟨_, _, rfl⟩ rfl rfl (Nat.le_of_ble_eq_true rfl) (Nat.le_of_ble_eq_true rfl) hk0 hn0 eL_law_1409) (fun a2 hq2 => ?_)
  obtain ⟨hMA2, hq2⟩ := hq2
  have c2 := chg_mono2 Z_Z hq2
  refine Gd_icmp_eq eL_law_1412 (fun _ => ?_) (fun c => absurd rfl c)
  exact hK _ _ _ _ _ _ (LS_F hLI hLW (SG_rf hP) hX hM hA1 c1 hMA2 c2)
theorem L_odds (hL : L ≤ 3584) (hi : i + 7 ≤ L) (hS : RLs k n sh a r) (hK : RLk L xs Q i) : Gd YL_law (zL L xs Q) k n 1417 (lcs i) [] (sh, a, r, g) := by
  obtain ⟨φ, nt, ts, cd, nb, tp, bk, ψ, so, sz, cl, hLI, hLW, hA, hMA, hX, hM⟩ := hS
  obtain ⟨hP, hTI, hTB, hSI, hBK⟩ := id hLI
  have hW := hLW.1
  have hk0 : k + 0 ≤ 600000 := LW_k hLW hTI
  have hn0 : n + 0 ≤ 7302250 := LW_n hLW hTI
  refine Gd_aload_n (i := 1) rfl eL_law_1417 ?_
  refine Gd_aload_n (i := 0) rfl eL_law_1418 ?_
  refine Gd_iload_n (i := 3) rfl eL_law_1419 ?_
  refine Gd_iconst ki_1 eL_law_1420 ?_
  refine Gd_iaddN eL_law_1421 ?_
  refine Gd_sldL (by omega) hL eL_law_1422 ?_
  refine Gd_aload_n (i := 0) rfl eL_law_1423 ?_
  refine Gd_iload_n (i := 3) rfl eL_law_1424 ?_
  refine Gd_iconst ki_2 eL_law_1425 ?_
  refine Gd_iaddN eL_law_1426 ?_
  refine Gd_sldL (by omega) hL eL_law_1427 ?_
  refine Gd_aload_n (i := 0) rfl eL_law_1428 ?_
  refine Gd_iload_n (i := 3) rfl eL_law_1429 ?_
  refine Gd_iconst ki_3 eL_law_1430 ?_
  refine Gd_iaddN eL_law_1431 ?_
  refine Gd_sldL (by omega) hL eL_law_1432 ?_
  refine Gd_aload_n (i := 0) rfl eL_law_1433 ?_
  refine Gd_iload_n (i := 3) rfl eL_law_1434 ?_
  refine Gd_iconst ki_4 eL_law_1435 ?_
  refine Gd_iaddN eL_law_1436 ?_
  refine Gd_sldL (by omega) hL eL_law_1437 ?_
  refine Gd_callEG (g_cV (x_odds hW hA hP.1 hX.1 hTI hP.2.2.2.2 _ _ _ _) ok_X7_odds lk_RL_148 (W_s0 hW) ⟨_, _, rfl⟩ rfl rfl (Nat.le_of_ble_eq_true rfl) (Nat.le_of_ble_eq_true rfl) hk0 hn0 eL_law_1438) (fun a1 g hq1 => ?_)
  have c1 := chg_mono2 U_X hq1
  have hA1 := FA_s hA hq1 s_X
  have hMA1 := MA_x xo_U hMA c1
  have hM1 := MQ_x xo_U hM c1
  refine Gd_aload_n (i := 2) rfl eL_law_1441 ?_
  refine Gd_aload_n (i := 0) rfl eL_law_1442 ?_
  refine Gd_iload_n (i := 3) rfl eL_law_1443 ?_
  refine Gd_iconst ki_1 eL_law_1444 ?_
  refine Gd_iaddN eL_law_1445 ?_
  refine Gd_sldL (by omega) hL eL_law_1446 ?_
  refine Gd_aload_n (i := 0) rfl eL_law_1447 ?_
  refine Gd_iload_n (i := 3) rfl eL_law_1448 ?_
  refine Gd_iconst ki_2 eL_law_1449 ?_
  refine Gd_iaddN eL_law_1450 ?_
  refine Gd_sldL (by omega) hL eL_law_1451 ?_
  refine Gd_aload_n (i := 0) rfl eL_law_1452 ?_
  refine Gd_iload_n (i := 3) rfl eL_law_1453 ?_
  refine Gd_iconst ki_3 eL_law_1454 ?_
  refine Gd_iaddN eL_law_1455 ?_
  refine Gd_sldL (by omega) hL eL_law_1456 ?_
  refine Gd_aload_n (i := 0) rfl eL_law_1457 ?_
  refine Gd_iload_n (i := 3) rfl eL_law_1458 ?_
  refine Gd_iconst ki_4 eL_law_1459 ?_
  refine Gd_iaddN eL_law_1460 ?_
  refine Gd_sldL (by omega) hL eL_law_1461 ?_
  refine Gd_callEV (g_cV (m_odds hW hMA1 hP.1 hM1.1 hTI hP.2.2.2.2 _ _ _ _) ok_X8_odds lk_RL_152 (W_s50 hW) ⟨_, _, rfl⟩ rfl rfl (Nat.le_of_ble_eq_true rfl) (Nat.le_of_ble_eq_true rfl) hk0 hn0 eL_law_1462) (fun a2 hq2 => ?_)
  obtain ⟨hMA2, hq2⟩ := hq2
  have c2 := chg_mono2 Z_Z hq2
  refine Gd_lcmp eL_law_1465 ?_
  rw [lg_cmp_rf]
  refine Gd_if_eq eL_law_1466 (fun _ => ?_) (fun c => absurd rfl c)
  exact hK _ _ _ _ _ _ (LS_F hLI hLW (SG_rf hP) hX hM hA1 c1 hMA2 c2)
theorem L_huntersBy (hL : L ≤ 3584) (hi : i + 7 ≤ L) (hS : RLs k n sh a r) (hK : RLk L xs Q i) : Gd YL_law (zL L xs Q) k n 1646 (lcs i) [] (sh, a, r, g) := by
  obtain ⟨φ, nt, ts, cd, nb, tp, bk, ψ, so, sz, cl, hLI, hLW, hA, hMA, hX, hM⟩ := hS
  obtain ⟨hP, hTI, hTB, hSI, hBK⟩ := id hLI
  have hW := hLW.1
  have hk0 : k + 0 ≤ 600000 := LW_k hLW hTI
  have hn0 : n + 0 ≤ 7302250 := LW_n hLW hTI
  refine Gd_aload_n (i := 1) rfl eL_law_1646 ?_
  refine Gd_aload_n (i := 0) rfl eL_law_1647 ?_
  refine Gd_iload_n (i := 3) rfl eL_law_1648 ?_
  refine Gd_iconst ki_1 eL_law_1649 ?_
  refine Gd_iaddN eL_law_1650 ?_
  refine Gd_sldL (by omega) hL eL_law_1651 ?_
  refine Gd_aload_n (i := 0) rfl eL_law_1652 ?_
  refine Gd_iload_n (i := 3) rfl eL_law_1653 ?_
  refine Gd_iconst ki_2 eL_law_1654 ?_
  refine Gd_iaddN eL_law_1655 ?_
  refine Gd_sldL (by omega) hL eL_law_1656 ?_
  refine Gd_aload_n (i := 0) rfl eL_law_1657 ?_
  refine Gd_iload_n (i := 3) rfl eL_law_1658 ?_
  refine Gd_iconst ki_3 eL_law_1659 ?_
  refine Gd_iaddN eL_law_1660 ?_
  refine Gd_sldL (by omega) hL eL_law_1661 ?_
  refine Gd_aload_n (i := 0) rfl eL_law_1662 ?_
  refine Gd_iload_n (i := 3) rfl eL_law_1663 ?_
  refine Gd_iconst ki_4 eL_law_1664 ?_
  refine Gd_iaddN eL_law_1665 ?_
  refine Gd_sldL (by omega) hL eL_law_1666 ?_
  refine Gd_callEV (g_cV (x_huntersBy hW hA hP.1 hX.2.2.1 hSI _ _ _ _) ok_X7_huntersBy lk_RL_174 (W_s0 hW) ⟨_, _, rfl⟩ rfl rfl (Nat.le_of_ble_eq_true rfl) (Nat.le_of_ble_eq_true rfl) hk0 hn0 eL_law_1667) (fun a1 hq1 => ?_)
  obtain ⟨hA1, hq1⟩ := hq1
  have c1 := chg_mono2 U_U hq1
  have hMA1 := MA_x xo_U hMA c1
  have hM1 := MQ_x xo_U hM c1
  refine Gd_aload_n (i := 2) rfl eL_law_1670 ?_
  refine Gd_aload_n (i := 0) rfl eL_law_1671 ?_
  refine Gd_iload_n (i := 3) rfl eL_law_1672 ?_
  refine Gd_iconst ki_1 eL_law_1673 ?_
  refine Gd_iaddN eL_law_1674 ?_
  refine Gd_sldL (by omega) hL eL_law_1675 ?_
  refine Gd_aload_n (i := 0) rfl eL_law_1676 ?_
  refine Gd_iload_n (i := 3) rfl eL_law_1677 ?_
  refine Gd_iconst ki_2 eL_law_1678 ?_
  refine Gd_iaddN eL_law_1679 ?_
  refine Gd_sldL (by omega) hL eL_law_1680 ?_
  refine Gd_aload_n (i := 0) rfl eL_law_1681 ?_
  refine Gd_iload_n (i := 3) rfl eL_law_1682 ?_
  refine Gd_iconst ki_3 eL_law_1683 ?_
  refine Gd_iaddN eL_law_1684 ?_
  refine Gd_sldL (by omega) hL eL_law_1685 ?_
  refine Gd_aload_n (i := 0) rfl eL_law_1686 ?_
  refine Gd_iload_n (i := 3) rfl eL_law_1687 ?_
  refine Gd_iconst ki_4 eL_law_1688 ?_
  refine Gd_iaddN eL_law_1689 ?_
  refine Gd_sldL (by omega) hL eL_law_1690 ?_
  refine Gd_callEV (g_cV (m_huntersBy hW hMA1 hP.1 hM1.2.2.2.1 hSI _ _ _ _) ok_X8_huntersBy lk_RL_177 (W_s50 hW) ⟨_, _, rfl⟩ rfl rfl (Nat.le_of_ble_eq_true rfl) (Nat.le_of_ble_eq_true rfl) hk0 hn0 eL_law_1691) (fun a2 hq2 => ?_)
  obtain ⟨hMA2, hq2⟩ := hq2
  have c2 := chg_mono2 Z_Z hq2
  refine Gd_icmp_eq eL_law_1694 (fun _ => ?_) (fun c => absurd rfl c)
  exact hK _ _ _ _ _ _ (LS_F hLI hLW (SG_rHby hP _ _ _ _ _) hX hM hA1 c1 hMA2 c2)
theorem L_taken (hL : L ≤ 3584) (hi : i + 7 ≤ L) (hS : RLs k n sh a r) (hK : RLk L xs Q i) : Gd YL_law (zL L xs Q) k n 1699 (lcs i) [] (sh, a, r, g) := by
  obtain ⟨φ, nt, ts, cd, nb, tp, bk, ψ, so, sz, cl, hLI, hLW, hA, hMA, hX, hM⟩ := hS
  obtain ⟨hP, hTI, hTB, hSI, hBK⟩ := id hLI
  have hW := hLW.1
  have hk0 : k + 0 ≤ 600000 := LW_k hLW hTI
  have hn0 : n + 0 ≤ 7302250 := LW_n hLW hTI
  refine Gd_aload_n (i := 1) rfl eL_law_1699 ?_
  refine Gd_aload_n (i := 0) rfl eL_law_1700 ?_
  refine Gd_iload_n (i := 3) rfl eL_law_1701 ?_
  refine Gd_iconst ki_1 eL_law_1702 ?_
  refine Gd_iaddN eL_law_1703 ?_
  refine Gd_sldL (by omega) hL eL_law_1704 ?_
  refine Gd_aload_n (i := 0) rfl eL_law_1705 ?_
  refine Gd_iload_n (i := 3) rfl eL_law_1706 ?_
  refine Gd_iconst ki_2 eL_law_1707 ?_
  refine Gd_iaddN eL_law_1708 ?_
  refine Gd_sldL (by omega) hL eL_law_1709 ?_
  refine Gd_callP (g_cV (x_taken hW hA hP.1 _ _) ok_X7_taken lk_RL_178 (W_s0 hW) ⟨_, _, rfl⟩ rfl rfl (Nat.le_of_ble_eq_true rfl) (Nat.le_of_ble_eq_true rfl) hk0 hn0 eL_law_1710) ?_
  have c1 : chg scU a a := chg_rf
  have hA1 := hA
  have hMA1 := MA_x xo_U hMA c1
  have hM1 := MQ_x xo_U hM c1
  refine Gd_aload_n (i := 2) rfl eL_law_1713 ?_
  refine Gd_aload_n (i := 0) rfl eL_law_1714 ?_
  refine Gd_iload_n (i := 3) rfl eL_law_1715 ?_
  refine Gd_iconst ki_1 eL_law_1716 ?_
  refine Gd_iaddN eL_law_1717 ?_
  refine Gd_sldL (by omega) hL eL_law_1718 ?_
  refine Gd_aload_n (i := 0) rfl eL_law_1719 ?_
  refine Gd_iload_n (i := 3) rfl eL_law_1720 ?_
  refine Gd_iconst ki_2 eL_law_1721 ?_
  refine Gd_iaddN eL_law_1722 ?_
  refine Gd_sldL (by omega) hL eL_law_1723 ?_
  refine Gd_callP (g_cV (m_taken hW hMA1 hP.1 _ _) ok_X8_taken lk_RL_181 (W_s50 hW) ⟨_, _, rfl⟩ rfl rfl (Nat.le_of_ble_eq_true rfl) (Nat.le_of_ble_eq_true rfl) hk0 hn0 eL_law_1724) ?_
  have c2 := chg_rf (S := scZ) (a := a)
  have hMA2 := hMA1
  refine Gd_icmp_eq eL_law_1727 (fun _ => ?_) (fun c => absurd rfl c)
  exact hK _ _ _ _ _ _ (LS_F hLI hLW (SG_rf hP) hX hM hA1 c1 hMA2 c2)
end LAW
