def SHW : List (Nat × Nat) := [(7, 9), (0, 11), (20, 10), (20, 6), (20, 6), (20, 6), (20, 6), (20, 6), (20, 6), (0, 11), (20, 10), (20, 6), (20, 6), (20, 6), (20, 6), (20, 6), (20, 6), (0, 11), (20, 10), (20, 6), (20, 6), (20, 6), (20, 6), (20, 6), (20, 6), (2, 11), (20, 160), (20, 161), (20, 161), (20, 160), (20, 4), (3, 4), (22, 6), (20, 6), (20, 160), (6, 2), (20, 6), (1, 1), (21, 4), (4, 3), (20, 40), (4, 3), (20, 40), (4, 3), (20, 40), (4, 3), (20, 40), (5, 2), (20, 3), (20, 4), (8, 36), (20, 6), (20, 6), (20, 24), (20, 10), (20, 160), (20, 1200), (20, 24), (20, 34), (20, 4), (20, 4), (20, 4), (20, 160), (20, 35), (20, 96), (20, 200), (20, 200), (20, 6), (20, 6), (20, 35), (20, 4)]
def RTL : List (Nat × Nat × Nat) := [(0, 0, 1), (0, 1, 9), (0, 2, 17), (0, 4, 25), (0, 5, 31), (0, 6, 35), (0, 7, 37), (0, 8, 38), (1, 0, 2), (1, 5, 3), (1, 6, 4), (1, 7, 5), (1, 8, 6), (1, 9, 7), (1, 10, 8), (9, 0, 10), (9, 5, 11), (9, 6, 12), (9, 7, 13), (9, 8, 14), (9, 9, 15), (9, 10, 16), (17, 0, 18), (17, 5, 19), (17, 6, 20), (17, 7, 21), (17, 8, 22), (17, 9, 23), (17, 10, 24), (25, 0, 26), (25, 2, 27), (25, 3, 28), (25, 8, 29), (25, 10, 30), (31, 0, 32), (31, 2, 33), (31, 3, 34), (35, 1, 36), (38, 0, 39), (38, 1, 41), (38, 2, 43), (38, 3, 45), (39, 2, 40), (41, 2, 42), (43, 2, 44), (45, 2, 46), (47, 0, 48), (47, 1, 49), (50, 1, 51), (50, 2, 52), (50, 3, 53), (50, 4, 54), (50, 7, 55), (50, 9, 56), (50, 10, 57), (50, 14, 58), (50, 15, 59), (50, 16, 60), (50, 17, 61), (50, 18, 62), (50, 19, 63), (50, 24, 64), (50, 25, 65), (50, 29, 66), (50, 30, 67), (50, 31, 68), (50, 33, 69), (50, 34, 70)]
/-- the world's fixed part: shapes of the cells 0 .. 70, where their references point -/
def WD (sh : List (Nat × Nat)) (r : Nat → Nat → Option Nat) : Prop := (∀ (k : Nat) (x : Nat × Nat), SHW[k]? = some x → sh[k]? = some x) ∧ ∀ q ∈ RTL, r q.1 q.2.1 = some q.2.2
/-- a forest at f -/
def isF (sh : List (Nat × Nat)) (r : Nat → Nat → Option Nat) (f : Nat) : Prop := sh[f]? = some (0, 11) ∧ sh[f + 1]? = some (20, 10) ∧ sh[f + 2]? = some (20, 6) ∧ sh[f + 3]? = some (20, 6) ∧ sh[f + 4]? = some (20, 6) ∧ sh[f + 5]? = some (20, 6) ∧ sh[f + 6]? = some (20, 6) ∧ sh[f + 7]? = some (20, 6) ∧
  r f 0 = some (f + 1) ∧ r f 5 = some (f + 2) ∧ r f 6 = some (f + 3) ∧ r f 7 = some (f + 4) ∧ r f 8 = some (f + 5) ∧ r f 9 = some (f + 6) ∧ r f 10 = some (f + 7)
/-- a sheet at t -/
def isS (sh : List (Nat × Nat)) (r : Nat → Nat → Option Nat) (t : Nat) : Prop := sh[t]? = some (4, 3) ∧ sh[t + 1]? = some (20, 40) ∧ r t 2 = some (t + 1)
section WD
variable {sh : List (Nat × Nat)} {r : Nat → Nat → Option Nat} {f t : Nat}
theorem W_s0 (hW : WD sh r) : sh[0]? = some (7, 9) := hW.1 0 _ rfl
theorem W_s1 (hW : WD sh r) : sh[1]? = some (0, 11) := hW.1 1 _ rfl
theorem W_s2 (hW : WD sh r) : sh[2]? = some (20, 10) := hW.1 2 _ rfl
theorem W_s3 (hW : WD sh r) : sh[3]? = some (20, 6) := hW.1 3 _ rfl
theorem W_s4 (hW : WD sh r) : sh[4]? = some (20, 6) := hW.1 4 _ rfl
theorem W_s5 (hW : WD sh r) : sh[5]? = some (20, 6) := hW.1 5 _ rfl
theorem W_s6 (hW : WD sh r) : sh[6]? = some (20, 6) := hW.1 6 _ rfl
theorem W_s7 (hW : WD sh r) : sh[7]? = some (20, 6) := hW.1 7 _ rfl
theorem W_s8 (hW : WD sh r) : sh[8]? = some (20, 6) := hW.1 8 _ rfl
theorem W_s9 (hW : WD sh r) : sh[9]? = some (0, 11) := hW.1 9 _ rfl
theorem W_s10 (hW : WD sh r) : sh[10]? = some (20, 10) := hW.1 10 _ rfl
theorem W_s11 (hW : WD sh r) : sh[11]? = some (20, 6) := hW.1 11 _ rfl
theorem W_s12 (hW : WD sh r) : sh[12]? = some (20, 6) := hW.1 12 _ rfl
theorem W_s13 (hW : WD sh r) : sh[13]? = some (20, 6) := hW.1 13 _ rfl
theorem W_s14 (hW : WD sh r) : sh[14]? = some (20, 6) := hW.1 14 _ rfl
theorem W_s15 (hW : WD sh r) : sh[15]? = some (20, 6) := hW.1 15 _ rfl
theorem W_s16 (hW : WD sh r) : sh[16]? = some (20, 6) := hW.1 16 _ rfl
theorem W_s17 (hW : WD sh r) : sh[17]? = some (0, 11) := hW.1 17 _ rfl
theorem W_s18 (hW : WD sh r) : sh[18]? = some (20, 10) := hW.1 18 _ rfl
theorem W_s19 (hW : WD sh r) : sh[19]? = some (20, 6) := hW.1 19 _ rfl
theorem W_s20 (hW : WD sh r) : sh[20]? = some (20, 6) := hW.1 20 _ rfl
theorem W_s21 (hW : WD sh r) : sh[21]? = some (20, 6) := hW.1 21 _ rfl
theorem W_s22 (hW : WD sh r) : sh[22]? = some (20, 6) := hW.1 22 _ rfl
theorem W_s23 (hW : WD sh r) : sh[23]? = some (20, 6) := hW.1 23 _ rfl
theorem W_s24 (hW : WD sh r) : sh[24]? = some (20, 6) := hW.1 24 _ rfl
theorem W_s25 (hW : WD sh r) : sh[25]? = some (2, 11) := hW.1 25 _ rfl
theorem W_s26 (hW : WD sh r) : sh[26]? = some (20, 160) := hW.1 26 _ rfl
theorem W_s27 (hW : WD sh r) : sh[27]? = some (20, 161) := hW.1 27 _ rfl
theorem W_s28 (hW : WD sh r) : sh[28]? = some (20, 161) := hW.1 28 _ rfl
theorem W_s29 (hW : WD sh r) : sh[29]? = some (20, 160) := hW.1 29 _ rfl
theorem W_s30 (hW : WD sh r) : sh[30]? = some (20, 4) := hW.1 30 _ rfl
theorem W_s31 (hW : WD sh r) : sh[31]? = some (3, 4) := hW.1 31 _ rfl
theorem W_s32 (hW : WD sh r) : sh[32]? = some (22, 6) := hW.1 32 _ rfl
theorem W_s33 (hW : WD sh r) : sh[33]? = some (20, 6) := hW.1 33 _ rfl
theorem W_s34 (hW : WD sh r) : sh[34]? = some (20, 160) := hW.1 34 _ rfl
theorem W_s35 (hW : WD sh r) : sh[35]? = some (6, 2) := hW.1 35 _ rfl
theorem W_s36 (hW : WD sh r) : sh[36]? = some (20, 6) := hW.1 36 _ rfl
theorem W_s37 (hW : WD sh r) : sh[37]? = some (1, 1) := hW.1 37 _ rfl
theorem W_s38 (hW : WD sh r) : sh[38]? = some (21, 4) := hW.1 38 _ rfl
theorem W_s39 (hW : WD sh r) : sh[39]? = some (4, 3) := hW.1 39 _ rfl
theorem W_s40 (hW : WD sh r) : sh[40]? = some (20, 40) := hW.1 40 _ rfl
theorem W_s41 (hW : WD sh r) : sh[41]? = some (4, 3) := hW.1 41 _ rfl
theorem W_s42 (hW : WD sh r) : sh[42]? = some (20, 40) := hW.1 42 _ rfl
theorem W_s43 (hW : WD sh r) : sh[43]? = some (4, 3) := hW.1 43 _ rfl
theorem W_s44 (hW : WD sh r) : sh[44]? = some (20, 40) := hW.1 44 _ rfl
theorem W_s45 (hW : WD sh r) : sh[45]? = some (4, 3) := hW.1 45 _ rfl
theorem W_s46 (hW : WD sh r) : sh[46]? = some (20, 40) := hW.1 46 _ rfl
theorem W_s47 (hW : WD sh r) : sh[47]? = some (5, 2) := hW.1 47 _ rfl
theorem W_s48 (hW : WD sh r) : sh[48]? = some (20, 3) := hW.1 48 _ rfl
theorem W_s49 (hW : WD sh r) : sh[49]? = some (20, 4) := hW.1 49 _ rfl
theorem W_s50 (hW : WD sh r) : sh[50]? = some (8, 36) := hW.1 50 _ rfl
theorem W_s51 (hW : WD sh r) : sh[51]? = some (20, 6) := hW.1 51 _ rfl
theorem W_s52 (hW : WD sh r) : sh[52]? = some (20, 6) := hW.1 52 _ rfl
theorem W_s53 (hW : WD sh r) : sh[53]? = some (20, 24) := hW.1 53 _ rfl
theorem W_s54 (hW : WD sh r) : sh[54]? = some (20, 10) := hW.1 54 _ rfl
theorem W_s55 (hW : WD sh r) : sh[55]? = some (20, 160) := hW.1 55 _ rfl
theorem W_s56 (hW : WD sh r) : sh[56]? = some (20, 1200) := hW.1 56 _ rfl
theorem W_s57 (hW : WD sh r) : sh[57]? = some (20, 24) := hW.1 57 _ rfl
theorem W_s58 (hW : WD sh r) : sh[58]? = some (20, 34) := hW.1 58 _ rfl
theorem W_s59 (hW : WD sh r) : sh[59]? = some (20, 4) := hW.1 59 _ rfl
theorem W_s60 (hW : WD sh r) : sh[60]? = some (20, 4) := hW.1 60 _ rfl
theorem W_s61 (hW : WD sh r) : sh[61]? = some (20, 4) := hW.1 61 _ rfl
theorem W_s62 (hW : WD sh r) : sh[62]? = some (20, 160) := hW.1 62 _ rfl
theorem W_s63 (hW : WD sh r) : sh[63]? = some (20, 35) := hW.1 63 _ rfl
theorem W_s64 (hW : WD sh r) : sh[64]? = some (20, 96) := hW.1 64 _ rfl
theorem W_s65 (hW : WD sh r) : sh[65]? = some (20, 200) := hW.1 65 _ rfl
theorem W_s66 (hW : WD sh r) : sh[66]? = some (20, 200) := hW.1 66 _ rfl
theorem W_s67 (hW : WD sh r) : sh[67]? = some (20, 6) := hW.1 67 _ rfl
theorem W_s68 (hW : WD sh r) : sh[68]? = some (20, 6) := hW.1 68 _ rfl
theorem W_s69 (hW : WD sh r) : sh[69]? = some (20, 35) := hW.1 69 _ rfl
theorem W_s70 (hW : WD sh r) : sh[70]? = some (20, 4) := hW.1 70 _ rfl
theorem W_r0_0 (hW : WD sh r) : r 0 0 = some 1 := hW.2 _ (List.mem_of_getElem? (i := 0) rfl)
theorem W_r0_1 (hW : WD sh r) : r 0 1 = some 9 := hW.2 _ (List.mem_of_getElem? (i := 1) rfl)
theorem W_r0_2 (hW : WD sh r) : r 0 2 = some 17 := hW.2 _ (List.mem_of_getElem? (i := 2) rfl)
theorem W_r0_4 (hW : WD sh r) : r 0 4 = some 25 := hW.2 _ (List.mem_of_getElem? (i := 3) rfl)
theorem W_r0_5 (hW : WD sh r) : r 0 5 = some 31 := hW.2 _ (List.mem_of_getElem? (i := 4) rfl)
theorem W_r0_6 (hW : WD sh r) : r 0 6 = some 35 := hW.2 _ (List.mem_of_getElem? (i := 5) rfl)
theorem W_r0_7 (hW : WD sh r) : r 0 7 = some 37 := hW.2 _ (List.mem_of_getElem? (i := 6) rfl)
theorem W_r0_8 (hW : WD sh r) : r 0 8 = some 38 := hW.2 _ (List.mem_of_getElem? (i := 7) rfl)
theorem W_r1_0 (hW : WD sh r) : r 1 0 = some 2 := hW.2 _ (List.mem_of_getElem? (i := 8) rfl)
theorem W_r1_5 (hW : WD sh r) : r 1 5 = some 3 := hW.2 _ (List.mem_of_getElem? (i := 9) rfl)
theorem W_r1_6 (hW : WD sh r) : r 1 6 = some 4 := hW.2 _ (List.mem_of_getElem? (i := 10) rfl)
theorem W_r1_7 (hW : WD sh r) : r 1 7 = some 5 := hW.2 _ (List.mem_of_getElem? (i := 11) rfl)
theorem W_r1_8 (hW : WD sh r) : r 1 8 = some 6 := hW.2 _ (List.mem_of_getElem? (i := 12) rfl)
theorem W_r1_9 (hW : WD sh r) : r 1 9 = some 7 := hW.2 _ (List.mem_of_getElem? (i := 13) rfl)
theorem W_r1_10 (hW : WD sh r) : r 1 10 = some 8 := hW.2 _ (List.mem_of_getElem? (i := 14) rfl)
theorem W_r9_0 (hW : WD sh r) : r 9 0 = some 10 := hW.2 _ (List.mem_of_getElem? (i := 15) rfl)
theorem W_r9_5 (hW : WD sh r) : r 9 5 = some 11 := hW.2 _ (List.mem_of_getElem? (i := 16) rfl)
theorem W_r9_6 (hW : WD sh r) : r 9 6 = some 12 := hW.2 _ (List.mem_of_getElem? (i := 17) rfl)
theorem W_r9_7 (hW : WD sh r) : r 9 7 = some 13 := hW.2 _ (List.mem_of_getElem? (i := 18) rfl)
theorem W_r9_8 (hW : WD sh r) : r 9 8 = some 14 := hW.2 _ (List.mem_of_getElem? (i := 19) rfl)
theorem W_r9_9 (hW : WD sh r) : r 9 9 = some 15 := hW.2 _ (List.mem_of_getElem? (i := 20) rfl)
theorem W_r9_10 (hW : WD sh r) : r 9 10 = some 16 := hW.2 _ (List.mem_of_getElem? (i := 21) rfl)
theorem W_r17_0 (hW : WD sh r) : r 17 0 = some 18 := hW.2 _ (List.mem_of_getElem? (i := 22) rfl)
theorem W_r17_5 (hW : WD sh r) : r 17 5 = some 19 := hW.2 _ (List.mem_of_getElem? (i := 23) rfl)
theorem W_r17_6 (hW : WD sh r) : r 17 6 = some 20 := hW.2 _ (List.mem_of_getElem? (i := 24) rfl)
theorem W_r17_7 (hW : WD sh r) : r 17 7 = some 21 := hW.2 _ (List.mem_of_getElem? (i := 25) rfl)
theorem W_r17_8 (hW : WD sh r) : r 17 8 = some 22 := hW.2 _ (List.mem_of_getElem? (i := 26) rfl)
theorem W_r17_9 (hW : WD sh r) : r 17 9 = some 23 := hW.2 _ (List.mem_of_getElem? (i := 27) rfl)
theorem W_r17_10 (hW : WD sh r) : r 17 10 = some 24 := hW.2 _ (List.mem_of_getElem? (i := 28) rfl)
theorem W_r25_0 (hW : WD sh r) : r 25 0 = some 26 := hW.2 _ (List.mem_of_getElem? (i := 29) rfl)
theorem W_r25_2 (hW : WD sh r) : r 25 2 = some 27 := hW.2 _ (List.mem_of_getElem? (i := 30) rfl)
theorem W_r25_3 (hW : WD sh r) : r 25 3 = some 28 := hW.2 _ (List.mem_of_getElem? (i := 31) rfl)
theorem W_r25_8 (hW : WD sh r) : r 25 8 = some 29 := hW.2 _ (List.mem_of_getElem? (i := 32) rfl)
theorem W_r25_10 (hW : WD sh r) : r 25 10 = some 30 := hW.2 _ (List.mem_of_getElem? (i := 33) rfl)
theorem W_r31_0 (hW : WD sh r) : r 31 0 = some 32 := hW.2 _ (List.mem_of_getElem? (i := 34) rfl)
theorem W_r31_2 (hW : WD sh r) : r 31 2 = some 33 := hW.2 _ (List.mem_of_getElem? (i := 35) rfl)
theorem W_r31_3 (hW : WD sh r) : r 31 3 = some 34 := hW.2 _ (List.mem_of_getElem? (i := 36) rfl)
theorem W_r35_1 (hW : WD sh r) : r 35 1 = some 36 := hW.2 _ (List.mem_of_getElem? (i := 37) rfl)
theorem W_r38_0 (hW : WD sh r) : r 38 0 = some 39 := hW.2 _ (List.mem_of_getElem? (i := 38) rfl)
theorem W_r38_1 (hW : WD sh r) : r 38 1 = some 41 := hW.2 _ (List.mem_of_getElem? (i := 39) rfl)
theorem W_r38_2 (hW : WD sh r) : r 38 2 = some 43 := hW.2 _ (List.mem_of_getElem? (i := 40) rfl)
theorem W_r38_3 (hW : WD sh r) : r 38 3 = some 45 := hW.2 _ (List.mem_of_getElem? (i := 41) rfl)
theorem W_r39_2 (hW : WD sh r) : r 39 2 = some 40 := hW.2 _ (List.mem_of_getElem? (i := 42) rfl)
theorem W_r41_2 (hW : WD sh r) : r 41 2 = some 42 := hW.2 _ (List.mem_of_getElem? (i := 43) rfl)
theorem W_r43_2 (hW : WD sh r) : r 43 2 = some 44 := hW.2 _ (List.mem_of_getElem? (i := 44) rfl)
theorem W_r45_2 (hW : WD sh r) : r 45 2 = some 46 := hW.2 _ (List.mem_of_getElem? (i := 45) rfl)
theorem W_r47_0 (hW : WD sh r) : r 47 0 = some 48 := hW.2 _ (List.mem_of_getElem? (i := 46) rfl)
theorem W_r47_1 (hW : WD sh r) : r 47 1 = some 49 := hW.2 _ (List.mem_of_getElem? (i := 47) rfl)
theorem W_r50_1 (hW : WD sh r) : r 50 1 = some 51 := hW.2 _ (List.mem_of_getElem? (i := 48) rfl)
theorem W_r50_2 (hW : WD sh r) : r 50 2 = some 52 := hW.2 _ (List.mem_of_getElem? (i := 49) rfl)
theorem W_r50_3 (hW : WD sh r) : r 50 3 = some 53 := hW.2 _ (List.mem_of_getElem? (i := 50) rfl)
theorem W_r50_4 (hW : WD sh r) : r 50 4 = some 54 := hW.2 _ (List.mem_of_getElem? (i := 51) rfl)
theorem W_r50_7 (hW : WD sh r) : r 50 7 = some 55 := hW.2 _ (List.mem_of_getElem? (i := 52) rfl)
theorem W_r50_9 (hW : WD sh r) : r 50 9 = some 56 := hW.2 _ (List.mem_of_getElem? (i := 53) rfl)
theorem W_r50_10 (hW : WD sh r) : r 50 10 = some 57 := hW.2 _ (List.mem_of_getElem? (i := 54) rfl)
theorem W_r50_14 (hW : WD sh r) : r 50 14 = some 58 := hW.2 _ (List.mem_of_getElem? (i := 55) rfl)
theorem W_r50_15 (hW : WD sh r) : r 50 15 = some 59 := hW.2 _ (List.mem_of_getElem? (i := 56) rfl)
theorem W_r50_16 (hW : WD sh r) : r 50 16 = some 60 := hW.2 _ (List.mem_of_getElem? (i := 57) rfl)
theorem W_r50_17 (hW : WD sh r) : r 50 17 = some 61 := hW.2 _ (List.mem_of_getElem? (i := 58) rfl)
theorem W_r50_18 (hW : WD sh r) : r 50 18 = some 62 := hW.2 _ (List.mem_of_getElem? (i := 59) rfl)
theorem W_r50_19 (hW : WD sh r) : r 50 19 = some 63 := hW.2 _ (List.mem_of_getElem? (i := 60) rfl)
theorem W_r50_24 (hW : WD sh r) : r 50 24 = some 64 := hW.2 _ (List.mem_of_getElem? (i := 61) rfl)
theorem W_r50_25 (hW : WD sh r) : r 50 25 = some 65 := hW.2 _ (List.mem_of_getElem? (i := 62) rfl)
theorem W_r50_29 (hW : WD sh r) : r 50 29 = some 66 := hW.2 _ (List.mem_of_getElem? (i := 63) rfl)
theorem W_r50_30 (hW : WD sh r) : r 50 30 = some 67 := hW.2 _ (List.mem_of_getElem? (i := 64) rfl)
theorem W_r50_31 (hW : WD sh r) : r 50 31 = some 68 := hW.2 _ (List.mem_of_getElem? (i := 65) rfl)
theorem W_r50_33 (hW : WD sh r) : r 50 33 = some 69 := hW.2 _ (List.mem_of_getElem? (i := 66) rfl)
theorem W_r50_34 (hW : WD sh r) : r 50 34 = some 70 := hW.2 _ (List.mem_of_getElem? (i := 67) rfl)
theorem F_s0 (hF : isF sh r f) : sh[f]? = some (0, 11) := hF.1
theorem F_s1 (hF : isF sh r f) : sh[f + 1]? = some (20, 10) := hF.2.1
theorem F_s2 (hF : isF sh r f) : sh[f + 2]? = some (20, 6) := hF.2.2.1
theorem F_s3 (hF : isF sh r f) : sh[f + 3]? = some (20, 6) := hF.2.2.2.1
theorem F_s4 (hF : isF sh r f) : sh[f + 4]? = some (20, 6) := hF.2.2.2.2.1
theorem F_s5 (hF : isF sh r f) : sh[f + 5]? = some (20, 6) := hF.2.2.2.2.2.1
theorem F_s6 (hF : isF sh r f) : sh[f + 6]? = some (20, 6) := hF.2.2.2.2.2.2.1
theorem F_s7 (hF : isF sh r f) : sh[f + 7]? = some (20, 6) := hF.2.2.2.2.2.2.2.1
theorem F_r0 (hF : isF sh r f) : r f 0 = some (f + 1) := hF.2.2.2.2.2.2.2.2.1
theorem F_r5 (hF : isF sh r f) : r f 5 = some (f + 2) := hF.2.2.2.2.2.2.2.2.2.1
theorem F_r6 (hF : isF sh r f) : r f 6 = some (f + 3) := hF.2.2.2.2.2.2.2.2.2.2.1
theorem F_r7 (hF : isF sh r f) : r f 7 = some (f + 4) := hF.2.2.2.2.2.2.2.2.2.2.2.1
theorem F_r8 (hF : isF sh r f) : r f 8 = some (f + 5) := hF.2.2.2.2.2.2.2.2.2.2.2.2.1
theorem F_r9 (hF : isF sh r f) : r f 9 = some (f + 6) := hF.2.2.2.2.2.2.2.2.2.2.2.2.2.1
theorem F_r10 (hF : isF sh r f) : r f 10 = some (f + 7) := hF.2.2.2.2.2.2.2.2.2.2.2.2.2.2
theorem W_F1 (hW : WD sh r) : isF sh r 1 := ⟨W_s1 hW, W_s2 hW, W_s3 hW, W_s4 hW, W_s5 hW, W_s6 hW, W_s7 hW, W_s8 hW, W_r1_0 hW, W_r1_5 hW, W_r1_6 hW, W_r1_7 hW, W_r1_8 hW, W_r1_9 hW, W_r1_10 hW⟩
theorem W_F9 (hW : WD sh r) : isF sh r 9 := ⟨W_s9 hW, W_s10 hW, W_s11 hW, W_s12 hW, W_s13 hW, W_s14 hW, W_s15 hW, W_s16 hW, W_r9_0 hW, W_r9_5 hW, W_r9_6 hW, W_r9_7 hW, W_r9_8 hW, W_r9_9 hW, W_r9_10 hW⟩
theorem W_F17 (hW : WD sh r) : isF sh r 17 := ⟨W_s17 hW, W_s18 hW, W_s19 hW, W_s20 hW, W_s21 hW, W_s22 hW, W_s23 hW, W_s24 hW, W_r17_0 hW, W_r17_5 hW, W_r17_6 hW, W_r17_7 hW, W_r17_8 hW, W_r17_9 hW, W_r17_10 hW⟩
theorem W_S39 (hW : WD sh r) : isS sh r 39 := ⟨W_s39 hW, W_s40 hW, W_r39_2 hW⟩
theorem W_S41 (hW : WD sh r) : isS sh r 41 := ⟨W_s41 hW, W_s42 hW, W_r41_2 hW⟩
theorem W_S43 (hW : WD sh r) : isS sh r 43 := ⟨W_s43 hW, W_s44 hW, W_r43_2 hW⟩
theorem W_S45 (hW : WD sh r) : isS sh r 45 := ⟨W_s45 hW, W_s46 hW, W_r45_2 hW⟩
end WD
