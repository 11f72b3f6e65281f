/-! the start of the law, in layer G -/
theorem us_0 : ∀ k, k < 11 → u_lay RX0 TX0 k ∈ lw_tbl
  | 0, _ => List.mem_append_right _ (ck_1_4 _ (List.mem_of_getElem? (i := 1) rfl))
  | 1, _ => List.mem_append_right _ (ck_1_4 _ (List.mem_of_getElem? (i := 3) rfl))
  | 2, _ => List.mem_append_right _ (ck_1_4 _ (List.mem_of_getElem? (i := 5) rfl))
  | 3, _ => List.mem_append_right _ (ck_1_4 _ (List.mem_of_getElem? (i := 7) rfl))
  | 4, _ => List.mem_append_right _ (ck_1_4 _ (List.mem_of_getElem? (i := 9) rfl))
  | 5, _ => List.mem_append_right _ (ck_1_4 _ (List.mem_of_getElem? (i := 11) rfl))
  | 6, _ => List.mem_append_right _ (ck_1_4 _ (List.mem_of_getElem? (i := 13) rfl))
  | 7, _ => List.mem_append_right _ (ck_1_4 _ (List.mem_of_getElem? (i := 15) rfl))
  | 8, _ => List.mem_append_right _ (ck_1_5 _ (List.mem_of_getElem? (i := 1) rfl))
  | 9, _ => List.mem_append_right _ (ck_1_5 _ (List.mem_of_getElem? (i := 3) rfl))
  | 10, _ => List.mem_append_right _ (ck_1_5 _ (List.mem_of_getElem? (i := 5) rfl))
  | n + 11, h => absurd h (by omega)
theorem uw_0 : ∀ w ∈ u_ws RX0 TX0 11, w ∈ lw_tbl := fun w hw => by
  obtain ⟨k, hk, rfl⟩ := List.mem_map.mp hw
  exact us_0 k (List.mem_range.mp hk)
theorem us_1 : ∀ k, k < 1 → u_lay RX1 TX1 k ∈ lw_tbl
  | 0, _ => List.mem_append_right _ (ck_1_10 _ (List.mem_of_getElem? (i := 13) rfl))
  | n + 1, h => absurd h (by omega)
theorem uw_1 : ∀ w ∈ u_ws RX1 TX1 1, w ∈ lw_tbl := fun w hw => by
  obtain ⟨k, hk, rfl⟩ := List.mem_map.mp hw
  exact us_1 k (List.mem_range.mp hk)
theorem us_2 : ∀ k, k < 11 → u_lay RX2 TX2 k ∈ lw_tbl
  | 0, _ => List.mem_append_right _ (ck_1_6 _ (List.mem_of_getElem? (i := 11) rfl))
  | 1, _ => List.mem_append_right _ (ck_1_6 _ (List.mem_of_getElem? (i := 13) rfl))
  | 2, _ => List.mem_append_right _ (ck_1_6 _ (List.mem_of_getElem? (i := 15) rfl))
  | 3, _ => List.mem_append_right _ (ck_1_7 _ (List.mem_of_getElem? (i := 1) rfl))
  | 4, _ => List.mem_append_right _ (ck_1_7 _ (List.mem_of_getElem? (i := 3) rfl))
  | 5, _ => List.mem_append_right _ (ck_1_7 _ (List.mem_of_getElem? (i := 5) rfl))
  | 6, _ => List.mem_append_right _ (ck_1_7 _ (List.mem_of_getElem? (i := 7) rfl))
  | 7, _ => List.mem_append_right _ (ck_1_7 _ (List.mem_of_getElem? (i := 9) rfl))
  | 8, _ => List.mem_append_right _ (ck_1_7 _ (List.mem_of_getElem? (i := 11) rfl))
  | 9, _ => List.mem_append_right _ (ck_1_7 _ (List.mem_of_getElem? (i := 13) rfl))
  | 10, _ => List.mem_append_right _ (ck_1_7 _ (List.mem_of_getElem? (i := 15) rfl))
  | n + 11, h => absurd h (by omega)
theorem uw_2 : ∀ w ∈ u_ws RX2 TX2 11, w ∈ lw_tbl := fun w hw => by
  obtain ⟨k, hk, rfl⟩ := List.mem_map.mp hw
  exact us_2 k (List.mem_range.mp hk)
theorem us_3 : ∀ k, k < 4 → u_lay RX3 TX3 k ∈ lw_tbl
  | 0, _ => List.mem_append_right _ (ck_1_8 _ (List.mem_of_getElem? (i := 15) rfl))
  | 1, _ => List.mem_append_right _ (ck_1_9 _ (List.mem_of_getElem? (i := 1) rfl))
  | 2, _ => List.mem_append_right _ (ck_1_9 _ (List.mem_of_getElem? (i := 3) rfl))
  | 3, _ => List.mem_append_right _ (ck_1_9 _ (List.mem_of_getElem? (i := 5) rfl))
  | n + 4, h => absurd h (by omega)
theorem uw_3 : ∀ w ∈ u_ws RX3 TX3 4, w ∈ lw_tbl := fun w hw => by
  obtain ⟨k, hk, rfl⟩ := List.mem_map.mp hw
  exact us_3 k (List.mem_range.mp hk)
theorem us_4 : ∀ k, k < 3 → u_lay RX4 TX4 k ∈ lw_tbl
  | 0, _ => List.mem_append_right _ (ck_1_11 _ (List.mem_of_getElem? (i := 13) rfl))
  | 1, _ => List.mem_append_right _ (ck_1_11 _ (List.mem_of_getElem? (i := 15) rfl))
  | 2, _ => List.mem_append_right _ (ck_1_12 _ (List.mem_of_getElem? (i := 1) rfl))
  | n + 3, h => absurd h (by omega)
theorem uw_4 : ∀ w ∈ u_ws RX4 TX4 3, w ∈ lw_tbl := fun w hw => by
  obtain ⟨k, hk, rfl⟩ := List.mem_map.mp hw
  exact us_4 k (List.mem_range.mp hk)
theorem us_5 : ∀ k, k < 2 → u_lay RX5 TX5 k ∈ lw_tbl
  | 0, _ => List.mem_append_right _ (ck_2_6 _ (List.mem_of_getElem? (i := 14) rfl))
  | 1, _ => List.mem_append_right _ (ck_2_7 _ (List.mem_of_getElem? (i := 0) rfl))
  | n + 2, h => absurd h (by omega)
theorem uw_5 : ∀ w ∈ u_ws RX5 TX5 2, w ∈ lw_tbl := fun w hw => by
  obtain ⟨k, hk, rfl⟩ := List.mem_map.mp hw
  exact us_5 k (List.mem_range.mp hk)
theorem us_6 : ∀ k, k < 2 → u_lay RX6 TX6 k ∈ lw_tbl
  | 0, _ => List.mem_append_right _ (ck_1_10 _ (List.mem_of_getElem? (i := 1) rfl))
  | 1, _ => List.mem_append_right _ (ck_1_10 _ (List.mem_of_getElem? (i := 3) rfl))
  | n + 2, h => absurd h (by omega)
theorem uw_6 : ∀ w ∈ u_ws RX6 TX6 2, w ∈ lw_tbl := fun w hw => by
  obtain ⟨k, hk, rfl⟩ := List.mem_map.mp hw
  exact us_6 k (List.mem_range.mp hk)
theorem us_7 : ∀ k, k < 9 → u_lay RX7 TX7 k ∈ lw_tbl
  | 0, _ => List.mem_append_right _ (ck_2_8 _ (List.mem_of_getElem? (i := 5) rfl))
  | 1, _ => List.mem_append_right _ (ck_2_8 _ (List.mem_of_getElem? (i := 7) rfl))
  | 2, _ => List.mem_append_right _ (ck_2_8 _ (List.mem_of_getElem? (i := 9) rfl))
  | 3, _ => List.mem_append_right _ (ck_2_8 _ (List.mem_of_getElem? (i := 11) rfl))
  | 4, _ => List.mem_append_right _ (ck_2_8 _ (List.mem_of_getElem? (i := 13) rfl))
  | 5, _ => List.mem_append_right _ (ck_2_8 _ (List.mem_of_getElem? (i := 15) rfl))
  | 6, _ => List.mem_append_right _ (ck_2_9 _ (List.mem_of_getElem? (i := 1) rfl))
  | 7, _ => List.mem_append_right _ (ck_2_9 _ (List.mem_of_getElem? (i := 3) rfl))
  | 8, _ => List.mem_append_right _ (ck_2_9 _ (List.mem_of_getElem? (i := 5) rfl))
  | n + 9, h => absurd h (by omega)
theorem uw_7 : ∀ w ∈ u_ws RX7 TX7 9, w ∈ lw_tbl := fun w hw => by
  obtain ⟨k, hk, rfl⟩ := List.mem_map.mp hw
  exact us_7 k (List.mem_range.mp hk)
theorem us_8 : ∀ k, k < 36 → u_lay RX8 TX8 k ∈ lw_tbl
  | 0, _ => List.mem_append_right _ (ck_4_8 _ (List.mem_of_getElem? (i := 13) rfl))
  | 1, _ => List.mem_append_right _ (ck_4_8 _ (List.mem_of_getElem? (i := 15) rfl))
  | 2, _ => List.mem_append_right _ (ck_4_9 _ (List.mem_of_getElem? (i := 1) rfl))
  | 3, _ => List.mem_append_right _ (ck_4_9 _ (List.mem_of_getElem? (i := 3) rfl))
  | 4, _ => List.mem_append_right _ (ck_4_9 _ (List.mem_of_getElem? (i := 5) rfl))
  | 5, _ => List.mem_append_right _ (ck_4_9 _ (List.mem_of_getElem? (i := 7) rfl))
  | 6, _ => List.mem_append_right _ (ck_4_9 _ (List.mem_of_getElem? (i := 9) rfl))
  | 7, _ => List.mem_append_right _ (ck_4_9 _ (List.mem_of_getElem? (i := 11) rfl))
  | 8, _ => List.mem_append_right _ (ck_4_9 _ (List.mem_of_getElem? (i := 13) rfl))
  | 9, _ => List.mem_append_right _ (ck_4_9 _ (List.mem_of_getElem? (i := 15) rfl))
  | 10, _ => List.mem_append_right _ (ck_4_10 _ (List.mem_of_getElem? (i := 1) rfl))
  | 11, _ => List.mem_append_right _ (ck_4_10 _ (List.mem_of_getElem? (i := 3) rfl))
  | 12, _ => List.mem_append_right _ (ck_4_10 _ (List.mem_of_getElem? (i := 5) rfl))
  | 13, _ => List.mem_append_right _ (ck_4_10 _ (List.mem_of_getElem? (i := 7) rfl))
  | 14, _ => List.mem_append_right _ (ck_4_10 _ (List.mem_of_getElem? (i := 9) rfl))
  | 15, _ => List.mem_append_right _ (ck_4_10 _ (List.mem_of_getElem? (i := 11) rfl))
  | 16, _ => List.mem_append_right _ (ck_4_10 _ (List.mem_of_getElem? (i := 13) rfl))
  | 17, _ => List.mem_append_right _ (ck_4_10 _ (List.mem_of_getElem? (i := 15) rfl))
  | 18, _ => List.mem_append_right _ (ck_4_11 _ (List.mem_of_getElem? (i := 1) rfl))
  | 19, _ => List.mem_append_right _ (ck_4_11 _ (List.mem_of_getElem? (i := 3) rfl))
  | 20, _ => List.mem_append_right _ (ck_4_11 _ (List.mem_of_getElem? (i := 5) rfl))
  | 21, _ => List.mem_append_right _ (ck_4_11 _ (List.mem_of_getElem? (i := 7) rfl))
  | 22, _ => List.mem_append_right _ (ck_4_11 _ (List.mem_of_getElem? (i := 9) rfl))
  | 23, _ => List.mem_append_right _ (ck_4_11 _ (List.mem_of_getElem? (i := 11) rfl))
  | 24, _ => List.mem_append_right _ (ck_4_11 _ (List.mem_of_getElem? (i := 13) rfl))
  | 25, _ => List.mem_append_right _ (ck_4_11 _ (List.mem_of_getElem? (i := 15) rfl))
  | 26, _ => List.mem_append_right _ (ck_4_12 _ (List.mem_of_getElem? (i := 1) rfl))
  | 27, _ => List.mem_append_right _ (ck_4_12 _ (List.mem_of_getElem? (i := 3) rfl))
  | 28, _ => List.mem_append_right _ (ck_4_12 _ (List.mem_of_getElem? (i := 5) rfl))
  | 29, _ => List.mem_append_right _ (ck_4_12 _ (List.mem_of_getElem? (i := 7) rfl))
  | 30, _ => List.mem_append_right _ (ck_4_12 _ (List.mem_of_getElem? (i := 9) rfl))
  | 31, _ => List.mem_append_right _ (ck_4_12 _ (List.mem_of_getElem? (i := 11) rfl))
  | 32, _ => List.mem_append_right _ (ck_4_12 _ (List.mem_of_getElem? (i := 13) rfl))
  | 33, _ => List.mem_append_right _ (ck_4_12 _ (List.mem_of_getElem? (i := 15) rfl))
  | 34, _ => List.mem_append_right _ (ck_4_13 _ (List.mem_of_getElem? (i := 1) rfl))
  | 35, _ => List.mem_append_right _ (ck_4_13 _ (List.mem_of_getElem? (i := 3) rfl))
  | n + 36, h => absurd h (by omega)
theorem uw_8 : ∀ w ∈ u_ws RX8 TX8 36, w ∈ lw_tbl := fun w hw => by
  obtain ⟨k, hk, rfl⟩ := List.mem_map.mp hw
  exact us_8 k (List.mem_range.mp hk)
section START
variable {s : State} {args : Array Value}
theorem s_K (hts : ∀ w ∈ lw_tbl, w.before args s = true) : ∃ (D : va_G) (cs : Nat → ClassId), va_K D vwCl (g_tys cs) s := by
  obtain ⟨c0, i0, h0⟩ := u_known (C := RX0) (T := TX0) (N := 11) hts uw_0 (hts _ (List.mem_append_right _ (ck_1_1 _ (List.mem_of_getElem? (i := 10) rfl))))
  obtain ⟨c1, i1, h1⟩ := u_known (C := RX1) (T := TX1) (N := 1) hts uw_1 (hts _ (List.mem_append_right _ (ck_1_10 _ (List.mem_of_getElem? (i := 7) rfl))))
  obtain ⟨c2, i2, h2⟩ := u_known (C := RX2) (T := TX2) (N := 11) hts uw_2 (hts _ (List.mem_append_right _ (ck_1_5 _ (List.mem_of_getElem? (i := 10) rfl))))
  obtain ⟨c3, i3, h3⟩ := u_known (C := RX3) (T := TX3) (N := 4) hts uw_3 (hts _ (List.mem_append_right _ (ck_1_8 _ (List.mem_of_getElem? (i := 3) rfl))))
  obtain ⟨c4, i4, h4⟩ := u_known (C := RX4) (T := TX4) (N := 3) hts uw_4 (hts _ (List.mem_append_right _ (ck_1_11 _ (List.mem_of_getElem? (i := 2) rfl))))
  obtain ⟨c5, i5, h5⟩ := u_known (C := RX5) (T := TX5) (N := 2) hts uw_5 (hts _ (List.mem_append_right _ (ck_2_5 _ (List.mem_of_getElem? (i := 13) rfl))))
  obtain ⟨c6, i6, h6⟩ := u_known (C := RX6) (T := TX6) (N := 2) hts uw_6 (hts _ (List.mem_append_right _ (ck_1_9 _ (List.mem_of_getElem? (i := 9) rfl))))
  obtain ⟨c7, i7, h7⟩ := u_known (C := RX7) (T := TX7) (N := 9) hts uw_7 (hts _ (List.mem_append_right _ (ck_1_1 _ (List.mem_of_getElem? (i := 2) rfl))))
  obtain ⟨c8, i8, h8⟩ := u_known (C := RX8) (T := TX8) (N := 36) hts uw_8 (hts _ (List.mem_append_right _ (ck_4_3 _ (List.mem_of_getElem? (i := 5) rfl))))
  obtain ⟨k20, kA, comp, a1, a2, a3⟩ := Cond.arrayClass_spec (hts _ (List.mem_append_right _ (ck_1_5 _ (List.mem_of_getElem? (i := 8) rfl))))
  obtain ⟨comp1, k21, kB, b1, b2, b3, b4, b5⟩ := Cond.arrayOver_spec (hts _ (List.mem_append_right _ (ck_1_11 _ (List.mem_of_getElem? (i := 1) rfl))))
  obtain ⟨comp2, k22, kC, d1, d2, d3, d4, d5⟩ := Cond.arrayOver_spec (hts _ (List.mem_append_right _ (ck_1_8 _ (List.mem_of_getElem? (i := 9) rfl))))
  refine ⟨(fun k => match k with | 0 => c0 | 1 => c1 | 2 => c2 | 3 => c3 | 4 => c4 | 5 => c5 | 6 => c6 | 7 => c7 | _ => c8, fun k => match k with | 0 => i0 | 1 => i1 | 2 => i2 | 3 => i3 | 4 => i4 | 5 => i5 | 6 => i6 | 7 => i7 | _ => i8), fun k => match k with | 20 => k20 | 21 => k21 | _ => k22, fun c q hq => ?_, fun k q hq => ?_⟩
  · match c, hq with
    | 0, hq => cases hq; exact h0
    | 1, hq => cases hq; exact h1
    | 2, hq => cases hq; exact h2
    | 3, hq => cases hq; exact h3
    | 4, hq => cases hq; exact h4
    | 5, hq => cases hq; exact h5
    | 6, hq => cases hq; exact h6
    | 7, hq => cases hq; exact h7
    | 8, hq => cases hq; exact h8
    | c + 9, hq => simp [vwCl] at hq
  · match k, hq with
    | 0, hq =>
      cases hq
      exact ⟨fun n z => ⟨fun k h => (by cases h), kA, a2, comp, a3⟩, a1⟩
    | 1, hq =>
      cases hq
      exact ⟨fun n z => ⟨fun k h => (by cases h), kB, b3, comp1, b4⟩, kB, comp1, b3, b4, b1, b5⟩
    | 2, hq =>
      cases hq
      exact ⟨fun n z => ⟨fun k h => (by cases h), kC, d3, comp2, d4⟩, kC, comp2, d3, d4, d1, d5⟩
    | k + 3, hq => simp [g_tys] at hq
def tmS (q : Nat) : Term := if q = 0 then .string RX7 61 else .string RX2 ([0, 83, 89, 91, 93, 95, 97, 99, 101, 103, 105, 107, 109].getD q 0)
def pEx : List Nat := [27, 66, 78, 88, 100, 110, 122, 135, 152, 167, 183, 202, 220]
def pCo : List Nat := [28, 67, 79, 89, 101, 111, 123, 136, 153, 168, 184, 203, 221]
def pAr : List Nat := [29, 68, 80, 90, 102, 112, 124, 137, 154, 169, 185, 204, 222]
def pLe : List Nat := [30, 69, 81, 91, 103, 113, 125, 138, 155, 170, 186, 205, 223]
def pEl : List (List Nat) := [[31, 32, 33, 34, 35, 36, 37, 38, 39, 40, 41, 42, 43, 44, 45, 46, 47, 48, 49, 50, 51, 52, 53, 54, 55, 56, 57, 58, 59, 60, 61, 62, 63, 64, 65], [70, 71, 72, 73, 74, 75, 76], [82, 83, 84, 85], [92, 93, 94, 95, 96], [104, 105], [114, 115, 116], [126, 127, 128], [139, 140, 141, 142, 143, 144], [156, 157, 158], [171, 172, 173], [187, 188, 189, 190, 191], [206, 207, 208], [224, 225, 226, 227]]
def pNe : List (List Nat) := [[0, 77, 86, 97, 106, 117, 129, 145, 159, 174, 192, 209, 228], [77, 0, 87, 98, 107, 118, 130, 146, 160, 175, 193, 210, 229], [86, 87, 0, 99, 108, 119, 131, 147, 161, 176, 194, 211, 230], [97, 98, 99, 0, 109, 120, 132, 148, 162, 177, 195, 212, 231], [106, 107, 108, 109, 0, 121, 133, 149, 163, 178, 196, 213, 232], [117, 118, 119, 120, 121, 0, 134, 150, 164, 179, 197, 214, 233], [129, 130, 131, 132, 133, 134, 0, 151, 165, 180, 198, 215, 234], [145, 146, 147, 148, 149, 150, 151, 0, 166, 181, 199, 216, 235], [159, 160, 161, 162, 163, 164, 165, 166, 0, 182, 200, 217, 236], [174, 175, 176, 177, 178, 179, 180, 181, 182, 0, 201, 218, 237], [192, 193, 194, 195, 196, 197, 198, 199, 200, 201, 0, 219, 238], [209, 210, 211, 212, 213, 214, 215, 216, 217, 218, 219, 0, 239], [228, 229, 230, 231, 232, 233, 234, 235, 236, 237, 238, 239, 0]]
def flN : List Cond := flatC (Jvm.Cond.and given_1 narrow_1)
theorem fl_ex : ∀ i, i < 13 → flN[pEx.getD i 0]? = some (Cond.exactly (tmS i) "java/lang/String") := by decide +kernel
theorem fl_co : ∀ i, i < 13 → flN[pCo.getD i 0]? = some (Cond.eq (.field (tmS i) "java/lang/String" "coder" "B") (.int 0)) := by decide +kernel
theorem fl_ar : ∀ i, i < 13 → flN[pAr.getD i 0]? = some (Cond.arrayOf (.field (tmS i) "java/lang/String" "value" "[B") .byte) := by decide +kernel
theorem fl_le : ∀ i, i < 13 → flN[pLe.getD i 0]? = some (Cond.eq (.length (.field (tmS i) "java/lang/String" "value" "[B")) (.int (Int32.ofNat (g_slen.getD i 0)))) := by decide +kernel
theorem fl_el : ∀ i, i < 13 → ∀ j, j < g_slen.getD i 0 → flN[(pEl.getD i []).getD j 0]? = some (Cond.eq (.elem (.field (tmS i) "java/lang/String" "value" "[B") (.int (Int32.ofNat j))) (.int ((g_sbyt.getD i []).getD j 0))) := by decide +kernel
theorem fl_ne : ∀ i, i < 13 → ∀ j, j < 13 → i ≠ j → flN[(pNe.getD i []).getD j 0]? = some (Cond.not (Cond.eq (tmS i) (tmS j))) ∨ flN[(pNe.getD i []).getD j 0]? = some (Cond.not (Cond.eq (tmS j) (tmS i))) := by decide +kernel
theorem s_str {A : Nat → Prop} (hgv : (Jvm.Cond.and given_1 narrow_1).before args s = true) (hA : ∀ a : Nat, a < s.heap.size → ¬ A a) : ∃ adK adV : Nat → Nat, vk_S 13 g_slen g_sbyt adK adV A s s.heap ∧ ∀ i : Nat, i < 13 → (tmS i).eval args s none [] s = some (.ref (adK i)) := by
  have hf : ∀ w ∈ flN, w.before args s = true := flat_of_before _ hgv
  refine vk_Sof (by decide) (fun i hi => hf _ (List.mem_of_getElem? (fl_ex i hi))) (fun i hi => hf _ (List.mem_of_getElem? (fl_co i hi))) (fun i hi => hf _ (List.mem_of_getElem? (fl_ar i hi))) (fun i hi => hf _ (List.mem_of_getElem? (fl_le i hi))) (fun i hi j hj => hf _ (List.mem_of_getElem? (fl_el i hi j hj))) (fun i j hi hj hij => ?_) hA
  rcases fl_ne i hi j hj hij with h | h
  · exact Or.inl (hf _ (List.mem_of_getElem? h))
  · exact Or.inr (hf _ (List.mem_of_getElem? h))
theorem fl_si : flN[5]? = some (Cond.isRef (.static "jdk/internal/util/Preconditions" "SIOOBE_FORMATTER" "Ljava/util/function/BiFunction;")) := by decide +kernel
theorem fl_cs : flN[4]? = some (Cond.eq (.static "java/lang/String" "COMPACT_STRINGS" "Z") (.int 1)) := by decide +kernel
/-- the constants' values -/
def aKf (adK adV : Nat → Nat) (v : Value) (b : Nat) (k : Nat) : Value := if k < 13 then .ref (adK k) else if k < 100 then .null else if k < 113 then .ref (adV (k - 100)) else if k = 200 then v else if k = 300 then .ref b else .null
theorem s_S {A : Nat → Prop} {b : Nat} (hts : ∀ w ∈ lw_tbl, w.before args s = true) (hgv : (Jvm.Cond.and given_1 narrow_1).before args s = true) (hA : ∀ a : Nat, a < s.heap.size → ¬ A a) : ∃ aK : Nat → Value, g_S aK A s s.heap ∧ aK 300 = .ref b := by
  have hf : ∀ w ∈ flN, w.before args s = true := flat_of_before _ hgv
  obtain ⟨adK, adV, hS, hev⟩ := s_str (A := A) hgv hA
  obtain ⟨v, hv, hZ⟩ : ∃ v : Value, (v = .null ∨ ∃ t : Nat, v = .ref t) ∧ va_Z "jdk/internal/util/Preconditions" "SIOOBE_FORMATTER" "Ljava/util/function/BiFunction;" v A s s.heap := by
    rcases va_Zqof (A := A) (hts _ (List.mem_append_right _ (ck_1_13 _ (List.mem_of_getElem? (i := 14) rfl)))) (hts _ (List.mem_append_right _ (ck_1_0 _ (List.mem_of_getElem? (i := 10) rfl)))) (hf _ (List.mem_of_getElem? fl_si)) hA with h | ⟨t, h⟩
    · exact ⟨_, Or.inl rfl, h⟩
    · exact ⟨_, Or.inr ⟨t, rfl⟩, h⟩
  refine ⟨aKf adK adV v b, ⟨⟨adK, adV, hS, fun k hk => ⟨by rw [aKf, if_pos hk], ?_⟩⟩, fun k => ?_, fun q hq => ?_, va_Zof (hts _ (List.mem_append_right _ (ck_1_12 _ (List.mem_of_getElem? (i := 14) rfl)))) (hts _ (List.mem_append_right _ (ck_1_0 _ (List.mem_of_getElem? (i := 8) rfl)))) (va_eqi (hf _ (List.mem_of_getElem? fl_cs))) hA, hZ, fun q hq => ?_, va_Nw.of rfl (hts _ (List.mem_append_right _ (ck_2_6 _ (List.mem_of_getElem? (i := 10) rfl)))), va_AO.of (hts _ (List.mem_append_right _ (ck_1_11 _ (List.mem_of_getElem? (i := 1) rfl)))), va_AO.of (hts _ (List.mem_append_right _ (ck_1_8 _ (List.mem_of_getElem? (i := 9) rfl))))⟩, rfl⟩
  · rw [aKf, if_neg (by omega), if_neg (by omega), if_pos (by omega), Nat.add_sub_cancel_left]
  · rw [aKf]
    split
    · exact ⟨some _, rfl⟩
    · split
      · exact ⟨none, rfl⟩
      · split
        · exact ⟨some _, rfl⟩
        · split
          · rcases hv with rfl | ⟨t, rfl⟩
            · exact ⟨none, rfl⟩
            · exact ⟨some t, rfl⟩
          · split
            · exact ⟨some _, rfl⟩
            · exact ⟨none, rfl⟩
  · simp only [g_strs, List.mem_cons, List.not_mem_nil, or_false] at hq
    rcases hq with rfl | rfl | rfl | rfl | rfl | rfl | rfl | rfl | rfl | rfl | rfl | rfl | rfl
    · exact ⟨adK 0, rfl, vk_R.of (hts _ (List.mem_append_right _ (ck_1_12 _ (List.mem_of_getElem? (i := 4) rfl)))) (hev 0 (by decide))⟩
    · exact ⟨adK 1, rfl, vk_R.of (hts _ (List.mem_append_right _ (ck_2_2 _ (List.mem_of_getElem? (i := 0) rfl)))) (hev 1 (by decide))⟩
    · exact ⟨adK 2, rfl, vk_R.of (hts _ (List.mem_append_right _ (ck_2_2 _ (List.mem_of_getElem? (i := 7) rfl)))) (hev 2 (by decide))⟩
    · exact ⟨adK 3, rfl, vk_R.of (hts _ (List.mem_append_right _ (ck_2_2 _ (List.mem_of_getElem? (i := 8) rfl)))) (hev 3 (by decide))⟩
    · exact ⟨adK 4, rfl, vk_R.of (hts _ (List.mem_append_right _ (ck_2_2 _ (List.mem_of_getElem? (i := 9) rfl)))) (hev 4 (by decide))⟩
    · exact ⟨adK 5, rfl, vk_R.of (hts _ (List.mem_append_right _ (ck_2_2 _ (List.mem_of_getElem? (i := 10) rfl)))) (hev 5 (by decide))⟩
    · exact ⟨adK 6, rfl, vk_R.of (hts _ (List.mem_append_right _ (ck_2_2 _ (List.mem_of_getElem? (i := 11) rfl)))) (hev 6 (by decide))⟩
    · exact ⟨adK 7, rfl, vk_R.of (hts _ (List.mem_append_right _ (ck_2_2 _ (List.mem_of_getElem? (i := 12) rfl)))) (hev 7 (by decide))⟩
    · exact ⟨adK 8, rfl, vk_R.of (hts _ (List.mem_append_right _ (ck_2_2 _ (List.mem_of_getElem? (i := 13) rfl)))) (hev 8 (by decide))⟩
    · exact ⟨adK 9, rfl, vk_R.of (hts _ (List.mem_append_right _ (ck_2_2 _ (List.mem_of_getElem? (i := 14) rfl)))) (hev 9 (by decide))⟩
    · exact ⟨adK 10, rfl, vk_R.of (hts _ (List.mem_append_right _ (ck_2_2 _ (List.mem_of_getElem? (i := 15) rfl)))) (hev 10 (by decide))⟩
    · exact ⟨adK 11, rfl, vk_R.of (hts _ (List.mem_append_right _ (ck_2_3 _ (List.mem_of_getElem? (i := 0) rfl)))) (hev 11 (by decide))⟩
    · exact ⟨adK 12, rfl, vk_R.of (hts _ (List.mem_append_right _ (ck_2_3 _ (List.mem_of_getElem? (i := 1) rfl)))) (hev 12 (by decide))⟩
  · simp only [g_nests, List.mem_cons, List.not_mem_nil, or_false] at hq
    rcases hq with rfl | rfl | rfl | rfl | rfl | rfl | rfl
    · exact va_Nw.of rfl (hts _ (List.mem_append_right _ (ck_1_1 _ (List.mem_of_getElem? (i := 11) rfl))))
    · exact va_Nw.of rfl (hts _ (List.mem_append_right _ (ck_1_5 _ (List.mem_of_getElem? (i := 11) rfl))))
    · exact va_Nw.of rfl (hts _ (List.mem_append_right _ (ck_1_8 _ (List.mem_of_getElem? (i := 4) rfl))))
    · exact va_Nw.of rfl (hts _ (List.mem_append_right _ (ck_1_9 _ (List.mem_of_getElem? (i := 10) rfl))))
    · exact va_Nw.of rfl (hts _ (List.mem_append_right _ (ck_1_10 _ (List.mem_of_getElem? (i := 8) rfl))))
    · exact va_Nw.of rfl (hts _ (List.mem_append_right _ (ck_1_11 _ (List.mem_of_getElem? (i := 3) rfl))))
    · exact va_Nw.of rfl (hts _ (List.mem_append_right _ (ck_3_9 _ (List.mem_of_getElem? (i := 1) rfl))))
end START
