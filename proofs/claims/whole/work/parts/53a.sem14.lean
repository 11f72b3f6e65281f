/-! steps of the told seasons' loops -/
theorem MA_kd0 {φ : g_Fo} {a : Nat → Nat → Int32} {p x k : Nat} (h : MA (fu φ 1 p x) a) : MA (fu φ 1 p k) (up2 (up2 a 51 p (nI k)) 52 p (nI (φ 2 p))) := by
  have h1 := MA_setmo (p := p) (v := φ 2 p) (MA_setki (p := p) (v := k) h)
  rw [fu_fu] at h1
  have e : fu (fu φ 1 p k) 2 p (φ 2 p) = fu φ 1 p k := fu_id (fu φ 1 p k) 2 p
  rw [e] at h1
  exact h1
theorem MA_kd1 {φ : g_Fo} {a : Nat → Nat → Int32} {p x k : Nat} (h : MA (fu φ 2 p x) a) : MA (fu φ 2 p k) (up2 (up2 a 51 p (nI (φ 1 p))) 52 p (nI k)) := by
  have h1 := MA_setmo (p := p) (v := k) (MA_setki (p := p) (v := φ 1 p) h)
  have e : fu (fu φ 2 p x) 1 p (φ 1 p) = fu φ 2 p x := fu_id (fu φ 2 p x) 1 p
  rw [e, fu_fu] at h1
  exact h1
theorem MA_ca2 {φ : g_Fo} {a : Nat → Nat → Int32} {p x k : Nat} (h : MA (fu φ 5 p x) a) : MA (fu φ 5 p k) (up2 a 53 (4 * p + 1) (nI k)) := by
  have h1 := MA_setca (p := p) (v := k) h
  rw [fu_fu] at h1
  exact h1
theorem MA_ho2 {φ : g_Fo} {a : Nat → Nat → Int32} {p x k : Nat} (h : MA (fu φ 3 p x) a) : MA (fu φ 3 p k) (up2 a 53 (4 * p) (nI k)) := by
  have h1 := MA_setho (p := p) (v := k) h
  rw [fu_fu] at h1
  exact h1
theorem MA_la2 {φ : g_Fo} {a : Nat → Nat → Int32} {x k : Nat} (h : MA (fu φ 7 2 x) a) : MA (fu φ 7 2 k) (up2 a 50 12 (nI k)) := by
  have h1 := MA_setla (v := k) h
  rw [fu_fu] at h1
  exact h1
theorem MA_fid {φ : g_Fo} {a : Nat → Nat → Int32} {i j : Nat} (h : MA (fu φ i j (φ i j)) a) : MA φ a := by rw [fu_id] at h; exact h
theorem MA_fdi {φ : g_Fo} {a : Nat → Nat → Int32} {i j : Nat} (h : MA φ a) : MA (fu φ i j (φ i j)) a := by rw [fu_id]; exact h
theorem spi_z {b : Nat} (hb : b < 2147483648) (h : spi b = -1) : b = 0 := by
  rcases Nat.eq_zero_or_pos b with z | z
  · exact z
  · rw [spi, if_neg (by omega)] at h
    exact absurd h (nI_nem1 (by omega))
theorem spi_s (k : Nat) : spi (k + 1) = nI k := by rw [spi, if_neg (by omega), Nat.add_sub_cancel]
theorem lstB_y {T : Nat → Bool} {k : Nat} (h0 : lstB T k = 0) (h : T k = true) : lstB T (k + 1) = k + 1 := by rw [lstB, if_pos h0, if_pos h]
theorem lstB_n {T : Nat → Bool} {k : Nat} (h : T k = false) : lstB T (k + 1) = lstB T k := by
  rw [lstB]
  split
  · next q => rw [if_neg (by rw [h]; decide), q]
  · rfl
theorem lstB_o {T : Nat → Bool} {k : Nat} (h : lstB T k ≠ 0) : lstB T (k + 1) = lstB T k := by rw [lstB, if_neg h]
theorem ok1_t {ts cd φ : g_Fo} {p n : Nat} {f g : Nat → Int32} (h : unl ts cd p f g n 0 φ = -1) : ok1 ts cd p f g n φ = true := decide_eq_true h
theorem ok1_f {ts cd φ : g_Fo} {p n : Nat} {f g : Nat → Int32} (h : ¬ unl ts cd p f g n 0 φ = -1) : ok1 ts cd p f g n φ = false := decide_eq_false h
theorem fitB_y {T : Nat → Bool} {k : Nat} (h : T k = true) : fitB T k ||| 2 ^ k = fitB T (k + 1) := by rw [fitB, if_pos h]
theorem fitB_n {T : Nat → Bool} {k : Nat} (h : T k = false) : fitB T k = fitB T (k + 1) := by rw [fitB, if_neg (by rw [h]; decide), Nat.or_zero]
theorem fitB_n0 {T : Nat → Bool} {k : Nat} (h : T k = false) : fitB T k ||| 0 = fitB T (k + 1) := by rw [fitB, if_neg (by rw [h]; decide)]
theorem cntB_y {T : Nat → Bool} {k : Nat} (h : T k = true) : cntB T k + 1 = cntB T (k + 1) := by rw [cntB, if_pos h]
theorem cntB_n {T : Nat → Bool} {k : Nat} (h : T k = false) : cntB T k = cntB T (k + 1) := by rw [cntB, if_neg (by rw [h]; decide), Nat.add_zero]
