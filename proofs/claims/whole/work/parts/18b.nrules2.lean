-- three rows of kit/laws (starting texts): numbers and bits
theorem fa_and (a b : Nat) : nI a &&& nI b = nI (a &&& b) := by
  apply Int32.toBitVec_inj.1
  show BitVec.ofNat 32 a &&& BitVec.ofNat 32 b = BitVec.ofNat 32 (a &&& b)
  apply BitVec.eq_of_getLsbD_eq
  intro i hi
  simp [hi]
theorem fa_or (a b : Nat) : nI a ||| nI b = nI (a ||| b) := by
  apply Int32.toBitVec_inj.1
  show BitVec.ofNat 32 a ||| BitVec.ofNat 32 b = BitVec.ofNat 32 (a ||| b)
  apply BitVec.eq_of_getLsbD_eq
  intro i hi
  simp [hi]
theorem fb_xorI (a b : Nat) : nI a ^^^ nI b = nI (a ^^^ b) := by
  apply Int32.toBitVec_inj.1
  show BitVec.ofNat 32 a ^^^ BitVec.ofNat 32 b = BitVec.ofNat 32 (a ^^^ b)
  apply BitVec.eq_of_getLsbD_eq
  intro i hi
  simp [hi]
theorem nI_m1 : nI 4294967295 = -1 := by decide
theorem g_smk : ∀ d, d < 32 → ((nI d &&& 31).toBitVec.smod 32).toNat = d := by decide +kernel
theorem g_shr {n d : Nat} (hn : n < 2147483648) (hd : d < 32) : nI n >>> (nI d &&& 31) = nI (n / 2 ^ d) := pk_shrN hn _ d (g_smk d hd)
theorem g_and1 {n : Nat} (hn : n < 4294967296) : nI n &&& nI 1 = nI (n % 2) := by
  have := pk_andN (n := n) hn (m := nI 1) 1 (by decide)
  simpa using this
theorem g_bit {n d : Nat} (hn : n < 2147483648) (hd : d < 32) : (nI n >>> (nI d &&& 31)) &&& nI 1 = bI (n.testBit d) := by
  rw [g_shr hn hd, g_and1 (Nat.lt_of_le_of_lt (Nat.div_le_self _ _) (by omega)), Nat.testBit_eq_decide_div_mod_eq]
  rcases Nat.mod_two_eq_zero_or_one (n / 2 ^ d) with h | h <;> rw [h] <;> rfl
theorem g_shl1 : ∀ d, d < 31 → nI 1 <<< (nI d &&& 31) = nI (2 ^ d) := by decide +kernel
theorem bI_addN {i : Nat} {b : Bool} : nI i + bI b = nI (i + (if b then 1 else 0)) := by cases b <;> simp [bI, nI_add]
def imin (x y : Int32) : Int32 := if y < x then y else x
def imax (x y : Int32) : Int32 := if x < y then y else x
def wth (v lo hi : Int32) : Int32 := if v < lo then lo else if hi < v then hi else v
section GN2
variable {Y : g_Y} {Z : g_Z} {k n pc pc' tgt : Nat} {L : List (Option g_V)} {st rest : List g_V} {sh : List (Nat × Nat)} {a : Nat → Nat → Int32} {r : Nat → Nat → Option Nat} {g : Nat → Nat → Int64} {b idx c j nf i w9 : Nat} {fin : Bool} {x v : Int32} {h h2 : g_H} {bb : Bool}
theorem Gd_iandB {m d : Nat} (hm : m < 2147483648) (hdd : d < 32) (hd : g_D Y pc .iand 1 pc') (kk : Gd Y Z k n pc' L (vi (bI (m.testBit d)) :: st) h) : Gd Y Z k n pc L (vi (nI 1) :: vi (nI m >>> (nI d &&& 31)) :: st) h := Gd_iand hd (by rw [g_bit hm hdd]; exact kk)
theorem Gd_ishl1 {d : Nat} (hdd : d < 31) (hd : g_D Y pc .ishl 1 pc') (kk : Gd Y Z k n pc' L (vi (nI (2 ^ d)) :: st) h) : Gd Y Z k n pc L (vi (nI d) :: vi (nI 1) :: st) h := Gd_ishl hd (by rw [g_shl1 d hdd]; exact kk)
theorem Gd_iorN (hd : g_D Y pc .ior 1 pc') (kk : Gd Y Z k n pc' L (vi (nI (i ||| j)) :: st) h) : Gd Y Z k n pc L (vi (nI j) :: vi (nI i) :: st) h := Gd_ior hd (by rw [fa_or]; exact kk)
theorem Gd_iandN (hd : g_D Y pc .iand 1 pc') (kk : Gd Y Z k n pc' L (vi (nI (i &&& j)) :: st) h) : Gd Y Z k n pc L (vi (nI j) :: vi (nI i) :: st) h := Gd_iand hd (by rw [fa_and]; exact kk)
theorem Gd_ixorN (hd : g_D Y pc .ixor 1 pc') (kk : Gd Y Z k n pc' L (vi (nI (i ^^^ j)) :: st) h) : Gd Y Z k n pc L (vi (nI j) :: vi (nI i) :: st) h := Gd_ixor hd (by rw [fb_xorI]; exact kk)
theorem Gd_ixorM (hd : g_D Y pc .ixor 1 pc') (kk : Gd Y Z k n pc' L (vi (nI (i ^^^ 4294967295)) :: st) h) : Gd Y Z k n pc L (vi (-1) :: vi (nI i) :: st) h := Gd_ixor hd (by rw [← nI_m1, fb_xorI]; exact kk)
theorem Gd_iaddB (hd : g_D Y pc .iadd 1 pc') (kk : Gd Y Z k n pc' L (vi (nI (i + (if bb then 1 else 0))) :: st) h) : Gd Y Z k n pc L (vi (bI bb) :: vi (nI i) :: st) h := Gd_iadd hd (by rw [bI_addN]; exact kk)
theorem Gd_idivN (hi : i < 2147483648) (hj : 0 < j ∧ j < 2147483648) (hd : g_D Y pc .idiv 1 pc') (kk : Gd Y Z k n pc' L (vi (nI (i / j)) :: st) h) : Gd Y Z k n pc L (vi (nI j) :: vi (nI i) :: st) h := Gd_idiv (nI_ne0 hj.1 hj.2) hd (by rw [pk_div hi hj.1 hj.2]; exact kk)
theorem Gd_iremN (hi : i < 2147483648) (hj : 0 < j ∧ j < 2147483648) (hd : g_D Y pc .irem 1 pc') (kk : Gd Y Z k n pc' L (vi (nI (i % j)) :: st) h) : Gd Y Z k n pc L (vi (nI j) :: vi (nI i) :: st) h := Gd_irem (nI_ne0 hj.1 hj.2) hd (by rw [pk_rem hi hj.1 hj.2]; exact kk)
theorem Gd_icmp_eqB1 (hd : g_J Y pc (.if_icmp .eq) tgt pc') (kt : bb = true → Gd Y Z k n tgt L st h) (kf : bb = false → Gd Y Z k n pc' L st h) : Gd Y Z k n pc L (vi (nI 1) :: vi (bI bb) :: st) h := Gd_icmp_eq hd (fun q => kt (by cases bb with | true => rfl | false => exact absurd q (by decide))) (fun q => kf (by cases bb with | true => exact absurd rfl q | false => rfl))
theorem Gd_icmp_neB1 (hd : g_J Y pc (.if_icmp .ne) tgt pc') (kt : bb = false → Gd Y Z k n tgt L st h) (kf : bb = true → Gd Y Z k n pc' L st h) : Gd Y Z k n pc L (vi (nI 1) :: vi (bI bb) :: st) h := Gd_icmp_ne hd (fun q => kt (by cases bb with | true => exact absurd rfl q | false => rfl)) (fun q => kf (by cases bb with | true => rfl | false => exact absurd q (by decide)))
end GN2
