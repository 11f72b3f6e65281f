/-! the words' letters -/
def slq (q : Nat) : Nat := g_slen.getD q 0
def byq (q i : Nat) : Nat := ((g_sbyt.getD q []).getD i 0).toNatClampNeg
theorem slq_lt : ∀ q, q < 13 → slq q < 36 := by decide +kernel
theorem sl_shr : ∀ n, n < 36 → nI n >>> ((0 : Int32) &&& 31) = nI n := by decide +kernel
theorem by_key : ∀ q, q < 13 → ∀ i, i < 36 → ((((g_sbyt.getD q []).getD i 0) &&& nI 255).toUInt32 % 65536).toInt32 = nI (byq q i) ∧ byq q i < 256 := by decide +kernel
theorem nar_ch : ∀ b, b < 256 → narrow .char (.int (nI b)) = .int (nI b) := by decide +kernel
theorem nar_by0 : narrow .byte (.int 0) = .int 0 := by decide +kernel
