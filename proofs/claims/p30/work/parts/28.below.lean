/-! 28: the law's draws: below(v, n) -/
def blN (v : Int32) (n : Nat) : Nat := v.toBitVec.toNat % 2147483648 % n
def blF (v n : Int32) : Int32 := (v &&& 2147483647) - (v &&& 2147483647) / n * n
theorem and31 (v : Int32) : v &&& 2147483647 = nI (v.toBitVec.toNat % 2147483648) := by
  apply Int32.toBitVec_inj.1
  show v.toBitVec &&& 2147483647#32 = BitVec.ofNat 32 (v.toBitVec.toNat % 2147483648)
  apply BitVec.eq_of_toNat_eq
  have h := Nat.and_two_pow_sub_one_eq_mod v.toBitVec.toNat 31
  rw [BitVec.toNat_and, show (2147483647#32).toNat = 2 ^ 31 - 1 from rfl, h, BitVec.toNat_ofNat]
  omega
theorem blN_lt (v : Int32) {n : Nat} (h : 0 < n) : blN v n < n := Nat.mod_lt _ h
theorem bl_at (v : Int32) {n : Nat} (h0 : 0 < n) (hn : n < 2 ^ 31) : blF v (nI n) = nI (blN v n) := by
  unfold blF blN
  rw [and31]
  generalize ha : v.toBitVec.toNat % 2147483648 = a
  have hal : a < 2 ^ 31 := by omega
  rw [pk_div hal h0 hn, show nI (a / n) * nI n = nI (a / n * n) from (Int32.ofNat_mul _ _).symm, nI_subN (Nat.div_mul_le_self _ _)]
  congr 1
  have := Nat.div_add_mod a n
  rw [Nat.mul_comm] at this
  omega
theorem isNm_six : isNm (nI 1) = true ∧ isNm (nI 2) = true ∧ isNm (nI 11) = true ∧ isNm (nI 12) = true ∧ isNm (nI 112) = true ∧ isNm (nI 21) = true := by
  decide +kernel
