/-! 26: how many bits are set -/
def p1N (b c : Nat) : Nat := b - (b / 2 &&& c)
def p2N (b c : Nat) : Nat := (b &&& c) + (b / 4 &&& c)
def p3N (b c : Nat) : Nat := (b + b / 16) &&& c
def pc8 (b : Nat) : Nat := p3N (p2N (p1N b 85) 51) 15
theorem and_sp (x y : Nat) : x &&& y = (x % 256 &&& y % 256) + 256 * (x / 256 &&& y / 256) := by
  have h1 : (x &&& y) % 2 ^ 8 = x % 2 ^ 8 &&& y % 2 ^ 8 := Nat.and_mod_two_pow
  have h2 : (x &&& y) / 2 ^ 8 = x / 2 ^ 8 &&& y / 2 ^ 8 := Nat.and_div_two_pow
  have h3 := Nat.mod_add_div (x &&& y) 256
  rw [show (256 : Nat) = 2 ^ 8 from rfl, h1, h2] at h3
  exact h3.symm
set_option maxRecDepth 100000 in
theorem sp1_d : ∀ b, b < 128 → ∀ r, r < 2 → (b + 128 * r) &&& 85 = b &&& 85 := by decide +kernel
set_option maxRecDepth 100000 in
theorem sp2_d : ∀ b, b < 64 → ∀ r, r < 4 → (b + 64 * r) &&& 51 = b &&& 51 := by decide +kernel
theorem and_le (a b : Nat) : a &&& b ≤ a := Nat.and_le_left
theorem sp1 {b r c : Nat} (hb : b < 256) : p1N (b + 256 * r) (85 + 256 * c) = p1N b 85 + 256 * p1N r c := by
  have e : (b + 256 * r) / 2 &&& (85 + 256 * c) = (b / 2 &&& 85) + 256 * (r / 2 &&& c) := by
    rw [and_sp, show (b + 256 * r) / 2 / 256 = r / 2 by omega, show (85 + 256 * c) / 256 = c by omega, show (85 + 256 * c) % 256 = 85 by omega, show (b + 256 * r) / 2 % 256 = b / 2 + 128 * (r % 2) by omega, sp1_d _ (by omega) _ (by omega)]
  unfold p1N
  rw [e]
  have h1 := and_le (b / 2) 85
  have h2 := and_le (r / 2) c
  omega
theorem sp2 {b r c : Nat} (hb : b < 256) : p2N (b + 256 * r) (51 + 256 * c) = p2N b 51 + 256 * p2N r c := by
  have e : (b + 256 * r) / 4 &&& (51 + 256 * c) = (b / 4 &&& 51) + 256 * (r / 4 &&& c) := by
    rw [and_sp, show (b + 256 * r) / 4 / 256 = r / 4 by omega, show (51 + 256 * c) / 256 = c by omega, show (51 + 256 * c) % 256 = 51 by omega, show (b + 256 * r) / 4 % 256 = b / 4 + 64 * (r % 4) by omega, sp2_d _ (by omega) _ (by omega)]
  have e2 : (b + 256 * r) &&& (51 + 256 * c) = (b &&& 51) + 256 * (r &&& c) := by
    rw [and_sp, show (b + 256 * r) / 256 = r by omega, show (51 + 256 * c) / 256 = c by omega, show (51 + 256 * c) % 256 = 51 by omega, show (b + 256 * r) % 256 = b by omega]
  unfold p2N
  rw [e, e2]
  omega
theorem and15 (x : Nat) : x &&& 15 = x % 16 := Nat.and_two_pow_sub_one_eq_mod x 4
theorem and63 (x : Nat) : x &&& 63 = x % 64 := Nat.and_two_pow_sub_one_eq_mod x 6
theorem sp3 {b r c : Nat} (hb : b ≤ 68) (hr : r % 16 ≤ 4) : p3N (b + 256 * r) (15 + 256 * c) = p3N b 15 + 256 * p3N r c := by
  unfold p3N
  rw [and_sp, show (15 + 256 * c) / 256 = c by omega, show (15 + 256 * c) % 256 = 15 by omega, and15, and15, show (b + 256 * r + (b + 256 * r) / 16) / 256 = r + r / 16 by omega]
  omega
set_option maxRecDepth 100000 in
theorem p8_d : ∀ b, b < 256 → p1N b 85 < 256 ∧ p2N (p1N b 85) 51 ≤ 68 ∧ p2N (p1N b 85) 51 % 16 ≤ 4 ∧ pc8 b ≤ 8 := by decide +kernel
set_option maxRecDepth 100000 in
theorem p8_n : ∀ n, n < 9 → ∀ b, b < 2 ^ n → pc8 b ≤ n := by decide +kernel
/-- the count of 24 bits, by bytes -/
theorem pc_24 {b0 b1 b2 : Nat} (h0 : b0 < 256) (h1 : b1 < 256) (h2 : b2 < 256) :
    p3N (p2N (p1N (b0 + 256 * (b1 + 256 * b2)) 1431655765) 858993459) 252645135 = pc8 b0 + 256 * (pc8 b1 + 256 * pc8 b2) := by
  obtain ⟨a1, a2, a3, a4⟩ := p8_d b0 h0
  obtain ⟨c1, c2, c3, c4⟩ := p8_d b1 h1
  obtain ⟨d1, d2, d3, d4⟩ := p8_d b2 h2
  have z1 : ∀ c, p1N 0 c = 0 := fun c => by unfold p1N; simp
  have z2 : ∀ c, p2N 0 c = 0 := fun c => by unfold p2N; simp
  have z3 : ∀ c, p3N 0 c = 0 := fun c => by unfold p3N; simp
  have e1 : p1N (b0 + 256 * (b1 + 256 * b2)) 1431655765 = p1N b0 85 + 256 * (p1N b1 85 + 256 * p1N b2 85) := by
    rw [show (1431655765 : Nat) = 85 + 256 * (85 + 256 * (85 + 256 * 85)) from rfl, sp1 h0, sp1 h1]
    have := sp1 (b := b2) (r := 0) (c := 85) h2
    rw [z1] at this
    rw [show b2 = b2 + 256 * 0 from rfl, this]
    rfl
  have e2 : p2N (p1N b0 85 + 256 * (p1N b1 85 + 256 * p1N b2 85)) 858993459 = p2N (p1N b0 85) 51 + 256 * (p2N (p1N b1 85) 51 + 256 * p2N (p1N b2 85) 51) := by
    rw [show (858993459 : Nat) = 51 + 256 * (51 + 256 * (51 + 256 * 51)) from rfl, sp2 a1, sp2 c1]
    have := sp2 (b := p1N b2 85) (r := 0) (c := 51) d1
    rw [z2] at this
    have e9 : p2N (p1N b2 85) (51 + 256 * 51) = p2N (p1N b2 85) 51 := this
    rw [e9]
  have e3 : p3N (p2N (p1N b0 85) 51 + 256 * (p2N (p1N b1 85) 51 + 256 * p2N (p1N b2 85) 51)) 252645135 = pc8 b0 + 256 * (pc8 b1 + 256 * pc8 b2) := by
    rw [show (252645135 : Nat) = 15 + 256 * (15 + 256 * (15 + 256 * 15)) from rfl, sp3 a2 (by omega), sp3 c2 (by omega)]
    have := sp3 (b := p2N (p1N b2 85) 51) (r := 0) (c := 15) d2 (by omega)
    rw [z3] at this
    have e9 : p3N (p2N (p1N b2 85) 51) (15 + 256 * 15) = p3N (p2N (p1N b2 85) 51) 15 := this
    rw [e9]
    rfl
  rw [e1, e2, e3]
theorem u_nI (x : UInt32) : x.toInt32 = nI x.toNat := by
  apply Int32.toBitVec_inj.1
  show x.toBitVec = BitVec.ofNat 32 x.toBitVec.toNat
  rw [BitVec.ofNat_toNat, BitVec.setWidth_eq]
theorem iush_n {a : Nat} (k : Nat) (ha : a < 2 ^ 31) (hk : (nI k).toUInt32 &&& Int32.toUInt32 31 = UInt32.ofNat k) (h2 : (UInt32.ofNat k).toNat % 32 = k) : iush (nI a) (nI k) = nI (a / 2 ^ k) := by
  unfold iush
  rw [hk, u_nI, UInt32.toNat_shiftRight, h2, show (nI a).toUInt32 = UInt32.ofNat a from rfl, UInt32.toNat_ofNat', Nat.mod_eq_of_lt (by omega), Nat.shiftRight_eq_div_pow]
theorem nI_subN {a b : Nat} (h : b ≤ a) : nI a - nI b = nI (a - b) := by
  apply Int32.toBitVec_inj.1
  show BitVec.ofNat 32 a - BitVec.ofNat 32 b = BitVec.ofNat 32 (a - b)
  apply BitVec.eq_of_toNat_eq
  rw [BitVec.toNat_sub, BitVec.toNat_ofNat, BitVec.toNat_ofNat, BitVec.toNat_ofNat]
  omega
theorem fa_andC (a b : Nat) : nI a &&& nI b = nI (a &&& b) := fa_and a b
theorem p1N_le (b c : Nat) : p1N b c ≤ b := Nat.sub_le _ _
/-- the machine's count of the bits of 24 bits is the count -/
theorem bcF_24 {b0 b1 b2 : Nat} (h0 : b0 < 256) (h1 : b1 < 256) (h2 : b2 < 256) : bcF (nI (b0 + 256 * (b1 + 256 * b2))) = nI (pc8 b0 + pc8 b1 + pc8 b2) := by
  obtain ⟨-, -, -, a4⟩ := p8_d b0 h0
  obtain ⟨-, -, -, c4⟩ := p8_d b1 h1
  obtain ⟨-, -, -, d4⟩ := p8_d b2 h2
  generalize hm : b0 + 256 * (b1 + 256 * b2) = m
  have hml : m < 2 ^ 24 := by omega
  have e3 := pc_24 h0 h1 h2
  rw [hm] at e3
  generalize hp1 : p1N m 1431655765 = m1 at e3
  have hm1 : m1 ≤ m := by rw [← hp1]; exact p1N_le _ _
  have s1' : bc1 (nI m) = nI m1 := by
    unfold bc1
    rw [iush_n 1 (by omega) (by decide) (by decide), show (1431655765 : Int32) = nI 1431655765 from rfl, fa_and, nI_subN (Nat.le_trans (and_le _ _) (by omega)), ← hp1]
    rfl
  generalize hp2 : p2N m1 858993459 = m2 at e3
  have hm2 : m2 ≤ 2 * m1 := by
    rw [← hp2]
    unfold p2N
    have q1 := and_le m1 858993459
    have q2 := and_le (m1 / 4) 858993459
    omega
  have s2 : bc2 (nI m1) = nI m2 := by
    unfold bc2
    rw [iush_n 2 (by omega) (by decide) (by decide), show (858993459 : Int32) = nI 858993459 from rfl, fa_and, fa_and, nI_add, ← hp2]
    rfl
  have s3 : bc3 (nI m2) = nI (pc8 b0 + 256 * (pc8 b1 + 256 * pc8 b2)) := by
    unfold bc3
    rw [iush_n 4 (by omega) (by decide) (by decide), show (252645135 : Int32) = nI 252645135 from rfl, nI_add, fa_and, ← e3]
    rfl
  generalize pc8 b0 = k0 at *
  generalize pc8 b1 = k1 at *
  generalize pc8 b2 = k2 at *
  clear e3
  have q1 : (k0 + 256 * (k1 + 256 * k2)) / 2 ^ 8 = k1 + 256 * k2 := by
    rw [show (2 : Nat) ^ 8 = 256 from rfl]
    omega
  have q2 : (k0 + 256 * (k1 + 256 * k2) + (k1 + 256 * k2)) / 2 ^ 16 = k2 := by
    rw [show (2 : Nat) ^ 16 = 65536 from rfl]
    omega
  have q3 : (k0 + 256 * (k1 + 256 * k2) + (k1 + 256 * k2) + k2) % 64 = k0 + k1 + k2 := by omega
  unfold bcF
  rw [s1', s2, s3]
  unfold bc4
  rw [iush_n 8 (by omega) (by decide) (by decide), nI_add, q1]
  unfold bc5
  rw [iush_n 16 (by omega) (by decide) (by decide), nI_add, q2, fa_and, and63, q3]
theorem bcF_le {n m : Nat} (hn : n ≤ 20) (hm : m < 2 ^ n) : ∃ c, c ≤ n ∧ bcF (nI m) = nI c := by
  have hb : m = m % 256 + 256 * (m / 256 % 256 + 256 * (m / 65536)) := by omega
  have h24 : m < 2 ^ 20 := Nat.lt_of_lt_of_le hm (Nat.pow_le_pow_right (by decide) hn)
  have e := bcF_24 (b0 := m % 256) (b1 := m / 256 % 256) (b2 := m / 65536) (by omega) (by omega) (by omega)
  rw [← hb] at e
  refine ⟨_, ?_, e⟩
  obtain ⟨-, -, -, a4⟩ := p8_d (m % 256) (by omega)
  obtain ⟨-, -, -, c4⟩ := p8_d (m / 256 % 256) (by omega)
  have z : pc8 0 = 0 := rfl
  by_cases g8 : n ≤ 8
  · have h1 : m < 256 := Nat.lt_of_lt_of_le hm (show 2 ^ n ≤ 2 ^ 8 from Nat.pow_le_pow_right (by decide) g8)
    have q := p8_n n (by omega) (m % 256) (by omega)
    rw [show m / 256 % 256 = 0 by omega, show m / 65536 = 0 by omega, z]
    omega
  · by_cases g16 : n ≤ 16
    · have h1 : m < 65536 := Nat.lt_of_lt_of_le hm (show 2 ^ n ≤ 2 ^ 16 from Nat.pow_le_pow_right (by decide) g16)
      have h2 : m / 256 < 2 ^ (n - 8) := by
        rw [Nat.div_lt_iff_lt_mul (by decide), show (256 : Nat) = 2 ^ 8 from rfl, ← Nat.pow_add, show n - 8 + 8 = n by omega]; exact hm
      have q := p8_n (n - 8) (by omega) (m / 256 % 256) (by rw [show m / 256 % 256 = m / 256 by omega]; exact h2)
      rw [show m / 65536 = 0 by omega, z]
      omega
    · have h2 : m / 65536 < 2 ^ (n - 16) := by
        rw [Nat.div_lt_iff_lt_mul (by decide), show (65536 : Nat) = 2 ^ 16 from rfl, ← Nat.pow_add, show n - 16 + 16 = n by omega]; exact hm
      have q := p8_n (n - 16) (by omega) (m / 65536) h2
      omega
/-- not more anchors than letters, not more pairs than all -/
theorem anN_le (X : IS) {cn : Nat} (h : cn ≤ 20) : ∃ c, c ≤ cn ∧ bcF (nI (anN X cn)) = nI c := bcF_le h (bsN_lt _ _)
theorem bkN_le (X : IS) {cn : Nat} (h : cn ≤ 20) (a : Nat) : ∃ c, c ≤ cn ∧ bcF (nI (bkN X cn a)) = nI c := bcF_le h (bsN_lt _ _)
theorem pcF_le (X : IS) {cn : Nat} (h : cn ≤ 20) : ∀ j, ∃ c, c ≤ cn * j ∧ pcF X cn j = nI c
  | 0 => ⟨0, Nat.le_refl _, rfl⟩
  | j + 1 => by
    obtain ⟨c, h1, h2⟩ := pcF_le X h j
    obtain ⟨d, h3, h4⟩ := bkN_le X h j
    refine ⟨c + d, by rw [Nat.mul_add]; omega, ?_⟩
    show pcF X cn j + bcF (nI (bkN X cn j)) = nI (c + d)
    rw [h2, h4, nI_add]
