/-! 04: what the small methods answer, in the code's own words -/
theorem zb1 : ∃ b, nI 1 = bI b := ⟨true, rfl⟩
theorem zb0 : ∃ b, nI 0 = bI b := ⟨false, rfl⟩
theorem bI_t : nI 1 = bI true := rfl
theorem bI_f : nI 0 = bI false := rfl
theorem bI_if (b : Bool) : bI b = if b = true then 1 else 0 := by cases b <;> rfl
theorem bI_inj {a b : Bool} : bI a = bI b ↔ a = b := by cases a <;> cases b <;> decide
def mixF (p v : Int32) : Int32 := (p * nI 31 + v) - (p * nI 31 + v) / nI 997 * nI 997
def sealF (d k : Int32) : Int32 := d * (nI 2 * k + nI 3) - d * (nI 2 * k + nI 3) / nI 997 * nI 997
def isW (a b : Int32) : Bool := if a < 0 then false else if b < a then false else true
def nmF : Nat → Nat → Bool
  | 0, _ => true
  | f + 1, j => if j = 0 then true else if j % 10 = 0 then false else nmF f (j / 10)
def isNm (a : Int32) : Bool := if a < nI 1 then false else if nI 9999 < a then false else nmF 10000 a.toNatClampNeg
def isN0 (a : Int32) : Bool := if a = 0 then true else isNm a
def unF : Nat → Nat → Int32 → Bool
  | 0, _, o => decide (o = 0)
  | f + 1, j, o => if j = 0 then decide (o = 0) else if nI j = o then true else unF f (j / 10) o
/-- the name a is below o (or o is 0) -/
def isUn (a o : Int32) : Bool := unF 2147483648 a.toNatClampNeg o
def prLf (f : Nat → Int32) : Int32 := mixF (mixF (mixF (mixF (mixF (mixF (mixF (mixF (mixF (mixF (nI 17) (f 0)) (f 1)) (f 2)) (f 3)) (f 4)) (f 5)) (if f 6 = 0 then nI 0 else nI 1)) (f 7)) (f 8)) (f 9)
def prCf (f : Nat → Int32) : Int32 := mixF (mixF (mixF (mixF (nI 19) (f 0)) (f 1)) (f 2)) (f 3 - f 3 / nI 997 * nI 997)
/-- of a letter's own flaws the first one -/
def flA (f : Nat → Int32) (t u : Int32) : Int32 := if t < f 4 then nI 1 else if f 5 < t then nI 2 else if (f 8 >>> (u &&& 31)) &&& nI 1 = 0 then nI 3 else nI 0
def pyL (f : Nat → Int32) (w : Nat) : Int32 := if w = 11 then prLf f else if w = 6 then (if f 6 = 0 then nI 0 else nI 1) else if w = 12 then (if f 11 = 0 then nI 0 else nI 1) else f w
def pyC (f : Nat → Int32) (w : Nat) : Int32 := if w = 5 then prCf f else f w
theorem nlt1 {a : Int32} (h : ¬ a < nI 1) : ¬ a < 0 := by
  intro q
  apply h
  rw [Int32.lt_iff_toInt_lt] at q ⊢
  rw [nI_toInt (by omega)]
  rw [Int32.toInt_zero] at q
  omega
theorem nn0 {j : Nat} (hj : j < 2 ^ 31) (h : nI j ≤ 0) : j = 0 := by
  rcases Nat.eq_zero_or_pos j with q | q
  · exact q
  · exact absurd h (nI_nle q hj)
theorem nn1 {j : Nat} (h : ¬ nI j ≤ 0) : j ≠ 0 := by
  rintro rfl
  exact h (by decide)
theorem nz0 {j : Nat} (hj : j < 2 ^ 31) (h : nI j = 0) : j = 0 := by
  rcases Nat.eq_zero_or_pos j with q | q
  · exact q
  · exact absurd h (nI_ne0 q hj)
theorem nz1 {j : Nat} (h : ¬ nI j = 0) : j ≠ 0 := by
  rintro rfl
  exact h (by decide)
theorem unF_0 : ∀ (f : Nat) (o : Int32), unF f 0 o = decide (o = 0)
  | 0, _ => rfl
  | _ + 1, _ => rfl
theorem i32_cases (a : Int32) : a ≤ 0 ∨ ∃ j : Nat, 0 < j ∧ j < 2 ^ 31 ∧ a = nI j := by
  by_cases h : a ≤ 0
  · exact Or.inl h
  · right
    have h0 : ¬ a < 0 := fun q => h (by
      rw [Int32.lt_iff_toInt_lt] at q
      rw [Int32.le_iff_toInt_le]
      omega)
    obtain ⟨j, hj, rfl⟩ := nI_of h0
    exact ⟨j, Nat.pos_of_ne_zero (nn1 h), hj, rfl⟩
theorem clamp_le0 {a : Int32} (h : a ≤ 0) : a.toNatClampNeg = 0 := by
  rw [Int32.le_iff_toInt_le, Int32.toInt_zero] at h
  show a.toInt.toNat = 0
  omega
theorem isUn_start (a : Int32) : ∃ j : Nat, j < 2147483648 ∧ (a = nI j ∨ (a ≤ 0 ∧ j = 0)) ∧ a.toNatClampNeg = j := by
  rcases i32_cases a with q | ⟨j, _, h, rfl⟩
  · exact ⟨0, by omega, Or.inr ⟨q, rfl⟩, clamp_le0 q⟩
  · exact ⟨j, h, Or.inl rfl, nI_clamp h⟩
theorem fa_nle {a b : Int32} (h : ¬ a ≤ b) : b < a := by
  rw [Int32.le_iff_toInt_le] at h
  rw [Int32.lt_iff_toInt_lt]
  omega
theorem fa_nlt {a b : Int32} (h : ¬ a < b) : b ≤ a := by
  rw [Int32.lt_iff_toInt_lt] at h
  rw [Int32.le_iff_toInt_le]
  omega
theorem upd_upd (f : Nat → Int32) (j : Nat) (v w : Int32) : upd (upd f j v) j w = upd f j w := by
  funext q
  by_cases h : q = j <;> simp [upd, h]
theorem up2_up2 (I : IS) (n j : Nat) (v w : Int32) : up2 (up2 I n j v) n j w = up2 I n j w := by
  funext a
  by_cases h : a = n
  · subst h
    rw [up2_at, up2_at, up2_at, upd_upd]
  · rw [up2_ne _ _ _ h, up2_ne _ _ _ h, up2_ne _ _ _ h]
theorem up2_f (I : IS) (n j : Nat) (v : Int32) {q : Nat} (h : q ≠ j) : up2 I n j v n q = I n q := by
  rw [up2_at]
  exact if_neg h
theorem up2_s (I : IS) (n j : Nat) (v : Int32) : up2 I n j v n j = v := by
  rw [up2_at]
  exact if_pos rfl
theorem up2_n (I : IS) {n a : Nat} (j : Nat) (v : Int32) (q : Nat) (h : a ≠ n) : up2 I n j v a q = I a q := by rw [up2_ne I j v h]
/-- the keys below j by which a seal is right for a print: a set of bits -/
def sgF (P S : Int32) : Nat → Int32
  | 0 => nI 0
  | j + 1 => if sealF P (nI j) = S then sgF P S j ||| (nI 1 <<< (nI j &&& 31)) else sgF P S j
theorem fa_ge {a b : Int32} (h : a ≤ b) : ¬ b < a := by
  intro q
  rw [Int32.le_iff_toInt_le] at h
  rw [Int32.lt_iff_toInt_lt] at q
  omega
