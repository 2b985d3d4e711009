/-! 27: the mean of what holds lies between 1 and 6 -/
theorem mean_d : ∀ b, b < 20 → ∀ d, d < 5 * b + 6 → ¬ Op.cmpValue (FP.dcmp (FP.ddiv (FP.i2d (nI (b + 1 + d))) (FP.i2d (nI (b + 1)))) 4607182418800017408) .g < 0 ∧ Op.cmpValue (FP.dcmp (FP.ddiv (FP.i2d (nI (b + 1 + d))) (FP.i2d (nI (b + 1)))) 4618441417868443648) .l ≤ 0 := by decide +kernel
theorem mean_0 : Op.cmpValue (FP.dcmp FP.dconst0 FP.dconst0) .l = 0 := by decide +kernel
theorem mcF_0 {X : IS} {cn lcn : Nat} {t u : Int32} (h : hoN X cn lcn t u cn = 0) : mcF X cn lcn t u = FP.dconst0 := if_pos h
theorem hoN_cn (X : IS) {cn : Nat} (hc : cn ≤ 20) (lcn : Nat) (t u : Int32) : hoN X cn lcn t u cn ≤ 20 := Nat.le_trans (hoN_le X cn lcn t u cn) hc
theorem mcF_1 {X : IS} {cn lcn : Nat} {t u : Int32} (hc : cn ≤ 20) (h : ¬ hoN X cn lcn t u cn = 0) : ¬ Op.cmpValue (FP.dcmp (mcF X cn lcn t u) 4607182418800017408) .g < 0 ∧ Op.cmpValue (FP.dcmp (mcF X cn lcn t u) 4618441417868443648) .l ≤ 0 := by
  have h1 := toN_le X cn lcn t u cn
  have h2 := hoN_cn X hc lcn t u
  unfold mcF
  rw [if_neg h]
  generalize hoN X cn lcn t u cn = b at *
  generalize toN X cn lcn t u cn = a at *
  have h3 := mean_d (b - 1) (by omega) (a - b) (by omega)
  rw [show b - 1 + 1 + (a - b) = a by omega, show b - 1 + 1 = b by omega] at h3
  exact h3
