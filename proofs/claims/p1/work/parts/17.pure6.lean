/-! 17: pure rows for holdsTo, otherwise, digest -/
theorem htN_s {p : Nat → Bool} {tau : Nat} (h : tau < 999) (hp : p (tau + 1) = true) : htN p (999 - (tau + 1)) (tau + 1) = htN p (999 - tau) tau := by
  rw [show 999 - tau = 999 - (tau + 1) + 1 by omega, htN, if_pos hp]
theorem htN_e {p : Nat → Bool} {tau : Nat} (h : tau < 999) (hp : p (tau + 1) = false) : htN p (999 - tau) tau = tau := by
  rw [show 999 - tau = 999 - (tau + 1) + 1 by omega, htN, if_neg (by rw [hp]; decide)]
theorem nI_nm1 {a : Nat} (h : a < 2 ^ 31) : ¬ nI a = -1 := fun q => by
  have h1 := nI_pos h
  rw [q] at h1
  exact absurd (by decide) h1
/-- QH, and what of the room's own cell it says -/
theorem QH.at0 {X : IS} {cn lcn : Nat} {I1 : IS} (h : QH X cn lcn I1) : I1 0 = X 0 := by rw [← h.2.2]; rfl
theorem trX_0 (X : IS) (i : Nat) : trX X i 0 = X 0 := up2_ne _ _ _ (by omega)
theorem owN_le (X X' : IS) (cn lcn : Nat) (t u : Int32) : ∀ j, owN X X' cn lcn t u j ≤ j
  | 0 => Nat.le_refl _
  | j + 1 => by
    have := owN_le X X' cn lcn t u j
    unfold owN
    split <;> omega
