/-! 34: the room with its first letter -/
theorem RmI_first {κ : Nat} (hκ : κ < 4) : RmI (up2 (up2 (up2 (up2 (up2 I0 (10 + 0) 0 (nI 1)) (10 + 0) 1 (nI 1)) (10 + 0) 2 (nI κ)) (10 + 0) 3 (nI 0)) 0 4 (nI (0 + 1))) 1 0 := by
  have e0 : ∀ q, q ≠ 4 → up2 (up2 (up2 (up2 (up2 I0 (10 + 0) 0 (nI 1)) (10 + 0) 1 (nI 1)) (10 + 0) 2 (nI κ)) (10 + 0) 3 (nI 0)) 0 4 (nI (0 + 1)) 0 q = 0 := fun q hq => by
    rw [up2_f _ _ _ _ hq, up2_n _ _ _ _ (by omega), up2_n _ _ _ _ (by omega), up2_n _ _ _ _ (by omega), up2_n _ _ _ _ (by omega)]
    rfl
  have eL : up2 (up2 (up2 (up2 (up2 I0 (10 + 0) 0 (nI 1)) (10 + 0) 1 (nI 1)) (10 + 0) 2 (nI κ)) (10 + 0) 3 (nI 0)) 0 4 (nI (0 + 1)) (10 + 0) = upd (upd (upd (upd L0 0 (nI 1)) 1 (nI 1)) 2 (nI κ)) 3 (nI 0) := by
    rw [up2_ne _ _ _ (by omega), up2_at, up2_at, up2_at, up2_at]
    rfl
  have eO : ∀ j, 1 ≤ j → j < 20 → up2 (up2 (up2 (up2 (up2 I0 (10 + 0) 0 (nI 1)) (10 + 0) 1 (nI 1)) (10 + 0) 2 (nI κ)) (10 + 0) 3 (nI 0)) 0 4 (nI (0 + 1)) (10 + j) = L0 := fun j hj h20 => by
    rw [up2_ne _ _ _ (by omega), up2_ne _ _ _ (by omega), up2_ne _ _ _ (by omega), up2_ne _ _ _ (by omega), up2_ne _ _ _ (by omega)]
    unfold I0
    rw [if_pos ⟨by omega, by omega⟩]
  refine ⟨Nat.le_refl _, by omega, by omega, up2_s _ _ _ _, by rw [e0 5 (by omega)]; rfl, ⟨false, by rw [e0 6 (by omega)]; rfl⟩, fun j hj => ?_, fun j h3 h4 => eO j h3 h4⟩
  have z : j = 0 := by omega
  rw [z, eL]
  refine ⟨isNm_six.1, isNm_six.1, ⟨κ, hκ, rfl⟩, ⟨false, rfl⟩, rfl, ⟨false, rfl⟩, fun q hq => ?_⟩
  rcases (show q = 0 ∨ q = 1 ∨ q = 2 ∨ q = 3 ∨ q = 4 ∨ q = 5 ∨ q = 6 ∨ q = 7 ∨ q = 8 ∨ q = 9 by omega) with rfl | rfl | rfl | rfl | rfl | rfl | rfl | rfl | rfl | rfl
  · exact ⟨1, by omega, rfl⟩
  · exact ⟨1, by omega, rfl⟩
  · exact ⟨κ, by omega, rfl⟩
  · exact ⟨0, by omega, rfl⟩
  · exact ⟨0, by omega, rfl⟩
  · exact ⟨999, by omega, rfl⟩
  · exact ⟨0, by omega, rfl⟩
  · exact ⟨0, by omega, rfl⟩
  · exact ⟨15, by omega, rfl⟩
  · exact ⟨0, by omega, rfl⟩
