/-! 35: what the law asks of a letter and of the room, as facts -/
theorem dcF_iff {X : IS} {lcn : Nat} {t u : Int32} {acc : List (List Nat)} : dcF X lcn t u acc = nI 0 ↔ (fhO X lcn t u acc).isSome = true := by
  by_cases h0 : acc.length = 0
  · obtain ⟨h1, h2, -⟩ := dcF_0 X lcn t u h0
    rw [h1, h2]
    exact ⟨fun h => absurd h (by decide), fun h => absurd h (by decide)⟩
  · cases hf : fhO X lcn t u acc with
    | some c => rw [(dcF_y (by omega) hf).1]; exact ⟨fun _ => rfl, fun _ => rfl⟩
    | none =>
      obtain ⟨q, v, -, h1, h2, h3, -, -⟩ := dcF_n (show 1 ≤ acc.length by omega) hf
      rw [h3]
      exact ⟨fun h => absurd ((nI_eq (by omega) (by omega)).mp h) (by omega), fun h => absurd h (by decide)⟩
/-- the verdict is 0 to 7 with a chain, or 10 with none -/
theorem dcF_rng (X : IS) (lcn : Nat) (t u : Int32) (acc : List (List Nat)) : ∃ v, dcF X lcn t u acc = nI v ∧ ((acc.length = 0 ∧ v = 10) ∨ (1 ≤ acc.length ∧ v ≤ 7)) := by
  by_cases h0 : acc.length = 0
  · exact ⟨10, (dcF_0 X lcn t u h0).1, Or.inl ⟨h0, rfl⟩⟩
  · cases hf : fhO X lcn t u acc with
    | some c => exact ⟨0, (dcF_y (by omega) hf).1, Or.inr ⟨by omega, by omega⟩⟩
    | none =>
      obtain ⟨q, v, -, h1, h2, h3, -, -⟩ := dcF_n (show 1 ≤ acc.length by omega) hf
      exact ⟨v, h3, Or.inr ⟨by omega, h2⟩⟩
/-- the place of the flaw is told exactly where the verdict is 1 to 7 -/
theorem dpF_rng (X : IS) (lcn : Nat) (t u : Int32) (acc : List (List Nat)) : (dpF X lcn t u acc = -1 ∧ (dcF X lcn t u acc = nI 0 ∨ dcF X lcn t u acc = nI 10)) ∨ ∃ q v, dpF X lcn t u acc = nI q ∧ q < (gtC acc 0).length ∧ dcF X lcn t u acc = nI v ∧ 1 ≤ v ∧ v ≤ 7 ∧ fhO X lcn t u acc = none := by
  by_cases h0 : acc.length = 0
  · obtain ⟨h1, -, h3⟩ := dcF_0 X lcn t u h0
    exact Or.inl ⟨h3, Or.inr h1⟩
  · cases hf : fhO X lcn t u acc with
    | some c =>
      obtain ⟨h1, h2⟩ := dcF_y (show 1 ≤ acc.length by omega) hf
      exact Or.inl ⟨h2, Or.inl h1⟩
    | none =>
      obtain ⟨q, v, h1, h2, h3, h4, h5, -⟩ := dcF_n (show 1 ≤ acc.length by omega) hf
      exact Or.inr ⟨q, v, h5, h1, h4, h2, h3, rfl⟩
/-- the chain that is shown: of the letter, backed place by place, ending in an anchor, one to six long -/
theorem shown {X : IS} {cn a : Nat} (ha : a < cn) {c : Nat} (hc : c < (chs X cn a).length) :
    1 ≤ (gtC (chs X cn a) c).length ∧ (gtC (chs X cn a) c).length ≤ 6 ∧ (∀ q, q < (gtC (chs X cn a) c).length → gtN (gtC (chs X cn a) c) q < cn) ∧ ChOK X a (gtC (chs X cn a) c) := by
  obtain ⟨h1, h2⟩ := chs_6 X cn a c hc
  exact ⟨h1, h2, fun q hq => chs_O X ha c hc _ (gtN_mem hq), chs_K X cn a c hc⟩
/-- the number of the chain that is shown -/
def shN (X : IS) (lcn : Nat) (t u : Int32) (acc : List (List Nat)) : Nat := (fhO X lcn t u acc).getD 0
theorem shN_lt {X : IS} {lcn : Nat} {t u : Int32} {acc : List (List Nat)} (h : 1 ≤ acc.length) : shN X lcn t u acc < acc.length := by
  unfold shN
  cases hf : fhO X lcn t u acc with
  | some c => exact (fhO_ff hf).1
  | none => exact h
theorem shN_hold {X : IS} {lcn : Nat} {t u : Int32} {acc : List (List Nat)} (h : dcF X lcn t u acc = nI 0) : ffO X lcn t u (gtC acc (shN X lcn t u acc)) = none := by
  have h1 := dcF_iff.mp h
  unfold shN
  cases hf : fhO X lcn t u acc with
  | some c => exact (fhO_ff hf).2
  | none => rw [hf] at h1; exact absurd h1 (by decide)
theorem shN_flaw {X : IS} {lcn : Nat} {t u : Int32} {acc : List (List Nat)} (h : fhO X lcn t u acc = none) : shN X lcn t u acc = 0 := by
  unfold shN
  rw [h]
  rfl
