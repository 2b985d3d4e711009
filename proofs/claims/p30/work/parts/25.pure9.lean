/-! 25: what is true of a chain that holds, of times, of keys -/
theorem ffO_all {X : IS} {lcn : Nat} {t u : Int32} {ch : List Nat} (h : ffO X lcn t u ch = none) {q : Nat} (hq : q < ch.length) : flF X lcn ch q t u = 0 := by
  have h1 := fdF_none.mp (show fdF (fun q => decide (¬ flF X lcn ch q t u = 0)) ch.length 0 = none from h) q (Nat.zero_le _) (by omega)
  exact Decidable.not_not.mp (of_decide_eq_false h1)
theorem flA_0 {f : Nat → Int32} {t u : Int32} (h : flA f t u = 0) : ¬ t < f 4 ∧ ¬ f 5 < t ∧ ¬ (f 8 >>> (u &&& 31)) &&& nI 1 = 0 := by
  unfold flA at h
  split at h
  · exact absurd h (by decide)
  · next h1 =>
    split at h
    · exact absurd h (by decide)
    · next h2 =>
      split at h
      · exact absurd h (by decide)
      · next h3 => exact ⟨h1, h2, h3⟩
theorem fbF_0 {X : IS} {ch : List Nat} {a q : Nat} (h : fbF X ch a q = 0) : ¬ X (10 + a) 6 = 0 ∧ ¬ X (10 + a) 7 < nI q - nI 1 ∧ ∀ r, r < q → isUn (X (10 + gtN ch r) 0) (X (10 + a) 9) = true := by
  unfold fbF at h
  split at h
  · exact absurd h (by decide)
  · next h1 =>
    split at h
    · exact absurd h (by decide)
    · next h2 =>
      split at h
      · exact absurd h (by decide)
      · next h3 =>
        refine ⟨h1, h2, fun r hr => ?_⟩
        have h4 : obF X ch a q = none := by
          cases e : obF X ch a q with
          | none => rfl
          | some v => rw [e] at h3; exact absurd rfl h3
        have h5 := fdF_none.mp (show fdF (fun r => !isUn (X (10 + gtN ch r) 0) (X (10 + a) 9)) q 0 = none from h4) r (Nat.zero_le _) (by omega)
        simpa using h5
theorem flF_0 {X : IS} {lcn : Nat} {ch : List Nat} {q : Nat} {t u : Int32} (h : flF X lcn ch q t u = 0) : flA (X (10 + gtN ch q)) t u = 0 ∧ (0 < q → fbF X ch (gtN ch q) q = 0) := by
  have h6 : f6F X ch q t u = 0 := by
    unfold flF at h
    split at h
    · exact absurd h (by decide)
    · exact h
  unfold f6F at h6
  split at h6
  · next h1 => exact ⟨h1.1, fun _ => h6⟩
  · next h1 => exact ⟨h6, fun h2 => absurd ⟨h6, h2⟩ h1⟩
theorem hold_at {X : IS} {lcn : Nat} {t u : Int32} {ch : List Nat} (h : ffO X lcn t u ch = none) {q : Nat} (hq : q < ch.length) :
    ¬ t < X (10 + gtN ch q) 4 ∧ ¬ X (10 + gtN ch q) 5 < t ∧ ¬ (X (10 + gtN ch q) 8 >>> (u &&& 31)) &&& nI 1 = 0 ∧ (0 < q → ¬ X (10 + gtN ch q) 6 = 0 ∧ ¬ X (10 + gtN ch q) 7 < nI q - nI 1 ∧ ∀ r, r < q → isUn (X (10 + gtN ch r) 0) (X (10 + gtN ch q) 9) = true) := by
  have h1 := flF_0 (ffO_all h hq)
  have h2 := flA_0 h1.1
  exact ⟨h2.1, h2.2.1, h2.2.2, fun h3 => fbF_0 (h1.2 h3)⟩
/-- the flaw of an anchor alone -/
theorem flF_alone (X : IS) (lcn a : Nat) (t u : Int32) : flF X lcn [a] 0 t u = flA (X (10 + a)) t u := by
  have h6 : f6F X [a] 0 t u = flA (X (10 + a)) t u := by
    unfold f6F
    rw [if_neg (fun h => Nat.lt_irrefl 0 h.2)]
    rfl
  unfold flF
  rw [if_neg (fun h => absurd h.2 (show ¬ false = true by decide)), h6]
theorem flA_rng (f : Nat → Int32) (t u : Int32) : ∃ v, v ≤ 3 ∧ flA f t u = nI v := by
  unfold flA
  split
  · exact ⟨1, by omega, rfl⟩
  · split
    · exact ⟨2, by omega, rfl⟩
    · split
      · exact ⟨3, by omega, rfl⟩
      · exact ⟨0, by omega, rfl⟩
/-- an anchor: its verdict is at most 3; if it holds, it holds alone -/
theorem anchor_v {X : IS} {lcn a : Nat} {t u : Int32} {acc : List (List Nat)} (h0 : 1 ≤ acc.length) (hf : gtC acc 0 = [a]) (hK : AcK X a acc) (h1 : ∀ c, c < acc.length → 1 ≤ (gtC acc c).length) :
    (∃ v, v ≤ 3 ∧ dcF X lcn t u acc = nI v) ∧ ∀ c, fhO X lcn t u acc = some c → c = 0 := by
  have hz : ∀ c, fhO X lcn t u acc = some c → c = 0 := by
    intro c hc
    have h2 := fhO_ff hc
    have h3 := ffO_all h2.2 (q := 0) (h1 c h2.1)
    have h4 := (flF_0 h3).1
    rw [(hK c h2.1).1] at h4
    have h5 : ffO X lcn t u (gtC acc 0) = none := by
      rw [hf]
      refine fdF_none.mpr (fun q h6 h7 => ?_)
      have : q = 0 := by simp at h7; omega
      subst this
      refine decide_eq_false (fun h9 => h9 ?_)
      rw [flF_alone]
      exact h4
    have h6 := fdF_some (show fdF (fun c => (ffO X lcn t u (gtC acc c)).isNone) acc.length 0 = some c from hc)
    rcases Nat.eq_zero_or_pos c with h7 | h7
    · exact h7
    · have h8 := h6.2.2.2 0 (Nat.zero_le _) h7
      rw [h5] at h8
      exact absurd h8 (by decide)
  refine ⟨?_, hz⟩
  cases hfo : fhO X lcn t u acc with
  | some c => exact ⟨0, by omega, (dcF_y h0 hfo).1⟩
  | none =>
    obtain ⟨q, v, h2, h3, h4, h5, h6, h7⟩ := dcF_n h0 hfo
    rw [hf] at h2 h7
    have : q = 0 := by simp at h2; omega
    subst this
    rw [flF_alone] at h7
    obtain ⟨w, h8, h9⟩ := flA_rng (X (10 + a)) t u
    exact ⟨w, h8, by rw [h5, ← h7, h9]⟩
theorem htN_spec (p : Nat → Bool) : ∀ (f tau : Nat), p tau = true → tau ≤ htN p f tau ∧ htN p f tau ≤ tau + f ∧ p (htN p f tau) = true ∧ (htN p f tau = tau + f ∨ p (htN p f tau + 1) = false)
  | 0, tau, h => ⟨Nat.le_refl _, Nat.le_refl _, h, Or.inl rfl⟩
  | f + 1, tau, h => by
    unfold htN
    by_cases h1 : p (tau + 1) = true
    · rw [if_pos h1]
      obtain ⟨a, b, c, d⟩ := htN_spec p f (tau + 1) h1
      exact ⟨by omega, by omega, c, d.imp (fun e => by omega) id⟩
    · rw [if_neg h1]
      exact ⟨Nat.le_refl _, by omega, h, Or.inr (by simpa using h1)⟩
/-- up to when a letter holds -/
theorem htF_spec {X : IS} {lcn t0 : Nat} {u : Int32} {acc : List (List Nat)} (ht : t0 ≤ 999) :
    (fhO X lcn (nI t0) u acc = none → htF X lcn t0 u acc = -1) ∧ ((fhO X lcn (nI t0) u acc).isSome = true → ∃ to, t0 ≤ to ∧ to ≤ 999 ∧ htF X lcn t0 u acc = nI to ∧ (fhO X lcn (nI to) u acc).isSome = true ∧ (to = 999 ∨ fhO X lcn (nI (to + 1)) u acc = none)) := by
  constructor
  · intro h
    unfold htF
    rw [h]
    rfl
  · intro h
    obtain ⟨a, b, c, d⟩ := htN_spec (fun tau => (fhO X lcn (nI tau) u acc).isSome) (999 - t0) t0 h
    refine ⟨_, a, by omega, ?_, c, d.imp (fun e => by omega) (fun e => ?_)⟩
    · unfold htF
      rw [if_pos h]
    · cases e2 : fhO X lcn (nI (htN (fun tau => (fhO X lcn (nI tau) u acc).isSome) (999 - t0) t0 + 1)) u acc with
      | none => rfl
      | some v => rw [show (fhO X lcn (nI (htN (fun tau => (fhO X lcn (nI tau) u acc).isSome) (999 - t0) t0 + 1)) u acc).isSome = true by rw [e2]; rfl] at e; cases e
theorem hkO_nil (X : IS) (key : Int32) : hkO X [] key = none := rfl
theorem stN_le (X : IS) (cn lcn : Nat) (key t u : Int32) : ∀ j, stN X cn lcn key t u j ≤ hoN X cn lcn t u j
  | 0 => Nat.le_refl _
  | j + 1 => by
    have ih := stN_le X cn lcn key t u j
    unfold stN hoN
    cases h : fhO X lcn t u (chs X cn j) with
    | none => rw [show gcO (chs X cn j) none = [] from rfl, hkO_nil]; simpa using ih
    | some c => rw [if_pos (show (some c).isSome = true from rfl)]; split <;> omega
theorem hkO_yes {X : IS} {ch : List Nat} {key : Int32} {q : Nat} (hq : q < ch.length) (h : X (10 + gtN ch q) 2 = key) : (hkO X ch key).isSome = true := by
  cases e : hkO X ch key with
  | some v => rfl
  | none =>
    have h1 := fdF_none.mp (show fdF (fun q => decide (X (10 + gtN ch q) 2 = key)) ch.length 0 = none from e) q (Nat.zero_le _) (by omega)
    exact absurd h (of_decide_eq_false h1)
/-- the four keys together concern every letter that holds -/
theorem stN_sum (X : IS) (cn lcn : Nat) (t u : Int32) (hk : ∀ j, j < cn → ∃ κ, κ < 4 ∧ X (10 + j) 2 = nI κ) : ∀ j, j ≤ cn → hoN X cn lcn t u j ≤ stN X cn lcn (nI 0) t u j + stN X cn lcn (nI 1) t u j + stN X cn lcn (nI 2) t u j + stN X cn lcn (nI 3) t u j
  | 0, _ => Nat.zero_le _
  | j + 1, hj => by
    have ih := stN_sum X cn lcn t u hk j (by omega)
    unfold stN hoN
    cases h : fhO X lcn t u (chs X cn j) with
    | none => rw [if_neg (show ¬ (none : Option Nat).isSome = true by decide)]; omega
    | some c =>
      rw [if_pos (show (some c).isSome = true from rfl)]
      have h1 := fhO_ff h
      have h2 := chs_6 X cn j c h1.1
      have h3 := (chs_K X cn j c h1.1).1
      obtain ⟨κ, h4, h5⟩ := hk j (by omega)
      have h6 : (hkO X (gcO (chs X cn j) (some c)) (nI κ)).isSome = true := hkO_yes (q := 0) h2.1 (by rw [show gcO (chs X cn j) (some c) = gtC (chs X cn j) c from rfl, h3]; exact h5)
      rcases (show κ = 0 ∨ κ = 1 ∨ κ = 2 ∨ κ = 3 by omega) with rfl | rfl | rfl | rfl
      · rw [if_pos h6]; omega
      · rw [if_pos h6]; omega
      · rw [if_pos h6]; omega
      · rw [if_pos h6]; omega
/-- a key that nobody has -/
theorem stN_none (X : IS) (cn lcn : Nat) (key t u : Int32) (hk : ∀ j, j < cn → ¬ X (10 + j) 2 = key) : ∀ j, j ≤ cn → stN X cn lcn key t u j = 0
  | 0, _ => rfl
  | j + 1, hj => by
    have ih := stN_none X cn lcn key t u hk j (by omega)
    unfold stN
    rw [ih]
    have h9 : hkO X (gcO (chs X cn j) (fhO X lcn t u (chs X cn j))) key = none := by
      cases h : fhO X lcn t u (chs X cn j) with
      | none => rfl
      | some c =>
        have h1 := fhO_ff h
        refine fdF_none.mpr (fun q h2 h3 => decide_eq_false (hk _ ?_))
        exact chs_O X (show j < cn by omega) c h1.1 _ (gtN_mem (by have h4 : q < 0 + (gtC (chs X cn j) c).length := h3; omega))
    rw [h9]
    rfl
