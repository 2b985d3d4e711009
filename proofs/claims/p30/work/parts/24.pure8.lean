/-! 24: what is true of chains, verdicts and counts -/
/-- a chain of letter a: each one is backed by the next one, the last one is an anchor -/
def ChOK (X : IS) (a : Nat) (ch : List Nat) : Prop := gtN ch 0 = a ∧ (∀ q, q + 1 < ch.length → bkB X (gtN ch (q + 1)) (gtN ch q) = true) ∧ ancB X (gtN ch (ch.length - 1)) = true
def AcK (X : IS) (a : Nat) (acc : List (List Nat)) : Prop := ∀ c, c < acc.length → ChOK X a (gtC acc c)
/-- a prefix, reversed -/
def PfOK (X : IS) (a : Nat) (p : List Nat) : Prop := 1 ≤ p.length ∧ gtN p.reverse 0 = a ∧ ∀ q, q + 1 < p.length → bkB X (gtN p.reverse (q + 1)) (gtN p.reverse q) = true
theorem pf_one (X : IS) (a : Nat) : PfOK X a [a] := ⟨Nat.le_refl _, rfl, fun q h => by simp at h⟩
theorem pf_push {X : IS} {a b : Nat} {p : List Nat} (h : PfOK X a p) (hb : bkB X b (p.headD 0) = true) : PfOK X a (b :: p) := by
  obtain ⟨h1, h2, h3⟩ := h
  refine ⟨by simp, by rw [gt_push (by omega)]; exact h2, fun q hq => ?_⟩
  have hq2 : q + 1 < p.length + 1 := by simpa using hq
  by_cases h9 : q + 1 < p.length
  · rw [gt_push h9, gt_push (by omega)]; exact h3 q h9
  · have e : q + 1 = p.length := by omega
    rw [e, gt_top, gt_push (by omega), show q = p.length - 1 by omega, gt_last h1]
    exact hb
theorem kpF_K {X : IS} {a : Nat} {p : List Nat} {acc : List (List Nat)} (h : AcK X a acc) (hp : PfOK X a p) (hl : ancB X (p.headD 0) = true) : AcK X a (kpF p acc) := by
  unfold kpF
  split
  · intro c hc
    by_cases h9 : c < acc.length
    · rw [gtC_app h9]; exact h c h9
    · have : c = acc.length := by simp at hc; omega
      subst this
      rw [gtC_new]
      refine ⟨hp.2.1, fun q hq => hp.2.2 q (by simpa using hq), ?_⟩
      rw [List.length_reverse, gt_last hp.1]
      exact hl
  · exact h
theorem anN_bit {X : IS} {cn i : Nat} (h : (anN X cn).testBit i = true) : i < cn ∧ ancB X i = true := by
  unfold anN at h
  rw [bsN_bit] at h
  simpa using h
theorem bkN_bit {X : IS} {cn a i : Nat} (h : (bkN X cn a).testBit i = true) : i < cn ∧ bkB X i a = true := by
  unfold bkN at h
  rw [bsN_bit] at h
  simpa using h
theorem opN_bit {X : IS} {cn r b : Nat} {p : List Nat} (h : (opN X cn r p).testBit b = true) : bkB X b (p.headD 0) = true ∧ b < cn ∧ (wyN X cn r).testBit b = true := by
  unfold opN at h
  rw [lessN_bit, Nat.testBit_and] at h
  simp only [Bool.and_eq_true] at h
  have := bkN_bit h.1.1
  exact ⟨this.2, this.1, h.1.2⟩
theorem exF_K (X : IS) (cn a : Nat) : ∀ (r : Nat) (p : List Nat) (acc : List (List Nat)), AcK X a acc → PfOK X a p → (wyN X cn r).testBit (p.headD 0) = true → AcK X a (exF X cn r p acc)
  | 0, p, acc, h, hp, hw => kpF_K h hp (anN_bit hw).2
  | r + 1, p, acc, h, hp, hw => by
    rw [exF_J]
    have key : ∀ j, j ≤ cn → AcK X a (exJ X cn r p acc j) := by
      intro j
      induction j with
      | zero => intro _; exact h
      | succ j ih =>
        intro hj
        rw [exJ_s, exS]
        split
        · next hc =>
          have h9 := opN_bit hc.2
          exact exF_K X cn a r (j :: p) _ (ih (by omega)) (pf_push hp h9.1) h9.2.2
        · exact ih (by omega)
    exact key cn (Nat.le_refl _)
theorem chJ_K (X : IS) (cn a : Nat) : ∀ n, AcK X a (chJ X cn a n)
  | 0 => fun c hc => by simp [chJ] at hc
  | n + 1 => by
    unfold chJ
    split
    · next h => exact exF_K X cn a n [a] _ (chJ_K X cn a n) (pf_one X a) h
    · exact chJ_K X cn a n
theorem chs_K (X : IS) (cn a : Nat) : AcK X a (chs X cn a) := chJ_K X cn a 6
/-- what was kept stays where it is -/
def Pre (acc acc' : List (List Nat)) : Prop := acc.length ≤ acc'.length ∧ ∀ c, c < acc.length → gtC acc' c = gtC acc c
theorem Pre.rf (acc : List (List Nat)) : Pre acc acc := ⟨Nat.le_refl _, fun _ _ => rfl⟩
theorem Pre.tr {a b c : List (List Nat)} (h : Pre a b) (h2 : Pre b c) : Pre a c := ⟨Nat.le_trans h.1 h2.1, fun q hq => (h2.2 q (Nat.lt_of_lt_of_le hq h.1)).trans (h.2 q hq)⟩
theorem kpF_P (p : List Nat) (acc : List (List Nat)) : Pre acc (kpF p acc) := by
  unfold kpF
  split
  · exact ⟨by simp, fun c hc => gtC_app hc⟩
  · exact Pre.rf _
theorem exF_P (X : IS) (cn : Nat) : ∀ (r : Nat) (p : List Nat) (acc : List (List Nat)), Pre acc (exF X cn r p acc)
  | 0, p, acc => kpF_P p acc
  | r + 1, p, acc => by
    rw [exF_J]
    have key : ∀ j, Pre acc (exJ X cn r p acc j) := by
      intro j
      induction j with
      | zero => exact Pre.rf _
      | succ j ih =>
        rw [exJ_s, exS]
        split
        · exact ih.tr (exF_P X cn r (j :: p) _)
        · exact ih
    exact key cn
theorem chJ_P (X : IS) (cn a : Nat) (n : Nat) : ∀ d, Pre (chJ X cn a n) (chJ X cn a (n + d))
  | 0 => Pre.rf _
  | d + 1 => by
    refine (chJ_P X cn a n d).tr ?_
    show Pre (chJ X cn a (n + d)) (chJ X cn a (n + d + 1))
    conv => rhs; unfold chJ
    split
    · exact exF_P X cn _ _ _
    · exact Pre.rf _
/-- an anchor's first chain is itself -/
theorem chs_anchor {X : IS} {cn a : Nat} (ha : a < cn) (h : ancB X a = true) : 1 ≤ (chs X cn a).length ∧ gtC (chs X cn a) 0 = [a] := by
  have hb : (wyN X cn 0).testBit a = true := by
    show (anN X cn).testBit a = true
    unfold anN
    rw [bsN_bit]
    simp [ha, h]
  have e : chJ X cn a 1 = [[a]] := by
    unfold chJ
    rw [if_pos hb]
    rfl
  have hp := chJ_P X cn a 1 5
  rw [e] at hp
  exact ⟨hp.1, hp.2 0 (by simp)⟩
theorem f6F_rng (X : IS) (ch : List Nat) (q : Nat) (t u : Int32) : ∃ v, v ≤ 6 ∧ f6F X ch q t u = nI v := by
  have hA : ∃ v, v ≤ 3 ∧ flA (X (10 + gtN ch q)) t u = nI v := by
    unfold flA
    split
    · exact ⟨1, by omega, rfl⟩
    · split
      · exact ⟨2, by omega, rfl⟩
      · split
        · exact ⟨3, by omega, rfl⟩
        · exact ⟨0, by omega, rfl⟩
  unfold f6F
  split
  · unfold fbF
    split
    · exact ⟨4, by omega, rfl⟩
    · split
      · exact ⟨5, by omega, rfl⟩
      · split
        · exact ⟨6, by omega, rfl⟩
        · exact ⟨0, by omega, rfl⟩
  · obtain ⟨v, h1, h2⟩ := hA
    exact ⟨v, by omega, h2⟩
theorem flF_rng (X : IS) (lcn : Nat) (ch : List Nat) (q : Nat) (t u : Int32) : ∃ v, v ≤ 7 ∧ flF X lcn ch q t u = nI v := by
  unfold flF
  split
  · exact ⟨7, by omega, rfl⟩
  · obtain ⟨v, h1, h2⟩ := f6F_rng X ch q t u
    exact ⟨v, by omega, h2⟩
/-- the verdict, and the place of its flaw -/
theorem dcF_0 (X : IS) (lcn : Nat) (t u : Int32) {acc : List (List Nat)} (h0 : acc.length = 0) : dcF X lcn t u acc = nI 10 ∧ fhO X lcn t u acc = none ∧ dpF X lcn t u acc = -1 := by
  have e : acc = [] := List.length_eq_zero_iff.mp h0
  subst e
  exact ⟨rfl, rfl, rfl⟩
theorem dcF_y {X : IS} {lcn : Nat} {t u : Int32} {acc : List (List Nat)} {c : Nat} (h0 : 1 ≤ acc.length) (hf : fhO X lcn t u acc = some c) : dcF X lcn t u acc = nI 0 ∧ dpF X lcn t u acc = -1 := by
  constructor
  · unfold dcF
    rw [if_neg (by omega), hf]
    rfl
  · unfold dpF
    rw [hf]
    rfl
theorem dcF_n {X : IS} {lcn : Nat} {t u : Int32} {acc : List (List Nat)} (h0 : 1 ≤ acc.length) (hf : fhO X lcn t u acc = none) : ∃ q v, q < (gtC acc 0).length ∧ 1 ≤ v ∧ v ≤ 7 ∧ dcF X lcn t u acc = nI v ∧ dpF X lcn t u acc = nI q ∧ flF X lcn (gtC acc 0) q t u = nI v := by
  cases hq : ffO X lcn t u (gtC acc 0) with
  | none =>
    have h9 : (fhO X lcn t u acc).isSome = true := fhO_yes h0 hq
    rw [hf] at h9
    cases h9
  | some q =>
    have h1 := fdF_some (show fdF (fun q => decide (¬ flF X lcn (gtC acc 0) q t u = 0)) (gtC acc 0).length 0 = some q from hq)
    obtain ⟨v, hv, e⟩ := flF_rng X lcn (gtC acc 0) q t u
    have h2 := of_decide_eq_true h1.2.2.1
    refine ⟨q, v, by omega, ?_, hv, ?_, ?_, e⟩
    · rcases Nat.eq_zero_or_pos v with h | h
      · rw [h, show nI 0 = (0 : Int32) from rfl] at e
        exact absurd e h2
      · exact h
    · unfold dcF
      rw [if_neg (by omega), hf, hq, if_neg (show ¬ (none : Option Nat).isSome = true by decide)]
      exact e
    · unfold dpF
      rw [hf, hq]
      rfl
