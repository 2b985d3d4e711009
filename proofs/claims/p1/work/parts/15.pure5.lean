/-! 15: what the questions about chains answer: pure -/
def QH (X : IS) (cn lcn : Nat) (I1 : IS) : Prop := SvH I1 cn ∧ SgH I1 lcn ∧ vw I1 = X
theorem QH.ex {X : IS} {cn lcn : Nat} {I1 I2 : IS} (h : QH X cn lcn I1) (hl : lcn ≤ 8) (hE : ExP I1 I2) : QH X cn lcn I2 := ⟨h.1.ex hE, h.2.1.ex hl hE, hE.vw.trans h.2.2⟩
theorem ExP.at4 {I I' : IS} (h : ExP I I') : I' 4 = I 4 := by funext q; exact h 4 q (by omega) (by omega) (by omega) (by omega)
theorem up4_vw (I : IS) (j : Nat) (v : Int32) : vw (up2 I 4 j v) = vw I := vw_up v (by simp [obB])
theorem QH.up4 {X : IS} {cn lcn : Nat} {I1 : IS} (h : QH X cn lcn I1) (hl : lcn ≤ 8) (j : Nat) (v : Int32) : QH X cn lcn (up2 I1 4 j v) := by
  obtain ⟨⟨h1, h2, h3⟩, h4, h5⟩ := h
  refine ⟨⟨by rw [up2_n _ _ _ _ (by omega)]; exact h1, fun a ha => ?_, fun s hs => ?_⟩, fun a ha => ?_, (up4_vw I1 j v).trans h5⟩
  · rw [up2_n _ _ _ _ (by omega), up4_vw]; exact h2 a ha
  · rw [up2_n _ _ _ _ (by omega), up4_vw]; exact h3 s hs
  · rw [up2_n _ _ _ _ (by omega), up4_vw]; exact h4 a ha
def stN (X : IS) (cn lcn : Nat) (key t u : Int32) : Nat → Nat
  | 0 => 0
  | j + 1 => stN X cn lcn key t u j + if (hkO X (gcO (chs X cn j) (fhO X lcn t u (chs X cn j))) key).isSome = true then 1 else 0
def hoN (X : IS) (cn lcn : Nat) (t u : Int32) : Nat → Nat
  | 0 => 0
  | j + 1 => hoN X cn lcn t u j + if (fhO X lcn t u (chs X cn j)).isSome = true then 1 else 0
def toN (X : IS) (cn lcn : Nat) (t u : Int32) : Nat → Nat
  | 0 => 0
  | j + 1 => toN X cn lcn t u j + (gcO (chs X cn j) (fhO X lcn t u (chs X cn j))).length
def mcF (X : IS) (cn lcn : Nat) (t u : Int32) : UInt64 := if hoN X cn lcn t u cn = 0 then FP.dconst0 else FP.ddiv (FP.i2d (nI (toN X cn lcn t u cn))) (FP.i2d (nI (hoN X cn lcn t u cn)))
def owN (X X' : IS) (cn lcn : Nat) (t u : Int32) : Nat → Nat
  | 0 => 0
  | j + 1 => owN X X' cn lcn t u j + if dcF X' lcn t u (chs X' cn j) = dcF X lcn t u (chs X cn j) then 0 else 1
/-- the room with letter i's anchor turned -/
def trX (X : IS) (i : Nat) : IS := up2 X (10 + i) 11 (bI (decide (X (10 + i) 11 = 0)))
def ioO (X : IS) (cn lcn : Nat) (a key t u : Int32) : Option Nat := fdF (fun j => decide (X (10 + j) 0 = a) && (decide (X (10 + j) 2 = key) && (fhO X lcn t u (chs X cn j)).isSome)) cn 0
def htN (p : Nat → Bool) : Nat → Nat → Nat
  | 0, tau => tau
  | f + 1, tau => if p (tau + 1) then htN p f (tau + 1) else tau
def htF (X : IS) (lcn : Nat) (t0 : Nat) (u : Int32) (acc : List (List Nat)) : Int32 := if (fhO X lcn (nI t0) u acc).isSome = true then nI (htN (fun tau => (fhO X lcn (nI tau) u acc).isSome) (999 - t0) t0) else (-1)
def dgC (X : IS) (cn lcn : Nat) : Nat → Int64
  | 0 => 58102
  | w + 1 => dgC X cn lcn w * 31 + (mnF X cn lcn w).toInt64
def dgU (X : IS) (lcn : Nat) (acc : List (List Nat)) (tm : Int32) (d : Int64) : Nat → Int64
  | 0 => d
  | m + 1 => (dgU X lcn acc tm d m * 31 + (dcF X lcn tm (nI (2 * m)) acc).toInt64) * 31 + (dpF X lcn tm (nI (2 * m)) acc).toInt64
def dgT (X : IS) (lcn : Nat) (acc : List (List Nat)) (d : Int64) : Nat → Int64
  | 0 => d
  | j + 1 => dgU X lcn acc (nI (100 + 400 * j)) (dgT X lcn acc d j) 2
def dgL (X : IS) (cn lcn : Nat) (d : Int64) : Nat → Int64
  | 0 => d
  | i + 1 => dgT X lcn (chs X cn i) (wpF (X (10 + i)) (dgL X cn lcn d i) 13 * 31 + (nI (chs X cn i).length).toInt64) 2
def dgP (f : Nat → Int32) (d : Int64) : Nat → Int64
  | 0 => d
  | w + 1 => dgP f d w * 31 + (pyC f w).toInt64
def dgS (X : IS) (d : Int64) : Nat → Int64
  | 0 => d
  | j + 1 => dgP (X (30 + j)) (dgS X d j) 6
def dgF (X : IS) (cn lcn : Nat) : Int64 := dgS X (dgL X cn lcn (dgC X cn lcn 4) cn) lcn
theorem pyC_vw (I : IS) {j w : Nat} (hj : j < 8) (hw : w ≤ 5) : pyC (I (30 + j)) w = pyC (vw I (30 + j)) w := by
  unfold pyC
  split
  · exact (prC_vw (I := I) (I' := vw I) (by funext n q; unfold vw; split <;> simp_all) hj).symm
  · rw [vwC_ I hj (by omega)]
theorem vw_vw (I : IS) : vw (vw I) = vw I := by
  funext n q
  unfold vw
  split <;> simp_all
theorem vw_upL (I : IS) {i q : Nat} (hi : i < 20) (v : Int32) : vw (up2 I (10 + i) q v) = up2 (vw I) (10 + i) q v := by
  have hob : ∀ b, obB (10 + i) b = true := fun b => by simp [obB]; omega
  funext a b
  by_cases ha : a = 10 + i
  · subst ha
    unfold vw
    rw [if_pos (hob b)]
    by_cases hb : b = q
    · subst hb; rw [up2_s, up2_s]
    · rw [up2_f _ _ _ _ hb, up2_f _ _ _ _ hb, if_pos (hob b)]
  · unfold vw
    rw [up2_n _ _ _ _ ha, up2_n _ _ _ _ ha]
theorem vw_trX (I : IS) {i : Nat} (hi : i < 20) : vw (up2 I (10 + i) 11 (bI (decide (I (10 + i) 11 = 0)))) = trX (vw I) i := by
  rw [vw_upL I hi, trX, vw_L I hi]
theorem trX_trX {X : IS} {i : Nat} (h : ∃ b, X (10 + i) 11 = bI b) : trX (trX X i) i = X := by
  obtain ⟨b, hb⟩ := h
  unfold trX
  rw [up2_s, up2_up2, hb]
  funext a q
  by_cases ha : a = 10 + i
  · subst ha
    by_cases hq : q = 11
    · subst hq; rw [up2_s, hb]; cases b <;> rfl
    · rw [up2_f _ _ _ _ hq]
  · rw [up2_n _ _ _ _ ha]
theorem hoN_le (X : IS) (cn lcn : Nat) (t u : Int32) : ∀ j, hoN X cn lcn t u j ≤ j
  | 0 => Nat.le_refl _
  | j + 1 => by
    have := hoN_le X cn lcn t u j
    unfold hoN
    split <;> omega
/-- all chains are of 1 to 6 letters -/
def Ac6 (acc : List (List Nat)) : Prop := ∀ c, c < acc.length → 1 ≤ (gtC acc c).length ∧ (gtC acc c).length ≤ 6
theorem kpF_6 {p : List Nat} {acc : List (List Nat)} (h : Ac6 acc) (h1 : 1 ≤ p.length) (h6 : p.length ≤ 6) : Ac6 (kpF p acc) := by
  unfold kpF
  split
  · intro c hc
    by_cases h9 : c < acc.length
    · rw [gtC_app h9]; exact h c h9
    · have : c = acc.length := by simp at hc; omega
      subst this
      rw [gtC_new, List.length_reverse]
      exact ⟨h1, h6⟩
  · exact h
theorem exF_6 (X : IS) (cn : Nat) : ∀ (r : Nat) (p : List Nat) (acc : List (List Nat)), Ac6 acc → 1 ≤ p.length → p.length + r ≤ 6 → Ac6 (exF X cn r p acc)
  | 0, p, acc, h, h1, h6 => kpF_6 h h1 h6
  | r + 1, p, acc, h, h1, h6 => by
    rw [exF_J]
    have key : ∀ j, Ac6 (exJ X cn r p acc j) := by
      intro j
      induction j with
      | zero => exact h
      | succ j ih =>
        rw [exJ_s, exS]
        split
        · exact exF_6 X cn r (j :: p) _ ih (by simp) (by simp; omega)
        · exact ih
    exact key cn
theorem chJ_6 (X : IS) (cn a : Nat) : ∀ n, n ≤ 6 → Ac6 (chJ X cn a n)
  | 0, _ => fun c hc => absurd hc (Nat.not_lt_zero _)
  | n + 1, hn => by
    unfold chJ
    split
    · exact exF_6 X cn n [a] _ (chJ_6 X cn a n (by omega)) (by simp) (by simp; omega)
    · exact chJ_6 X cn a n (by omega)
theorem chs_6 (X : IS) (cn a : Nat) : Ac6 (chs X cn a) := chJ_6 X cn a 6 (Nat.le_refl _)
theorem gcO_6 (X : IS) (cn lcn a : Nat) (t u : Int32) : (gcO (chs X cn a) (fhO X lcn t u (chs X cn a))).length ≤ 6 ∧ ((fhO X lcn t u (chs X cn a)).isSome = true → 1 ≤ (gcO (chs X cn a) (fhO X lcn t u (chs X cn a))).length) ∧ ((fhO X lcn t u (chs X cn a)).isSome = false → (gcO (chs X cn a) (fhO X lcn t u (chs X cn a))).length = 0) := by
  cases h : fhO X lcn t u (chs X cn a) with
  | none => exact ⟨Nat.zero_le _, fun q => absurd q (by decide), fun _ => rfl⟩
  | some c =>
    have := chs_6 X cn a c (fhO_lt h)
    exact ⟨this.2, fun _ => this.1, fun (q : true = false) => by cases q⟩
theorem toN_le (X : IS) (cn lcn : Nat) (t u : Int32) : ∀ j, hoN X cn lcn t u j ≤ toN X cn lcn t u j ∧ toN X cn lcn t u j ≤ 6 * hoN X cn lcn t u j
  | 0 => by simp [hoN, toN]
  | j + 1 => by
    have h := toN_le X cn lcn t u j
    obtain ⟨h1, h2, h3⟩ := gcO_6 X cn lcn j t u
    unfold hoN toN
    split
    · next q => have := h2 q; omega
    · next q => have := h3 (by simpa using q); omega
theorem dv_all : ∀ b, b < 20 → ∀ d, d < 5 * b + 6 → FP.ddiv (FP.i2d (nI (b + 1 + d))) (FP.i2d (nI (b + 1))) &&& 0x7fffffffffffffff ≤ 0x7ff0000000000000 := by decide +kernel
theorem dv_ok {a b : Nat} (h1 : b ≤ a) (h2 : a ≤ 6 * b) (h3 : ¬ b = 0) (h4 : b ≤ 20) : vf_n64 (FP.ddiv (FP.i2d (nI a)) (FP.i2d (nI b))) := by
  have h := dv_all (b - 1) (by omega) (a - b) (by omega)
  rw [show b - 1 + 1 + (a - b) = a by omega, show b - 1 + 1 = b by omega] at h
  exact h
theorem ffO_none {X : IS} {lcn : Nat} {t u : Int32} {ch : List Nat} (h6 : ch.length ≤ 6) : opI (ffO X lcn t u ch) = -1 ↔ ffO X lcn t u ch = none := opI_m1 (fun v hv => by have := ffO_lt hv; omega)
theorem fhO_none {X : IS} {lcn : Nat} {t u : Int32} {acc : List (List Nat)} (h6 : acc.length ≤ 60) : opI (fhO X lcn t u acc) = -1 ↔ fhO X lcn t u acc = none := opI_m1 (fun v hv => by have := fhO_lt hv; omega)
theorem fhO_yes {X : IS} {lcn : Nat} {t u : Int32} {acc : List (List Nat)} {c : Nat} (hc : c < acc.length) (h : ffO X lcn t u (gtC acc c) = none) : (fhO X lcn t u acc).isSome = true := by
  cases hq : fhO X lcn t u acc with
  | some v => rfl
  | none =>
    have h9 := fdF_none.mp hq c (Nat.zero_le _) (by omega)
    rw [h] at h9; cases h9
theorem fhO_ff {X : IS} {lcn : Nat} {t u : Int32} {acc : List (List Nat)} {c : Nat} (h : fhO X lcn t u acc = some c) : c < acc.length ∧ ffO X lcn t u (gtC acc c) = none := by
  obtain ⟨-, h2, h3, -⟩ := fdF_some h
  exact ⟨by omega, Option.isNone_iff_eq_none.mp h3⟩
theorem isS_of {o : Option Nat} (h : ¬ o = none) : o.isSome = true := by cases o; exact absurd rfl h; rfl
theorem isS_no {o : Option Nat} (h : o = none) : ¬ o.isSome = true := by rw [h]; decide
