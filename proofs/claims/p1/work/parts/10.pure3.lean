/-! 10: called back, flaws, verdicts: pure -/
def opI : Option Nat → Int32
  | none => -1
  | some j => nI j
def isLt (cn : Nat) (x : Int32) : Bool := if x < 0 then false else if nI cn ≤ x then false else true
theorem isLt_at {cn a : Nat} (h : a < cn) (hc : cn < 2 ^ 31) : isLt cn (nI a) = true := by
  unfold isLt
  rw [if_neg (nI_pos (by omega)), if_neg (nI_ge h hc)]
theorem isLt_m1 (cn : Nat) : isLt cn (-1) = false := if_pos (by decide)
theorem isLt_no {cn a : Nat} (h : cn ≤ a) (ha : a < 2 ^ 31) : isLt cn (nI a) = false := by
  unfold isLt
  rw [if_neg (nI_pos ha), if_pos (nI_le h ha)]
theorem isLt_of {cn : Nat} {x : Int32} (hc : cn < 2 ^ 31) (h : isLt cn x = true) : ∃ a, a < cn ∧ x = nI a := by
  unfold isLt at h
  split at h
  · exact absurd h (by decide)
  · next h0 =>
    split at h
    · exact absurd h (by decide)
    · next h1 =>
      obtain ⟨j, hj, rfl⟩ := nI_of h0
      exact ⟨j, Nat.lt_of_not_le (fun q => h1 (nI_le q hj)), rfl⟩
/-- a list's seal is right by a key -/
def sgB (X : IS) (j : Nat) (key : Int32) : Bool := decide (¬ (sgF (prCf (X (30 + j))) (X (30 + j) 4) 16 >>> (key &&& 31)) &&& nI 1 = 0)
/-- the latest list of an issuer, by a key, at a time: its number, its AT -/
def ltF (X : IS) (iss key t : Int32) : Nat → Option Nat × Int32
  | 0 => (none, -1)
  | j + 1 => if X (30 + j) 0 = iss ∧ sgB X j key = true ∧ X (30 + j) 1 ≤ t ∧ (ltF X iss key t j).2 ≤ X (30 + j) 1 then (some j, X (30 + j) 1) else ltF X iss key t j
theorem ltF_lt (X : IS) (iss key t : Int32) : ∀ (n j : Nat), (ltF X iss key t n).1 = some j → j < n
  | 0, j, h => by simp [ltF] at h
  | n + 1, j, h => by
    unfold ltF at h
    split at h
    · have := Option.some.inj h
      omega
    · have := ltF_lt X iss key t n j h
      omega
/-- letter a, with letter b behind it, is called back at t -/
def cbB (X : IS) (lcn a : Nat) (b : Option Nat) (t : Int32) : Bool :=
  match b with
  | none => false
  | some b =>
    if X (10 + a) 11 = 0 then
      match (ltF X (X (10 + a) 1) (X (10 + b) 2) t lcn).1 with
      | none => decide (¬ X 0 6 = 0)
      | some j => if (X (30 + j) 3 >>> (X (10 + a) 3 &&& 31)) &&& nI 1 = 0 then decide (¬ X 0 6 = 0) && decide (X (30 + j) 2 < t) else true
    else false
/-- the first q from i on, among f, with p -/
def fdF (p : Nat → Bool) : Nat → Nat → Option Nat
  | 0, _ => none
  | f + 1, i => if p i then some i else fdF p f (i + 1)
theorem fdF_none {p : Nat → Bool} : ∀ {f i : Nat}, fdF p f i = none ↔ ∀ q, i ≤ q → q < i + f → p q = false
  | 0, i => by simp [fdF]; intro q h1 h2; omega
  | f + 1, i => by
    unfold fdF
    by_cases h : p i = true
    · rw [if_pos h]
      constructor
      · intro h2; cases h2
      · intro h2
        have := h2 i (Nat.le_refl _) (by omega)
        rw [h] at this; cases this
    · rw [if_neg h, fdF_none (f := f) (i := i + 1)]
      constructor
      · intro h2 q h3 h4
        by_cases hq : q = i
        · subst hq; simpa using h
        · exact h2 q (by omega) (by omega)
      · intro h2 q h3 h4
        exact h2 q (by omega) (by omega)
theorem fdF_some {p : Nat → Bool} : ∀ {f i q : Nat}, fdF p f i = some q → i ≤ q ∧ q < i + f ∧ p q = true ∧ ∀ r, i ≤ r → r < q → p r = false
  | 0, i, q, h => by simp [fdF] at h
  | f + 1, i, q, h => by
    unfold fdF at h
    by_cases h9 : p i = true
    · rw [if_pos h9] at h
      cases h
      exact ⟨Nat.le_refl _, by omega, h9, fun r h1 h2 => by omega⟩
    · rw [if_neg h9] at h
      obtain ⟨h1, h2, h3, h4⟩ := fdF_some h
      refine ⟨by omega, by omega, h3, fun r h5 h6 => ?_⟩
      by_cases hr : r = i
      · subst hr; simpa using h9
      · exact h4 r (by omega) h6
/-- one of the letters ahead of place q isn't below the bound of letter a -/
def obF (X : IS) (ch : List Nat) (a q : Nat) : Option Nat := fdF (fun r => !isUn (X (10 + gtN ch r) 0) (X (10 + a) 9)) q 0
def fbF (X : IS) (ch : List Nat) (a q : Nat) : Int32 := if X (10 + a) 6 = 0 then nI 4 else if X (10 + a) 7 < nI q - nI 1 then nI 5 else if (obF X ch a q).isSome then nI 6 else nI 0
/-- flaws 1 to 6 -/
def f6F (X : IS) (ch : List Nat) (q : Nat) (t u : Int32) : Int32 := if flA (X (10 + gtN ch q)) t u = 0 ∧ 0 < q then fbF X ch (gtN ch q) q else flA (X (10 + gtN ch q)) t u
/-- the flaw of the letter at place q of a chain -/
def flF (X : IS) (lcn : Nat) (ch : List Nat) (q : Nat) (t u : Int32) : Int32 := if f6F X ch q t u = 0 ∧ cbB X lcn (gtN ch q) ch[q + 1]? t = true then nI 7 else f6F X ch q t u
def ffO (X : IS) (lcn : Nat) (t u : Int32) (ch : List Nat) : Option Nat := fdF (fun q => decide (¬ flF X lcn ch q t u = 0)) ch.length 0
def fhO (X : IS) (lcn : Nat) (t u : Int32) (acc : List (List Nat)) : Option Nat := fdF (fun c => (ffO X lcn t u (gtC acc c)).isNone) acc.length 0
def dcF (X : IS) (lcn : Nat) (t u : Int32) (acc : List (List Nat)) : Int32 := if acc.length = 0 then nI 10 else if (fhO X lcn t u acc).isSome then nI 0 else
  match ffO X lcn t u (gtC acc 0) with
  | none => nI 0
  | some q => flF X lcn (gtC acc 0) q t u
def dpF (X : IS) (lcn : Nat) (t u : Int32) (acc : List (List Nat)) : Int32 := if (fhO X lcn t u acc).isSome then (-1) else opI (ffO X lcn t u (gtC acc 0))
def hkO (X : IS) (ch : List Nat) (key : Int32) : Option Nat := fdF (fun q => decide (X (10 + gtN ch q) 2 = key)) ch.length 0
theorem opI_m1 {o : Option Nat} (h : ∀ j, o = some j → j < 2 ^ 31) : opI o = -1 ↔ o = none := by
  cases o with
  | none => simp [opI]
  | some j =>
    constructor
    · intro q
      have h1 := nI_pos (h j rfl)
      rw [show nI j = -1 from q] at h1
      exact absurd (by decide) h1
    · intro q; cases q
/-- all members of all chains are letters -/
def AcO (acc : List (List Nat)) (cn : Nat) : Prop := ∀ c, c < acc.length → ∀ b, b ∈ gtC acc c → b < cn
theorem gtN_mem {p : List Nat} {q : Nat} (h : q < p.length) : gtN p q ∈ p := by
  unfold gtN
  rw [List.getD_eq_getElem?_getD, List.getElem?_eq_getElem h]
  exact List.getElem_mem h
theorem kpF_O {p : List Nat} {acc : List (List Nat)} {cn : Nat} (h : AcO acc cn) (hp : ∀ b, b ∈ p → b < cn) : AcO (kpF p acc) cn := by
  unfold kpF
  split
  · intro c hc b hb
    by_cases h9 : c < acc.length
    · rw [gtC_app h9] at hb
      exact h c h9 b hb
    · have : c = acc.length := by simp at hc; omega
      subst this
      rw [gtC_new] at hb
      exact hp b (List.mem_reverse.mp hb)
  · exact h
theorem exF_O (X : IS) (cn : Nat) : ∀ (r : Nat) (p : List Nat) (acc : List (List Nat)), AcO acc cn → (∀ b, b ∈ p → b < cn) → AcO (exF X cn r p acc) cn
  | 0, p, acc, h, hp => kpF_O h hp
  | r + 1, p, acc, h, hp => by
    rw [exF_J]
    have key : ∀ j, j ≤ cn → AcO (exJ X cn r p acc j) cn := by
      intro j
      induction j with
      | zero => intro _; exact h
      | succ j ih =>
        intro hj
        rw [exJ_s, exS]
        split
        · exact exF_O X cn r (j :: p) _ (ih (by omega)) (fun b hb => by
            rcases List.mem_cons.mp hb with q | q
            · omega
            · exact hp b q)
        · exact ih (by omega)
    exact key cn (Nat.le_refl _)
theorem chJ_O (X : IS) (cn a : Nat) (ha : a < cn) : ∀ n, AcO (chJ X cn a n) cn
  | 0 => fun c hc => absurd hc (Nat.not_lt_zero _)
  | n + 1 => by
    unfold chJ
    split
    · exact exF_O X cn n [a] _ (chJ_O X cn a ha n) (fun b hb => by rw [List.mem_singleton.mp hb]; exact ha)
    · exact chJ_O X cn a ha n
theorem chs_O (X : IS) {cn a : Nat} (ha : a < cn) : AcO (chs X cn a) cn := chJ_O X cn a ha 6
/-- the lists' scratch: which keys each seal is right for -/
def SgH (I : IS) (lcn : Nat) : Prop := ∀ j, j < lcn → I (30 + j) 5 = sgF (prCf (vw I (30 + j))) (vw I (30 + j) 4) 16
theorem SgH.ex {I I' : IS} {lcn : Nat} (h : SgH I lcn) (hl : lcn ≤ 8) (hE : ExP I I') : SgH I' lcn := by
  intro j hj
  rw [hE (30 + j) 5 (by omega) (by omega) (by omega) (by omega), hE.vw]
  exact h j hj
theorem mbI_at {acc : List (List Nat)} {c q : Nat} (h : q < (gtC acc c).length) (hq : q < 2 ^ 31) : mbI acc c (nI q) = nI (gtN (gtC acc c) q) := by
  rw [mbI, if_neg (nI_pos hq), nI_clamp hq, if_neg (Nat.not_le.mpr h)]
theorem mbI_o {acc : List (List Nat)} {c q : Nat} (hq : q < 2 ^ 31) : mbI acc c (nI q) = opI (gtC acc c)[q]? := by
  rw [mbI, if_neg (nI_pos hq), nI_clamp hq]
  split
  · next h => rw [List.getElem?_eq_none h]; rfl
  · next h =>
    rw [List.getElem?_eq_getElem (Nat.lt_of_not_le h)]
    unfold gtN
    rw [List.getD_eq_getElem?_getD, List.getElem?_eq_getElem (Nat.lt_of_not_le h)]
    rfl
theorem bI_nz {b : Bool} (h : ¬ bI b = 0) : b = true := by cases b; exact absurd rfl h; rfl
theorem bI_z {b : Bool} (h : bI b = 0) : b = false := bI_0.mp h
theorem bkB_vw (I : IS) {b a : Nat} (hb : b < 20) (ha : a < 20) : bkB (vw I) b a = bkB I b a := by
  unfold bkB
  rw [vw_L I hb, vw_L I ha]
theorem bkN_vw (I : IS) {cn a : Nat} (hc : cn ≤ 20) (ha : a < 20) : bkN (vw I) cn a = bkN I cn a := bsN_congr (fun b hb => bkB_vw I (by omega) ha)
theorem anN_vw (I : IS) {cn : Nat} (hc : cn ≤ 20) : anN (vw I) cn = anN I cn := bsN_congr (fun b hb => by unfold ancB; rw [vw_L I (by omega)])
theorem ob5 (j : Nat) : obB 5 j = false := by simp [obB]
theorem obC5 {j : Nat} (h : j < 8) : obB (30 + j) 5 = false := by simp [obB]; omega
theorem SvH.up {I : IS} {cn : Nat} (h : SvH I cn) {j : Nat} (hj : j < 8) (v : Int32) : SvH (up2 I (30 + j) 5 v) cn := by
  obtain ⟨h1, h2, h3⟩ := h
  refine ⟨by rw [up2_n _ _ _ _ (by omega)]; exact h1, fun a ha => ?_, fun s hs => ?_⟩
  · rw [up2_n _ _ _ _ (by omega), vw_up _ (obC5 hj)]; exact h2 a ha
  · rw [up2_n _ _ _ _ (by omega), vw_up _ (obC5 hj)]; exact h3 s hs
theorem cb_none (X : IS) (lcn a : Nat) (t : Int32) : cbB X lcn a none t = false := rfl
theorem cb_anc {X : IS} {lcn a : Nat} (b : Option Nat) (t : Int32) (h : ¬ X (10 + a) 11 = 0) : cbB X lcn a b t = false := by
  cases b with
  | none => rfl
  | some b => unfold cbB; exact if_neg h
theorem cb_no {X : IS} {lcn a b : Nat} {t : Int32} (h : X (10 + a) 11 = 0) (hl : (ltF X (X (10 + a) 1) (X (10 + b) 2) t lcn).1 = none) : cbB X lcn a (some b) t = decide (¬ X 0 6 = 0) := by
  unfold cbB
  simp only [h, if_true, hl]
theorem cb_at {X : IS} {lcn a b j : Nat} {t : Int32} (h : X (10 + a) 11 = 0) (hl : (ltF X (X (10 + a) 1) (X (10 + b) 2) t lcn).1 = some j) : cbB X lcn a (some b) t = if (X (30 + j) 3 >>> (X (10 + a) 3 &&& 31)) &&& nI 1 = 0 then decide (¬ X 0 6 = 0) && decide (X (30 + j) 2 < t) else true := by
  unfold cbB
  simp only [h, if_true, hl]
theorem fdF_is {p : Nat → Bool} {len j : Nat} (h1 : j < len) (h2 : p j = true) (h3 : ∀ r, r < j → p r = false) : fdF p len 0 = some j := by
  cases h : fdF p len 0 with
  | none =>
    have := fdF_none.mp h j (Nat.zero_le _) (by omega)
    rw [h2] at this; cases this
  | some q =>
    obtain ⟨-, q2, q3, q4⟩ := fdF_some h
    congr 1
    rcases Nat.lt_trichotomy q j with z | z | z
    · have := h3 q z
      rw [q3] at this; cases this
    · exact z
    · have := q4 j (Nat.zero_le _) z
      rw [h2] at this; cases this
theorem fdF_no {p : Nat → Bool} {len : Nat} (h : ∀ r, r < len → p r = false) : fdF p len 0 = none := fdF_none.mpr (fun q _ h2 => h q (by omega))
theorem ffO_lt {X : IS} {lcn : Nat} {t u : Int32} {ch : List Nat} {q : Nat} (h : ffO X lcn t u ch = some q) : q < ch.length := by
  have := (fdF_some h).2.1
  omega
theorem fhO_lt {X : IS} {lcn : Nat} {t u : Int32} {acc : List (List Nat)} {q : Nat} (h : fhO X lcn t u acc = some q) : q < acc.length := by
  have := (fdF_some h).2.1
  omega
def wpF (f : Nat → Int32) (b : Int64) : Nat → Int64
  | 0 => b
  | j + 1 => wpF f b j * 31 + (pyL f j).toInt64
def gcO (acc : List (List Nat)) : Option Nat → List Nat
  | none => []
  | some c => gtC acc c
theorem leI_oc {acc : List (List Nat)} {oc : Option Nat} (h : ∀ c, oc = some c → c < 2 ^ 31) : leI acc (opI oc) = (gcO acc oc).length := by
  cases oc with
  | none => exact leI_no (Or.inl (by decide))
  | some c => exact leI_at (h c rfl)
theorem gt_in {acc : List (List Nat)} {c q : Nat} (h : q < (gtC acc c).length) : c < acc.length := by
  rcases Nat.lt_or_ge c acc.length with z | z
  · exact z
  · rw [gtC_out z] at h
    exact absurd h (Nat.not_lt_zero _)
theorem dcF_at {X : IS} {lcn : Nat} {t u : Int32} {acc : List (List Nat)} {q : Nat} (h1 : ¬ acc.length = 0) (h2 : fhO X lcn t u acc = none) (h3 : ffO X lcn t u (gtC acc 0) = some q) : dcF X lcn t u acc = flF X lcn (gtC acc 0) q t u := by
  unfold dcF
  rw [if_neg h1, h2, if_neg (by decide), h3]
theorem dpF_no {X : IS} {lcn : Nat} {t u : Int32} {acc : List (List Nat)} (h2 : fhO X lcn t u acc = none) : dpF X lcn t u acc = opI (ffO X lcn t u (gtC acc 0)) := by
  unfold dpF
  rw [h2, if_neg (by decide)]
