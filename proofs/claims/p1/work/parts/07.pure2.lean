/-! 07: sets of bits, who backs whom, the chains, the flaws: pure. (fa_and, fa_or, s_l began as rows of kit/laws) -/
theorem fa_and (a b : Nat) : nI a &&& nI b = nI (a &&& b) := by
  apply Int32.toBitVec_inj.1
  show BitVec.ofNat 32 a &&& BitVec.ofNat 32 b = BitVec.ofNat 32 (a &&& b)
  apply BitVec.eq_of_getLsbD_eq
  intro i hi
  simp [hi]
theorem fa_or (a b : Nat) : nI a ||| nI b = nI (a ||| b) := by
  apply Int32.toBitVec_inj.1
  show BitVec.ofNat 32 a ||| BitVec.ofNat 32 b = BitVec.ofNat 32 (a ||| b)
  apply BitVec.eq_of_getLsbD_eq
  intro i hi
  simp [hi]
theorem s_l : ∀ n, n < 32 → ((nI n &&& 31).toBitVec.smod 32).toNat = n := by decide +kernel
/-- the bits of m that u hasn't -/
def lessN (m u : Nat) : Nat := m ^^^ (m &&& u)
theorem lessN_bit (m u i : Nat) : (lessN m u).testBit i = (m.testBit i && !u.testBit i) := by
  unfold lessN
  rw [Nat.testBit_xor, Nat.testBit_and]
  cases m.testBit i <;> cases u.testBit i <;> rfl
theorem fa_not (m u : Nat) : nI m &&& (nI u ^^^ (-1)) = nI (lessN m u) := by
  apply Int32.toBitVec_inj.1
  show BitVec.ofNat 32 m &&& (BitVec.ofNat 32 u ^^^ BitVec.allOnes 32) = BitVec.ofNat 32 (lessN m u)
  apply BitVec.eq_of_getLsbD_eq
  intro i hi
  rw [BitVec.getLsbD_and, BitVec.getLsbD_xor, BitVec.getLsbD_ofNat, BitVec.getLsbD_ofNat, BitVec.getLsbD_ofNat, BitVec.getLsbD_allOnes, lessN_bit, decide_eq_true hi]
  cases m.testBit i <;> cases u.testBit i <;> rfl
theorem fa_1s {j : Nat} (h : j < 31) : nI 1 <<< (nI j &&& 31) = nI (2 ^ j) := by
  rw [pk_shlN (n := 1) (nI j &&& 31) j (s_l j (by omega)) (by rw [Nat.one_mul]; exact Nat.pow_lt_pow_right (by decide) (by omega)), Nat.one_mul]
theorem fa_bt {m i : Nat} (hm : m < 2 ^ 31) (hi : i < 31) : (nI m >>> (nI i &&& 31)) &&& nI 1 = nI ((m.testBit i).toNat) := by
  rw [pk_shrN hm (nI i &&& 31) i (s_l i (by omega)), fa_and]
  congr 1
  rw [Nat.and_one_is_mod, Nat.testBit_eq_decide_div_mod_eq]
  have h2 : m / 2 ^ i % 2 = 0 ∨ m / 2 ^ i % 2 = 1 := by omega
  rcases h2 with h | h <;> simp [h]
theorem fa_bt0 {m i : Nat} (hm : m < 2 ^ 31) (hi : i < 31) : ((nI m >>> (nI i &&& 31)) &&& nI 1 = 0) ↔ m.testBit i = false := by
  rw [fa_bt hm hi]
  cases m.testBit i <;> decide
def bsN (p : Nat → Bool) : Nat → Nat
  | 0 => 0
  | j + 1 => if p j then bsN p j ||| 2 ^ j else bsN p j
theorem bsN_lt (p : Nat → Bool) : ∀ n, bsN p n < 2 ^ n
  | 0 => Nat.one_pos
  | n + 1 => by
    have h := bsN_lt p n
    unfold bsN
    have h2 : (2 : Nat) ^ n < 2 ^ (n + 1) := Nat.pow_lt_pow_right (by decide) (by omega)
    split
    · exact Nat.or_lt_two_pow (by omega) h2
    · omega
theorem bsN_bit (p : Nat → Bool) : ∀ n i, (bsN p n).testBit i = (decide (i < n) && p i)
  | 0, i => by simp [bsN]
  | n + 1, i => by
    have h := bsN_bit p n i
    unfold bsN
    by_cases hi : i = n
    · subst hi
      split
      · next hp => simp [Nat.testBit_or, Nat.testBit_two_pow_self, hp]
      · next hp => rw [h]; simp [hp]
    · have h1 : decide (i < n + 1) = decide (i < n) := by
        by_cases h9 : i < n
        · simp [h9]; omega
        · simp [h9]; omega
      rw [h1]
      split
      · rw [Nat.testBit_or, h, Nat.testBit_two_pow_of_ne (by omega), Bool.or_false]
      · exact h
theorem bsN_small (p : Nat → Bool) {n : Nat} (h : n ≤ 20) : bsN p n < 2 ^ 31 := Nat.lt_of_lt_of_le (bsN_lt p n) (Nat.pow_le_pow_right (by decide) (by omega))
theorem bsN_congr {p q : Nat → Bool} : ∀ {n : Nat}, (∀ i, i < n → p i = q i) → bsN p n = bsN q n
  | 0, _ => rfl
  | n + 1, h => by
    unfold bsN
    rw [bsN_congr (fun i hi => h i (by omega)), h n (by omega)]
theorem bs_up {p : Nat → Bool} {j : Nat} (hj : j < 31) (hp : p j = true) : nI (bsN p j) ||| (nI 1 <<< (nI j &&& 31)) = nI (bsN p (j + 1)) := by
  rw [fa_1s hj, fa_or, bsN, if_pos hp]
theorem bs_no {p : Nat → Bool} {j : Nat} (hp : p j = false) : bsN p j = bsN p (j + 1) := by
  rw [bsN, if_neg (by rw [hp]; decide)]
/-! what others can see of the cells -/
def obB (n q : Nat) : Bool := n == 0 || (decide (10 ≤ n) && decide (n < 30)) || (decide (30 ≤ n) && decide (n < 38) && !(q == 5)) || decide (98 ≤ n)
def vw (I : IS) : IS := fun n q => if obB n q then I n q else 0
theorem vw_0 (I : IS) : vw I 0 = I 0 := rfl
theorem vw_L (I : IS) {i : Nat} (h : i < 20) : vw I (10 + i) = I (10 + i) := by
  funext q
  unfold vw obB
  have h1 : decide (10 ≤ 10 + i) = true := by simp
  have h2 : decide (10 + i < 30) = true := by simp; omega
  simp [h1, h2]
theorem vwC_ (I : IS) {j q : Nat} (h : j < 8) (hq : q ≠ 5) : vw I (30 + j) q = I (30 + j) q := by
  unfold vw obB
  have h1 : decide (30 ≤ 30 + j) = true := by simp
  have h2 : decide (30 + j < 38) = true := by simp; omega
  have h3 : (q == 5) = false := by simp [hq]
  simp [h1, h2, h3]
theorem vw_up {I : IS} {n q : Nat} (v : Int32) (h : obB n q = false) : vw (up2 I n q v) = vw I := by
  funext a b
  unfold vw
  by_cases ha : a = n
  · subst ha
    by_cases hb : b = q
    · subst hb
      rw [h]; rfl
    · rw [up2_f _ _ _ _ hb]
  · rw [up2_n _ _ _ _ ha]
theorem vw_eq {I I' : IS} (h : ∀ n q, obB n q = true → I' n q = I n q) : vw I' = vw I := by
  funext a b
  unfold vw
  split
  · next q => exact h a b q
  · rfl
theorem vw_use {I I' : IS} (h : vw I' = vw I) {n q : Nat} (hb : obB n q = true) : I' n q = I n q := by
  have h1 := congrFun (congrFun h n) q
  unfold vw at h1
  rw [if_pos hb, if_pos hb] at h1
  exact h1
theorem vw_useL {I I' : IS} (h : vw I' = vw I) {i : Nat} (hi : i < 20) : I' (10 + i) = I (10 + i) := by rw [← vw_L I' hi, ← vw_L I hi, h]
theorem vw_use0 {I I' : IS} (h : vw I' = vw I) : I' 0 = I 0 := congrFun h 0
theorem vw_useC {I I' : IS} (h : vw I' = vw I) {j q : Nat} (hj : j < 8) (hq : q ≠ 5) : I' (30 + j) q = I (30 + j) q := by rw [← vwC_ I' hj hq, ← vwC_ I hj hq, h]
theorem prC_vw {I I' : IS} (h : vw I' = vw I) {j : Nat} (hj : j < 8) : prCf (I' (30 + j)) = prCf (I (30 + j)) := by
  unfold prCf
  rw [vw_useC h hj (by decide), vw_useC h hj (by decide), vw_useC h hj (by decide), vw_useC h hj (by decide)]
/-! who backs whom; which rows of backing end at an anchor -/
def ancB (X : IS) (i : Nat) : Bool := decide (¬ X (10 + i) 11 = 0)
def bkB (X : IS) (b a : Nat) : Bool := decide (X (10 + b) 0 = X (10 + a) 1) && decide (X (10 + a) 10 = sealF (prLf (X (10 + a))) (X (10 + b) 2))
def anN (X : IS) (cn : Nat) : Nat := bsN (ancB X) cn
def bkN (X : IS) (cn a : Nat) : Nat := bsN (fun b => bkB X b a) cn
def wyN (X : IS) (cn : Nat) : Nat → Nat
  | 0 => anN X cn
  | s + 1 => bsN (fun a => decide (¬ (bkN X cn a &&& wyN X cn s) = 0)) cn
theorem wyN_lt (X : IS) (cn : Nat) : ∀ s, wyN X cn s < 2 ^ cn
  | 0 => bsN_lt _ _
  | _ + 1 => bsN_lt _ _
theorem pow20 {cn : Nat} (h : cn ≤ 20) : (2 : Nat) ^ cn ≤ 1048576 := Nat.pow_le_pow_right (n := 2) (by decide) h
theorem wyN_s (X : IS) {cn : Nat} (h : cn ≤ 20) (s : Nat) : wyN X cn s < 2 ^ 31 := Nat.lt_of_lt_of_le (wyN_lt X cn s) (Nat.le_trans (pow20 h) (by decide))
theorem bkN_s (X : IS) {cn : Nat} (h : cn ≤ 20) (a : Nat) : bkN X cn a < 2 ^ 31 := bsN_small _ h
/-! chains: a prefix is held reversed -/
def usN : List Nat → Nat
  | [] => 0
  | b :: p => usN p ||| 2 ^ b
theorem usN_bit : ∀ (p : List Nat) (i : Nat), (usN p).testBit i = decide (i ∈ p)
  | [], i => by simp [usN]
  | b :: p, i => by
    unfold usN
    rw [Nat.testBit_or, usN_bit p i]
    by_cases h : i = b
    · subst h
      rw [Nat.testBit_two_pow_self]; simp
    · rw [Nat.testBit_two_pow_of_ne (Ne.symm h)]; simp [h]
def kpF (p : List Nat) (acc : List (List Nat)) : List (List Nat) := if acc.length < 60 then acc ++ [p.reverse] else acc
/-- which letters may come next, with r more to come -/
def opN (X : IS) (cn r : Nat) (p : List Nat) : Nat := lessN (bkN X cn (p.headD 0) &&& wyN X cn r) (usN p)
def exF (X : IS) (cn : Nat) : Nat → List Nat → List (List Nat) → List (List Nat)
  | 0, p, acc => kpF p acc
  | r + 1, p, acc => (List.range cn).foldl (fun acc b => if acc.length < 60 ∧ (opN X cn r p).testBit b = true then exF X cn r (b :: p) acc else acc) acc
def exS (X : IS) (cn r : Nat) (p : List Nat) (acc : List (List Nat)) (b : Nat) : List (List Nat) := if acc.length < 60 ∧ (opN X cn r p).testBit b = true then exF X cn r (b :: p) acc else acc
def exJ (X : IS) (cn r : Nat) (p : List Nat) (acc : List (List Nat)) (j : Nat) : List (List Nat) := (List.range j).foldl (exS X cn r p) acc
theorem exF_J (X : IS) (cn r : Nat) (p : List Nat) (acc : List (List Nat)) : exF X cn (r + 1) p acc = exJ X cn r p acc cn := rfl
theorem exJ_0 (X : IS) (cn r : Nat) (p : List Nat) (acc : List (List Nat)) : exJ X cn r p acc 0 = acc := rfl
theorem exJ_s (X : IS) (cn r : Nat) (p : List Nat) (acc : List (List Nat)) (j : Nat) : exJ X cn r p acc (j + 1) = exS X cn r p (exJ X cn r p acc j) j := by
  unfold exJ
  rw [List.range_succ, List.foldl_append]
  rfl
theorem exJ_full (X : IS) (cn r : Nat) (p : List Nat) (acc : List (List Nat)) {j : Nat} (h : ¬ (exJ X cn r p acc j).length < 60) : ∀ d, exJ X cn r p acc (j + d) = exJ X cn r p acc j
  | 0 => rfl
  | d + 1 => by
    have ih := exJ_full X cn r p acc h d
    rw [← Nat.add_assoc, exJ_s, ih, exS, if_neg (fun q => h q.1)]
theorem kpF_le (p : List Nat) {acc : List (List Nat)} (h : acc.length ≤ 60) : acc.length ≤ (kpF p acc).length ∧ (kpF p acc).length ≤ 60 := by
  unfold kpF
  split
  · rw [List.length_append]; simp; omega
  · omega
theorem exF_le (X : IS) (cn : Nat) : ∀ (r : Nat) (p : List Nat) (acc : List (List Nat)), acc.length ≤ 60 → acc.length ≤ (exF X cn r p acc).length ∧ (exF X cn r p acc).length ≤ 60
  | 0, p, acc, h => kpF_le p h
  | r + 1, p, acc, h => by
    rw [exF_J]
    have key : ∀ j, acc.length ≤ (exJ X cn r p acc j).length ∧ (exJ X cn r p acc j).length ≤ 60 := by
      intro j
      induction j with
      | zero => exact ⟨Nat.le_refl _, h⟩
      | succ j ih =>
        rw [exJ_s, exS]
        split
        · have := exF_le X cn r (j :: p) (exJ X cn r p acc j) ih.2
          omega
        · exact ih
    exact key cn
/-- all chains of a letter, of at most n letters -/
def chJ (X : IS) (cn a : Nat) : Nat → List (List Nat)
  | 0 => []
  | n + 1 => if (wyN X cn n).testBit a then exF X cn n [a] (chJ X cn a n) else chJ X cn a n
theorem chJ_le (X : IS) (cn a : Nat) : ∀ n, (chJ X cn a n).length ≤ 60
  | 0 => by simp [chJ]
  | n + 1 => by
    unfold chJ
    split
    · exact (exF_le X cn n [a] _ (chJ_le X cn a n)).2
    · exact chJ_le X cn a n
def chs (X : IS) (cn a : Nat) : List (List Nat) := chJ X cn a 6
/-! what the book holds -/
def gtN (p : List Nat) (q : Nat) : Nat := p.getD q 0
def gtC (acc : List (List Nat)) (c : Nat) : List Nat := acc.getD c []
/-- the chains acc lie in the book -/
def BkH (I : IS) (acc : List (List Nat)) : Prop := I 3 6 = nI acc.length ∧ acc.length ≤ 60 ∧ ∀ c, c < acc.length → I 8 c = nI (gtC acc c).length ∧ (gtC acc c).length ≤ 6 ∧ ∀ q, q < (gtC acc c).length → I (38 + c) q = nI (gtN (gtC acc c) q)
/-- the row that is begun: p, reversed -/
def BgH (I : IS) (p : List Nat) : Prop := ∀ q, q < p.length → I 9 q = nI (gtN p.reverse q)
/-- nothing but the book's chains was changed -/
def ExP (I I' : IS) : Prop := ∀ n q, ¬ (n = 3 ∧ q = 6) → n ≠ 8 → n ≠ 9 → ¬ (38 ≤ n ∧ n < 98) → I' n q = I n q
theorem ExP.rf {I : IS} : ExP I I := fun _ _ _ _ _ _ => rfl
theorem ExP.tr {I I' I'' : IS} (h : ExP I I') (h2 : ExP I' I'') : ExP I I'' := fun n q a b c d => (h2 n q a b c d).trans (h n q a b c d)
theorem ExP.vw {I I' : IS} (h : ExP I I') : vw I' = vw I := vw_eq (fun n q hb => h n q (by rintro ⟨rfl, rfl⟩; revert hb; decide) (by rintro rfl; revert hb; simp [obB]) (by rintro rfl; revert hb; simp [obB]) (by
  rintro ⟨h1, h2⟩
  revert hb
  simp [obB]
  omega))
/-- what the survey lays down -/
def SvH (I : IS) (cn : Nat) : Prop := I 3 5 = nI cn ∧ (∀ a, a < cn → I 5 a = nI (bkN (vw I) cn a)) ∧ (∀ s, s < 6 → I 6 s = nI (wyN (vw I) cn s))
theorem SvH.ex {I I' : IS} {cn : Nat} (h : SvH I cn) (hE : ExP I I') : SvH I' cn := by
  refine ⟨(hE 3 5 (by omega) (by omega) (by omega) (by omega)).trans h.1, fun a ha => ?_, fun s hs => ?_⟩
  · rw [hE 5 a (by omega) (by omega) (by omega) (by omega), hE.vw]; exact h.2.1 a ha
  · rw [hE 6 s (by omega) (by omega) (by omega) (by omega), hE.vw]; exact h.2.2 s hs
