/-! 08: rows of the book: a whole row laid at once; what its methods leave -/
def upR (I : IS) (n : Nat) (f : Nat → Int32) : IS := fun a => if a = n then f else I a
theorem upR_s (I : IS) (n : Nat) (f : Nat → Int32) : upR I n f n = f := if_pos rfl
theorem upR_n (I : IS) {n a : Nat} (f : Nat → Int32) (h : a ≠ n) : upR I n f a = I a := if_neg h
theorem wd_setR (k : Sk) {M : Nat} (I : IS) {n : Nat} (h : n < M) (f : Nat → Int32) : (Wd k M I).set n (k.2.1 n, ceX k n f) = Wd k M (upR I n f) := by
  apply List.ext_getElem?
  intro i
  by_cases hi : i = n
  · subst hi
    rw [List.getElem?_set_self (by simpa [Wd] using h), wd_at k _ h, upR_s]
  · rw [List.getElem?_set_ne (Ne.symm hi)]
    by_cases hM : i < M
    · rw [wd_at k _ hM, wd_at k _ hM, upR_n I f hi]
    · rw [List.getElem?_eq_none (by simpa [Wd] using Nat.not_lt.mp hM), List.getElem?_eq_none (by simpa [Wd] using Nat.not_lt.mp hM)]
theorem isA_4 : isA 4 := Or.inl rfl
theorem isA_5 : isA 5 := Or.inr (Or.inl rfl)
theorem isA_6 : isA 6 := Or.inr (Or.inr (Or.inl rfl))
theorem isA_8 : isA 8 := Or.inr (Or.inr (Or.inr (Or.inl rfl)))
theorem isA_9 : isA 9 := Or.inr (Or.inr (Or.inr (Or.inr (Or.inl rfl))))
theorem isA_R {c : Nat} : isA (38 + c) := Or.inr (Or.inr (Or.inr (Or.inr (Or.inr (by omega)))))
section RCP
variable {p : Program} {l : Launch} {e : Env} {R : Room} {s : State} {m : MethodId} {args : Array Value} {below : List Frame} {meth : Method} {c : Code} {H : Heap} {locs : List Loc} {cells slots : Nat} {Q : State → Prop}
variable {cc : ByteArray} {nL : Nat} {Ts : List Cond} {own : String} {k : Sk} {M : Nat} {A : Nat → Prop} {I : IS} {pc : Nat} {ls : Array Slot} {rest : List Value}
theorem r_copy {index : Nat} (C0 : CX p s m args c cc nL Ts own k M A) (h : HX k M A s I H locs) (hls : ls.size = nL) (i : Nat) (hi : i < 60) (h1 : Cond.methodLink own index arraycopyName ∈ Ts) (h2 : Cond.native arraycopyName ∈ Ts) (h3 : Cond.static arraycopyName ∈ Ts) (h4 : Cond.initialized "java/lang/System" ∈ Ts) (hfr : 1 ≤ R.frames) (hlo : (rest.map fun v => v.category).sum + (nativeFrameWords "java/lang/System" "arraycopy" 5 + 11) ≤ R.locals) (hdg : decode cc pc = .ok (.invokestatic index, 3))
    (kk : ∀ (H1 : Heap) (locs1 : List Loc), HX k M A s (upR I (38 + i) (va_cpy (I 9) (I (38 + i)) 0 0 6)) H1 locs1 → W p l e R s m args below meth c H1 locs1 cells slots Q (F0 m (pc + 3) ls rest)) : W p l e R s m args below meth c H locs cells slots Q (F0 m pc ls (.int (nI 6) :: .int (nI 0) :: .ref (k.2.1 (38 + i)) :: .int (nI 0) :: .ref (k.2.1 9) :: rest)) := by
  obtain ⟨⟨hx, hb, hml, hown, hts⟩, hT, hK, hJ, hA, hAs⟩ := C0
  have hM := hJ.1
  have e6 : (nI 6).toNatClampNeg = 6 := nI_clamp (by omega)
  have e0 : (nI 0).toNatClampNeg = 0 := nI_clamp (by omega)
  refine va_copyi (n0 := 6) (n1 := 6) (f := I 9) (g := I (38 + i)) (ty := .int) (c0 := k.2.2 0) (c1 := k.2.2 0) hx hb (hml.trans hls.symm) hown (hts _ h1) (hts _ h2) (hts _ h3) (hts _ h4) hK h.1 (wd_D hJ hA) h.2 9 (38 + i) 0 0 (by rw [wd_at k I (by omega), ceA k _ isA_9]; rfl) (by
      rw [wd_at k I (by omega), ceA k _ isA_R]
      have : lnX (38 + i) = 6 := by unfold lnX; rw [if_neg (by omega), if_neg (by omega), if_neg (by omega)]
      rw [this]) rfl rfl rfl (by decide) (by decide) (by decide) (by rw [e6, e0]; omega) (by rw [e6, e0]; omega) (fun i _ => rfl) hfr hlo hdg (fun H1 locs1 hP1 _ hS1 => kk H1 locs1 ⟨?_, hS1⟩)
  rw [e6, e0] at hP1
  have hc := ceA k (va_cpy (I 9) (I (38 + i)) 0 0 6) (isA_R (c := i))
  have : lnX (38 + i) = 6 := by unfold lnX; rw [if_neg (by omega), if_neg (by omega), if_neg (by omega)]
  rw [this] at hc
  rw [← hc, wd_setR k I (by omega)] at hP1
  exact hP1
end RCP
theorem gd_l {α : Type} {a b : List α} {d : α} {n : Nat} (h : n < a.length) : (a ++ b).getD n d = a.getD n d := by
  rw [List.getD_eq_getElem?_getD, List.getD_eq_getElem?_getD, List.getElem?_append_left h]
theorem gd_r {α : Type} {a : List α} {q d : α} : (a ++ [q]).getD a.length d = q := by
  rw [List.getD_eq_getElem?_getD, List.getElem?_append_right (Nat.le_refl _), Nat.sub_self]
  rfl
theorem gtC_app {acc : List (List Nat)} {q : List Nat} {c : Nat} (h : c < acc.length) : gtC (acc ++ [q]) c = gtC acc c := by
  unfold gtC
  rw [gd_l h]
theorem gtC_new {acc : List (List Nat)} {q : List Nat} : gtC (acc ++ [q]) acc.length = q := by
  unfold gtC
  rw [gd_r]
theorem keep_ok {I : IS} {pf : List Nat} {acc : List (List Nat)} {ln : Nat} (hln : pf.length = ln) (h6 : ln ≤ 6) (hB : BkH I acc) (hG : BgH I pf) (hlt : acc.length < 60) :
    BkH (up2 (up2 (upR I (38 + acc.length) (va_cpy (I 9) (I (38 + acc.length)) 0 0 6)) 8 acc.length (nI ln)) 3 6 (nI (acc.length + 1))) (kpF pf acc) ∧ (∀ q, up2 (up2 (upR I (38 + acc.length) (va_cpy (I 9) (I (38 + acc.length)) 0 0 6)) 8 acc.length (nI ln)) 3 6 (nI (acc.length + 1)) 9 q = I 9 q) ∧ ExP I (up2 (up2 (upR I (38 + acc.length) (va_cpy (I 9) (I (38 + acc.length)) 0 0 6)) 8 acc.length (nI ln)) 3 6 (nI (acc.length + 1))) := by
  have e1 : kpF pf acc = acc ++ [pf.reverse] := if_pos hlt
  refine ⟨⟨?_, ?_, fun c hc => ?_⟩, fun q => ?_, fun n q a b c d => ?_⟩
  · rw [e1, up2_s, List.length_append]; rfl
  · rw [e1, List.length_append]; simp; omega
  · rw [e1, List.length_append] at hc
    rw [e1]
    by_cases h : c < acc.length
    · obtain ⟨h1, h2, h3⟩ := hB.2.2 c h
      rw [gtC_app h]
      refine ⟨?_, h2, fun q hq => ?_⟩
      · rw [up2_n _ _ _ _ (by omega), up2_f _ _ _ _ (by omega), upR_n _ _ (by omega)]; exact h1
      · rw [up2_n _ _ _ _ (by omega), up2_n _ _ _ _ (by omega), upR_n _ _ (by omega)]; exact h3 q hq
    · have hce : c = acc.length := by simp at hc; omega
      subst hce
      rw [gtC_new]
      refine ⟨?_, by rw [List.length_reverse]; omega, fun q hq => ?_⟩
      · rw [up2_n _ _ _ _ (by omega), up2_s, List.length_reverse, hln]
      · rw [List.length_reverse] at hq
        rw [up2_n _ _ _ _ (by omega), up2_n _ _ _ _ (by omega), upR_s]
        show va_cpy (I 9) _ 0 0 6 q = _
        unfold va_cpy
        rw [if_pos (by omega), show 0 + (q - 0) = q by omega]
        exact hG q hq
  · rw [up2_n _ _ _ _ (by omega), up2_n _ _ _ _ (by omega), upR_n _ _ (by omega)]
  · by_cases hn : n = 3
    · subst hn
      rw [up2_f _ _ _ _ (fun h => a ⟨rfl, h⟩), up2_n _ _ _ _ (by omega), upR_n _ _ (by omega)]
    · rw [up2_n _ _ _ _ hn, up2_n _ _ _ _ b, upR_n _ _ (by omega)]
/-- the length of chain x; 0 where there is none -/
def leI (acc : List (List Nat)) (x : Int32) : Nat := if x < 0 then 0 else (gtC acc x.toNatClampNeg).length
/-- the letter at a place of chain c -/
def mbI (acc : List (List Nat)) (c : Nat) (y : Int32) : Int32 := if y < 0 then (-1) else if (gtC acc c).length ≤ y.toNatClampNeg then (-1) else nI (gtN (gtC acc c) y.toNatClampNeg)
theorem gtC_out {acc : List (List Nat)} {c : Nat} (h : acc.length ≤ c) : gtC acc c = [] := by
  unfold gtC
  rw [List.getD_eq_getElem?_getD, List.getElem?_eq_none h]
  rfl
theorem leI_no {acc : List (List Nat)} {x : Int32} (h : x < 0 ∨ acc.length ≤ x.toNatClampNeg) : leI acc x = 0 := by
  unfold leI
  split
  · rfl
  · next q => rw [gtC_out (h.resolve_left q)]; rfl
theorem leI_at {acc : List (List Nat)} {c : Nat} (hc : c < 2 ^ 31) : leI acc (nI c) = (gtC acc c).length := by
  unfold leI
  rw [if_neg (nI_pos hc), nI_clamp hc]
theorem gt_last {pf : List Nat} (h : 1 ≤ pf.length) : gtN pf.reverse (pf.length - 1) = pf.headD 0 := by
  cases pf with
  | nil => simp at h
  | cons b q =>
    unfold gtN
    have h1 := gd_r (a := q.reverse) (q := b) (d := 0)
    rw [List.length_reverse] at h1
    rw [List.reverse_cons, List.length_cons, Nat.add_sub_cancel, h1]
    rfl
theorem gt_push {pf : List Nat} {j q : Nat} (h : q < pf.length) : gtN (j :: pf).reverse q = gtN pf.reverse q := by
  unfold gtN
  rw [List.reverse_cons, gd_l (by rw [List.length_reverse]; exact h)]
theorem gt_top {pf : List Nat} {j : Nat} : gtN (j :: pf).reverse pf.length = j := by
  have h := gt_last (pf := j :: pf) (by simp)
  simpa using h
theorem bg_push {I : IS} {pf : List Nat} {j : Nat} (h : BgH I pf) : BgH (up2 I 9 pf.length (nI j)) (j :: pf) := by
  intro q hq
  by_cases h9 : q = pf.length
  · subst h9
    rw [up2_s, gt_top]
  · rw [up2_f _ _ _ _ h9, gt_push (by simp at hq; omega)]
    exact h q (by simp at hq; omega)
theorem bg_pop {I : IS} {pf : List Nat} {j : Nat} (h : BgH I (j :: pf)) : BgH I pf := by
  intro q hq
  rw [h q (by simp; omega), gt_push hq]
theorem bg_keep {I I' : IS} {pf : List Nat} (h : BgH I pf) (hq : ∀ q, I' 9 q = I 9 q) : BgH I' pf := fun q h1 => (hq q).trans (h q h1)
theorem bk_9 {I : IS} {acc : List (List Nat)} (h : BkH I acc) (j : Nat) (v : Int32) : BkH (up2 I 9 j v) acc := by
  refine ⟨?_, h.2.1, fun c hc => ?_⟩
  · rw [up2_n _ _ _ _ (by omega)]; exact h.1
  · obtain ⟨h1, h2, h3⟩ := h.2.2 c hc
    refine ⟨by rw [up2_n _ _ _ _ (by omega)]; exact h1, h2, fun q hq => ?_⟩
    have := h.2.1
    rw [up2_n _ _ _ _ (by omega)]; exact h3 q hq
theorem ex_9 (I : IS) (j : Nat) (v : Int32) : ExP I (up2 I 9 j v) := fun n q a b c d => by rw [up2_n _ _ _ _ c]
theorem lnR (c : Nat) : lnX (38 + c) = 6 := by unfold lnX; rw [if_neg (by omega), if_neg (by omega), if_neg (by omega)]
def wyS (X : IS) (cn s : Nat) : Nat → Bool := fun a => decide (¬ (bkN X cn a &&& wyN X cn s) = 0)
theorem wyN_S (X : IS) (cn s : Nat) : wyN X cn (s + 1) = bsN (wyS X cn s) cn := rfl
/-- nothing but the rows of ways and the book's own numbers -/
def MwP (I I' : IS) : Prop := ∀ n q, n ≠ 6 → n ≠ 3 → I' n q = I n q
theorem MwP.vw {I I' : IS} (h : MwP I I') : vw I' = vw I := vw_eq (fun n q hb => h n q (by rintro rfl; revert hb; simp [obB]) (by rintro rfl; revert hb; simp [obB]))
theorem us1 (a : Nat) : 2 ^ a = usN [a] := by unfold usN usN; rw [Nat.zero_or]
theorem us_push (pf : List Nat) (j : Nat) (hj : j < 31) : nI (usN pf) ||| (nI 1 <<< (nI j &&& 31)) = nI (usN (j :: pf)) := by rw [fa_1s hj, fa_or]; rfl
theorem and_lt {a b n : Nat} (h : a < n) : a &&& b < n := Nat.lt_of_le_of_lt Nat.and_le_left h
theorem less_lt {m u n : Nat} (h : m < n) : lessN m u < n := by
  have e : lessN m u = m &&& lessN m u := by
    apply Nat.eq_of_testBit_eq
    intro i
    rw [Nat.testBit_and, lessN_bit]
    cases m.testBit i <;> cases u.testBit i <;> rfl
  rw [e]
  exact Nat.lt_of_le_of_lt Nat.and_le_left h
theorem opN_s (X : IS) {cn : Nat} (h : cn ≤ 20) (r : Nat) (p : List Nat) : opN X cn r p < 2 ^ 31 := less_lt (and_lt (bkN_s X h _))
theorem exS_no {X : IS} {cn r : Nat} {p : List Nat} {acc : List (List Nat)} {b : Nat} (h : (opN X cn r p).testBit b = false) : exS X cn r p acc b = acc := if_neg (fun q => by rw [h] at q; exact absurd q.2 (by decide))
theorem exS_yes {X : IS} {cn r : Nat} {p : List Nat} {acc : List (List Nat)} {b : Nat} (h1 : acc.length < 60) (h : (opN X cn r p).testBit b = true) : exS X cn r p acc b = exF X cn r (b :: p) acc := if_pos ⟨h1, h⟩
theorem chJ_no {X : IS} {cn a n : Nat} (h : (wyN X cn n).testBit a = false) : chJ X cn a (n + 1) = chJ X cn a n := by
  rw [chJ, if_neg (by rw [h]; decide)]
theorem chJ_yes {X : IS} {cn a n : Nat} (h : (wyN X cn n).testBit a = true) : chJ X cn a (n + 1) = exF X cn n [a] (chJ X cn a n) := by
  rw [chJ, if_pos h]
theorem bt_nz {m i : Nat} (hm : m < 2 ^ 31) (hi : i < 31) (h : ¬ (nI m >>> (nI i &&& 31)) &&& nI 1 = 0) : m.testBit i = true := by
  cases hq : m.testBit i
  · exact absurd ((fa_bt0 hm hi).mpr hq) h
  · rfl
