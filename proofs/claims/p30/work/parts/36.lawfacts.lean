/-! 36: the room while it is asked; what the law asks of a letter, as numbers -/
theorem nI_eq0 {a : Nat} (h : a < 2 ^ 31) : nI a = 0 ↔ a = 0 := ⟨nz0 h, fun e => by rw [e]; rfl⟩
theorem nI_gt0 {a : Nat} (h : a < 2 ^ 31) : 0 < nI a ↔ 0 < a := nI_ltI (a := 0) (by omega) h
theorem nI_le0 {a : Nat} (h : a < 2 ^ 31) : nI a ≤ 0 ↔ a = 0 := (nI_leI (b := 0) h (by omega)).trans (by omega)
/-- the room, seen from outside as X -/
def RQ (X : IS) (cn lcn : Nat) (I : IS) : Prop := vw I = X ∧ RmI I cn lcn
section RQs
variable {X I I' : IS} {cn lcn i : Nat}
theorem RQ.c1 (h : RQ X cn lcn I) : 1 ≤ cn := h.2.1
theorem RQ.c20 (h : RQ X cn lcn I) : cn ≤ 20 := h.2.2.1
theorem RQ.l8 (h : RQ X cn lcn I) : lcn ≤ 8 := h.2.2.2.1
theorem RQ.n4 (h : RQ X cn lcn I) : I 0 4 = nI cn := h.2.2.2.2.1
theorem RQ.n5 (h : RQ X cn lcn I) : I 0 5 = nI lcn := h.2.2.2.2.2.1
theorem RQ.st (h : RQ X cn lcn I) : ∃ b, I 0 6 = bI b := h.2.2.2.2.2.2.1
theorem RQ.ask (h : RQ X cn lcn I) (hv : vw I' = vw I) : RQ X cn lcn I' := ⟨hv.trans h.1, h.2.ask hv⟩
theorem RQ.L (h : RQ X cn lcn I) (hi : i < cn) : I (10 + i) = X (10 + i) := by
  have := h.c20
  rw [← h.1, vw_L I (by omega)]
theorem RQ.bk (h : RQ X cn lcn I) {a b : Nat} (ha : a < cn) (hb : b < cn) : bkB I a b = bkB X a b := by
  unfold bkB
  rw [h.L ha, h.L hb]
theorem RQ.ltI (h : RQ X cn lcn I) (hi : i < cn) : LetI (X (10 + i)) := by
  rw [← h.L hi]
  exact h.2.2.2.2.2.2.2.1 i hi
end RQs
/-- the chain that is shown of letter i -/
def shC (X : IS) (cn lcn i : Nat) (t u : Int32) : List Nat := gtC (chs X cn i) (shN X lcn t u (chs X cn i))
theorem shC_mb (X : IS) (cn lcn i : Nat) (t u : Int32) (y : Int32) : mbI (chs X cn i) ((fhO X lcn t u (chs X cn i)).getD 0) y = mbI [shC X cn lcn i t u] 0 y := rfl
theorem mb1_at {ch : List Nat} {q : Nat} (h : q < ch.length) (hq : q < 2 ^ 31) : mbI [ch] 0 (nI q) = nI (gtN ch q) := mbI_at (acc := [ch]) (c := 0) h hq
theorem mb1_out {ch : List Nat} {q : Nat} (h : ch.length ≤ q) (hq : q < 2 ^ 31) : mbI [ch] 0 (nI q) = -1 := by
  rw [mbI_o hq]
  show opI ch[q]? = -1
  rw [List.getElem?_eq_none h]
  rfl
/-- the verdict v, the place of its flaw fl, how many chains, the chain that is shown -/
def LfN (X : IS) (cn lcn i : Nat) (t u : Int32) (v : Nat) (fl : Int32) : Prop :=
  dcF X lcn t u (chs X cn i) = nI v ∧ dpF X lcn t u (chs X cn i) = fl ∧ (chs X cn i).length ≤ 60 ∧
  (((chs X cn i).length = 0 ∧ v = 10 ∧ (shC X cn lcn i t u).length = 0) ∨ (1 ≤ (chs X cn i).length ∧ v ≤ 7 ∧ 1 ≤ (shC X cn lcn i t u).length)) ∧ (shC X cn lcn i t u).length ≤ 6 ∧
  ((fl = -1 ∧ (v = 0 ∨ v = 10)) ∨ ∃ q, fl = nI q ∧ q < (shC X cn lcn i t u).length ∧ 1 ≤ v ∧ v ≤ 7) ∧
  (∀ q, q < (shC X cn lcn i t u).length → gtN (shC X cn lcn i t u) q < cn) ∧ (1 ≤ (shC X cn lcn i t u).length → ChOK X i (shC X cn lcn i t u)) ∧
  (v = 0 → ffO X lcn t u (shC X cn lcn i t u) = none)
theorem lfN (X : IS) {cn i : Nat} (lcn : Nat) (t u : Int32) (hi : i < cn) : ∃ v fl, LfN X cn lcn i t u v fl := by
  obtain ⟨v, hv, hr⟩ := dcF_rng X lcn t u (chs X cn i)
  refine ⟨v, _, hv, rfl, chJ_le X cn i 6, ?_⟩
  rcases hr with ⟨h0, h10⟩ | ⟨h1, h7⟩
  · have hch : shC X cn lcn i t u = [] := gtC_out (by omega)
    have hd := (dcF_0 X lcn t u h0).2.2
    rw [hch]
    refine ⟨Or.inl ⟨h0, h10, rfl⟩, Nat.zero_le _, Or.inl ⟨hd, Or.inr h10⟩, fun q h => absurd h (Nat.not_lt_zero _), fun h => absurd h (by decide), fun h => by omega⟩
  · have hs := shN_lt (X := X) (lcn := lcn) (t := t) (u := u) h1
    obtain ⟨s1, s2, s3, s4⟩ := shown hi hs
    refine ⟨Or.inr ⟨h1, h7, s1⟩, s2, ?_, s3, fun _ => s4, fun h => shN_hold (by rw [hv, h])⟩
    rcases dpF_rng X lcn t u (chs X cn i) with ⟨a, b⟩ | ⟨q, w, a, b, c, d, e, f⟩
    · refine Or.inl ⟨a, ?_⟩
      rw [hv] at b
      rcases b with b | b
      · exact Or.inl ((nI_eq (by omega) (by omega)).mp b)
      · exact Or.inr ((nI_eq (by omega) (by omega)).mp b)
    · refine Or.inr ⟨q, a, ?_, ?_⟩
      · unfold shC
        rw [shN_flaw f]
        exact b
      · rw [hv] at c
        have := (nI_eq (by omega) (by omega)).mp c
        omega
section LF
variable {X : IS} {cn lcn i v q : Nat} {t u fl : Int32}
theorem LfN.dc (h : LfN X cn lcn i t u v fl) : dcF X lcn t u (chs X cn i) = nI v := h.1
theorem LfN.dp (h : LfN X cn lcn i t u v fl) : dpF X lcn t u (chs X cn i) = fl := h.2.1
theorem LfN.n60 (h : LfN X cn lcn i t u v fl) : (chs X cn i).length ≤ 60 := h.2.2.1
theorem LfN.rng (h : LfN X cn lcn i t u v fl) : ((chs X cn i).length = 0 ∧ v = 10 ∧ (shC X cn lcn i t u).length = 0) ∨ (1 ≤ (chs X cn i).length ∧ v ≤ 7 ∧ 1 ≤ (shC X cn lcn i t u).length) := h.2.2.2.1
theorem LfN.l6 (h : LfN X cn lcn i t u v fl) : (shC X cn lcn i t u).length ≤ 6 := h.2.2.2.2.1
theorem LfN.fl_neg (h : LfN X cn lcn i t u v fl) (c : fl < 0) : v = 0 ∨ v = 10 := by
  have h6 := h.l6
  rcases h.2.2.2.2.2.1 with ⟨-, b⟩ | ⟨q, a, b, -⟩
  · exact b
  · rw [a] at c
    exact absurd c (nI_pos (by omega))
theorem LfN.fl_pos (h : LfN X cn lcn i t u v fl) (c : ¬ fl < 0) : 1 ≤ v ∧ v ≤ 7 := by
  rcases h.2.2.2.2.2.1 with ⟨a, -⟩ | ⟨q, -, -, b⟩
  · rw [a] at c
    exact absurd (by decide) c
  · exact b
theorem LfN.fl_ge (h : LfN X cn lcn i t u v fl) (c : ¬ fl < nI (shC X cn lcn i t u).length) : v = 0 ∨ v = 10 := by
  have h6 := h.l6
  rcases h.2.2.2.2.2.1 with ⟨-, b⟩ | ⟨q, a, b, -⟩
  · exact b
  · rw [a] at c
    exact absurd (nI_lt b (by omega)) c
theorem LfN.mem (h : LfN X cn lcn i t u v fl) (hq : q < (shC X cn lcn i t u).length) : gtN (shC X cn lcn i t u) q < cn := h.2.2.2.2.2.2.1 q hq
theorem LfN.ok (h : LfN X cn lcn i t u v fl) (hq : q < (shC X cn lcn i t u).length) : ChOK X i (shC X cn lcn i t u) := h.2.2.2.2.2.2.2.1 (by omega)
theorem LfN.hold (h : LfN X cn lcn i t u v fl) (h0 : v = 0) : ffO X lcn t u (shC X cn lcn i t u) = none := h.2.2.2.2.2.2.2.2 h0
/-- the chain, place by place -/
theorem LfN.pl (h : LfN X cn lcn i t u v fl) (c : ¬ mbI [shC X cn lcn i t u] 0 (nI q) < 0) (hq : q ≤ 6) : q < (shC X cn lcn i t u).length ∧ mbI [shC X cn lcn i t u] 0 (nI q) = nI (gtN (shC X cn lcn i t u) q) := by
  rcases Nat.lt_or_ge q (shC X cn lcn i t u).length with z | z
  · exact ⟨z, mb1_at z (by omega)⟩
  · rw [mb1_out z (by omega)] at c
    exact absurd (by decide) c
theorem LfN.stop (h : LfN X cn lcn i t u v fl) (hc : cn ≤ 20) (c : mbI [shC X cn lcn i t u] 0 (nI q) < 0) (hq : q ≤ (shC X cn lcn i t u).length) : q = (shC X cn lcn i t u).length := by
  have h6 := h.l6
  rcases Nat.lt_or_ge q (shC X cn lcn i t u).length with z | z
  · rw [mb1_at z (by omega)] at c
    have := h.mem z
    exact absurd c (nI_pos (by omega))
  · omega
/-- an anchor -/
theorem LfN.anc (h : LfN X cn lcn i t u v fl) (hi : i < cn) (ha : ancB X i = true) : 1 ≤ (chs X cn i).length ∧ v ≤ 3 ∧ (v = 0 → mbI [shC X cn lcn i t u] 0 (nI 1) = -1) := by
  obtain ⟨h1, h2⟩ := chs_anchor hi ha
  obtain ⟨⟨w, w1, w2⟩, hz⟩ := anchor_v (lcn := lcn) (t := t) (u := u) h1 h2 (chs_K X cn i) (fun c hc => (chs_6 X cn i c hc).1)
  have hvw : v = w := by
    have h3 := h.dc
    have hr := h.rng
    rw [w2] at h3
    exact ((nI_eq (by omega) (by omega)).mp h3).symm
  refine ⟨h1, by omega, fun h0 => ?_⟩
  have hs : shN X lcn t u (chs X cn i) = 0 := by
    unfold shN
    cases hf : fhO X lcn t u (chs X cn i) with
    | none => rfl
    | some c => exact hz c hf
  have hch : shC X cn lcn i t u = [i] := by
    unfold shC
    rw [hs, h2]
  rw [hch]
  exact mb1_out (by show 1 ≤ 1; omega) (by omega)
end LF
theorem anc_no {X : IS} {i : Nat} (c : ¬ pyL (X (10 + i)) 12 = nI 1) : pyL (X (10 + i)) 12 = nI 0 := by
  unfold pyL at c ⊢
  rw [if_neg (by decide), if_neg (by decide), if_pos rfl] at c ⊢
  split
  · rfl
  · next z => rw [if_neg z] at c; exact absurd rfl c
theorem anc_yes {X : IS} {i : Nat} (c : pyL (X (10 + i)) 12 = nI 1) : ancB X i = true := by
  unfold pyL at c
  rw [if_neg (by decide), if_neg (by decide), if_pos rfl] at c
  unfold ancB
  by_cases z : X (10 + i) 11 = 0
  · rw [if_pos z] at c; exact absurd c (by decide)
  · exact decide_eq_true z
theorem anc_py {X : IS} {i : Nat} (c : ancB X i = true) : pyL (X (10 + i)) 12 = nI 1 := by
  unfold pyL
  rw [if_neg (by decide), if_neg (by decide), if_pos rfl]
  exact if_neg (of_decide_eq_true c)
theorem mst_py {f : Nat → Int32} (h : ¬ f 6 = 0) : pyL f 6 = nI 1 := by
  unfold pyL
  rw [if_neg (by decide), if_pos rfl, if_neg h]
theorem py_at (f : Nat → Int32) {w : Nat} (h : w ≠ 6) (h1 : w ≠ 11) (h2 : w ≠ 12) : pyL f w = f w := by
  unfold pyL
  rw [if_neg h1, if_neg h, if_neg h2]
/-- the last letter that was looked at -/
def laI (ch : List Nat) (p : Nat) : Int32 := if p = 0 then (-1) else nI (gtN ch (p - 1))
theorem laI_s (ch : List Nat) (p : Nat) : laI ch (p + 1) = nI (gtN ch p) := rfl
theorem laI_p {ch : List Nat} {p : Nat} (h : ¬ p = 0) : laI ch p = nI (gtN ch (p - 1)) := if_neg h
/-- the chain's steps -/
theorem ChOK.st0 {X : IS} {a : Nat} {ch : List Nat} (h : ChOK X a ch) : gtN ch 0 = a := h.1
theorem ChOK.step {X : IS} {a p : Nat} {ch : List Nat} (h : ChOK X a ch) (hp : ¬ p = 0) (hl : p < ch.length) : bkB X (gtN ch p) (gtN ch (p - 1)) = true := by
  have h1 := h.2.1 (p - 1) (by omega)
  rwa [show p - 1 + 1 = p by omega] at h1
section LF2
variable {X : IS} {cn lcn i v : Nat} {t u fl : Int32}
theorem LfN.yes (h : LfN X cn lcn i t u v fl) (h0 : v = 0) : (fhO X lcn t u (chs X cn i)).isSome = true := dcF_iff.mp (by rw [h.dc, h0])
theorem LfN.no (h : LfN X cn lcn i t u v fl) (h0 : ¬ v = 0) : fhO X lcn t u (chs X cn i) = none := by
  cases hq : fhO X lcn t u (chs X cn i) with
  | none => rfl
  | some c =>
    have h1 := dcF_iff.mpr (show (fhO X lcn t u (chs X cn i)).isSome = true by rw [hq]; rfl)
    have hr := h.rng
    rw [h.dc] at h1
    exact absurd ((nI_eq (by omega) (by omega)).mp h1) h0
/-- the time behind the last one that it holds to -/
theorem tn9 {acc : List (List Nat)} {to : Nat} (h : to = 999 ∨ fhO X lcn (nI (to + 1)) u acc = none) (hn : ¬ to = 999) : ¬ dcF X lcn (nI (to + 1)) u acc = 0 := by
  intro c
  have h1 := dcF_iff.mp (show dcF X lcn (nI (to + 1)) u acc = nI 0 from c)
  rw [h.resolve_left hn] at h1
  exact absurd h1 (by decide)
theorem hoN_y {j : Nat} (c : dcF X lcn t u (chs X cn j) = 0) : hoN X cn lcn t u j + 1 = hoN X cn lcn t u (j + 1) := by
  have h1 := dcF_iff.mp (show dcF X lcn t u (chs X cn j) = nI 0 from c)
  show _ = hoN X cn lcn t u j + if (fhO X lcn t u (chs X cn j)).isSome = true then 1 else 0
  rw [if_pos h1]
theorem hoN_n {j : Nat} (c : ¬ dcF X lcn t u (chs X cn j) = 0) : hoN X cn lcn t u j + 0 = hoN X cn lcn t u (j + 1) := by
  have h1 : ¬ (fhO X lcn t u (chs X cn j)).isSome = true := fun q => c (dcF_iff.mpr q)
  show _ = hoN X cn lcn t u j + if (fhO X lcn t u (chs X cn j)).isSome = true then 1 else 0
  rw [if_neg h1]
end LF2
/-- how many letters the keys below κ concern, counted key by key -/
def stS (X : IS) (cn lcn : Nat) (t u : Int32) : Nat → Nat
  | 0 => 0
  | κ + 1 => stS X cn lcn t u κ + stN X cn lcn (nI κ) t u cn
theorem stS_s (X : IS) (cn lcn : Nat) (t u : Int32) (κ : Nat) : stS X cn lcn t u κ + stN X cn lcn (nI κ) t u cn = stS X cn lcn t u (κ + 1) := rfl
theorem stS_le (X : IS) (cn lcn : Nat) (t u : Int32) (hc : cn ≤ 20) : ∀ κ, stS X cn lcn t u κ ≤ 20 * κ
  | 0 => Nat.le_refl _
  | κ + 1 => by
    have h1 := stS_le X cn lcn t u hc κ
    have h2 := stN_le X cn lcn (nI κ) t u cn
    have h3 := hoN_le X cn lcn t u cn
    show stS X cn lcn t u κ + stN X cn lcn (nI κ) t u cn ≤ _
    omega
theorem stS_4 {X I : IS} {cn lcn : Nat} (t u : Int32) (hQ : RQ X cn lcn I) : hoN X cn lcn t u cn ≤ stS X cn lcn t u 4 := by
  have h := stN_sum X cn lcn t u (fun j hj => (hQ.ltI hj).2.2.1) cn (Nat.le_refl _)
  show _ ≤ 0 + stN X cn lcn (nI 0) t u cn + stN X cn lcn (nI 1) t u cn + stN X cn lcn (nI 2) t u cn + stN X cn lcn (nI 3) t u cn
  omega
theorem stN_9 {X I : IS} {cn lcn : Nat} (t u : Int32) (hQ : RQ X cn lcn I) : stN X cn lcn (nI 9) t u cn = 0 :=
  stN_none X cn lcn (nI 9) t u (fun j hj q => by
    obtain ⟨κ, h1, h2⟩ := (hQ.ltI hj).2.2.1
    rw [h2] at q
    exact absurd ((nI_eq (by omega) (by omega)).mp q) (by omega)) cn (Nat.le_refl _)
theorem mn0 (X : IS) (cn lcn : Nat) : mnF X cn lcn 0 = nI cn := rfl
theorem mn1 (X : IS) (cn lcn : Nat) : mnF X cn lcn 1 = bcF (nI (anN X cn)) := rfl
theorem mn2 (X : IS) (cn lcn : Nat) : mnF X cn lcn 2 = nI lcn := rfl
theorem mn3 (X : IS) (cn lcn : Nat) : mnF X cn lcn 3 = pcF X cn cn := rfl
theorem nI_mul (a b : Nat) : nI a * nI b = nI (a * b) := (Int32.ofNat_mul _ _).symm
