/-! 29: what stays true of the room while the law acts -/
theorem isN0_nm {a : Int32} (h : isNm a = true) : isN0 a = true := by
  unfold isN0
  split
  · rfl
  · exact h
theorem mix_at {a b : Nat} (ha : a < 997) (hb : b ≤ 9999) : mixF (nI a) (nI b) = nI ((a * 31 + b) % 997) := by
  unfold mixF
  rw [show nI a * nI 31 = nI (a * 31) from (Int32.ofNat_mul _ _).symm, nI_add, pk_div (by omega) (by omega) (by omega), show nI ((a * 31 + b) / 997) * nI 997 = nI ((a * 31 + b) / 997 * 997) from (Int32.ofNat_mul _ _).symm, nI_subN (Nat.div_mul_le_self _ _)]
  congr 1
  omega
theorem mix_rs {p : Int32} {b : Nat} (h : ∃ a, a < 997 ∧ p = nI a) (hb : b ≤ 9999) : ∃ a, a < 997 ∧ mixF p (nI b) = nI a := by
  obtain ⟨a, h1, rfl⟩ := h
  exact ⟨_, Nat.mod_lt _ (by omega), mix_at h1 hb⟩
/-- a letter, as the law writes it -/
def LetI (f : Nat → Int32) : Prop := isNm (f 0) = true ∧ isNm (f 1) = true ∧ (∃ κ, κ < 4 ∧ f 2 = nI κ) ∧ (∃ b, f 6 = bI b) ∧ isN0 (f 9) = true ∧ (∃ b, f 11 = bI b) ∧ ∀ q, q < 10 → ∃ v, v ≤ 9999 ∧ f q = nI v
theorem LetI.key {f : Nat → Int32} (h : LetI f) : isW (f 2) (nI 15) = true := by
  obtain ⟨κ, h1, h2⟩ := h.2.2.1
  rw [h2]
  exact isW_n (by omega) (by omega)
theorem prLf_rs {f : Nat → Int32} (h : LetI f) : ∃ a, a < 997 ∧ prLf f = nI a := by
  obtain ⟨-, -, -, -, -, -, h7⟩ := h
  obtain ⟨v0, b0, e0⟩ := h7 0 (by omega)
  obtain ⟨v1, b1, e1⟩ := h7 1 (by omega)
  obtain ⟨v2, b2, e2⟩ := h7 2 (by omega)
  obtain ⟨v3, b3, e3⟩ := h7 3 (by omega)
  obtain ⟨v4, b4, e4⟩ := h7 4 (by omega)
  obtain ⟨v5, b5, e5⟩ := h7 5 (by omega)
  obtain ⟨v7, b7, e7⟩ := h7 7 (by omega)
  obtain ⟨v8, b8, e8⟩ := h7 8 (by omega)
  obtain ⟨v9, b9, e9⟩ := h7 9 (by omega)
  obtain ⟨v6, b6, e6⟩ : ∃ v, v ≤ 9999 ∧ (if f 6 = 0 then nI 0 else nI 1) = nI v := by
    split
    · exact ⟨0, by omega, rfl⟩
    · exact ⟨1, by omega, rfl⟩
  unfold prLf
  rw [e0, e1, e2, e3, e4, e5, e6, e7, e8, e9]
  exact mix_rs (mix_rs (mix_rs (mix_rs (mix_rs (mix_rs (mix_rs (mix_rs (mix_rs (mix_rs ⟨17, by omega, rfl⟩ b0) b1) b2) b3) b4) b5) b6) b7) b8) b9
theorem prLf_w {f : Nat → Int32} (h : LetI f) : isW (prLf f) (nI 996) = true := by
  obtain ⟨a, h1, h2⟩ := prLf_rs h
  rw [h2]
  exact isW_n (by omega) (by omega)
/-- the room, as the law acts on it: cn letters, lcn lists -/
def RmI (X : IS) (cn lcn : Nat) : Prop := 1 ≤ cn ∧ cn ≤ 20 ∧ lcn ≤ 8 ∧ X 0 4 = nI cn ∧ X 0 5 = nI lcn ∧ (∃ b, X 0 6 = bI b) ∧ (∀ i, i < cn → LetI (X (10 + i))) ∧ ∀ i, cn ≤ i → i < 20 → X (10 + i) = L0
/-- a letter with one place written anew -/
theorem LetI.up {f : Nat → Int32} (h : LetI f) {q : Nat} {v : Int32} (h0 : q = 0 → isNm v = true) (h1 : q = 1 → isNm v = true) (h2 : q = 2 → ∃ κ, κ < 4 ∧ v = nI κ) (h6 : q = 6 → ∃ b, v = bI b) (h9 : q = 9 → isN0 v = true) (h11 : q = 11 → ∃ b, v = bI b) (h10 : q < 10 → ∃ w, w ≤ 9999 ∧ v = nI w) : LetI (upd f q v) := by
  have e : ∀ j, upd f q v j = if j = q then v else f j := fun j => rfl
  obtain ⟨a0, a1, a2, a6, a9, a11, a10⟩ := h
  refine ⟨?_, ?_, ?_, ?_, ?_, ?_, fun j hj => ?_⟩
  · rw [e]; split
    · next z => exact h0 z.symm
    · exact a0
  · rw [e]; split
    · next z => exact h1 z.symm
    · exact a1
  · rw [e]; split
    · next z => exact h2 z.symm
    · exact a2
  · rw [e]; split
    · next z => exact h6 z.symm
    · exact a6
  · rw [e]; split
    · next z => exact h9 z.symm
    · exact a9
  · rw [e]; split
    · next z => exact h11 z.symm
    · exact a11
  · rw [e]; split
    · next z => exact h10 (z ▸ hj)
    · exact a10 j hj
theorem RmI.up {X : IS} {cn lcn i q : Nat} {v : Int32} (h : RmI X cn lcn) (hi : i < cn) (hL : LetI (upd (X (10 + i)) q v)) : RmI (up2 X (10 + i) q v) cn lcn := by
  obtain ⟨a1, a2, a3, a4, a5, a6, a7, a8⟩ := h
  refine ⟨a1, a2, a3, ?_, ?_, ?_, fun j hj => ?_, fun j h1 h2 => ?_⟩
  · rw [up2_n _ _ _ _ (by omega)]; exact a4
  · rw [up2_n _ _ _ _ (by omega)]; exact a5
  · rw [up2_n _ _ _ _ (by omega)]; exact a6
  · by_cases z : j = i
    · rw [z, up2_at]; exact hL
    · rw [up2_ne _ _ _ (by omega)]; exact a7 j hj
  · rw [up2_ne _ _ _ (by omega)]; exact a8 j h1 h2
theorem RmI.ask {X X' : IS} {cn lcn : Nat} (h : RmI X cn lcn) (hv : vw X' = vw X) : RmI X' cn lcn := by
  obtain ⟨a1, a2, a3, a4, a5, a6, a7, a8⟩ := h
  refine ⟨a1, a2, a3, by rw [vw_use0 hv]; exact a4, by rw [vw_use0 hv]; exact a5, by rw [vw_use0 hv]; exact a6, fun j hj => ?_, fun j h1 h2 => ?_⟩
  · rw [vw_useL hv (by omega)]; exact a7 j hj
  · rw [vw_useL hv h2]; exact a8 j h1 h2
/-- cells that neither the room's counts nor the letters are -/
theorem RmI.off {X X' : IS} {cn lcn : Nat} (h : RmI X cn lcn) (h0 : X' 0 = X 0) (hL : ∀ i, i < 20 → X' (10 + i) = X (10 + i)) : RmI X' cn lcn := by
  obtain ⟨a1, a2, a3, a4, a5, a6, a7, a8⟩ := h
  refine ⟨a1, a2, a3, by rw [h0]; exact a4, by rw [h0]; exact a5, by rw [h0]; exact a6, fun j hj => ?_, fun j h1 h2 => ?_⟩
  · rw [hL j (by omega)]; exact a7 j hj
  · rw [hL j h2]; exact a8 j h1 h2
theorem RmI.list30 {X : IS} {cn lcn j q : Nat} {v : Int32} (h : RmI X cn lcn) : RmI (up2 X (30 + j) q v) cn lcn := h.off (up2_ne _ _ _ (by omega)) (fun i hi => up2_ne _ _ _ (by omega))
theorem RmI.setStrict {X : IS} {cn lcn : Nat} (h : RmI X cn lcn) (b : Bool) : RmI (up2 X 0 6 (bI b)) cn lcn := by
  obtain ⟨a1, a2, a3, a4, a5, a6, a7, a8⟩ := h
  refine ⟨a1, a2, a3, by rw [up2_f _ _ _ _ (by omega)]; exact a4, by rw [up2_f _ _ _ _ (by omega)]; exact a5, ⟨b, up2_s _ _ _ _⟩, fun j hj => ?_, fun j h1 h2 => ?_⟩
  · rw [up2_ne _ _ _ (by omega)]; exact a7 j hj
  · rw [up2_ne _ _ _ (by omega)]; exact a8 j h1 h2
theorem RmI.newList {X : IS} {cn lcn : Nat} (h : RmI X cn lcn) (hl : lcn < 8) (a f t : Int32) : RmI (up2 (up2 (up2 (up2 X (30 + lcn) 0 a) (30 + lcn) 1 f) (30 + lcn) 2 t) 0 5 (nI (lcn + 1))) cn (lcn + 1) := by
  obtain ⟨a1, a2, a3, a4, a5, a6, a7, a8⟩ := ((h.list30 (j := lcn) (q := 0) (v := a)).list30 (j := lcn) (q := 1) (v := f)).list30 (j := lcn) (q := 2) (v := t)
  refine ⟨a1, a2, by omega, by rw [up2_f _ _ _ _ (by omega)]; exact a4, up2_s _ _ _ _, by rw [up2_f _ _ _ _ (by omega)]; exact a6, fun j hj => ?_, fun j h1 h2 => ?_⟩
  · rw [up2_ne _ _ _ (by omega)]; exact a7 j hj
  · rw [up2_ne _ _ _ (by omega)]; exact a8 j h1 h2
theorem RmI.newLetter {X : IS} {cn lcn κ d : Nat} {a b9 : Int32} (h : RmI X cn lcn) (hc : cn < 20) (h1 : isNm a = true) (h2 : isNm b9 = true) (ha : ∃ w, w ≤ 9999 ∧ a = nI w) (hb : ∃ w, w ≤ 9999 ∧ b9 = nI w) (hκ : κ < 4) (hd : d ≤ 30) :
    RmI (up2 (up2 (up2 (up2 (up2 X (10 + cn) 0 a) (10 + cn) 1 b9) (10 + cn) 2 (nI κ)) (10 + cn) 3 (nI d)) 0 4 (nI (cn + 1))) (cn + 1) lcn := by
  obtain ⟨a1, a2, a3, a4, a5, a6, a7, a8⟩ := h
  have e0 : ∀ q, q ≠ 4 → up2 (up2 (up2 (up2 (up2 X (10 + cn) 0 a) (10 + cn) 1 b9) (10 + cn) 2 (nI κ)) (10 + cn) 3 (nI d)) 0 4 (nI (cn + 1)) 0 q = X 0 q := fun q hq => by
    rw [up2_f _ _ _ _ hq, up2_n _ _ _ _ (by omega), up2_n _ _ _ _ (by omega), up2_n _ _ _ _ (by omega), up2_n _ _ _ _ (by omega)]
  have eL : up2 (up2 (up2 (up2 (up2 X (10 + cn) 0 a) (10 + cn) 1 b9) (10 + cn) 2 (nI κ)) (10 + cn) 3 (nI d)) 0 4 (nI (cn + 1)) (10 + cn) = upd (upd (upd (upd L0 0 a) 1 b9) 2 (nI κ)) 3 (nI d) := by
    rw [up2_ne _ _ _ (by omega), up2_at, up2_at, up2_at, up2_at, a8 cn (Nat.le_refl _) hc]
  have eO : ∀ j, j ≠ cn → up2 (up2 (up2 (up2 (up2 X (10 + cn) 0 a) (10 + cn) 1 b9) (10 + cn) 2 (nI κ)) (10 + cn) 3 (nI d)) 0 4 (nI (cn + 1)) (10 + j) = X (10 + j) := fun j hj => by
    rw [up2_ne _ _ _ (by omega), up2_ne _ _ _ (by omega), up2_ne _ _ _ (by omega), up2_ne _ _ _ (by omega), up2_ne _ _ _ (by omega)]
  refine ⟨by omega, by omega, a3, up2_s _ _ _ _, by rw [e0 5 (by omega)]; exact a5, by rw [e0 6 (by omega)]; exact a6, fun j hj => ?_, fun j h3 h4 => ?_⟩
  · by_cases z : j = cn
    · rw [z, eL]
      refine ⟨h1, h2, ⟨κ, hκ, rfl⟩, ⟨false, rfl⟩, rfl, ⟨false, rfl⟩, fun q hq => ?_⟩
      rcases (show q = 0 ∨ q = 1 ∨ q = 2 ∨ q = 3 ∨ q = 4 ∨ q = 5 ∨ q = 6 ∨ q = 7 ∨ q = 8 ∨ q = 9 by omega) with rfl | rfl | rfl | rfl | rfl | rfl | rfl | rfl | rfl | rfl
      · exact ha
      · exact hb
      · exact ⟨κ, by omega, rfl⟩
      · exact ⟨d, by omega, rfl⟩
      · exact ⟨0, by omega, rfl⟩
      · exact ⟨999, by omega, rfl⟩
      · exact ⟨0, by omega, rfl⟩
      · exact ⟨0, by omega, rfl⟩
      · exact ⟨15, by omega, rfl⟩
      · exact ⟨0, by omega, rfl⟩
    · rw [eO j z]; exact a7 j (by omega)
  · rw [eO j (by omega)]; exact a8 j (by omega) h4
