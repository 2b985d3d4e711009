/-! 33: who is signed anew is backed; what a change of one place leaves -/
theorem up2_q (I : IS) (n j : Nat) (v : Int32) (a : Nat) {q : Nat} (h : q ≠ j) : up2 I n j v a q = I a q := by
  by_cases e : a = n
  · rw [e]; exact up2_f _ _ _ _ h
  · exact up2_n _ _ _ _ e
theorem prL_same {f g : Nat → Int32} (h : ∀ q, q < 10 → f q = g q) : prLf f = prLf g := by
  unfold prLf
  rw [h 0 (by omega), h 1 (by omega), h 2 (by omega), h 3 (by omega), h 4 (by omega), h 5 (by omega), h 6 (by omega), h 7 (by omega), h 8 (by omega), h 9 (by omega)]
theorem prL_up (I : IS) (n j : Nat) (v : Int32) (a : Nat) (h : 10 ≤ j) : prLf (up2 I n j v a) = prLf (I a) := prL_same (fun q hq => up2_q I n j v a (by omega))
/-- a letter that is signed with b's key: b backs it if the names meet -/
theorem bk_sign (I : IS) (i b : Nat) : bkB (up2 I (10 + i) 10 (sealF (prLf (I (10 + i))) (I (10 + b) 2))) b i = decide (I (10 + b) 0 = I (10 + i) 1) := by
  unfold bkB
  rw [up2_q _ _ _ _ _ (show (0 : Nat) ≠ 10 by decide), up2_q _ _ _ _ _ (show (1 : Nat) ≠ 10 by decide), up2_q _ _ _ _ _ (show (2 : Nat) ≠ 10 by decide), up2_s, prL_up _ _ _ _ _ (Nat.le_refl _)]
  simp
/-- a serial put on a list or taken off: the two sets differ in it alone -/
theorem xor_back (x y : Int32) : x ^^^ (x ^^^ y) = y := by
  apply Int32.toBitVec_inj.1
  show x.toBitVec ^^^ (x.toBitVec ^^^ y.toBitVec) = y.toBitVec
  rw [← BitVec.xor_assoc, BitVec.xor_self, BitVec.zero_xor]
theorem RmI.seal {X : IS} {cn lcn i : Nat} {v : Int32} (h : RmI X cn lcn) (hi : i < cn) : RmI (up2 X (10 + i) 10 v) cn lcn :=
  h.up hi ((h.2.2.2.2.2.2.1 i hi).up (fun q => by omega) (fun q => by omega) (fun q => by omega) (fun q => by omega) (fun q => by omega) (fun q => by omega) (fun q => by omega))
theorem RmI.small {X : IS} {cn lcn i q w : Nat} (h : RmI X cn lcn) (hi : i < cn) (hq : q = 3 ∨ q = 4 ∨ q = 5 ∨ q = 7 ∨ q = 8) (hw : w ≤ 9999) : RmI (up2 X (10 + i) q (nI w)) cn lcn :=
  h.up hi ((h.2.2.2.2.2.2.1 i hi).up (fun q => by omega) (fun q => by omega) (fun q => by omega) (fun q => by omega) (fun q => by omega) (fun q => by omega) (fun _ => ⟨w, hw, rfl⟩))
theorem RmI.flag {X : IS} {cn lcn i q : Nat} (h : RmI X cn lcn) (hi : i < cn) (hq : q = 6 ∨ q = 11) (b : Bool) : RmI (up2 X (10 + i) q (bI b)) cn lcn :=
  h.up hi ((h.2.2.2.2.2.2.1 i hi).up (fun q => by omega) (fun q => by omega) (fun q => by omega) (fun _ => ⟨b, rfl⟩) (fun q => by omega) (fun _ => ⟨b, rfl⟩) (fun _ => by cases b; exact ⟨0, by omega, rfl⟩; exact ⟨1, by omega, rfl⟩))
theorem RmI.bound {X : IS} {cn lcn i w : Nat} (h : RmI X cn lcn) (hi : i < cn) (hw : w ≤ 9999) (h0 : isN0 (nI w) = true) : RmI (up2 X (10 + i) 9 (nI w)) cn lcn :=
  h.up hi ((h.2.2.2.2.2.2.1 i hi).up (fun q => by omega) (fun q => by omega) (fun q => by omega) (fun q => by omega) (fun _ => h0) (fun q => by omega) (fun _ => ⟨w, hw, rfl⟩))
