/-! 41: the reference on the empty state: what makes nothing -/
def isB (v lo hi : Int32) : Bool := if v < lo then false else if hi < v then false else true
theorem isB_y {v lo hi : Int32} (h : isB v lo hi = true) : ¬ v < lo ∧ ¬ hi < v := by
  unfold isB at h
  by_cases a : v < lo
  · rw [if_pos a] at h; exact absurd h (by decide)
  · by_cases b : hi < v
    · rw [if_neg a, if_pos b] at h; exact absurd h (by decide)
    · exact ⟨a, b⟩
theorem isB_no (x : Int32) : isB x (nI 0) (-1) = false := by
  unfold isB
  by_cases a : x < nI 0
  · rw [if_pos a]
  · rw [if_neg a, if_pos]
    have h1 : ¬ x < 0 := a
    rw [Int32.lt_iff_toInt_lt] at h1 ⊢
    have e1 : (0 : Int32).toInt = 0 := rfl
    have e2 : (-1 : Int32).toInt = -1 := rfl
    omega
theorem isNm_B (a : Int32) : isNm a = (isB a (nI 1) (nI 9999) && nmF 10000 a.toNatClampNeg) := by
  unfold isNm isB
  split
  · rfl
  · split
    · rfl
    · rfl
set_option maxHeartbeats 4000000 in
set_option maxRecDepth 100000 in
theorem ct_Jx4a65c_size_8abf5 (l : Launch) (k : Sk) (M : Nat) (I : IS) (hJ : IjM k M) (n : Nat) (hn0 : n ≠ 0) (hnM : n < M) : MmI l yJx4a65c_size_8abf5 wsJx4a65c_size_8abf5 0 [.ref (k.2.1 n)] k M I (fun r I' => r = I n 2 ∧ I' = I) := by
  refine mmI_of (cc := cJx4a65c_size_8abf5) (maxL := 1) hJ (by decide) rfl (Nat.le_of_ble_eq_true rfl) ?_
  intro p e s m args below meth c A ls C0 h hr hl
  have hx := C0.1.1
  have hb := C0.1.2.1
  have hown := C0.1.2.2.2.1
  have hts := C0.1.2.2.2.2
  have hM := hJ.1
  have hl : lv_has ls 1 [(0, _)] := hl
  have hinJx4a65c : ∀ w ∈ u_ws RJx4a65c TJx4a65c 3, w ∈ wsJx4a65c_size_8abf5 := by decide +kernel
  refine lv_aload_n hx hb dJx4a65c_size_8abf5_0 rfl (lv_at hl 0 rfl) ?_
  refine m_get (T := TJx4a65c) (N := 3) C0 h _ (by omega) (cm1 k M _ (by first | decide | assumption)) hinJx4a65c rfl 2 (by decide) (by decide +kernel) rfl rfl dJx4a65c_size_8abf5_1 ?_
  exact m_iret C0 h hr dJx4a65c_size_8abf5_4 ⟨rfl, rfl⟩
set_option maxHeartbeats 4000000 in
set_option maxRecDepth 100000 in
theorem ct_X4_is (l : Launch) (k : Sk) (M : Nat) (I : IS) (hJ : IjM k M) (a lo hi : Int32) : MmI l yX4_is wsX4_is 0 [.int a, .int lo, .int hi] k M I (fun r I' => r = bI (isB a lo hi) ∧ I' = I) := by
  refine mmIz_of (cc := cX4_is) (maxL := 3) hJ (by decide) rfl (Nat.le_of_ble_eq_true rfl) ?_
  intro p e s m args below meth c A ls C0 h hr hl
  have hx := C0.1.1
  have hb := C0.1.2.1
  have hown := C0.1.2.2.2.1
  have hts := C0.1.2.2.2.2
  have hM := hJ.1
  have hl : lv_has ls 3 [(0, _), (1, _), (2, _)] := hl
  refine lv_iload_n hx hb dX4_is_0 rfl (lv_at hl 0 rfl) ?_
  refine lv_iload_n hx hb dX4_is_1 rfl (lv_at hl 1 rfl) ?_
  refine lv_icmp_lt (tgt := 14) hx hb dX4_is_2 (by decide) (fun c_2 => ?_) (fun c_2 => ?_)
  · refine lv_iconst (v := nI 0) hx hb dX4_is_14 (by decide) ?_
    exact m_zret C0 h hr dX4_is_15 (by first | exact zb1 | exact zb0 | exact ⟨_, rfl⟩) ⟨by simp [isB, bI_t, bI_f, *], rfl⟩
  · refine lv_iload_n hx hb dX4_is_5 rfl (lv_at hl 0 rfl) ?_
    refine lv_iload_n hx hb dX4_is_6 rfl (lv_at hl 2 rfl) ?_
    refine lv_icmp_gt (tgt := 14) hx hb dX4_is_7 (by decide) (fun c_7 => ?_) (fun c_7 => ?_)
    · refine lv_iconst (v := nI 0) hx hb dX4_is_14 (by decide) ?_
      exact m_zret C0 h hr dX4_is_15 (by first | exact zb1 | exact zb0 | exact ⟨_, rfl⟩) ⟨by simp [isB, bI_t, bI_f, *], rfl⟩
    · refine lv_iconst (v := nI 1) hx hb dX4_is_10 (by decide) ?_
      refine lv_goto (tgt := 15) hx hb dX4_is_11 (by decide) ?_
      exact m_zret C0 h hr dX4_is_15 (by first | exact zb1 | exact zb0 | exact ⟨_, rfl⟩) ⟨by simp [isB, bI_t, bI_f, *], rfl⟩
set_option maxHeartbeats 4000000 in
set_option maxRecDepth 100000 in
theorem ct_X4_isName (l : Launch) (k : Sk) (M : Nat) (I : IS) (hJ : IjM k M) (a : Int32) : MmI l yX4_isName wsX4_isName 1 [.int a] k M I (fun r I' => r = bI (isNm a) ∧ I' = I) := by
  refine mmIz_of (cc := cX4_isName) (maxL := 2) hJ (by decide) rfl (Nat.le_of_ble_eq_true rfl) ?_
  intro p e s m args below meth c A ls C0 h hr hl
  have hx := C0.1.1
  have hb := C0.1.2.1
  have hown := C0.1.2.2.2.1
  have hts := C0.1.2.2.2.2
  have hM := hJ.1
  have hl : lv_has ls 2 [(0, _)] := hl
  refine lv_iload_n hx hb dX4_isName_0 rfl (lv_at hl 0 rfl) ?_
  refine lv_iconst (v := nI 1) hx hb dX4_isName_1 (by decide) ?_
  refine lv_sipush (v := nI 9999) hx hb dX4_isName_2 (by decide) ?_
  refine m_cSI C0 h hl.1 (ct_X4_is l k M _ hJ _ _ _) gX4_isName_X4_is rfl (by decide +kernel) (n := 3) ⟨Nat.le_of_ble_eq_true rfl, Nat.le_of_ble_eq_true rfl⟩ ⟨Nat.zero_le _, Nat.zero_le _⟩ (Nat.le_of_ble_eq_true rfl) rfl rfl dX4_isName_5 (fun r5 I5 H locs hp h => ?_)
  obtain ⟨rfl, hI5⟩ := hp
  rw [hI5] at h
  refine lv_if_ne (tgt := 13) hx hb dX4_isName_8 (by decide) (fun c_8 => ?_) (fun c_8 => ?_)
  · obtain ⟨c_2, c_9⟩ := isB_y (bI_nz c_8)
    refine lv_iload_n hx hb dX4_isName_13 rfl (lv_at hl 0 rfl) ?_
    refine lv_istore_n hx hb dX4_isName_14 rfl hl (by decide) rfl (fun ls hl => ?_)
    have hl : lv_has ls 2 [(1, _), (0, _)] := hl
    obtain ⟨j0, hj0, hj1⟩ := nI_of2 (n := 9999) (M := nI 9999) (by decide) (nlt1 c_2) (fa_nlt c_9)
    have hv0 : nmF 10000 j0 = isNm a := by
      unfold isNm
      rw [if_neg c_2, if_neg c_9, hj1, nI_clamp (by omega)]
    have hl : lv_has ls 2 [(1, .int (nI j0)), (0, .int a)] := by rw [← hj1]; exact hl
    have key15 : ∀ (n : Nat) (j : Nat), j < n → j < 10000 → nmF n j = isNm a → ∀ (H : Heap) (locs : List Loc) (ls : Array Slot), HXm k M A s I H locs → lv_has ls 2 [(1, .int (nI j)), (0, .int a)] → W p l e (Rm 1) s m args below meth c H locs 0 0 (MQ below (va_Qi (fun r I' => r = bI (isNm a) ∧ I' = I) (EnM k M) A) args s 0 0 A) (F0 m 15 ls []) := by
      intro n
      induction n with
      | zero =>
        intro j hn hj hv H locs ls h hl
        exact absurd hn (Nat.not_lt_zero _)
      | succ n ih15 =>
        intro j hn hj hv H locs ls h hl
        refine lv_iload_n hx hb dX4_isName_15 rfl (lv_at hl 0 rfl) ?_
        refine lv_if_le (tgt := 36) hx hb dX4_isName_16 (by decide) (fun c_16 => ?_) (fun c_16 => ?_)
        · refine lv_iconst (v := nI 1) hx hb dX4_isName_36 (by decide) ?_
          exact m_zret C0 h hr dX4_isName_37 (by first | exact zb1 | exact zb0 | exact ⟨_, rfl⟩) ⟨by rw [← hv, nmF, if_pos (nn0 (by omega) c_16)]; rfl, rfl⟩
        · refine lv_iload_n hx hb dX4_isName_19 rfl (lv_at hl 0 rfl) ?_
          refine lv_bipush (v := nI 10) hx hb dX4_isName_20 (by decide) ?_
          refine lv_irem hx hb dX4_isName_22 (by decide) ?_
          rw [pk_rem (by omega) (by omega) (by omega)]
          refine lv_if_ne (tgt := 28) hx hb dX4_isName_23 (by decide) (fun c_23 => ?_) (fun c_23 => ?_)
          · refine lv_iload_n hx hb dX4_isName_28 rfl (lv_at hl 0 rfl) ?_
            refine lv_bipush (v := nI 10) hx hb dX4_isName_29 (by decide) ?_
            refine lv_idiv hx hb dX4_isName_31 (by decide) ?_
            rw [pk_div (by omega) (by omega) (by omega)]
            refine lv_istore_n hx hb dX4_isName_32 rfl hl (by decide) rfl (fun ls hl => ?_)
            have hl : lv_has ls 2 [(1, _), (0, _)] := hl
            refine lv_goto (tgt := 15) hx hb dX4_isName_33 (by decide) ?_
            exact ih15 (j / 10) (by have := nn1 c_16; omega) (by omega) (by rw [← hv, nmF, if_neg (nn1 c_16), if_neg (nz1 c_23)]) _ _ _ h (lv_sub hl [0, 1] rfl)
          · refine lv_iconst (v := nI 0) hx hb dX4_isName_26 (by decide) ?_
            exact m_zret C0 h hr dX4_isName_27 (by first | exact zb1 | exact zb0 | exact ⟨_, rfl⟩) ⟨by rw [← hv, nmF, if_neg (nn1 c_16), if_pos (nz0 (by omega) c_23)]; rfl, rfl⟩
    exact key15 10000 j0 (by omega) (by omega) hv0 _ _ _ h (lv_sub hl [0, 1] rfl)
  · refine lv_iconst (v := nI 0) hx hb dX4_isName_11 (by decide) ?_
    exact m_zret C0 h hr dX4_isName_12 (by first | exact zb1 | exact zb0 | exact ⟨_, rfl⟩) ⟨by rw [isNm_B, bI_z c_8]; rfl, rfl⟩
set_option maxHeartbeats 4000000 in
set_option maxRecDepth 100000 in
theorem ct_X4_isNameOrAll (l : Launch) (k : Sk) (M : Nat) (I : IS) (hJ : IjM k M) (a : Int32) : MmI l yX4_isNameOrAll wsX4_isNameOrAll 2 [.int a] k M I (fun r I' => r = bI (isN0 a) ∧ I' = I) := by
  refine mmIz_of (cc := cX4_isNameOrAll) (maxL := 1) hJ (by decide) rfl (Nat.le_of_ble_eq_true rfl) ?_
  intro p e s m args below meth c A ls C0 h hr hl
  have hx := C0.1.1
  have hb := C0.1.2.1
  have hown := C0.1.2.2.2.1
  have hts := C0.1.2.2.2.2
  have hM := hJ.1
  have hl : lv_has ls 1 [(0, _)] := hl
  refine lv_iload_n hx hb dX4_isNameOrAll_0 rfl (lv_at hl 0 rfl) ?_
  refine lv_if_eq (tgt := 11) hx hb dX4_isNameOrAll_1 (by decide) (fun c_1 => ?_) (fun c_1 => ?_)
  · refine lv_iconst (v := nI 1) hx hb dX4_isNameOrAll_11 (by decide) ?_
    refine lv_goto (tgt := 16) hx hb dX4_isNameOrAll_12 (by decide) ?_
    exact m_zret C0 h hr dX4_isNameOrAll_16 (by first | exact zb1 | exact zb0 | exact ⟨_, rfl⟩) ⟨by simp [isN0, bI_0, bI_t, bI_f, *] <;> simp_all [bI_0, bI_t, bI_f], rfl⟩
  · refine lv_iload_n hx hb dX4_isNameOrAll_4 rfl (lv_at hl 0 rfl) ?_
    refine m_cSI C0 h hl.1 (ct_X4_isName l k M _ hJ _) gX4_isNameOrAll_X4_isName rfl (by decide +kernel) (n := 1) ⟨Nat.le_of_ble_eq_true rfl, Nat.le_of_ble_eq_true rfl⟩ ⟨Nat.zero_le _, Nat.zero_le _⟩ (Nat.le_of_ble_eq_true rfl) rfl rfl dX4_isNameOrAll_5 (fun r5 I5 H locs hp h => ?_)
    obtain ⟨rfl, hI5⟩ := hp
    rw [hI5] at h
    refine lv_if_eq (tgt := 15) hx hb dX4_isNameOrAll_8 (by decide) (fun c_8 => ?_) (fun c_8 => ?_)
    · refine lv_iconst (v := nI 0) hx hb dX4_isNameOrAll_15 (by decide) ?_
      exact m_zret C0 h hr dX4_isNameOrAll_16 (by first | exact zb1 | exact zb0 | exact ⟨_, rfl⟩) ⟨by simp [isN0, bI_0, bI_t, bI_f, *] <;> simp_all [bI_0, bI_t, bI_f], rfl⟩
    · refine lv_iconst (v := nI 1) hx hb dX4_isNameOrAll_11 (by decide) ?_
      refine lv_goto (tgt := 16) hx hb dX4_isNameOrAll_12 (by decide) ?_
      exact m_zret C0 h hr dX4_isNameOrAll_16 (by first | exact zb1 | exact zb0 | exact ⟨_, rfl⟩) ⟨by simp [isN0, bI_0, bI_t, bI_f, *] <;> simp_all [bI_0, bI_t, bI_f], rfl⟩
set_option maxHeartbeats 4000000 in
set_option maxRecDepth 100000 in
theorem ct_X4_isUnderNow (l : Launch) (k : Sk) (M : Nat) (I : IS) (hJ : IjM k M) (a o : Int32) : MmI l yX4_isUnderNow wsX4_isUnderNow 0 [.int a, .int o] k M I (fun r I' => r = bI (isUn a o) ∧ I' = I) := by
  refine mmIz_of (cc := cX4_isUnderNow) (maxL := 3) hJ (by decide) rfl (Nat.le_of_ble_eq_true rfl) ?_
  intro p e s m args below meth c A ls C0 h hr hl
  have hx := C0.1.1
  have hb := C0.1.2.1
  have hown := C0.1.2.2.2.1
  have hts := C0.1.2.2.2.2
  have hM := hJ.1
  have hl : lv_has ls 3 [(0, _), (1, _)] := hl
  refine lv_iload_n hx hb dX4_isUnderNow_0 rfl (lv_at hl 0 rfl) ?_
  refine lv_istore_n hx hb dX4_isUnderNow_1 rfl hl (by decide) rfl (fun ls hl => ?_)
  have hl : lv_has ls 3 [(2, _), (0, _), (1, _)] := hl
  obtain ⟨j0, q1, q2, q3⟩ := isUn_start a
  have key2 : ∀ (n : Nat) (j : Nat) (x : Int32), j < n → j < 2147483648 → (x = nI j ∨ (x ≤ 0 ∧ j = 0)) → unF n j o = isUn a o → ∀ (H : Heap) (locs : List Loc) (ls : Array Slot), HXm k M A s I H locs → lv_has ls 3 [(2, .int x), (0, .int a), (1, .int o)] → W p l e (Rm 0) s m args below meth c H locs 0 0 (MQ below (va_Qi (fun r I' => r = bI (isUn a o) ∧ I' = I) (EnM k M) A) args s 0 0 A) (F0 m 2 ls []) := by
    intro n
    induction n with
    | zero =>
      intro j x hn hj hxj hv H locs ls h hl
      exact absurd hn (Nat.not_lt_zero _)
    | succ n ih2 =>
      intro j x hn hj hxj hv H locs ls h hl
      refine lv_iload_n hx hb dX4_isUnderNow_2 rfl (lv_at hl 0 rfl) ?_
      refine lv_if_le (tgt := 21) hx hb dX4_isUnderNow_3 (by decide) (fun c_3 => ?_) (fun c_3 => ?_)
      · have hj0 : j = 0 := by
          rcases hxj with rfl | q
          · exact nn0 hj c_3
          · exact q.2
        subst hj0
        refine lv_iload_n hx hb dX4_isUnderNow_21 rfl (lv_at hl 2 rfl) ?_
        refine lv_if_ne (tgt := 29) hx hb dX4_isUnderNow_22 (by decide) (fun c_22 => ?_) (fun c_22 => ?_)
        · refine lv_iconst (v := nI 0) hx hb dX4_isUnderNow_29 (by decide) ?_
          exact m_zret C0 h hr dX4_isUnderNow_30 (by first | exact zb1 | exact zb0 | exact ⟨_, rfl⟩) ⟨by rw [← hv, unF_0]; simp_all [bI_t, bI_f], rfl⟩
        · refine lv_iconst (v := nI 1) hx hb dX4_isUnderNow_25 (by decide) ?_
          refine lv_goto (tgt := 30) hx hb dX4_isUnderNow_26 (by decide) ?_
          exact m_zret C0 h hr dX4_isUnderNow_30 (by first | exact zb1 | exact zb0 | exact ⟨_, rfl⟩) ⟨by rw [← hv, unF_0]; simp_all [bI_t, bI_f], rfl⟩
      · obtain rfl : x = nI j := hxj.resolve_right (fun q => c_3 q.1)
        refine lv_iload_n hx hb dX4_isUnderNow_6 rfl (lv_at hl 0 rfl) ?_
        refine lv_iload_n hx hb dX4_isUnderNow_7 rfl (lv_at hl 2 rfl) ?_
        refine lv_icmp_ne (tgt := 13) hx hb dX4_isUnderNow_8 (by decide) (fun c_8 => ?_) (fun c_8 => ?_)
        · refine lv_iload_n hx hb dX4_isUnderNow_13 rfl (lv_at hl 0 rfl) ?_
          refine lv_bipush (v := nI 10) hx hb dX4_isUnderNow_14 (by decide) ?_
          refine lv_idiv hx hb dX4_isUnderNow_16 (by decide) ?_
          rw [pk_div (by omega) (by omega) (by omega)]
          refine lv_istore_n hx hb dX4_isUnderNow_17 rfl hl (by decide) rfl (fun ls hl => ?_)
          have hl : lv_has ls 3 [(2, _), (0, _), (1, _)] := hl
          refine lv_goto (tgt := 2) hx hb dX4_isUnderNow_18 (by decide) ?_
          exact ih2 (j / 10) _ (by have := nn1 c_3; omega) (by omega) (Or.inl rfl) (by rw [← hv, unF, if_neg (nn1 c_3), if_neg c_8]) _ _ _ h (lv_sub hl [0, 1, 2] rfl)
        · refine lv_iconst (v := nI 1) hx hb dX4_isUnderNow_11 (by decide) ?_
          exact m_zret C0 h hr dX4_isUnderNow_12 (by first | exact zb1 | exact zb0 | exact ⟨_, rfl⟩) ⟨by rw [← hv, unF, if_neg (nn1 c_3), if_pos (c_8)]; rfl, rfl⟩
  exact key2 2147483648 j0 a q1 q1 q2 (by rw [← q3]; rfl) _ _ _ h (lv_sub hl [0, 1, 2] rfl)
set_option maxHeartbeats 4000000 in
set_option maxRecDepth 100000 in
theorem ct_X4_signedNow (l : Launch) (k : Sk) (M : Nat) (I : IS) (hJ : IjM k M) (t d9 : Int32) : MmI l yX4_signedNow wsX4_signedNow 0 [.int t, .int d9] k M I (fun r I' => r = sealF d9 t ∧ I' = I) := by
  refine mmI_of (cc := cX4_signedNow) (maxL := 2) hJ (by decide) rfl (Nat.le_of_ble_eq_true rfl) ?_
  intro p e s m args below meth c A ls C0 h hr hl
  have hx := C0.1.1
  have hb := C0.1.2.1
  have hown := C0.1.2.2.2.1
  have hts := C0.1.2.2.2.2
  have hM := hJ.1
  have hl : lv_has ls 2 [(0, _), (1, _)] := hl
  refine lv_iload_n hx hb dX4_signedNow_0 rfl (lv_at hl 1 rfl) ?_
  refine lv_iconst (v := nI 2) hx hb dX4_signedNow_1 (by decide) ?_
  refine lv_iload_n hx hb dX4_signedNow_2 rfl (lv_at hl 0 rfl) ?_
  refine lv_imul hx hb dX4_signedNow_3 ?_
  refine lv_iconst (v := nI 3) hx hb dX4_signedNow_4 (by decide) ?_
  refine lv_iadd hx hb dX4_signedNow_5 ?_
  refine lv_imul hx hb dX4_signedNow_6 ?_
  refine lv_sipush (v := nI 997) hx hb dX4_signedNow_7 (by decide) ?_
  refine lv_irem hx hb dX4_signedNow_10 (by decide) ?_
  exact m_iret C0 h hr dX4_signedNow_11 ⟨rfl, rfl⟩
set_option maxHeartbeats 4000000 in
set_option maxRecDepth 100000 in
theorem ct_X4_isKey (l : Launch) (k : Sk) (M : Nat) (I : IS) (hJ : IjM k M) (a : Int32) : MmI l yX4_isKey wsX4_isKey 1 [.int a] k M I (fun r I' => r = bI (isW a (nI 15)) ∧ I' = I) := by
  refine mmIz_of (cc := cX4_isKey) (maxL := 1) hJ (by decide) rfl (Nat.le_of_ble_eq_true rfl) ?_
  intro p e s m args below meth c A ls C0 h hr hl
  have hx := C0.1.1
  have hb := C0.1.2.1
  have hown := C0.1.2.2.2.1
  have hts := C0.1.2.2.2.2
  have hM := hJ.1
  have hl : lv_has ls 1 [(0, _)] := hl
  refine lv_iload_n hx hb dX4_isKey_0 rfl (lv_at hl 0 rfl) ?_
  refine lv_iconst (v := nI 0) hx hb dX4_isKey_1 (by decide) ?_
  refine lv_bipush (v := nI 15) hx hb dX4_isKey_2 (by decide) ?_
  refine m_cSI C0 h hl.1 (ct_X4_is l k M _ hJ _ _ _) gX4_isKey_X4_is rfl (by decide +kernel) (n := 3) ⟨Nat.le_of_ble_eq_true rfl, Nat.le_of_ble_eq_true rfl⟩ ⟨Nat.zero_le _, Nat.zero_le _⟩ (Nat.le_of_ble_eq_true rfl) rfl rfl dX4_isKey_4 (fun r4 I4 H locs hp h => ?_)
  obtain ⟨rfl, hI4⟩ := hp
  rw [hI4] at h
  exact m_zret C0 h hr dX4_isKey_7 (by first | exact zb1 | exact zb0 | exact ⟨_, rfl⟩) ⟨rfl, rfl⟩
set_option maxHeartbeats 4000000 in
set_option maxRecDepth 100000 in
theorem ct_X4_isTime (l : Launch) (k : Sk) (M : Nat) (I : IS) (hJ : IjM k M) (a : Int32) : MmI l yX4_isTime wsX4_isTime 1 [.int a] k M I (fun r I' => r = bI (isW a (nI 999)) ∧ I' = I) := by
  refine mmIz_of (cc := cX4_isTime) (maxL := 1) hJ (by decide) rfl (Nat.le_of_ble_eq_true rfl) ?_
  intro p e s m args below meth c A ls C0 h hr hl
  have hx := C0.1.1
  have hb := C0.1.2.1
  have hown := C0.1.2.2.2.1
  have hts := C0.1.2.2.2.2
  have hM := hJ.1
  have hl : lv_has ls 1 [(0, _)] := hl
  refine lv_iload_n hx hb dX4_isTime_0 rfl (lv_at hl 0 rfl) ?_
  refine lv_iconst (v := nI 0) hx hb dX4_isTime_1 (by decide) ?_
  refine lv_sipush (v := nI 999) hx hb dX4_isTime_2 (by decide) ?_
  refine m_cSI C0 h hl.1 (ct_X4_is l k M _ hJ _ _ _) gX4_isTime_X4_is rfl (by decide +kernel) (n := 3) ⟨Nat.le_of_ble_eq_true rfl, Nat.le_of_ble_eq_true rfl⟩ ⟨Nat.zero_le _, Nat.zero_le _⟩ (Nat.le_of_ble_eq_true rfl) rfl rfl dX4_isTime_5 (fun r5 I5 H locs hp h => ?_)
  obtain ⟨rfl, hI5⟩ := hp
  rw [hI5] at h
  exact m_zret C0 h hr dX4_isTime_8 (by first | exact zb1 | exact zb0 | exact ⟨_, rfl⟩) ⟨rfl, rfl⟩
set_option maxHeartbeats 4000000 in
set_option maxRecDepth 100000 in
theorem ct_X4_isNumber (l : Launch) (k : Sk) (M : Nat) (I : IS) (hJ : IjM k M) (a : Int32) : MmI l yX4_isNumber wsX4_isNumber 1 [.int a] k M I (fun r I' => r = bI (isW a (nI 996)) ∧ I' = I) := by
  refine mmIz_of (cc := cX4_isNumber) (maxL := 1) hJ (by decide) rfl (Nat.le_of_ble_eq_true rfl) ?_
  intro p e s m args below meth c A ls C0 h hr hl
  have hx := C0.1.1
  have hb := C0.1.2.1
  have hown := C0.1.2.2.2.1
  have hts := C0.1.2.2.2.2
  have hM := hJ.1
  have hl : lv_has ls 1 [(0, _)] := hl
  refine lv_iload_n hx hb dX4_isNumber_0 rfl (lv_at hl 0 rfl) ?_
  refine lv_iconst (v := nI 0) hx hb dX4_isNumber_1 (by decide) ?_
  refine lv_sipush (v := nI 996) hx hb dX4_isNumber_2 (by decide) ?_
  refine m_cSI C0 h hl.1 (ct_X4_is l k M _ hJ _ _ _) gX4_isNumber_X4_is rfl (by decide +kernel) (n := 3) ⟨Nat.le_of_ble_eq_true rfl, Nat.le_of_ble_eq_true rfl⟩ ⟨Nat.zero_le _, Nat.zero_le _⟩ (Nat.le_of_ble_eq_true rfl) rfl rfl dX4_isNumber_5 (fun r5 I5 H locs hp h => ?_)
  obtain ⟨rfl, hI5⟩ := hp
  rw [hI5] at h
  exact m_zret C0 h hr dX4_isNumber_8 (by first | exact zb1 | exact zb0 | exact ⟨_, rfl⟩) ⟨rfl, rfl⟩
set_option maxHeartbeats 4000000 in
set_option maxRecDepth 100000 in
theorem ct_X4_isAt (l : Launch) (k : Sk) (M : Nat) (I : IS) (hJ : IjM k M) (t u : Int32) : MmI l yX4_isAt wsX4_isAt 2 [.int t, .int u] k M I (fun r I' => r = bI (isW t (nI 999) && isW u (nI 3)) ∧ I' = I) := by
  refine mmIz_of (cc := cX4_isAt) (maxL := 2) hJ (by decide) rfl (Nat.le_of_ble_eq_true rfl) ?_
  intro p e s m args below meth c A ls C0 h hr hl
  have hx := C0.1.1
  have hb := C0.1.2.1
  have hown := C0.1.2.2.2.1
  have hts := C0.1.2.2.2.2
  have hM := hJ.1
  have hl : lv_has ls 2 [(0, _), (1, _)] := hl
  refine lv_iload_n hx hb dX4_isAt_0 rfl (lv_at hl 0 rfl) ?_
  refine m_cSI C0 h hl.1 (ct_X4_isTime l k M _ hJ _) gX4_isAt_X4_isTime rfl (by decide +kernel) (n := 1) ⟨Nat.le_of_ble_eq_true rfl, Nat.le_of_ble_eq_true rfl⟩ ⟨Nat.zero_le _, Nat.zero_le _⟩ (Nat.le_of_ble_eq_true rfl) rfl rfl dX4_isAt_1 (fun r1 I1 H locs hp h => ?_)
  obtain ⟨rfl, hI1⟩ := hp
  rw [hI1] at h
  refine lv_if_eq (tgt := 20) hx hb dX4_isAt_4 (by decide) (fun c_4 => ?_) (fun c_4 => ?_)
  · have e4 := bI_z c_4
    refine lv_iconst (v := nI 0) hx hb dX4_isAt_20 (by decide) ?_
    exact m_zret C0 h hr dX4_isAt_21 (by first | exact zb1 | exact zb0 | exact ⟨_, rfl⟩) ⟨by first | (rw [e4, e13]; rfl) | (rw [e4]; rfl), rfl⟩
  · have e4 := bI_nz c_4
    refine lv_iload_n hx hb dX4_isAt_7 rfl (lv_at hl 1 rfl) ?_
    refine lv_iconst (v := nI 0) hx hb dX4_isAt_8 (by decide) ?_
    refine lv_iconst (v := nI 3) hx hb dX4_isAt_9 (by decide) ?_
    refine m_cSI C0 h hl.1 (ct_X4_is l k M _ hJ _ _ _) gX4_isAt_X4_is rfl (by decide +kernel) (n := 3) ⟨Nat.le_of_ble_eq_true rfl, Nat.le_of_ble_eq_true rfl⟩ ⟨Nat.zero_le _, Nat.zero_le _⟩ (Nat.le_of_ble_eq_true rfl) rfl rfl dX4_isAt_10 (fun r10 I10 H locs hp h => ?_)
    obtain ⟨rfl, hI10⟩ := hp
    rw [hI10] at h
    refine lv_if_eq (tgt := 20) hx hb dX4_isAt_13 (by decide) (fun c_13 => ?_) (fun c_13 => ?_)
    · have e13 : isW u (nI 3) = false := bI_z c_13
      refine lv_iconst (v := nI 0) hx hb dX4_isAt_20 (by decide) ?_
      exact m_zret C0 h hr dX4_isAt_21 (by first | exact zb1 | exact zb0 | exact ⟨_, rfl⟩) ⟨by first | (rw [e4, e13]; rfl) | (rw [e4]; rfl), rfl⟩
    · have e13 : isW u (nI 3) = true := bI_nz c_13
      refine lv_iconst (v := nI 1) hx hb dX4_isAt_16 (by decide) ?_
      refine lv_goto (tgt := 21) hx hb dX4_isAt_17 (by decide) ?_
      exact m_zret C0 h hr dX4_isAt_21 (by first | exact zb1 | exact zb0 | exact ⟨_, rfl⟩) ⟨by first | (rw [e4, e13]; rfl) | (rw [e4]; rfl), rfl⟩
set_option maxHeartbeats 4000000 in
set_option maxRecDepth 100000 in
theorem ct_X4_refuse (l : Launch) (k : Sk) (M : Nat) (I : IS) (hJ : IjM k M) (n9 : Int32) : MmI l yX4_refuse wsX4_refuse 0 [.ref (k.2.1 0), .int n9] k M I (fun r I' => r = nI 0 ∧ I' = up2 I 0 0 n9) := by
  refine mmI_of (cc := cX4_refuse) (maxL := 2) hJ (by decide) rfl (Nat.le_of_ble_eq_true rfl) ?_
  intro p e s m args below meth c A ls C0 h hr hl
  have hx := C0.1.1
  have hb := C0.1.2.1
  have hown := C0.1.2.2.2.1
  have hts := C0.1.2.2.2.2
  have hM := hJ.1
  have hl : lv_has ls 2 [(0, _), (1, _)] := hl
  have hinX4 : ∀ w ∈ u_ws RX4 TX4 8, w ∈ wsX4_refuse := by decide +kernel
  refine lv_aload_n hx hb dX4_refuse_0 rfl (lv_at hl 0 rfl) ?_
  refine lv_iload_n hx hb dX4_refuse_1 rfl (lv_at hl 1 rfl) ?_
  refine m_put (T := TX4) (N := 8) (ty0 := tyX4) C0 h _ (by omega) (cm0 k M _) hinX4 tyX4_ok nmX4 rfl 0 (by decide) (by decide +kernel) rfl rfl rfl rfl (Nat.le_of_ble_eq_true rfl) (cm0 k M _) dX4_refuse_2 (fun H locs h => ?_)
  refine lv_iconst (v := nI 0) hx hb dX4_refuse_5 (by decide) ?_
  exact m_iret C0 h hr dX4_refuse_6 ⟨rfl, rfl⟩
set_option maxHeartbeats 4000000 in
set_option maxRecDepth 100000 in
theorem ct_X4_isLetter (l : Launch) (k : Sk) (M : Nat) (I : IS) (hJ : IjM k M) (hE : I 1 2 = nI 0) (x : Int32) : MmI l yX4_isLetter wsX4_isLetter 1 [.ref (k.2.1 0), .int x] k M I (fun r I' => r = bI false ∧ I' = I) := by
  refine mmIz_of (cc := cX4_isLetter) (maxL := 2) hJ (by decide) rfl (Nat.le_of_ble_eq_true rfl) ?_
  intro p e s m args below meth c A ls C0 h hr hl
  have hx := C0.1.1
  have hb := C0.1.2.1
  have hown := C0.1.2.2.2.1
  have hts := C0.1.2.2.2.2
  have hM := hJ.1
  have hl : lv_has ls 2 [(0, _), (1, _)] := hl
  have hinX4 : ∀ w ∈ u_ws RX4 TX4 8, w ∈ wsX4_isLetter := by decide +kernel
  refine lv_iload_n hx hb dX4_isLetter_0 rfl (lv_at hl 1 rfl) ?_
  refine lv_iconst (v := nI 0) hx hb dX4_isLetter_1 (by decide) ?_
  refine lv_aload_n hx hb dX4_isLetter_2 rfl (lv_at hl 0 rfl) ?_
  refine m_get (T := TX4) (N := 8) C0 h _ (by omega) (cm0 k M _) hinX4 rfl 1 (by decide) (by decide +kernel) rfl rfl dX4_isLetter_3 ?_
  refine m_cVI C0 h hl.1 _ (by omega) (cm1 k M _ (by first | decide | assumption)) rfl (ct_Jx4a65c_size_8abf5 l k M _ hJ 1 (by decide) (by omega)) gX4_isLetter_Jx4a65c_size_8abf5 rfl (by decide +kernel) (n := 0) ⟨Nat.le_of_ble_eq_true rfl, Nat.le_of_ble_eq_true rfl⟩ ⟨Nat.zero_le _, Nat.zero_le _⟩ (Nat.le_of_ble_eq_true rfl) rfl rfl dX4_isLetter_6 (fun r6 I6 H locs hp h => ?_)
  obtain ⟨rfl, hI6⟩ := hp
  rw [hI6] at h
  rw [hE]
  refine lv_iconst (v := nI 1) hx hb dX4_isLetter_9 (by decide) ?_
  refine lv_isub hx hb dX4_isLetter_10 ?_
  refine m_cSI C0 h hl.1 (ct_X4_is l k M _ hJ _ _ _) gX4_isLetter_X4_is rfl (by decide +kernel) (n := 3) ⟨Nat.le_of_ble_eq_true rfl, Nat.le_of_ble_eq_true rfl⟩ ⟨Nat.zero_le _, Nat.zero_le _⟩ (Nat.le_of_ble_eq_true rfl) rfl rfl dX4_isLetter_11 (fun r11 I11 H locs hp h => ?_)
  obtain ⟨rfl, hI11⟩ := hp
  rw [hI11] at h
  exact m_zret C0 h hr dX4_isLetter_14 (by first | exact zb1 | exact zb0 | exact ⟨_, rfl⟩) ⟨by rw [show nI 0 - nI 1 = -1 by decide, isB_no], rfl⟩
set_option maxHeartbeats 4000000 in
set_option maxRecDepth 100000 in
theorem ct_X4_isList (l : Launch) (k : Sk) (M : Nat) (I : IS) (hJ : IjM k M) (hE : I 2 2 = nI 0) (x : Int32) : MmI l yX4_isList wsX4_isList 1 [.ref (k.2.1 0), .int x] k M I (fun r I' => r = bI false ∧ I' = I) := by
  refine mmIz_of (cc := cX4_isList) (maxL := 2) hJ (by decide) rfl (Nat.le_of_ble_eq_true rfl) ?_
  intro p e s m args below meth c A ls C0 h hr hl
  have hx := C0.1.1
  have hb := C0.1.2.1
  have hown := C0.1.2.2.2.1
  have hts := C0.1.2.2.2.2
  have hM := hJ.1
  have hl : lv_has ls 2 [(0, _), (1, _)] := hl
  have hinX4 : ∀ w ∈ u_ws RX4 TX4 8, w ∈ wsX4_isList := by decide +kernel
  refine lv_iload_n hx hb dX4_isList_0 rfl (lv_at hl 1 rfl) ?_
  refine lv_iconst (v := nI 0) hx hb dX4_isList_1 (by decide) ?_
  refine lv_aload_n hx hb dX4_isList_2 rfl (lv_at hl 0 rfl) ?_
  refine m_get (T := TX4) (N := 8) C0 h _ (by omega) (cm0 k M _) hinX4 rfl 2 (by decide) (by decide +kernel) rfl rfl dX4_isList_3 ?_
  refine m_cVI C0 h hl.1 _ (by omega) (cm1 k M _ (by first | decide | assumption)) rfl (ct_Jx4a65c_size_8abf5 l k M _ hJ 2 (by decide) (by omega)) gX4_isList_Jx4a65c_size_8abf5 rfl (by decide +kernel) (n := 0) ⟨Nat.le_of_ble_eq_true rfl, Nat.le_of_ble_eq_true rfl⟩ ⟨Nat.zero_le _, Nat.zero_le _⟩ (Nat.le_of_ble_eq_true rfl) rfl rfl dX4_isList_6 (fun r6 I6 H locs hp h => ?_)
  obtain ⟨rfl, hI6⟩ := hp
  rw [hI6] at h
  rw [hE]
  refine lv_iconst (v := nI 1) hx hb dX4_isList_9 (by decide) ?_
  refine lv_isub hx hb dX4_isList_10 ?_
  refine m_cSI C0 h hl.1 (ct_X4_is l k M _ hJ _ _ _) gX4_isList_X4_is rfl (by decide +kernel) (n := 3) ⟨Nat.le_of_ble_eq_true rfl, Nat.le_of_ble_eq_true rfl⟩ ⟨Nat.zero_le _, Nat.zero_le _⟩ (Nat.le_of_ble_eq_true rfl) rfl rfl dX4_isList_11 (fun r11 I11 H locs hp h => ?_)
  obtain ⟨rfl, hI11⟩ := hp
  rw [hI11] at h
  exact m_zret C0 h hr dX4_isList_14 (by first | exact zb1 | exact zb0 | exact ⟨_, rfl⟩) ⟨by rw [show nI 0 - nI 1 = -1 by decide, isB_no], rfl⟩
set_option maxHeartbeats 4000000 in
set_option maxRecDepth 100000 in
theorem ct_X4_times (l : Launch) (k : Sk) (M : Nat) (I : IS) (hJ : IjM k M) (hE : I 1 2 = nI 0 ∧ I 2 2 = nI 0) (x0 x1 x2 : Int32) : MmI l yX4_times wsX4_times 4 [.ref (k.2.1 0), .int x0, .int x1, .int x2] k M I (fun r I' => I' 0 0 = nI 1) := by
  refine mmI_of (cc := cX4_times) (maxL := 4) hJ (by decide) rfl (Nat.le_of_ble_eq_true rfl) ?_
  intro p e s m args below meth c A ls C0 h hr hl
  have hx := C0.1.1
  have hb := C0.1.2.1
  have hown := C0.1.2.2.2.1
  have hts := C0.1.2.2.2.2
  have hM := hJ.1
  have hl : lv_has ls 4 [(0, _), (1, _), (2, _), (3, _)] := hl
  have hinX4 : ∀ w ∈ u_ws RX4 TX4 8, w ∈ wsX4_times := by decide +kernel
  refine lv_aload_n hx hb dX4_times_0 rfl (lv_at hl 0 rfl) ?_
  refine lv_iconst (v := nI 0) hx hb dX4_times_1 (by decide) ?_
  refine m_put (T := TX4) (N := 8) (ty0 := tyX4) C0 h _ (by omega) (cm0 k M _) hinX4 tyX4_ok nmX4 rfl 0 (by decide) (by decide +kernel) rfl rfl rfl rfl (Nat.le_of_ble_eq_true rfl) (cm0 k M _) dX4_times_2 (fun H locs h => ?_)
  refine lv_aload_n hx hb dX4_times_5 rfl (lv_at hl 0 rfl) ?_
  refine lv_iload_n hx hb dX4_times_6 rfl (lv_at hl 1 rfl) ?_
  refine m_cVI C0 h hl.1 _ (by omega) (cm0 k M _) rfl (ct_X4_isLetter l k M _ hJ (by first | exact hE.1 | (rw [up2_n _ _ _ _ (by decide)]; exact hE.1)) _) gX4_times_X4_isLetter rfl (by decide +kernel) (n := 1) ⟨Nat.le_of_ble_eq_true rfl, Nat.le_of_ble_eq_true rfl⟩ ⟨Nat.zero_le _, Nat.zero_le _⟩ (Nat.le_of_ble_eq_true rfl) rfl rfl dX4_times_7 (fun r7 I7 H locs hp h => ?_)
  obtain ⟨rfl, hI7⟩ := hp
  rw [hI7] at h
  rw [show bI false = nI 0 from rfl]
  refine lv_if_ne (tgt := 19) hx hb dX4_times_10 (by decide) (fun c_10 => ?_) (fun c_10 => ?_)
  · exact absurd (by decide) c_10
  · refine lv_aload_n hx hb dX4_times_13 rfl (lv_at hl 0 rfl) ?_
    refine lv_iconst (v := nI 1) hx hb dX4_times_14 (by decide) ?_
    refine m_cVI C0 h hl.1 _ (by omega) (cm0 k M _) rfl (ct_X4_refuse l k M _ hJ (nI 1)) gX4_times_X4_refuse rfl (by decide +kernel) (n := 1) ⟨Nat.le_of_ble_eq_true rfl, Nat.le_of_ble_eq_true rfl⟩ ⟨Nat.zero_le _, Nat.zero_le _⟩ (Nat.le_of_ble_eq_true rfl) rfl rfl dX4_times_15 (fun r15 I15 H locs hp h => ?_)
    obtain ⟨rfl, hI15⟩ := hp
    rw [hI15] at h
    exact m_iret C0 h hr dX4_times_18 (up2_s _ _ _ _)
set_option maxHeartbeats 4000000 in
set_option maxRecDepth 100000 in
theorem ct_X4_master (l : Launch) (k : Sk) (M : Nat) (I : IS) (hJ : IjM k M) (hE : I 1 2 = nI 0 ∧ I 2 2 = nI 0) (x0 x1 x2 : Int32) : MmI l yX4_master wsX4_master 4 [.ref (k.2.1 0), .int x0, .int x1, .int x2] k M I (fun r I' => I' 0 0 = nI 1) := by
  refine mmI_of (cc := cX4_master) (maxL := 4) hJ (by decide) rfl (Nat.le_of_ble_eq_true rfl) ?_
  intro p e s m args below meth c A ls C0 h hr hl
  have hx := C0.1.1
  have hb := C0.1.2.1
  have hown := C0.1.2.2.2.1
  have hts := C0.1.2.2.2.2
  have hM := hJ.1
  have hl : lv_has ls 4 [(0, _), (1, _), (2, _), (3, _)] := hl
  have hinX4 : ∀ w ∈ u_ws RX4 TX4 8, w ∈ wsX4_master := by decide +kernel
  refine lv_aload_n hx hb dX4_master_0 rfl (lv_at hl 0 rfl) ?_
  refine lv_iconst (v := nI 0) hx hb dX4_master_1 (by decide) ?_
  refine m_put (T := TX4) (N := 8) (ty0 := tyX4) C0 h _ (by omega) (cm0 k M _) hinX4 tyX4_ok nmX4 rfl 0 (by decide) (by decide +kernel) rfl rfl rfl rfl (Nat.le_of_ble_eq_true rfl) (cm0 k M _) dX4_master_2 (fun H locs h => ?_)
  refine lv_aload_n hx hb dX4_master_5 rfl (lv_at hl 0 rfl) ?_
  refine lv_iload_n hx hb dX4_master_6 rfl (lv_at hl 1 rfl) ?_
  refine m_cVI C0 h hl.1 _ (by omega) (cm0 k M _) rfl (ct_X4_isLetter l k M _ hJ (by first | exact hE.1 | (rw [up2_n _ _ _ _ (by decide)]; exact hE.1)) _) gX4_master_X4_isLetter rfl (by decide +kernel) (n := 1) ⟨Nat.le_of_ble_eq_true rfl, Nat.le_of_ble_eq_true rfl⟩ ⟨Nat.zero_le _, Nat.zero_le _⟩ (Nat.le_of_ble_eq_true rfl) rfl rfl dX4_master_7 (fun r7 I7 H locs hp h => ?_)
  obtain ⟨rfl, hI7⟩ := hp
  rw [hI7] at h
  rw [show bI false = nI 0 from rfl]
  refine lv_if_ne (tgt := 19) hx hb dX4_master_10 (by decide) (fun c_10 => ?_) (fun c_10 => ?_)
  · exact absurd (by decide) c_10
  · refine lv_aload_n hx hb dX4_master_13 rfl (lv_at hl 0 rfl) ?_
    refine lv_iconst (v := nI 1) hx hb dX4_master_14 (by decide) ?_
    refine m_cVI C0 h hl.1 _ (by omega) (cm0 k M _) rfl (ct_X4_refuse l k M _ hJ (nI 1)) gX4_master_X4_refuse rfl (by decide +kernel) (n := 1) ⟨Nat.le_of_ble_eq_true rfl, Nat.le_of_ble_eq_true rfl⟩ ⟨Nat.zero_le _, Nat.zero_le _⟩ (Nat.le_of_ble_eq_true rfl) rfl rfl dX4_master_15 (fun r15 I15 H locs hp h => ?_)
    obtain ⟨rfl, hI15⟩ := hp
    rw [hI15] at h
    exact m_iret C0 h hr dX4_master_18 (up2_s _ _ _ _)
set_option maxHeartbeats 4000000 in
set_option maxRecDepth 100000 in
theorem ct_X4_good (l : Launch) (k : Sk) (M : Nat) (I : IS) (hJ : IjM k M) (hE : I 1 2 = nI 0 ∧ I 2 2 = nI 0) (x0 x1 x2 : Int32) : MmI l yX4_good wsX4_good 4 [.ref (k.2.1 0), .int x0, .int x1, .int x2] k M I (fun r I' => I' 0 0 = nI 1) := by
  refine mmI_of (cc := cX4_good) (maxL := 4) hJ (by decide) rfl (Nat.le_of_ble_eq_true rfl) ?_
  intro p e s m args below meth c A ls C0 h hr hl
  have hx := C0.1.1
  have hb := C0.1.2.1
  have hown := C0.1.2.2.2.1
  have hts := C0.1.2.2.2.2
  have hM := hJ.1
  have hl : lv_has ls 4 [(0, _), (1, _), (2, _), (3, _)] := hl
  have hinX4 : ∀ w ∈ u_ws RX4 TX4 8, w ∈ wsX4_good := by decide +kernel
  refine lv_aload_n hx hb dX4_good_0 rfl (lv_at hl 0 rfl) ?_
  refine lv_iconst (v := nI 0) hx hb dX4_good_1 (by decide) ?_
  refine m_put (T := TX4) (N := 8) (ty0 := tyX4) C0 h _ (by omega) (cm0 k M _) hinX4 tyX4_ok nmX4 rfl 0 (by decide) (by decide +kernel) rfl rfl rfl rfl (Nat.le_of_ble_eq_true rfl) (cm0 k M _) dX4_good_2 (fun H locs h => ?_)
  refine lv_aload_n hx hb dX4_good_5 rfl (lv_at hl 0 rfl) ?_
  refine lv_iload_n hx hb dX4_good_6 rfl (lv_at hl 1 rfl) ?_
  refine m_cVI C0 h hl.1 _ (by omega) (cm0 k M _) rfl (ct_X4_isLetter l k M _ hJ (by first | exact hE.1 | (rw [up2_n _ _ _ _ (by decide)]; exact hE.1)) _) gX4_good_X4_isLetter rfl (by decide +kernel) (n := 1) ⟨Nat.le_of_ble_eq_true rfl, Nat.le_of_ble_eq_true rfl⟩ ⟨Nat.zero_le _, Nat.zero_le _⟩ (Nat.le_of_ble_eq_true rfl) rfl rfl dX4_good_7 (fun r7 I7 H locs hp h => ?_)
  obtain ⟨rfl, hI7⟩ := hp
  rw [hI7] at h
  rw [show bI false = nI 0 from rfl]
  refine lv_if_ne (tgt := 19) hx hb dX4_good_10 (by decide) (fun c_10 => ?_) (fun c_10 => ?_)
  · exact absurd (by decide) c_10
  · refine lv_aload_n hx hb dX4_good_13 rfl (lv_at hl 0 rfl) ?_
    refine lv_iconst (v := nI 1) hx hb dX4_good_14 (by decide) ?_
    refine m_cVI C0 h hl.1 _ (by omega) (cm0 k M _) rfl (ct_X4_refuse l k M _ hJ (nI 1)) gX4_good_X4_refuse rfl (by decide +kernel) (n := 1) ⟨Nat.le_of_ble_eq_true rfl, Nat.le_of_ble_eq_true rfl⟩ ⟨Nat.zero_le _, Nat.zero_le _⟩ (Nat.le_of_ble_eq_true rfl) rfl rfl dX4_good_15 (fun r15 I15 H locs hp h => ?_)
    obtain ⟨rfl, hI15⟩ := hp
    rw [hI15] at h
    exact m_iret C0 h hr dX4_good_18 (up2_s _ _ _ _)
set_option maxHeartbeats 4000000 in
set_option maxRecDepth 100000 in
theorem ct_X4_sign (l : Launch) (k : Sk) (M : Nat) (I : IS) (hJ : IjM k M) (hE : I 1 2 = nI 0 ∧ I 2 2 = nI 0) (x0 x1 : Int32) : MmI l yX4_sign wsX4_sign 4 [.ref (k.2.1 0), .int x0, .int x1] k M I (fun r I' => I' 0 0 = nI 1) := by
  refine mmI_of (cc := cX4_sign) (maxL := 4) hJ (by decide) rfl (Nat.le_of_ble_eq_true rfl) ?_
  intro p e s m args below meth c A ls C0 h hr hl
  have hx := C0.1.1
  have hb := C0.1.2.1
  have hown := C0.1.2.2.2.1
  have hts := C0.1.2.2.2.2
  have hM := hJ.1
  have hl : lv_has ls 4 [(0, _), (1, _), (2, _)] := hl
  have hinX4 : ∀ w ∈ u_ws RX4 TX4 8, w ∈ wsX4_sign := by decide +kernel
  refine lv_aload_n hx hb dX4_sign_0 rfl (lv_at hl 0 rfl) ?_
  refine lv_iconst (v := nI 0) hx hb dX4_sign_1 (by decide) ?_
  refine m_put (T := TX4) (N := 8) (ty0 := tyX4) C0 h _ (by omega) (cm0 k M _) hinX4 tyX4_ok nmX4 rfl 0 (by decide) (by decide +kernel) rfl rfl rfl rfl (Nat.le_of_ble_eq_true rfl) (cm0 k M _) dX4_sign_2 (fun H locs h => ?_)
  refine lv_aload_n hx hb dX4_sign_5 rfl (lv_at hl 0 rfl) ?_
  refine lv_iload_n hx hb dX4_sign_6 rfl (lv_at hl 1 rfl) ?_
  refine m_cVI C0 h hl.1 _ (by omega) (cm0 k M _) rfl (ct_X4_isLetter l k M _ hJ (by first | exact hE.1 | (rw [up2_n _ _ _ _ (by decide)]; exact hE.1)) _) gX4_sign_X4_isLetter rfl (by decide +kernel) (n := 1) ⟨Nat.le_of_ble_eq_true rfl, Nat.le_of_ble_eq_true rfl⟩ ⟨Nat.zero_le _, Nat.zero_le _⟩ (Nat.le_of_ble_eq_true rfl) rfl rfl dX4_sign_7 (fun r7 I7 H locs hp h => ?_)
  obtain ⟨rfl, hI7⟩ := hp
  rw [hI7] at h
  rw [show bI false = nI 0 from rfl]
  refine lv_if_ne (tgt := 19) hx hb dX4_sign_10 (by decide) (fun c_10 => ?_) (fun c_10 => ?_)
  · exact absurd (by decide) c_10
  · refine lv_aload_n hx hb dX4_sign_13 rfl (lv_at hl 0 rfl) ?_
    refine lv_iconst (v := nI 1) hx hb dX4_sign_14 (by decide) ?_
    refine m_cVI C0 h hl.1 _ (by omega) (cm0 k M _) rfl (ct_X4_refuse l k M _ hJ (nI 1)) gX4_sign_X4_refuse rfl (by decide +kernel) (n := 1) ⟨Nat.le_of_ble_eq_true rfl, Nat.le_of_ble_eq_true rfl⟩ ⟨Nat.zero_le _, Nat.zero_le _⟩ (Nat.le_of_ble_eq_true rfl) rfl rfl dX4_sign_15 (fun r15 I15 H locs hp h => ?_)
    obtain ⟨rfl, hI15⟩ := hp
    rw [hI15] at h
    exact m_iret C0 h hr dX4_sign_18 (up2_s _ _ _ _)
set_option maxHeartbeats 4000000 in
set_option maxRecDepth 100000 in
theorem ct_X4_anchor (l : Launch) (k : Sk) (M : Nat) (I : IS) (hJ : IjM k M) (hE : I 1 2 = nI 0 ∧ I 2 2 = nI 0) (x0 x1 : Int32) : MmI l yX4_anchor wsX4_anchor 4 [.ref (k.2.1 0), .int x0, .int x1] k M I (fun r I' => I' 0 0 = nI 1) := by
  refine mmI_of (cc := cX4_anchor) (maxL := 3) hJ (by decide) rfl (Nat.le_of_ble_eq_true rfl) ?_
  intro p e s m args below meth c A ls C0 h hr hl
  have hx := C0.1.1
  have hb := C0.1.2.1
  have hown := C0.1.2.2.2.1
  have hts := C0.1.2.2.2.2
  have hM := hJ.1
  have hl : lv_has ls 3 [(0, _), (1, _), (2, _)] := hl
  have hinX4 : ∀ w ∈ u_ws RX4 TX4 8, w ∈ wsX4_anchor := by decide +kernel
  refine lv_aload_n hx hb dX4_anchor_0 rfl (lv_at hl 0 rfl) ?_
  refine lv_iconst (v := nI 0) hx hb dX4_anchor_1 (by decide) ?_
  refine m_put (T := TX4) (N := 8) (ty0 := tyX4) C0 h _ (by omega) (cm0 k M _) hinX4 tyX4_ok nmX4 rfl 0 (by decide) (by decide +kernel) rfl rfl rfl rfl (Nat.le_of_ble_eq_true rfl) (cm0 k M _) dX4_anchor_2 (fun H locs h => ?_)
  refine lv_aload_n hx hb dX4_anchor_5 rfl (lv_at hl 0 rfl) ?_
  refine lv_iload_n hx hb dX4_anchor_6 rfl (lv_at hl 1 rfl) ?_
  refine m_cVI C0 h hl.1 _ (by omega) (cm0 k M _) rfl (ct_X4_isLetter l k M _ hJ (by first | exact hE.1 | (rw [up2_n _ _ _ _ (by decide)]; exact hE.1)) _) gX4_anchor_X4_isLetter rfl (by decide +kernel) (n := 1) ⟨Nat.le_of_ble_eq_true rfl, Nat.le_of_ble_eq_true rfl⟩ ⟨Nat.zero_le _, Nat.zero_le _⟩ (Nat.le_of_ble_eq_true rfl) rfl rfl dX4_anchor_7 (fun r7 I7 H locs hp h => ?_)
  obtain ⟨rfl, hI7⟩ := hp
  rw [hI7] at h
  rw [show bI false = nI 0 from rfl]
  refine lv_if_ne (tgt := 19) hx hb dX4_anchor_10 (by decide) (fun c_10 => ?_) (fun c_10 => ?_)
  · exact absurd (by decide) c_10
  · refine lv_aload_n hx hb dX4_anchor_13 rfl (lv_at hl 0 rfl) ?_
    refine lv_iconst (v := nI 1) hx hb dX4_anchor_14 (by decide) ?_
    refine m_cVI C0 h hl.1 _ (by omega) (cm0 k M _) rfl (ct_X4_refuse l k M _ hJ (nI 1)) gX4_anchor_X4_refuse rfl (by decide +kernel) (n := 1) ⟨Nat.le_of_ble_eq_true rfl, Nat.le_of_ble_eq_true rfl⟩ ⟨Nat.zero_le _, Nat.zero_le _⟩ (Nat.le_of_ble_eq_true rfl) rfl rfl dX4_anchor_15 (fun r15 I15 H locs hp h => ?_)
    obtain ⟨rfl, hI15⟩ := hp
    rw [hI15] at h
    exact m_iret C0 h hr dX4_anchor_18 (up2_s _ _ _ _)
set_option maxHeartbeats 4000000 in
set_option maxRecDepth 100000 in
theorem ct_X4_call (l : Launch) (k : Sk) (M : Nat) (I : IS) (hJ : IjM k M) (hE : I 1 2 = nI 0 ∧ I 2 2 = nI 0) (x0 x1 : Int32) : MmI l yX4_call wsX4_call 4 [.ref (k.2.1 0), .int x0, .int x1] k M I (fun r I' => I' 0 0 = nI 1) := by
  refine mmI_of (cc := cX4_call) (maxL := 3) hJ (by decide) rfl (Nat.le_of_ble_eq_true rfl) ?_
  intro p e s m args below meth c A ls C0 h hr hl
  have hx := C0.1.1
  have hb := C0.1.2.1
  have hown := C0.1.2.2.2.1
  have hts := C0.1.2.2.2.2
  have hM := hJ.1
  have hl : lv_has ls 3 [(0, _), (1, _), (2, _)] := hl
  have hinX4 : ∀ w ∈ u_ws RX4 TX4 8, w ∈ wsX4_call := by decide +kernel
  refine lv_aload_n hx hb dX4_call_0 rfl (lv_at hl 0 rfl) ?_
  refine lv_iconst (v := nI 0) hx hb dX4_call_1 (by decide) ?_
  refine m_put (T := TX4) (N := 8) (ty0 := tyX4) C0 h _ (by omega) (cm0 k M _) hinX4 tyX4_ok nmX4 rfl 0 (by decide) (by decide +kernel) rfl rfl rfl rfl (Nat.le_of_ble_eq_true rfl) (cm0 k M _) dX4_call_2 (fun H locs h => ?_)
  refine lv_aload_n hx hb dX4_call_5 rfl (lv_at hl 0 rfl) ?_
  refine lv_iload_n hx hb dX4_call_6 rfl (lv_at hl 1 rfl) ?_
  refine m_cVI C0 h hl.1 _ (by omega) (cm0 k M _) rfl (ct_X4_isList l k M _ hJ (by first | exact hE.2 | (rw [up2_n _ _ _ _ (by decide)]; exact hE.2)) _) gX4_call_X4_isList rfl (by decide +kernel) (n := 1) ⟨Nat.le_of_ble_eq_true rfl, Nat.le_of_ble_eq_true rfl⟩ ⟨Nat.zero_le _, Nat.zero_le _⟩ (Nat.le_of_ble_eq_true rfl) rfl rfl dX4_call_7 (fun r7 I7 H locs hp h => ?_)
  obtain ⟨rfl, hI7⟩ := hp
  rw [hI7] at h
  rw [show bI false = nI 0 from rfl]
  refine lv_if_ne (tgt := 19) hx hb dX4_call_10 (by decide) (fun c_10 => ?_) (fun c_10 => ?_)
  · exact absurd (by decide) c_10
  · refine lv_aload_n hx hb dX4_call_13 rfl (lv_at hl 0 rfl) ?_
    refine lv_iconst (v := nI 1) hx hb dX4_call_14 (by decide) ?_
    refine m_cVI C0 h hl.1 _ (by omega) (cm0 k M _) rfl (ct_X4_refuse l k M _ hJ (nI 1)) gX4_call_X4_refuse rfl (by decide +kernel) (n := 1) ⟨Nat.le_of_ble_eq_true rfl, Nat.le_of_ble_eq_true rfl⟩ ⟨Nat.zero_le _, Nat.zero_le _⟩ (Nat.le_of_ble_eq_true rfl) rfl rfl dX4_call_15 (fun r15 I15 H locs hp h => ?_)
    obtain ⟨rfl, hI15⟩ := hp
    rw [hI15] at h
    exact m_iret C0 h hr dX4_call_18 (up2_s _ _ _ _)
set_option maxHeartbeats 4000000 in
set_option maxRecDepth 100000 in
theorem ct_X4_signList (l : Launch) (k : Sk) (M : Nat) (I : IS) (hJ : IjM k M) (hE : I 1 2 = nI 0 ∧ I 2 2 = nI 0) (x0 x1 : Int32) : MmI l yX4_signList wsX4_signList 4 [.ref (k.2.1 0), .int x0, .int x1] k M I (fun r I' => I' 0 0 = nI 1) := by
  refine mmI_of (cc := cX4_signList) (maxL := 3) hJ (by decide) rfl (Nat.le_of_ble_eq_true rfl) ?_
  intro p e s m args below meth c A ls C0 h hr hl
  have hx := C0.1.1
  have hb := C0.1.2.1
  have hown := C0.1.2.2.2.1
  have hts := C0.1.2.2.2.2
  have hM := hJ.1
  have hl : lv_has ls 3 [(0, _), (1, _), (2, _)] := hl
  have hinX4 : ∀ w ∈ u_ws RX4 TX4 8, w ∈ wsX4_signList := by decide +kernel
  refine lv_aload_n hx hb dX4_signList_0 rfl (lv_at hl 0 rfl) ?_
  refine lv_iconst (v := nI 0) hx hb dX4_signList_1 (by decide) ?_
  refine m_put (T := TX4) (N := 8) (ty0 := tyX4) C0 h _ (by omega) (cm0 k M _) hinX4 tyX4_ok nmX4 rfl 0 (by decide) (by decide +kernel) rfl rfl rfl rfl (Nat.le_of_ble_eq_true rfl) (cm0 k M _) dX4_signList_2 (fun H locs h => ?_)
  refine lv_aload_n hx hb dX4_signList_5 rfl (lv_at hl 0 rfl) ?_
  refine lv_iload_n hx hb dX4_signList_6 rfl (lv_at hl 1 rfl) ?_
  refine m_cVI C0 h hl.1 _ (by omega) (cm0 k M _) rfl (ct_X4_isList l k M _ hJ (by first | exact hE.2 | (rw [up2_n _ _ _ _ (by decide)]; exact hE.2)) _) gX4_signList_X4_isList rfl (by decide +kernel) (n := 1) ⟨Nat.le_of_ble_eq_true rfl, Nat.le_of_ble_eq_true rfl⟩ ⟨Nat.zero_le _, Nat.zero_le _⟩ (Nat.le_of_ble_eq_true rfl) rfl rfl dX4_signList_7 (fun r7 I7 H locs hp h => ?_)
  obtain ⟨rfl, hI7⟩ := hp
  rw [hI7] at h
  rw [show bI false = nI 0 from rfl]
  refine lv_if_ne (tgt := 19) hx hb dX4_signList_10 (by decide) (fun c_10 => ?_) (fun c_10 => ?_)
  · exact absurd (by decide) c_10
  · refine lv_aload_n hx hb dX4_signList_13 rfl (lv_at hl 0 rfl) ?_
    refine lv_iconst (v := nI 1) hx hb dX4_signList_14 (by decide) ?_
    refine m_cVI C0 h hl.1 _ (by omega) (cm0 k M _) rfl (ct_X4_refuse l k M _ hJ (nI 1)) gX4_signList_X4_refuse rfl (by decide +kernel) (n := 1) ⟨Nat.le_of_ble_eq_true rfl, Nat.le_of_ble_eq_true rfl⟩ ⟨Nat.zero_le _, Nat.zero_le _⟩ (Nat.le_of_ble_eq_true rfl) rfl rfl dX4_signList_15 (fun r15 I15 H locs hp h => ?_)
    obtain ⟨rfl, hI15⟩ := hp
    rw [hI15] at h
    exact m_iret C0 h hr dX4_signList_18 (up2_s _ _ _ _)
set_option maxHeartbeats 4000000 in
set_option maxRecDepth 100000 in
theorem ct_X4_ofLetter (l : Launch) (k : Sk) (M : Nat) (I : IS) (hJ : IjM k M) (hE : I 1 2 = nI 0 ∧ I 2 2 = nI 0) (x0 x1 : Int32) : MmI l yX4_ofLetter wsX4_ofLetter 4 [.ref (k.2.1 0), .int x0, .int x1] k M I (fun r I' => I' 0 0 = nI 1) := by
  refine mmI_of (cc := cX4_ofLetter) (maxL := 3) hJ (by decide) rfl (Nat.le_of_ble_eq_true rfl) ?_
  intro p e s m args below meth c A ls C0 h hr hl
  have hx := C0.1.1
  have hb := C0.1.2.1
  have hown := C0.1.2.2.2.1
  have hts := C0.1.2.2.2.2
  have hM := hJ.1
  have hl : lv_has ls 3 [(0, _), (1, _), (2, _)] := hl
  have hinX4 : ∀ w ∈ u_ws RX4 TX4 8, w ∈ wsX4_ofLetter := by decide +kernel
  refine lv_aload_n hx hb dX4_ofLetter_0 rfl (lv_at hl 0 rfl) ?_
  refine lv_iconst (v := nI 0) hx hb dX4_ofLetter_1 (by decide) ?_
  refine m_put (T := TX4) (N := 8) (ty0 := tyX4) C0 h _ (by omega) (cm0 k M _) hinX4 tyX4_ok nmX4 rfl 0 (by decide) (by decide +kernel) rfl rfl rfl rfl (Nat.le_of_ble_eq_true rfl) (cm0 k M _) dX4_ofLetter_2 (fun H locs h => ?_)
  refine lv_aload_n hx hb dX4_ofLetter_5 rfl (lv_at hl 0 rfl) ?_
  refine lv_iload_n hx hb dX4_ofLetter_6 rfl (lv_at hl 1 rfl) ?_
  refine m_cVI C0 h hl.1 _ (by omega) (cm0 k M _) rfl (ct_X4_isLetter l k M _ hJ (by first | exact hE.1 | (rw [up2_n _ _ _ _ (by decide)]; exact hE.1)) _) gX4_ofLetter_X4_isLetter rfl (by decide +kernel) (n := 1) ⟨Nat.le_of_ble_eq_true rfl, Nat.le_of_ble_eq_true rfl⟩ ⟨Nat.zero_le _, Nat.zero_le _⟩ (Nat.le_of_ble_eq_true rfl) rfl rfl dX4_ofLetter_7 (fun r7 I7 H locs hp h => ?_)
  obtain ⟨rfl, hI7⟩ := hp
  rw [hI7] at h
  rw [show bI false = nI 0 from rfl]
  refine lv_if_ne (tgt := 19) hx hb dX4_ofLetter_10 (by decide) (fun c_10 => ?_) (fun c_10 => ?_)
  · exact absurd (by decide) c_10
  · refine lv_aload_n hx hb dX4_ofLetter_13 rfl (lv_at hl 0 rfl) ?_
    refine lv_iconst (v := nI 1) hx hb dX4_ofLetter_14 (by decide) ?_
    refine m_cVI C0 h hl.1 _ (by omega) (cm0 k M _) rfl (ct_X4_refuse l k M _ hJ (nI 1)) gX4_ofLetter_X4_refuse rfl (by decide +kernel) (n := 1) ⟨Nat.le_of_ble_eq_true rfl, Nat.le_of_ble_eq_true rfl⟩ ⟨Nat.zero_le _, Nat.zero_le _⟩ (Nat.le_of_ble_eq_true rfl) rfl rfl dX4_ofLetter_15 (fun r15 I15 H locs hp h => ?_)
    obtain ⟨rfl, hI15⟩ := hp
    rw [hI15] at h
    exact m_iret C0 h hr dX4_ofLetter_18 (up2_s _ _ _ _)
set_option maxHeartbeats 4000000 in
set_option maxRecDepth 100000 in
theorem ct_X4_ofList (l : Launch) (k : Sk) (M : Nat) (I : IS) (hJ : IjM k M) (hE : I 1 2 = nI 0 ∧ I 2 2 = nI 0) (x0 x1 : Int32) : MmI l yX4_ofList wsX4_ofList 4 [.ref (k.2.1 0), .int x0, .int x1] k M I (fun r I' => I' 0 0 = nI 1) := by
  refine mmI_of (cc := cX4_ofList) (maxL := 3) hJ (by decide) rfl (Nat.le_of_ble_eq_true rfl) ?_
  intro p e s m args below meth c A ls C0 h hr hl
  have hx := C0.1.1
  have hb := C0.1.2.1
  have hown := C0.1.2.2.2.1
  have hts := C0.1.2.2.2.2
  have hM := hJ.1
  have hl : lv_has ls 3 [(0, _), (1, _), (2, _)] := hl
  have hinX4 : ∀ w ∈ u_ws RX4 TX4 8, w ∈ wsX4_ofList := by decide +kernel
  refine lv_aload_n hx hb dX4_ofList_0 rfl (lv_at hl 0 rfl) ?_
  refine lv_iconst (v := nI 0) hx hb dX4_ofList_1 (by decide) ?_
  refine m_put (T := TX4) (N := 8) (ty0 := tyX4) C0 h _ (by omega) (cm0 k M _) hinX4 tyX4_ok nmX4 rfl 0 (by decide) (by decide +kernel) rfl rfl rfl rfl (Nat.le_of_ble_eq_true rfl) (cm0 k M _) dX4_ofList_2 (fun H locs h => ?_)
  refine lv_aload_n hx hb dX4_ofList_5 rfl (lv_at hl 0 rfl) ?_
  refine lv_iload_n hx hb dX4_ofList_6 rfl (lv_at hl 1 rfl) ?_
  refine m_cVI C0 h hl.1 _ (by omega) (cm0 k M _) rfl (ct_X4_isList l k M _ hJ (by first | exact hE.2 | (rw [up2_n _ _ _ _ (by decide)]; exact hE.2)) _) gX4_ofList_X4_isList rfl (by decide +kernel) (n := 1) ⟨Nat.le_of_ble_eq_true rfl, Nat.le_of_ble_eq_true rfl⟩ ⟨Nat.zero_le _, Nat.zero_le _⟩ (Nat.le_of_ble_eq_true rfl) rfl rfl dX4_ofList_7 (fun r7 I7 H locs hp h => ?_)
  obtain ⟨rfl, hI7⟩ := hp
  rw [hI7] at h
  rw [show bI false = nI 0 from rfl]
  refine lv_if_ne (tgt := 19) hx hb dX4_ofList_10 (by decide) (fun c_10 => ?_) (fun c_10 => ?_)
  · exact absurd (by decide) c_10
  · refine lv_aload_n hx hb dX4_ofList_13 rfl (lv_at hl 0 rfl) ?_
    refine lv_iconst (v := nI 1) hx hb dX4_ofList_14 (by decide) ?_
    refine m_cVI C0 h hl.1 _ (by omega) (cm0 k M _) rfl (ct_X4_refuse l k M _ hJ (nI 1)) gX4_ofList_X4_refuse rfl (by decide +kernel) (n := 1) ⟨Nat.le_of_ble_eq_true rfl, Nat.le_of_ble_eq_true rfl⟩ ⟨Nat.zero_le _, Nat.zero_le _⟩ (Nat.le_of_ble_eq_true rfl) rfl rfl dX4_ofList_15 (fun r15 I15 H locs hp h => ?_)
    obtain ⟨rfl, hI15⟩ := hp
    rw [hI15] at h
    exact m_iret C0 h hr dX4_ofList_18 (up2_s _ _ _ _)
set_option maxHeartbeats 4000000 in
set_option maxRecDepth 100000 in
theorem ct_X4_backs (l : Launch) (k : Sk) (M : Nat) (I : IS) (hJ : IjM k M) (hE : I 1 2 = nI 0 ∧ I 2 2 = nI 0) (x0 x1 : Int32) : MmI l yX4_backs wsX4_backs 4 [.ref (k.2.1 0), .int x0, .int x1] k M I (fun r I' => I' 0 0 = nI 1) := by
  refine mmIz_of (cc := cX4_backs) (maxL := 3) hJ (by decide) rfl (Nat.le_of_ble_eq_true rfl) ?_
  intro p e s m args below meth c A ls C0 h hr hl
  have hx := C0.1.1
  have hb := C0.1.2.1
  have hown := C0.1.2.2.2.1
  have hts := C0.1.2.2.2.2
  have hM := hJ.1
  have hl : lv_has ls 3 [(0, _), (1, _), (2, _)] := hl
  have hinX4 : ∀ w ∈ u_ws RX4 TX4 8, w ∈ wsX4_backs := by decide +kernel
  refine lv_aload_n hx hb dX4_backs_0 rfl (lv_at hl 0 rfl) ?_
  refine lv_aload_n hx hb dX4_backs_1 rfl (lv_at hl 0 rfl) ?_
  refine lv_iload_n hx hb dX4_backs_2 rfl (lv_at hl 1 rfl) ?_
  refine m_cVI C0 h hl.1 _ (by omega) (cm0 k M _) rfl (ct_X4_isLetter l k M _ hJ (by first | exact hE.1 | (rw [up2_n _ _ _ _ (by decide)]; exact hE.1)) _) gX4_backs_X4_isLetter rfl (by decide +kernel) (n := 1) ⟨Nat.le_of_ble_eq_true rfl, Nat.le_of_ble_eq_true rfl⟩ ⟨Nat.zero_le _, Nat.zero_le _⟩ (Nat.le_of_ble_eq_true rfl) rfl rfl dX4_backs_3 (fun r3 I3 H locs hp h => ?_)
  obtain ⟨rfl, hI3⟩ := hp
  rw [hI3] at h
  rw [show bI false = nI 0 from rfl]
  refine lv_if_eq (tgt := 21) hx hb dX4_backs_6 (by decide) (fun c_6 => ?_) (fun c_6 => ?_)
  · refine lv_iconst (v := nI 1) hx hb dX4_backs_21 (by decide) ?_
    refine m_put (T := TX4) (N := 8) (ty0 := tyX4) C0 h _ (by omega) (cm0 k M _) hinX4 tyX4_ok nmX4 rfl 0 (by decide) (by decide +kernel) rfl rfl rfl rfl (Nat.le_of_ble_eq_true rfl) (cm0 k M _) dX4_backs_22 (fun H locs h => ?_)
    refine lv_aload_n hx hb dX4_backs_25 rfl (lv_at hl 0 rfl) ?_
    refine m_get (T := TX4) (N := 8) C0 h _ (by omega) (cm0 k M _) hinX4 rfl 0 (by decide) (by decide +kernel) rfl rfl dX4_backs_26 ?_
    rw [up2_s]
    refine lv_if_ne (tgt := 45) hx hb dX4_backs_29 (by decide) (fun c_29 => ?_) (fun c_29 => ?_)
    · refine lv_iconst (v := nI 0) hx hb dX4_backs_45 (by decide) ?_
      exact m_zret C0 h hr dX4_backs_46 (by first | exact zb1 | exact zb0 | exact ⟨_, rfl⟩) (up2_s _ _ _ _)
    · exact absurd c_29 (by decide)
  · exact absurd (by decide) c_6
set_option maxHeartbeats 4000000 in
set_option maxRecDepth 100000 in
theorem ct_X4_chains (l : Launch) (k : Sk) (M : Nat) (I : IS) (hJ : IjM k M) (hE : I 1 2 = nI 0 ∧ I 2 2 = nI 0) (x0 : Int32) : MmI l yX4_chains wsX4_chains 4 [.ref (k.2.1 0), .int x0] k M I (fun r I' => I' 0 0 = nI 1) := by
  refine mmI_of (cc := cX4_chains) (maxL := 2) hJ (by decide) rfl (Nat.le_of_ble_eq_true rfl) ?_
  intro p e s m args below meth c A ls C0 h hr hl
  have hx := C0.1.1
  have hb := C0.1.2.1
  have hown := C0.1.2.2.2.1
  have hts := C0.1.2.2.2.2
  have hM := hJ.1
  have hl : lv_has ls 2 [(0, _), (1, _)] := hl
  have hinX4 : ∀ w ∈ u_ws RX4 TX4 8, w ∈ wsX4_chains := by decide +kernel
  refine lv_aload_n hx hb dX4_chains_0 rfl (lv_at hl 0 rfl) ?_
  refine lv_iconst (v := nI 0) hx hb dX4_chains_1 (by decide) ?_
  refine m_put (T := TX4) (N := 8) (ty0 := tyX4) C0 h _ (by omega) (cm0 k M _) hinX4 tyX4_ok nmX4 rfl 0 (by decide) (by decide +kernel) rfl rfl rfl rfl (Nat.le_of_ble_eq_true rfl) (cm0 k M _) dX4_chains_2 (fun H locs h => ?_)
  refine lv_aload_n hx hb dX4_chains_5 rfl (lv_at hl 0 rfl) ?_
  refine lv_iload_n hx hb dX4_chains_6 rfl (lv_at hl 1 rfl) ?_
  refine m_cVI C0 h hl.1 _ (by omega) (cm0 k M _) rfl (ct_X4_isLetter l k M _ hJ (by first | exact hE.1 | (rw [up2_n _ _ _ _ (by decide)]; exact hE.1)) _) gX4_chains_X4_isLetter rfl (by decide +kernel) (n := 1) ⟨Nat.le_of_ble_eq_true rfl, Nat.le_of_ble_eq_true rfl⟩ ⟨Nat.zero_le _, Nat.zero_le _⟩ (Nat.le_of_ble_eq_true rfl) rfl rfl dX4_chains_7 (fun r7 I7 H locs hp h => ?_)
  obtain ⟨rfl, hI7⟩ := hp
  rw [hI7] at h
  rw [show bI false = nI 0 from rfl]
  refine lv_if_eq (tgt := 24) hx hb dX4_chains_10 (by decide) (fun c_10 => ?_) (fun c_10 => ?_)
  · refine lv_aload_n hx hb dX4_chains_24 rfl (lv_at hl 0 rfl) ?_
    refine lv_iconst (v := nI 1) hx hb dX4_chains_25 (by decide) ?_
    refine m_cVI C0 h hl.1 _ (by omega) (cm0 k M _) rfl (ct_X4_refuse l k M _ hJ (nI 1)) gX4_chains_X4_refuse rfl (by decide +kernel) (n := 1) ⟨Nat.le_of_ble_eq_true rfl, Nat.le_of_ble_eq_true rfl⟩ ⟨Nat.zero_le _, Nat.zero_le _⟩ (Nat.le_of_ble_eq_true rfl) rfl rfl dX4_chains_26 (fun r26 I26 H locs hp h => ?_)
    obtain ⟨rfl, hI26⟩ := hp
    rw [hI26] at h
    exact m_iret C0 h hr dX4_chains_29 (up2_s _ _ _ _)
  · exact absurd (by decide) c_10
set_option maxHeartbeats 4000000 in
set_option maxRecDepth 100000 in
theorem ct_X4_verdict (l : Launch) (k : Sk) (M : Nat) (I : IS) (hJ : IjM k M) (hE : I 1 2 = nI 0 ∧ I 2 2 = nI 0) (x0 x1 x2 : Int32) : MmI l yX4_verdict wsX4_verdict 4 [.ref (k.2.1 0), .int x0, .int x1, .int x2] k M I (fun r I' => I' 0 0 = nI 1) := by
  refine mmI_of (cc := cX4_verdict) (maxL := 4) hJ (by decide) rfl (Nat.le_of_ble_eq_true rfl) ?_
  intro p e s m args below meth c A ls C0 h hr hl
  have hx := C0.1.1
  have hb := C0.1.2.1
  have hown := C0.1.2.2.2.1
  have hts := C0.1.2.2.2.2
  have hM := hJ.1
  have hl : lv_has ls 4 [(0, _), (1, _), (2, _), (3, _)] := hl
  have hinX4 : ∀ w ∈ u_ws RX4 TX4 8, w ∈ wsX4_verdict := by decide +kernel
  refine lv_aload_n hx hb dX4_verdict_0 rfl (lv_at hl 0 rfl) ?_
  refine lv_iconst (v := nI 0) hx hb dX4_verdict_1 (by decide) ?_
  refine m_put (T := TX4) (N := 8) (ty0 := tyX4) C0 h _ (by omega) (cm0 k M _) hinX4 tyX4_ok nmX4 rfl 0 (by decide) (by decide +kernel) rfl rfl rfl rfl (Nat.le_of_ble_eq_true rfl) (cm0 k M _) dX4_verdict_2 (fun H locs h => ?_)
  refine lv_aload_n hx hb dX4_verdict_5 rfl (lv_at hl 0 rfl) ?_
  refine lv_iload_n hx hb dX4_verdict_6 rfl (lv_at hl 1 rfl) ?_
  refine m_cVI C0 h hl.1 _ (by omega) (cm0 k M _) rfl (ct_X4_isLetter l k M _ hJ (by first | exact hE.1 | (rw [up2_n _ _ _ _ (by decide)]; exact hE.1)) _) gX4_verdict_X4_isLetter rfl (by decide +kernel) (n := 1) ⟨Nat.le_of_ble_eq_true rfl, Nat.le_of_ble_eq_true rfl⟩ ⟨Nat.zero_le _, Nat.zero_le _⟩ (Nat.le_of_ble_eq_true rfl) rfl rfl dX4_verdict_7 (fun r7 I7 H locs hp h => ?_)
  obtain ⟨rfl, hI7⟩ := hp
  rw [hI7] at h
  rw [show bI false = nI 0 from rfl]
  refine lv_if_ne (tgt := 19) hx hb dX4_verdict_10 (by decide) (fun c_10 => ?_) (fun c_10 => ?_)
  · exact absurd (by decide) c_10
  · refine lv_aload_n hx hb dX4_verdict_13 rfl (lv_at hl 0 rfl) ?_
    refine lv_iconst (v := nI 1) hx hb dX4_verdict_14 (by decide) ?_
    refine m_cVI C0 h hl.1 _ (by omega) (cm0 k M _) rfl (ct_X4_refuse l k M _ hJ (nI 1)) gX4_verdict_X4_refuse rfl (by decide +kernel) (n := 1) ⟨Nat.le_of_ble_eq_true rfl, Nat.le_of_ble_eq_true rfl⟩ ⟨Nat.zero_le _, Nat.zero_le _⟩ (Nat.le_of_ble_eq_true rfl) rfl rfl dX4_verdict_15 (fun r15 I15 H locs hp h => ?_)
    obtain ⟨rfl, hI15⟩ := hp
    rw [hI15] at h
    exact m_iret C0 h hr dX4_verdict_18 (up2_s _ _ _ _)
set_option maxHeartbeats 4000000 in
set_option maxRecDepth 100000 in
theorem ct_X4_chain (l : Launch) (k : Sk) (M : Nat) (I : IS) (hJ : IjM k M) (hE : I 1 2 = nI 0 ∧ I 2 2 = nI 0) (x0 x1 x2 x3 : Int32) : MmI l yX4_chain wsX4_chain 4 [.ref (k.2.1 0), .int x0, .int x1, .int x2, .int x3] k M I (fun r I' => I' 0 0 = nI 1) := by
  refine mmI_of (cc := cX4_chain) (maxL := 6) hJ (by decide) rfl (Nat.le_of_ble_eq_true rfl) ?_
  intro p e s m args below meth c A ls C0 h hr hl
  have hx := C0.1.1
  have hb := C0.1.2.1
  have hown := C0.1.2.2.2.1
  have hts := C0.1.2.2.2.2
  have hM := hJ.1
  have hl : lv_has ls 6 [(0, _), (1, _), (2, _), (3, _), (4, _)] := hl
  have hinX4 : ∀ w ∈ u_ws RX4 TX4 8, w ∈ wsX4_chain := by decide +kernel
  refine lv_aload_n hx hb dX4_chain_0 rfl (lv_at hl 0 rfl) ?_
  refine lv_iconst (v := nI 0) hx hb dX4_chain_1 (by decide) ?_
  refine m_put (T := TX4) (N := 8) (ty0 := tyX4) C0 h _ (by omega) (cm0 k M _) hinX4 tyX4_ok nmX4 rfl 0 (by decide) (by decide +kernel) rfl rfl rfl rfl (Nat.le_of_ble_eq_true rfl) (cm0 k M _) dX4_chain_2 (fun H locs h => ?_)
  refine lv_aload_n hx hb dX4_chain_5 rfl (lv_at hl 0 rfl) ?_
  refine lv_iload_n hx hb dX4_chain_6 rfl (lv_at hl 1 rfl) ?_
  refine m_cVI C0 h hl.1 _ (by omega) (cm0 k M _) rfl (ct_X4_isLetter l k M _ hJ (by first | exact hE.1 | (rw [up2_n _ _ _ _ (by decide)]; exact hE.1)) _) gX4_chain_X4_isLetter rfl (by decide +kernel) (n := 1) ⟨Nat.le_of_ble_eq_true rfl, Nat.le_of_ble_eq_true rfl⟩ ⟨Nat.zero_le _, Nat.zero_le _⟩ (Nat.le_of_ble_eq_true rfl) rfl rfl dX4_chain_7 (fun r7 I7 H locs hp h => ?_)
  obtain ⟨rfl, hI7⟩ := hp
  rw [hI7] at h
  rw [show bI false = nI 0 from rfl]
  refine lv_if_ne (tgt := 19) hx hb dX4_chain_10 (by decide) (fun c_10 => ?_) (fun c_10 => ?_)
  · exact absurd (by decide) c_10
  · refine lv_aload_n hx hb dX4_chain_13 rfl (lv_at hl 0 rfl) ?_
    refine lv_iconst (v := nI 1) hx hb dX4_chain_14 (by decide) ?_
    refine m_cVI C0 h hl.1 _ (by omega) (cm0 k M _) rfl (ct_X4_refuse l k M _ hJ (nI 1)) gX4_chain_X4_refuse rfl (by decide +kernel) (n := 1) ⟨Nat.le_of_ble_eq_true rfl, Nat.le_of_ble_eq_true rfl⟩ ⟨Nat.zero_le _, Nat.zero_le _⟩ (Nat.le_of_ble_eq_true rfl) rfl rfl dX4_chain_15 (fun r15 I15 H locs hp h => ?_)
    obtain ⟨rfl, hI15⟩ := hp
    rw [hI15] at h
    exact m_iret C0 h hr dX4_chain_18 (up2_s _ _ _ _)
set_option maxHeartbeats 4000000 in
set_option maxRecDepth 100000 in
theorem ct_X4_flawAt (l : Launch) (k : Sk) (M : Nat) (I : IS) (hJ : IjM k M) (hE : I 1 2 = nI 0 ∧ I 2 2 = nI 0) (x0 x1 x2 : Int32) : MmI l yX4_flawAt wsX4_flawAt 4 [.ref (k.2.1 0), .int x0, .int x1, .int x2] k M I (fun r I' => I' 0 0 = nI 1) := by
  refine mmI_of (cc := cX4_flawAt) (maxL := 4) hJ (by decide) rfl (Nat.le_of_ble_eq_true rfl) ?_
  intro p e s m args below meth c A ls C0 h hr hl
  have hx := C0.1.1
  have hb := C0.1.2.1
  have hown := C0.1.2.2.2.1
  have hts := C0.1.2.2.2.2
  have hM := hJ.1
  have hl : lv_has ls 4 [(0, _), (1, _), (2, _), (3, _)] := hl
  have hinX4 : ∀ w ∈ u_ws RX4 TX4 8, w ∈ wsX4_flawAt := by decide +kernel
  refine lv_aload_n hx hb dX4_flawAt_0 rfl (lv_at hl 0 rfl) ?_
  refine lv_iconst (v := nI 0) hx hb dX4_flawAt_1 (by decide) ?_
  refine m_put (T := TX4) (N := 8) (ty0 := tyX4) C0 h _ (by omega) (cm0 k M _) hinX4 tyX4_ok nmX4 rfl 0 (by decide) (by decide +kernel) rfl rfl rfl rfl (Nat.le_of_ble_eq_true rfl) (cm0 k M _) dX4_flawAt_2 (fun H locs h => ?_)
  refine lv_aload_n hx hb dX4_flawAt_5 rfl (lv_at hl 0 rfl) ?_
  refine lv_iload_n hx hb dX4_flawAt_6 rfl (lv_at hl 1 rfl) ?_
  refine m_cVI C0 h hl.1 _ (by omega) (cm0 k M _) rfl (ct_X4_isLetter l k M _ hJ (by first | exact hE.1 | (rw [up2_n _ _ _ _ (by decide)]; exact hE.1)) _) gX4_flawAt_X4_isLetter rfl (by decide +kernel) (n := 1) ⟨Nat.le_of_ble_eq_true rfl, Nat.le_of_ble_eq_true rfl⟩ ⟨Nat.zero_le _, Nat.zero_le _⟩ (Nat.le_of_ble_eq_true rfl) rfl rfl dX4_flawAt_7 (fun r7 I7 H locs hp h => ?_)
  obtain ⟨rfl, hI7⟩ := hp
  rw [hI7] at h
  rw [show bI false = nI 0 from rfl]
  refine lv_if_ne (tgt := 19) hx hb dX4_flawAt_10 (by decide) (fun c_10 => ?_) (fun c_10 => ?_)
  · exact absurd (by decide) c_10
  · refine lv_aload_n hx hb dX4_flawAt_13 rfl (lv_at hl 0 rfl) ?_
    refine lv_iconst (v := nI 1) hx hb dX4_flawAt_14 (by decide) ?_
    refine m_cVI C0 h hl.1 _ (by omega) (cm0 k M _) rfl (ct_X4_refuse l k M _ hJ (nI 1)) gX4_flawAt_X4_refuse rfl (by decide +kernel) (n := 1) ⟨Nat.le_of_ble_eq_true rfl, Nat.le_of_ble_eq_true rfl⟩ ⟨Nat.zero_le _, Nat.zero_le _⟩ (Nat.le_of_ble_eq_true rfl) rfl rfl dX4_flawAt_15 (fun r15 I15 H locs hp h => ?_)
    obtain ⟨rfl, hI15⟩ := hp
    rw [hI15] at h
    exact m_iret C0 h hr dX4_flawAt_18 (up2_s _ _ _ _)
set_option maxHeartbeats 4000000 in
set_option maxRecDepth 100000 in
theorem ct_X4_holdsTo (l : Launch) (k : Sk) (M : Nat) (I : IS) (hJ : IjM k M) (hE : I 1 2 = nI 0 ∧ I 2 2 = nI 0) (x0 x1 x2 : Int32) : MmI l yX4_holdsTo wsX4_holdsTo 4 [.ref (k.2.1 0), .int x0, .int x1, .int x2] k M I (fun r I' => I' 0 0 = nI 1) := by
  refine mmI_of (cc := cX4_holdsTo) (maxL := 5) hJ (by decide) rfl (Nat.le_of_ble_eq_true rfl) ?_
  intro p e s m args below meth c A ls C0 h hr hl
  have hx := C0.1.1
  have hb := C0.1.2.1
  have hown := C0.1.2.2.2.1
  have hts := C0.1.2.2.2.2
  have hM := hJ.1
  have hl : lv_has ls 5 [(0, _), (1, _), (2, _), (3, _)] := hl
  have hinX4 : ∀ w ∈ u_ws RX4 TX4 8, w ∈ wsX4_holdsTo := by decide +kernel
  refine lv_aload_n hx hb dX4_holdsTo_0 rfl (lv_at hl 0 rfl) ?_
  refine lv_iconst (v := nI 0) hx hb dX4_holdsTo_1 (by decide) ?_
  refine m_put (T := TX4) (N := 8) (ty0 := tyX4) C0 h _ (by omega) (cm0 k M _) hinX4 tyX4_ok nmX4 rfl 0 (by decide) (by decide +kernel) rfl rfl rfl rfl (Nat.le_of_ble_eq_true rfl) (cm0 k M _) dX4_holdsTo_2 (fun H locs h => ?_)
  refine lv_aload_n hx hb dX4_holdsTo_5 rfl (lv_at hl 0 rfl) ?_
  refine lv_iload_n hx hb dX4_holdsTo_6 rfl (lv_at hl 1 rfl) ?_
  refine m_cVI C0 h hl.1 _ (by omega) (cm0 k M _) rfl (ct_X4_isLetter l k M _ hJ (by first | exact hE.1 | (rw [up2_n _ _ _ _ (by decide)]; exact hE.1)) _) gX4_holdsTo_X4_isLetter rfl (by decide +kernel) (n := 1) ⟨Nat.le_of_ble_eq_true rfl, Nat.le_of_ble_eq_true rfl⟩ ⟨Nat.zero_le _, Nat.zero_le _⟩ (Nat.le_of_ble_eq_true rfl) rfl rfl dX4_holdsTo_7 (fun r7 I7 H locs hp h => ?_)
  obtain ⟨rfl, hI7⟩ := hp
  rw [hI7] at h
  rw [show bI false = nI 0 from rfl]
  refine lv_if_ne (tgt := 19) hx hb dX4_holdsTo_10 (by decide) (fun c_10 => ?_) (fun c_10 => ?_)
  · exact absurd (by decide) c_10
  · refine lv_aload_n hx hb dX4_holdsTo_13 rfl (lv_at hl 0 rfl) ?_
    refine lv_iconst (v := nI 1) hx hb dX4_holdsTo_14 (by decide) ?_
    refine m_cVI C0 h hl.1 _ (by omega) (cm0 k M _) rfl (ct_X4_refuse l k M _ hJ (nI 1)) gX4_holdsTo_X4_refuse rfl (by decide +kernel) (n := 1) ⟨Nat.le_of_ble_eq_true rfl, Nat.le_of_ble_eq_true rfl⟩ ⟨Nat.zero_le _, Nat.zero_le _⟩ (Nat.le_of_ble_eq_true rfl) rfl rfl dX4_holdsTo_15 (fun r15 I15 H locs hp h => ?_)
    obtain ⟨rfl, hI15⟩ := hp
    rw [hI15] at h
    exact m_iret C0 h hr dX4_holdsTo_18 (up2_s _ _ _ _)
set_option maxHeartbeats 4000000 in
set_option maxRecDepth 100000 in
theorem ct_X4_otherwise (l : Launch) (k : Sk) (M : Nat) (I : IS) (hJ : IjM k M) (hE : I 1 2 = nI 0 ∧ I 2 2 = nI 0) (x0 x1 x2 : Int32) : MmI l yX4_otherwise wsX4_otherwise 4 [.ref (k.2.1 0), .int x0, .int x1, .int x2] k M I (fun r I' => I' 0 0 = nI 1) := by
  refine mmI_of (cc := cX4_otherwise) (maxL := 8) hJ (by decide) rfl (Nat.le_of_ble_eq_true rfl) ?_
  intro p e s m args below meth c A ls C0 h hr hl
  have hx := C0.1.1
  have hb := C0.1.2.1
  have hown := C0.1.2.2.2.1
  have hts := C0.1.2.2.2.2
  have hM := hJ.1
  have hl : lv_has ls 8 [(0, _), (1, _), (2, _), (3, _)] := hl
  have hinX4 : ∀ w ∈ u_ws RX4 TX4 8, w ∈ wsX4_otherwise := by decide +kernel
  refine lv_aload_n hx hb dX4_otherwise_0 rfl (lv_at hl 0 rfl) ?_
  refine lv_iconst (v := nI 0) hx hb dX4_otherwise_1 (by decide) ?_
  refine m_put (T := TX4) (N := 8) (ty0 := tyX4) C0 h _ (by omega) (cm0 k M _) hinX4 tyX4_ok nmX4 rfl 0 (by decide) (by decide +kernel) rfl rfl rfl rfl (Nat.le_of_ble_eq_true rfl) (cm0 k M _) dX4_otherwise_2 (fun H locs h => ?_)
  refine lv_aload_n hx hb dX4_otherwise_5 rfl (lv_at hl 0 rfl) ?_
  refine lv_iload_n hx hb dX4_otherwise_6 rfl (lv_at hl 1 rfl) ?_
  refine m_cVI C0 h hl.1 _ (by omega) (cm0 k M _) rfl (ct_X4_isLetter l k M _ hJ (by first | exact hE.1 | (rw [up2_n _ _ _ _ (by decide)]; exact hE.1)) _) gX4_otherwise_X4_isLetter rfl (by decide +kernel) (n := 1) ⟨Nat.le_of_ble_eq_true rfl, Nat.le_of_ble_eq_true rfl⟩ ⟨Nat.zero_le _, Nat.zero_le _⟩ (Nat.le_of_ble_eq_true rfl) rfl rfl dX4_otherwise_7 (fun r7 I7 H locs hp h => ?_)
  obtain ⟨rfl, hI7⟩ := hp
  rw [hI7] at h
  rw [show bI false = nI 0 from rfl]
  refine lv_if_ne (tgt := 19) hx hb dX4_otherwise_10 (by decide) (fun c_10 => ?_) (fun c_10 => ?_)
  · exact absurd (by decide) c_10
  · refine lv_aload_n hx hb dX4_otherwise_13 rfl (lv_at hl 0 rfl) ?_
    refine lv_iconst (v := nI 1) hx hb dX4_otherwise_14 (by decide) ?_
    refine m_cVI C0 h hl.1 _ (by omega) (cm0 k M _) rfl (ct_X4_refuse l k M _ hJ (nI 1)) gX4_otherwise_X4_refuse rfl (by decide +kernel) (n := 1) ⟨Nat.le_of_ble_eq_true rfl, Nat.le_of_ble_eq_true rfl⟩ ⟨Nat.zero_le _, Nat.zero_le _⟩ (Nat.le_of_ble_eq_true rfl) rfl rfl dX4_otherwise_15 (fun r15 I15 H locs hp h => ?_)
    obtain ⟨rfl, hI15⟩ := hp
    rw [hI15] at h
    exact m_iret C0 h hr dX4_otherwise_18 (up2_s _ _ _ _)
set_option maxHeartbeats 4000000 in
set_option maxRecDepth 100000 in
theorem ct_X4_strict (l : Launch) (k : Sk) (M : Nat) (I : IS) (hJ : IjM k M) (hst : I 0 3 = 0) (b9 : Bool) : MmI l yX4_strict wsX4_strict 4 [.ref (k.2.1 0), .int (bI b9)] k M I (fun r I' => r = 0) := by
  refine mmIz_of (cc := cX4_strict) (maxL := 3) hJ (by decide) rfl (Nat.le_of_ble_eq_true rfl) ?_
  intro p e s m args below meth c A ls C0 h hr hl
  have hx := C0.1.1
  have hb := C0.1.2.1
  have hown := C0.1.2.2.2.1
  have hts := C0.1.2.2.2.2
  have hM := hJ.1
  have hl : lv_has ls 3 [(0, _), (1, _)] := hl
  have hinX4 : ∀ w ∈ u_ws RX4 TX4 8, w ∈ wsX4_strict := by decide +kernel
  refine lv_aload_n hx hb dX4_strict_0 rfl (lv_at hl 0 rfl) ?_
  refine lv_iconst (v := nI 0) hx hb dX4_strict_1 (by decide) ?_
  refine m_put (T := TX4) (N := 8) (ty0 := tyX4) C0 h _ (by omega) (cm0 k M _) hinX4 tyX4_ok nmX4 rfl 0 (by decide) (by decide +kernel) rfl rfl rfl rfl (Nat.le_of_ble_eq_true rfl) (cm0 k M _) dX4_strict_2 (fun H locs h => ?_)
  refine lv_aload_n hx hb dX4_strict_5 rfl (lv_at hl 0 rfl) ?_
  refine m_get (T := TX4) (N := 8) C0 h _ (by omega) (cm0 k M _) hinX4 rfl 3 (by decide) (by decide +kernel) rfl rfl dX4_strict_6 ?_
  refine lv_istore_n hx hb dX4_strict_9 rfl hl (by decide) rfl (fun ls hl => ?_)
  have hl : lv_has ls 3 [(2, _), (0, _), (1, _)] := hl
  refine lv_aload_n hx hb dX4_strict_10 rfl (lv_at hl 1 rfl) ?_
  refine lv_iload_n hx hb dX4_strict_11 rfl (lv_at hl 2 rfl) ?_
  refine m_put (T := TX4) (N := 8) (ty0 := tyX4) C0 h _ (by omega) (cm0 k M _) hinX4 tyX4_ok nmX4 rfl 3 (by decide) (by decide +kernel) rfl rfl (nar_bI _) (fit_bI _) (Nat.le_of_ble_eq_true rfl) (cm0 k M _) dX4_strict_12 (fun H locs h => ?_)
  refine lv_iload_n hx hb dX4_strict_15 rfl (lv_at hl 0 rfl) ?_
  exact m_zret C0 h hr dX4_strict_16 ⟨false, by rw [up2_f _ _ _ _ (by decide), hst]; rfl⟩ (by rw [up2_f _ _ _ _ (by decide), hst])
set_option maxHeartbeats 4000000 in
set_option maxRecDepth 100000 in
theorem ct_X4_signed (l : Launch) (k : Sk) (M : Nat) (I : IS) (hJ : IjM k M) (t d9 : Int32) : MmI l yX4_signed wsX4_signed 4 [.ref (k.2.1 0), .int t, .int d9] k M I (fun r I' => if isW t (nI 15) = true ∧ isW d9 (nI 996) = true then I' 0 0 = nI 0 ∧ r = sealF d9 t else I' 0 0 = nI 1) := by
  refine mmI_of (cc := cX4_signed) (maxL := 3) hJ (by decide) rfl (Nat.le_of_ble_eq_true rfl) ?_
  intro p e s m args below meth c A ls C0 h hr hl
  have hx := C0.1.1
  have hb := C0.1.2.1
  have hown := C0.1.2.2.2.1
  have hts := C0.1.2.2.2.2
  have hM := hJ.1
  have hl : lv_has ls 3 [(0, _), (1, _), (2, _)] := hl
  have hinX4 : ∀ w ∈ u_ws RX4 TX4 8, w ∈ wsX4_signed := by decide +kernel
  refine lv_aload_n hx hb dX4_signed_0 rfl (lv_at hl 0 rfl) ?_
  refine lv_iconst (v := nI 0) hx hb dX4_signed_1 (by decide) ?_
  refine m_put (T := TX4) (N := 8) (ty0 := tyX4) C0 h _ (by omega) (cm0 k M _) hinX4 tyX4_ok nmX4 rfl 0 (by decide) (by decide +kernel) rfl rfl rfl rfl (Nat.le_of_ble_eq_true rfl) (cm0 k M _) dX4_signed_2 (fun H locs h => ?_)
  refine lv_iload_n hx hb dX4_signed_5 rfl (lv_at hl 1 rfl) ?_
  refine m_cSI C0 h hl.1 (ct_X4_isKey l k M _ hJ _) gX4_signed_X4_isKey rfl (by decide +kernel) (n := 1) ⟨Nat.le_of_ble_eq_true rfl, Nat.le_of_ble_eq_true rfl⟩ ⟨Nat.zero_le _, Nat.zero_le _⟩ (Nat.le_of_ble_eq_true rfl) rfl rfl dX4_signed_6 (fun r6 I6 H locs hp h => ?_)
  obtain ⟨rfl, hI6⟩ := hp
  rw [hI6] at h
  refine lv_if_eq (tgt := 27) hx hb dX4_signed_9 (by decide) (fun c_9 => ?_) (fun c_9 => ?_)
  · refine lv_aload_n hx hb dX4_signed_27 rfl (lv_at hl 0 rfl) ?_
    refine lv_iconst (v := nI 1) hx hb dX4_signed_28 (by decide) ?_
    refine m_cVI C0 h hl.1 _ (by omega) (cm0 k M _) rfl (ct_X4_refuse l k M _ hJ (nI 1)) gX4_signed_X4_refuse rfl (by decide +kernel) (n := 1) ⟨Nat.le_of_ble_eq_true rfl, Nat.le_of_ble_eq_true rfl⟩ ⟨Nat.zero_le _, Nat.zero_le _⟩ (Nat.le_of_ble_eq_true rfl) rfl rfl dX4_signed_29 (fun r29 I29 H locs hp h => ?_)
    obtain ⟨rfl, hI29⟩ := hp
    rw [hI29] at h
    exact m_iret C0 h hr dX4_signed_32 (by first | (rw [if_pos ⟨bI_nz c_9, bI_nz c_16⟩]; exact ⟨up2_s _ _ _ _, rfl⟩) | (rw [if_neg (fun z => by rw [bI_z c_9] at z; exact absurd z.1 (by decide))]; exact up2_s _ _ _ _) | (rw [if_neg (fun z => by rw [bI_z c_16] at z; exact absurd z.2 (by decide))]; exact up2_s _ _ _ _))
  · refine lv_iload_n hx hb dX4_signed_12 rfl (lv_at hl 2 rfl) ?_
    refine m_cSI C0 h hl.1 (ct_X4_isNumber l k M _ hJ _) gX4_signed_X4_isNumber rfl (by decide +kernel) (n := 1) ⟨Nat.le_of_ble_eq_true rfl, Nat.le_of_ble_eq_true rfl⟩ ⟨Nat.zero_le _, Nat.zero_le _⟩ (Nat.le_of_ble_eq_true rfl) rfl rfl dX4_signed_13 (fun r13 I13 H locs hp h => ?_)
    obtain ⟨rfl, hI13⟩ := hp
    rw [hI13] at h
    refine lv_if_eq (tgt := 27) hx hb dX4_signed_16 (by decide) (fun c_16 => ?_) (fun c_16 => ?_)
    · refine lv_aload_n hx hb dX4_signed_27 rfl (lv_at hl 0 rfl) ?_
      refine lv_iconst (v := nI 1) hx hb dX4_signed_28 (by decide) ?_
      refine m_cVI C0 h hl.1 _ (by omega) (cm0 k M _) rfl (ct_X4_refuse l k M _ hJ (nI 1)) gX4_signed_X4_refuse rfl (by decide +kernel) (n := 1) ⟨Nat.le_of_ble_eq_true rfl, Nat.le_of_ble_eq_true rfl⟩ ⟨Nat.zero_le _, Nat.zero_le _⟩ (Nat.le_of_ble_eq_true rfl) rfl rfl dX4_signed_29 (fun r29 I29 H locs hp h => ?_)
      obtain ⟨rfl, hI29⟩ := hp
      rw [hI29] at h
      exact m_iret C0 h hr dX4_signed_32 (by first | (rw [if_pos ⟨bI_nz c_9, bI_nz c_16⟩]; exact ⟨up2_s _ _ _ _, rfl⟩) | (rw [if_neg (fun z => by rw [bI_z c_9] at z; exact absurd z.1 (by decide))]; exact up2_s _ _ _ _) | (rw [if_neg (fun z => by rw [bI_z c_16] at z; exact absurd z.2 (by decide))]; exact up2_s _ _ _ _))
    · refine lv_iload_n hx hb dX4_signed_19 rfl (lv_at hl 1 rfl) ?_
      refine lv_iload_n hx hb dX4_signed_20 rfl (lv_at hl 2 rfl) ?_
      refine m_cSI C0 h hl.1 (ct_X4_signedNow l k M _ hJ _ _) gX4_signed_X4_signedNow rfl (by decide +kernel) (n := 2) ⟨Nat.le_of_ble_eq_true rfl, Nat.le_of_ble_eq_true rfl⟩ ⟨Nat.zero_le _, Nat.zero_le _⟩ (Nat.le_of_ble_eq_true rfl) rfl rfl dX4_signed_21 (fun r21 I21 H locs hp h => ?_)
      obtain ⟨rfl, hI21⟩ := hp
      rw [hI21] at h
      refine lv_goto (tgt := 32) hx hb dX4_signed_24 (by decide) ?_
      exact m_iret C0 h hr dX4_signed_32 (by first | (rw [if_pos ⟨bI_nz c_9, bI_nz c_16⟩]; exact ⟨up2_s _ _ _ _, rfl⟩) | (rw [if_neg (fun z => by rw [bI_z c_9] at z; exact absurd z.1 (by decide))]; exact up2_s _ _ _ _) | (rw [if_neg (fun z => by rw [bI_z c_16] at z; exact absurd z.2 (by decide))]; exact up2_s _ _ _ _))
set_option maxHeartbeats 4000000 in
set_option maxRecDepth 100000 in
theorem ct_X4_signer (l : Launch) (k : Sk) (M : Nat) (I : IS) (hJ : IjM k M) (sl d9 : Int32) : MmI l yX4_signer wsX4_signer 4 [.ref (k.2.1 0), .int sl, .int d9] k M I (fun r I' => if isW sl (nI 996) = true ∧ isW d9 (nI 996) = true then I' 0 0 = nI 0 ∧ r = opI (fdF (fun q => decide (sealF d9 (nI q) = sl)) 16 0) else I' 0 0 = nI 1) := by
  refine mmI_of (cc := cX4_signer) (maxL := 4) hJ (by decide) rfl (Nat.le_of_ble_eq_true rfl) ?_
  intro p e s m args below meth c A ls C0 h hr hl
  have hx := C0.1.1
  have hb := C0.1.2.1
  have hown := C0.1.2.2.2.1
  have hts := C0.1.2.2.2.2
  have hM := hJ.1
  have hl : lv_has ls 4 [(0, _), (1, _), (2, _)] := hl
  have hinX4 : ∀ w ∈ u_ws RX4 TX4 8, w ∈ wsX4_signer := by decide +kernel
  refine lv_aload_n hx hb dX4_signer_0 rfl (lv_at hl 0 rfl) ?_
  refine lv_iconst (v := nI 0) hx hb dX4_signer_1 (by decide) ?_
  refine m_put (T := TX4) (N := 8) (ty0 := tyX4) C0 h _ (by omega) (cm0 k M _) hinX4 tyX4_ok nmX4 rfl 0 (by decide) (by decide +kernel) rfl rfl rfl rfl (Nat.le_of_ble_eq_true rfl) (cm0 k M _) dX4_signer_2 (fun H locs h => ?_)
  refine lv_iload_n hx hb dX4_signer_5 rfl (lv_at hl 1 rfl) ?_
  refine m_cSI C0 h hl.1 (ct_X4_isNumber l k M _ hJ _) gX4_signer_X4_isNumber rfl (by decide +kernel) (n := 1) ⟨Nat.le_of_ble_eq_true rfl, Nat.le_of_ble_eq_true rfl⟩ ⟨Nat.zero_le _, Nat.zero_le _⟩ (Nat.le_of_ble_eq_true rfl) rfl rfl dX4_signer_6 (fun r6 I6 H locs hp h => ?_)
  obtain ⟨rfl, hI6⟩ := hp
  rw [hI6] at h
  refine lv_if_eq (tgt := 19) hx hb dX4_signer_9 (by decide) (fun c_9 => ?_) (fun c_9 => ?_)
  · refine lv_aload_n hx hb dX4_signer_19 rfl (lv_at hl 0 rfl) ?_
    refine lv_iconst (v := nI 1) hx hb dX4_signer_20 (by decide) ?_
    refine m_cVI C0 h hl.1 _ (by omega) (cm0 k M _) rfl (ct_X4_refuse l k M _ hJ (nI 1)) gX4_signer_X4_refuse rfl (by decide +kernel) (n := 1) ⟨Nat.le_of_ble_eq_true rfl, Nat.le_of_ble_eq_true rfl⟩ ⟨Nat.zero_le _, Nat.zero_le _⟩ (Nat.le_of_ble_eq_true rfl) rfl rfl dX4_signer_21 (fun r21 I21 H locs hp h => ?_)
    obtain ⟨rfl, hI21⟩ := hp
    rw [hI21] at h
    exact m_iret C0 h hr dX4_signer_24 (by first | (rw [if_neg (fun z => by rw [bI_z c_9] at z; exact absurd z.1 (by decide))]; exact up2_s _ _ _ _) | (rw [if_neg (fun z => by rw [bI_z c_16] at z; exact absurd z.2 (by decide))]; exact up2_s _ _ _ _))
  · refine lv_iload_n hx hb dX4_signer_12 rfl (lv_at hl 2 rfl) ?_
    refine m_cSI C0 h hl.1 (ct_X4_isNumber l k M _ hJ _) gX4_signer_X4_isNumber rfl (by decide +kernel) (n := 1) ⟨Nat.le_of_ble_eq_true rfl, Nat.le_of_ble_eq_true rfl⟩ ⟨Nat.zero_le _, Nat.zero_le _⟩ (Nat.le_of_ble_eq_true rfl) rfl rfl dX4_signer_13 (fun r13 I13 H locs hp h => ?_)
    obtain ⟨rfl, hI13⟩ := hp
    rw [hI13] at h
    refine lv_if_ne (tgt := 25) hx hb dX4_signer_16 (by decide) (fun c_16 => ?_) (fun c_16 => ?_)
    · have hok : isW sl (nI 996) = true ∧ isW d9 (nI 996) = true := ⟨bI_nz c_9, bI_nz c_16⟩
      refine lv_iconst (v := nI 0) hx hb dX4_signer_25 (by decide) ?_
      refine lv_istore_n hx hb dX4_signer_26 rfl hl (by decide) rfl (fun ls hl => ?_)
      have hl : lv_has ls 4 [(3, _), (0, _), (1, _), (2, _)] := hl
      have key27 : ∀ (n : Nat) (j : Nat), 17 - j < n → j ≤ 16 → (∀ r, r < j → (decide (sealF d9 (nI r) = sl)) = false) → ∀ (H : Heap) (locs : List Loc) (ls : Array Slot), HXm k M A s (up2 I 0 0 (nI 0)) H locs → lv_has ls 4 [(3, .int (nI j)), (0, .ref (k.2.1 0)), (1, .int sl), (2, .int d9)] → W p l e (Rm 4) s m args below meth c H locs 0 0 (MQ below (va_Qi (fun r I' => if isW sl (nI 996) = true ∧ isW d9 (nI 996) = true then I' 0 0 = nI 0 ∧ r = opI (fdF (fun q => decide (sealF d9 (nI q) = sl)) 16 0) else I' 0 0 = nI 1) (EnM k M) A) args s 0 0 A) (F0 m 27 ls []) := by
        intro n
        induction n with
        | zero =>
          intro j hn hj hall H locs ls h hl
          exact absurd hn (Nat.not_lt_zero _)
        | succ n ih27 =>
          intro j hn hj hall H locs ls h hl
          refine lv_iload_n hx hb dX4_signer_27 rfl (lv_at hl 0 rfl) ?_
          refine lv_bipush (v := nI 16) hx hb dX4_signer_28 (by decide) ?_
          refine lv_icmp_ge (tgt := 50) hx hb dX4_signer_30 (by decide) (fun c_30 => ?_) (fun c_30 => ?_)
          · have hjc : j = 16 := by have := (nI_leI (by omega) (by omega)).mp c_30; omega
            refine lv_iconst (v := (-1)) hx hb dX4_signer_50 (by decide) ?_
            exact m_iret C0 h hr dX4_signer_51 (by rw [if_pos hok]; exact ⟨up2_s _ _ _ _, by rw [fdF_no (by rw [← hjc]; exact hall)]; rfl⟩)
          · have hjc : j < 16 := Nat.lt_of_not_le (fun q => c_30 (nI_le q (by omega)))
            refine lv_iload_n hx hb dX4_signer_33 rfl (lv_at hl 0 rfl) ?_
            refine lv_iload_n hx hb dX4_signer_34 rfl (lv_at hl 3 rfl) ?_
            refine m_cSI C0 h hl.1 (ct_X4_signedNow l k M _ hJ _ _) gX4_signer_X4_signedNow rfl (by decide +kernel) (n := 2) ⟨Nat.le_of_ble_eq_true rfl, Nat.le_of_ble_eq_true rfl⟩ ⟨Nat.zero_le _, Nat.zero_le _⟩ (Nat.le_of_ble_eq_true rfl) rfl rfl dX4_signer_35 (fun r35 I35 H locs hp h => ?_)
            obtain ⟨rfl, hI35⟩ := hp
            rw [hI35] at h
            refine lv_iload_n hx hb dX4_signer_38 rfl (lv_at hl 2 rfl) ?_
            refine lv_icmp_ne (tgt := 44) hx hb dX4_signer_39 (by decide) (fun c_39 => ?_) (fun c_39 => ?_)
            · refine lv_iinc (v := nI (j + 1)) hx hb dX4_signer_44 hl (k := 0) rfl (nI_1 _) (by decide) rfl (fun ls hl => ?_)
              have hl : lv_has ls 4 [(3, _), (0, _), (1, _), (2, _)] := hl
              refine lv_goto (tgt := 27) hx hb dX4_signer_47 (by decide) ?_
              exact ih27 (j + 1) (by omega) (by omega) (fun r hr => by rcases Nat.lt_or_ge r j with z | z; (exact hall r z); (obtain rfl : r = j := (by omega)); exact decide_eq_false c_39) _ _ _ h (lv_sub hl [0, 1, 2, 3] rfl)
            · refine lv_iload_n hx hb dX4_signer_42 rfl (lv_at hl 0 rfl) ?_
              exact m_iret C0 h hr dX4_signer_43 (by rw [if_pos hok]; exact ⟨up2_s _ _ _ _, by rw [fdF_is (j := j) hjc (decide_eq_true c_39) hall]; rfl⟩)
      exact key27 100 0 (by omega) (by omega) (fun r hr => absurd hr (Nat.not_lt_zero _)) _ _ _ h (lv_sub hl [0, 1, 2, 3] rfl)
    · refine lv_aload_n hx hb dX4_signer_19 rfl (lv_at hl 0 rfl) ?_
      refine lv_iconst (v := nI 1) hx hb dX4_signer_20 (by decide) ?_
      refine m_cVI C0 h hl.1 _ (by omega) (cm0 k M _) rfl (ct_X4_refuse l k M _ hJ (nI 1)) gX4_signer_X4_refuse rfl (by decide +kernel) (n := 1) ⟨Nat.le_of_ble_eq_true rfl, Nat.le_of_ble_eq_true rfl⟩ ⟨Nat.zero_le _, Nat.zero_le _⟩ (Nat.le_of_ble_eq_true rfl) rfl rfl dX4_signer_21 (fun r21 I21 H locs hp h => ?_)
      obtain ⟨rfl, hI21⟩ := hp
      rw [hI21] at h
      exact m_iret C0 h hr dX4_signer_24 (by first | (rw [if_neg (fun z => by rw [bI_z c_9] at z; exact absurd z.1 (by decide))]; exact up2_s _ _ _ _) | (rw [if_neg (fun z => by rw [bI_z c_16] at z; exact absurd z.2 (by decide))]; exact up2_s _ _ _ _))
set_option maxHeartbeats 4000000 in
set_option maxRecDepth 100000 in
theorem ct_X4_isUnder (l : Launch) (k : Sk) (M : Nat) (I : IS) (hJ : IjM k M) (a o : Int32) : MmI l yX4_isUnder wsX4_isUnder 4 [.ref (k.2.1 0), .int a, .int o] k M I (fun r I' => if isNm a = true ∧ isN0 o = true then I' 0 0 = nI 0 ∧ r = bI (isUn a o) else I' 0 0 = nI 1) := by
  refine mmIz_of (cc := cX4_isUnder) (maxL := 3) hJ (by decide) rfl (Nat.le_of_ble_eq_true rfl) ?_
  intro p e s m args below meth c A ls C0 h hr hl
  have hx := C0.1.1
  have hb := C0.1.2.1
  have hown := C0.1.2.2.2.1
  have hts := C0.1.2.2.2.2
  have hM := hJ.1
  have hl : lv_has ls 3 [(0, _), (1, _), (2, _)] := hl
  have hinX4 : ∀ w ∈ u_ws RX4 TX4 8, w ∈ wsX4_isUnder := by decide +kernel
  refine lv_aload_n hx hb dX4_isUnder_0 rfl (lv_at hl 0 rfl) ?_
  refine lv_iload_n hx hb dX4_isUnder_1 rfl (lv_at hl 1 rfl) ?_
  refine m_cSI C0 h hl.1 (ct_X4_isName l k M _ hJ _) gX4_isUnder_X4_isName rfl (by decide +kernel) (n := 1) ⟨Nat.le_of_ble_eq_true rfl, Nat.le_of_ble_eq_true rfl⟩ ⟨Nat.zero_le _, Nat.zero_le _⟩ (Nat.le_of_ble_eq_true rfl) rfl rfl dX4_isUnder_2 (fun r2 I2 H locs hp h => ?_)
  obtain ⟨rfl, hI2⟩ := hp
  rw [hI2] at h
  refine lv_if_eq (tgt := 19) hx hb dX4_isUnder_5 (by decide) (fun c_5 => ?_) (fun c_5 => ?_)
  · refine lv_iconst (v := nI 1) hx hb dX4_isUnder_19 (by decide) ?_
    refine m_put (T := TX4) (N := 8) (ty0 := tyX4) C0 h _ (by omega) (cm0 k M _) hinX4 tyX4_ok nmX4 rfl 0 (by decide) (by decide +kernel) rfl rfl rfl rfl (Nat.le_of_ble_eq_true rfl) (cm0 k M _) dX4_isUnder_20 (fun H locs h => ?_)
    refine lv_aload_n hx hb dX4_isUnder_23 rfl (lv_at hl 0 rfl) ?_
    refine m_get (T := TX4) (N := 8) C0 h _ (by omega) (cm0 k M _) hinX4 rfl 0 (by decide) (by decide +kernel) rfl rfl dX4_isUnder_24 ?_
    rw [up2_s]
    refine lv_if_ne (tgt := 42) hx hb dX4_isUnder_27 (by decide) (fun c_27 => ?_) (fun c_27 => ?_)
    · refine lv_iconst (v := nI 0) hx hb dX4_isUnder_42 (by decide) ?_
      exact m_zret C0 h hr dX4_isUnder_43 (by first | exact zb1 | exact zb0 | exact ⟨_, rfl⟩) (by first | (rw [if_pos ⟨bI_nz c_5, bI_nz c_12⟩]; exact ⟨up2_s _ _ _ _, by first | (rw [bI_z c_35]; rfl) | (rw [bI_nz c_35]; rfl)⟩) | (rw [if_neg (fun z => by rw [bI_z c_5] at z; exact absurd z.1 (by decide))]; exact up2_s _ _ _ _) | (rw [if_neg (fun z => by rw [bI_z c_12] at z; exact absurd z.2 (by decide))]; exact up2_s _ _ _ _))
    · exact absurd c_27 (by decide)
  · refine lv_iload_n hx hb dX4_isUnder_8 rfl (lv_at hl 2 rfl) ?_
    refine m_cSI C0 h hl.1 (ct_X4_isNameOrAll l k M _ hJ _) gX4_isUnder_X4_isNameOrAll rfl (by decide +kernel) (n := 1) ⟨Nat.le_of_ble_eq_true rfl, Nat.le_of_ble_eq_true rfl⟩ ⟨Nat.zero_le _, Nat.zero_le _⟩ (Nat.le_of_ble_eq_true rfl) rfl rfl dX4_isUnder_9 (fun r9 I9 H locs hp h => ?_)
    obtain ⟨rfl, hI9⟩ := hp
    rw [hI9] at h
    refine lv_if_eq (tgt := 19) hx hb dX4_isUnder_12 (by decide) (fun c_12 => ?_) (fun c_12 => ?_)
    · refine lv_iconst (v := nI 1) hx hb dX4_isUnder_19 (by decide) ?_
      refine m_put (T := TX4) (N := 8) (ty0 := tyX4) C0 h _ (by omega) (cm0 k M _) hinX4 tyX4_ok nmX4 rfl 0 (by decide) (by decide +kernel) rfl rfl rfl rfl (Nat.le_of_ble_eq_true rfl) (cm0 k M _) dX4_isUnder_20 (fun H locs h => ?_)
      refine lv_aload_n hx hb dX4_isUnder_23 rfl (lv_at hl 0 rfl) ?_
      refine m_get (T := TX4) (N := 8) C0 h _ (by omega) (cm0 k M _) hinX4 rfl 0 (by decide) (by decide +kernel) rfl rfl dX4_isUnder_24 ?_
      rw [up2_s]
      refine lv_if_ne (tgt := 42) hx hb dX4_isUnder_27 (by decide) (fun c_27 => ?_) (fun c_27 => ?_)
      · refine lv_iconst (v := nI 0) hx hb dX4_isUnder_42 (by decide) ?_
        exact m_zret C0 h hr dX4_isUnder_43 (by first | exact zb1 | exact zb0 | exact ⟨_, rfl⟩) (by first | (rw [if_pos ⟨bI_nz c_5, bI_nz c_12⟩]; exact ⟨up2_s _ _ _ _, by first | (rw [bI_z c_35]; rfl) | (rw [bI_nz c_35]; rfl)⟩) | (rw [if_neg (fun z => by rw [bI_z c_5] at z; exact absurd z.1 (by decide))]; exact up2_s _ _ _ _) | (rw [if_neg (fun z => by rw [bI_z c_12] at z; exact absurd z.2 (by decide))]; exact up2_s _ _ _ _))
      · exact absurd c_27 (by decide)
    · refine lv_iconst (v := nI 0) hx hb dX4_isUnder_15 (by decide) ?_
      refine lv_goto (tgt := 20) hx hb dX4_isUnder_16 (by decide) ?_
      refine m_put (T := TX4) (N := 8) (ty0 := tyX4) C0 h _ (by omega) (cm0 k M _) hinX4 tyX4_ok nmX4 rfl 0 (by decide) (by decide +kernel) rfl rfl rfl rfl (Nat.le_of_ble_eq_true rfl) (cm0 k M _) dX4_isUnder_20 (fun H locs h => ?_)
      refine lv_aload_n hx hb dX4_isUnder_23 rfl (lv_at hl 0 rfl) ?_
      refine m_get (T := TX4) (N := 8) C0 h _ (by omega) (cm0 k M _) hinX4 rfl 0 (by decide) (by decide +kernel) rfl rfl dX4_isUnder_24 ?_
      rw [up2_s]
      refine lv_if_ne (tgt := 42) hx hb dX4_isUnder_27 (by decide) (fun c_27 => ?_) (fun c_27 => ?_)
      · exact absurd (by decide) c_27
      · refine lv_iload_n hx hb dX4_isUnder_30 rfl (lv_at hl 1 rfl) ?_
        refine lv_iload_n hx hb dX4_isUnder_31 rfl (lv_at hl 2 rfl) ?_
        refine m_cSI C0 h hl.1 (ct_X4_isUnderNow l k M _ hJ _ _) gX4_isUnder_X4_isUnderNow rfl (by decide +kernel) (n := 2) ⟨Nat.le_of_ble_eq_true rfl, Nat.le_of_ble_eq_true rfl⟩ ⟨Nat.zero_le _, Nat.zero_le _⟩ (Nat.le_of_ble_eq_true rfl) rfl rfl dX4_isUnder_32 (fun r32 I32 H locs hp h => ?_)
        obtain ⟨rfl, hI32⟩ := hp
        rw [hI32] at h
        refine lv_if_eq (tgt := 42) hx hb dX4_isUnder_35 (by decide) (fun c_35 => ?_) (fun c_35 => ?_)
        · refine lv_iconst (v := nI 0) hx hb dX4_isUnder_42 (by decide) ?_
          exact m_zret C0 h hr dX4_isUnder_43 (by first | exact zb1 | exact zb0 | exact ⟨_, rfl⟩) (by first | (rw [if_pos ⟨bI_nz c_5, bI_nz c_12⟩]; exact ⟨up2_s _ _ _ _, by first | (rw [bI_z c_35]; rfl) | (rw [bI_nz c_35]; rfl)⟩) | (rw [if_neg (fun z => by rw [bI_z c_5] at z; exact absurd z.1 (by decide))]; exact up2_s _ _ _ _) | (rw [if_neg (fun z => by rw [bI_z c_12] at z; exact absurd z.2 (by decide))]; exact up2_s _ _ _ _))
        · refine lv_iconst (v := nI 1) hx hb dX4_isUnder_38 (by decide) ?_
          refine lv_goto (tgt := 43) hx hb dX4_isUnder_39 (by decide) ?_
          exact m_zret C0 h hr dX4_isUnder_43 (by first | exact zb1 | exact zb0 | exact ⟨_, rfl⟩) (by first | (rw [if_pos ⟨bI_nz c_5, bI_nz c_12⟩]; exact ⟨up2_s _ _ _ _, by first | (rw [bI_z c_35]; rfl) | (rw [bI_nz c_35]; rfl)⟩) | (rw [if_neg (fun z => by rw [bI_z c_5] at z; exact absurd z.1 (by decide))]; exact up2_s _ _ _ _) | (rw [if_neg (fun z => by rw [bI_z c_12] at z; exact absurd z.2 (by decide))]; exact up2_s _ _ _ _))
set_option maxHeartbeats 4000000 in
set_option maxRecDepth 100000 in
theorem ct_X4_isOf (l : Launch) (k : Sk) (M : Nat) (I : IS) (hJ : IjM k M) (hE : I 1 2 = nI 0 ∧ I 2 2 = nI 0) (a y t u : Int32) : MmI l yX4_isOf wsX4_isOf 4 [.ref (k.2.1 0), .int a, .int y, .int t, .int u] k M I (fun r I' => if isNm a = true ∧ isW y (nI 15) = true ∧ (isW t (nI 999) && isW u (nI 3)) = true then I' 0 0 = nI 0 ∧ r = nI 0 else I' 0 0 = nI 1) := by
  refine mmIz_of (cc := cX4_isOf) (maxL := 7) hJ (by decide) rfl (Nat.le_of_ble_eq_true rfl) ?_
  intro p e s m args below meth c A ls C0 h hr hl
  have hx := C0.1.1
  have hb := C0.1.2.1
  have hown := C0.1.2.2.2.1
  have hts := C0.1.2.2.2.2
  have hM := hJ.1
  have hl : lv_has ls 7 [(0, _), (1, _), (2, _), (3, _), (4, _)] := hl
  have hinX4 : ∀ w ∈ u_ws RX4 TX4 8, w ∈ wsX4_isOf := by decide +kernel
  refine lv_aload_n hx hb dX4_isOf_0 rfl (lv_at hl 0 rfl) ?_
  refine lv_iload_n hx hb dX4_isOf_1 rfl (lv_at hl 1 rfl) ?_
  refine m_cSI C0 h hl.1 (ct_X4_isName l k M _ hJ _) gX4_isOf_X4_isName rfl (by decide +kernel) (n := 1) ⟨Nat.le_of_ble_eq_true rfl, Nat.le_of_ble_eq_true rfl⟩ ⟨Nat.zero_le _, Nat.zero_le _⟩ (Nat.le_of_ble_eq_true rfl) rfl rfl dX4_isOf_2 (fun r2 I2 H locs hp h => ?_)
  obtain ⟨rfl, hI2⟩ := hp
  rw [hI2] at h
  refine lv_if_eq (tgt := 28) hx hb dX4_isOf_5 (by decide) (fun c_5 => ?_) (fun c_5 => ?_)
  · refine lv_iconst (v := nI 1) hx hb dX4_isOf_28 (by decide) ?_
    refine m_put (T := TX4) (N := 8) (ty0 := tyX4) C0 h _ (by omega) (cm0 k M _) hinX4 tyX4_ok nmX4 rfl 0 (by decide) (by decide +kernel) rfl rfl rfl rfl (Nat.le_of_ble_eq_true rfl) (cm0 k M _) dX4_isOf_29 (fun H locs h => ?_)
    refine lv_iconst (v := nI 0) hx hb dX4_isOf_32 (by decide) ?_
    refine lv_istore hx hb dX4_isOf_33 hl (by decide) rfl (fun ls hl => ?_)
    have hl : lv_has ls 7 [(5, _), (0, _), (1, _), (2, _), (3, _), (4, _)] := hl
    refine lv_iconst (v := nI 0) hx hb dX4_isOf_35 (by decide) ?_
    refine lv_istore hx hb dX4_isOf_36 hl (by decide) rfl (fun ls hl => ?_)
    have hl : lv_has ls 7 [(6, _), (5, _), (0, _), (1, _), (2, _), (3, _), (4, _)] := hl
    refine lv_iload hx hb dX4_isOf_38 (lv_at hl 0 rfl) ?_
    refine lv_aload_n hx hb dX4_isOf_40 rfl (lv_at hl 2 rfl) ?_
    refine m_get (T := TX4) (N := 8) C0 h _ (by omega) (cm0 k M _) hinX4 rfl 1 (by decide) (by decide +kernel) rfl rfl dX4_isOf_41 ?_
    refine m_cVI C0 h hl.1 _ (by omega) (cm1 k M _ (by first | decide | assumption)) rfl (ct_Jx4a65c_size_8abf5 l k M _ hJ 1 (by decide) (by omega)) gX4_isOf_Jx4a65c_size_8abf5 rfl (by decide +kernel) (n := 0) ⟨Nat.le_of_ble_eq_true rfl, Nat.le_of_ble_eq_true rfl⟩ ⟨Nat.zero_le _, Nat.zero_le _⟩ (Nat.le_of_ble_eq_true rfl) rfl rfl dX4_isOf_44 (fun r44 I44 H locs hp h => ?_)
    obtain ⟨rfl, hI44⟩ := hp
    rw [hI44] at h
    rw [up2_n _ _ _ _ (by decide), hE.1]
    refine lv_icmp_ge (tgt := 121) hx hb dX4_isOf_47 (by decide) (fun c_47 => ?_) (fun c_47 => ?_)
    · refine lv_iload hx hb dX4_isOf_121 (lv_at hl 1 rfl) ?_
      exact m_zret C0 h hr dX4_isOf_123 (by first | exact zb1 | exact zb0 | exact ⟨_, rfl⟩) (by first | (rw [if_pos ⟨bI_nz c_5, bI_nz c_12, bI_nz c_21⟩]; exact ⟨up2_s _ _ _ _, rfl⟩) | (rw [if_neg (fun z => by rw [bI_z c_5] at z; exact absurd z.1 (by decide))]; exact up2_s _ _ _ _) | (rw [if_neg (fun z => by rw [bI_z c_12] at z; exact absurd z.2.1 (by decide))]; exact up2_s _ _ _ _) | (rw [if_neg (fun z => by rw [bI_z c_21] at z; exact absurd z.2.2 (by decide))]; exact up2_s _ _ _ _))
    · exact absurd (by decide) c_47
  · refine lv_iload_n hx hb dX4_isOf_8 rfl (lv_at hl 2 rfl) ?_
    refine m_cSI C0 h hl.1 (ct_X4_isKey l k M _ hJ _) gX4_isOf_X4_isKey rfl (by decide +kernel) (n := 1) ⟨Nat.le_of_ble_eq_true rfl, Nat.le_of_ble_eq_true rfl⟩ ⟨Nat.zero_le _, Nat.zero_le _⟩ (Nat.le_of_ble_eq_true rfl) rfl rfl dX4_isOf_9 (fun r9 I9 H locs hp h => ?_)
    obtain ⟨rfl, hI9⟩ := hp
    rw [hI9] at h
    refine lv_if_eq (tgt := 28) hx hb dX4_isOf_12 (by decide) (fun c_12 => ?_) (fun c_12 => ?_)
    · refine lv_iconst (v := nI 1) hx hb dX4_isOf_28 (by decide) ?_
      refine m_put (T := TX4) (N := 8) (ty0 := tyX4) C0 h _ (by omega) (cm0 k M _) hinX4 tyX4_ok nmX4 rfl 0 (by decide) (by decide +kernel) rfl rfl rfl rfl (Nat.le_of_ble_eq_true rfl) (cm0 k M _) dX4_isOf_29 (fun H locs h => ?_)
      refine lv_iconst (v := nI 0) hx hb dX4_isOf_32 (by decide) ?_
      refine lv_istore hx hb dX4_isOf_33 hl (by decide) rfl (fun ls hl => ?_)
      have hl : lv_has ls 7 [(5, _), (0, _), (1, _), (2, _), (3, _), (4, _)] := hl
      refine lv_iconst (v := nI 0) hx hb dX4_isOf_35 (by decide) ?_
      refine lv_istore hx hb dX4_isOf_36 hl (by decide) rfl (fun ls hl => ?_)
      have hl : lv_has ls 7 [(6, _), (5, _), (0, _), (1, _), (2, _), (3, _), (4, _)] := hl
      refine lv_iload hx hb dX4_isOf_38 (lv_at hl 0 rfl) ?_
      refine lv_aload_n hx hb dX4_isOf_40 rfl (lv_at hl 2 rfl) ?_
      refine m_get (T := TX4) (N := 8) C0 h _ (by omega) (cm0 k M _) hinX4 rfl 1 (by decide) (by decide +kernel) rfl rfl dX4_isOf_41 ?_
      refine m_cVI C0 h hl.1 _ (by omega) (cm1 k M _ (by first | decide | assumption)) rfl (ct_Jx4a65c_size_8abf5 l k M _ hJ 1 (by decide) (by omega)) gX4_isOf_Jx4a65c_size_8abf5 rfl (by decide +kernel) (n := 0) ⟨Nat.le_of_ble_eq_true rfl, Nat.le_of_ble_eq_true rfl⟩ ⟨Nat.zero_le _, Nat.zero_le _⟩ (Nat.le_of_ble_eq_true rfl) rfl rfl dX4_isOf_44 (fun r44 I44 H locs hp h => ?_)
      obtain ⟨rfl, hI44⟩ := hp
      rw [hI44] at h
      rw [up2_n _ _ _ _ (by decide), hE.1]
      refine lv_icmp_ge (tgt := 121) hx hb dX4_isOf_47 (by decide) (fun c_47 => ?_) (fun c_47 => ?_)
      · refine lv_iload hx hb dX4_isOf_121 (lv_at hl 1 rfl) ?_
        exact m_zret C0 h hr dX4_isOf_123 (by first | exact zb1 | exact zb0 | exact ⟨_, rfl⟩) (by first | (rw [if_pos ⟨bI_nz c_5, bI_nz c_12, bI_nz c_21⟩]; exact ⟨up2_s _ _ _ _, rfl⟩) | (rw [if_neg (fun z => by rw [bI_z c_5] at z; exact absurd z.1 (by decide))]; exact up2_s _ _ _ _) | (rw [if_neg (fun z => by rw [bI_z c_12] at z; exact absurd z.2.1 (by decide))]; exact up2_s _ _ _ _) | (rw [if_neg (fun z => by rw [bI_z c_21] at z; exact absurd z.2.2 (by decide))]; exact up2_s _ _ _ _))
      · exact absurd (by decide) c_47
    · refine lv_iload_n hx hb dX4_isOf_15 rfl (lv_at hl 3 rfl) ?_
      refine lv_iload hx hb dX4_isOf_16 (lv_at hl 4 rfl) ?_
      refine m_cSI C0 h hl.1 (ct_X4_isAt l k M _ hJ _ _) gX4_isOf_X4_isAt rfl (by decide +kernel) (n := 2) ⟨Nat.le_of_ble_eq_true rfl, Nat.le_of_ble_eq_true rfl⟩ ⟨Nat.zero_le _, Nat.zero_le _⟩ (Nat.le_of_ble_eq_true rfl) rfl rfl dX4_isOf_18 (fun r18 I18 H locs hp h => ?_)
      obtain ⟨rfl, hI18⟩ := hp
      rw [hI18] at h
      refine lv_if_eq (tgt := 28) hx hb dX4_isOf_21 (by decide) (fun c_21 => ?_) (fun c_21 => ?_)
      · refine lv_iconst (v := nI 1) hx hb dX4_isOf_28 (by decide) ?_
        refine m_put (T := TX4) (N := 8) (ty0 := tyX4) C0 h _ (by omega) (cm0 k M _) hinX4 tyX4_ok nmX4 rfl 0 (by decide) (by decide +kernel) rfl rfl rfl rfl (Nat.le_of_ble_eq_true rfl) (cm0 k M _) dX4_isOf_29 (fun H locs h => ?_)
        refine lv_iconst (v := nI 0) hx hb dX4_isOf_32 (by decide) ?_
        refine lv_istore hx hb dX4_isOf_33 hl (by decide) rfl (fun ls hl => ?_)
        have hl : lv_has ls 7 [(5, _), (0, _), (1, _), (2, _), (3, _), (4, _)] := hl
        refine lv_iconst (v := nI 0) hx hb dX4_isOf_35 (by decide) ?_
        refine lv_istore hx hb dX4_isOf_36 hl (by decide) rfl (fun ls hl => ?_)
        have hl : lv_has ls 7 [(6, _), (5, _), (0, _), (1, _), (2, _), (3, _), (4, _)] := hl
        refine lv_iload hx hb dX4_isOf_38 (lv_at hl 0 rfl) ?_
        refine lv_aload_n hx hb dX4_isOf_40 rfl (lv_at hl 2 rfl) ?_
        refine m_get (T := TX4) (N := 8) C0 h _ (by omega) (cm0 k M _) hinX4 rfl 1 (by decide) (by decide +kernel) rfl rfl dX4_isOf_41 ?_
        refine m_cVI C0 h hl.1 _ (by omega) (cm1 k M _ (by first | decide | assumption)) rfl (ct_Jx4a65c_size_8abf5 l k M _ hJ 1 (by decide) (by omega)) gX4_isOf_Jx4a65c_size_8abf5 rfl (by decide +kernel) (n := 0) ⟨Nat.le_of_ble_eq_true rfl, Nat.le_of_ble_eq_true rfl⟩ ⟨Nat.zero_le _, Nat.zero_le _⟩ (Nat.le_of_ble_eq_true rfl) rfl rfl dX4_isOf_44 (fun r44 I44 H locs hp h => ?_)
        obtain ⟨rfl, hI44⟩ := hp
        rw [hI44] at h
        rw [up2_n _ _ _ _ (by decide), hE.1]
        refine lv_icmp_ge (tgt := 121) hx hb dX4_isOf_47 (by decide) (fun c_47 => ?_) (fun c_47 => ?_)
        · refine lv_iload hx hb dX4_isOf_121 (lv_at hl 1 rfl) ?_
          exact m_zret C0 h hr dX4_isOf_123 (by first | exact zb1 | exact zb0 | exact ⟨_, rfl⟩) (by first | (rw [if_pos ⟨bI_nz c_5, bI_nz c_12, bI_nz c_21⟩]; exact ⟨up2_s _ _ _ _, rfl⟩) | (rw [if_neg (fun z => by rw [bI_z c_5] at z; exact absurd z.1 (by decide))]; exact up2_s _ _ _ _) | (rw [if_neg (fun z => by rw [bI_z c_12] at z; exact absurd z.2.1 (by decide))]; exact up2_s _ _ _ _) | (rw [if_neg (fun z => by rw [bI_z c_21] at z; exact absurd z.2.2 (by decide))]; exact up2_s _ _ _ _))
        · exact absurd (by decide) c_47
      · refine lv_iconst (v := nI 0) hx hb dX4_isOf_24 (by decide) ?_
        refine lv_goto (tgt := 29) hx hb dX4_isOf_25 (by decide) ?_
        refine m_put (T := TX4) (N := 8) (ty0 := tyX4) C0 h _ (by omega) (cm0 k M _) hinX4 tyX4_ok nmX4 rfl 0 (by decide) (by decide +kernel) rfl rfl rfl rfl (Nat.le_of_ble_eq_true rfl) (cm0 k M _) dX4_isOf_29 (fun H locs h => ?_)
        refine lv_iconst (v := nI 0) hx hb dX4_isOf_32 (by decide) ?_
        refine lv_istore hx hb dX4_isOf_33 hl (by decide) rfl (fun ls hl => ?_)
        have hl : lv_has ls 7 [(5, _), (0, _), (1, _), (2, _), (3, _), (4, _)] := hl
        refine lv_iconst (v := nI 0) hx hb dX4_isOf_35 (by decide) ?_
        refine lv_istore hx hb dX4_isOf_36 hl (by decide) rfl (fun ls hl => ?_)
        have hl : lv_has ls 7 [(6, _), (5, _), (0, _), (1, _), (2, _), (3, _), (4, _)] := hl
        refine lv_iload hx hb dX4_isOf_38 (lv_at hl 0 rfl) ?_
        refine lv_aload_n hx hb dX4_isOf_40 rfl (lv_at hl 2 rfl) ?_
        refine m_get (T := TX4) (N := 8) C0 h _ (by omega) (cm0 k M _) hinX4 rfl 1 (by decide) (by decide +kernel) rfl rfl dX4_isOf_41 ?_
        refine m_cVI C0 h hl.1 _ (by omega) (cm1 k M _ (by first | decide | assumption)) rfl (ct_Jx4a65c_size_8abf5 l k M _ hJ 1 (by decide) (by omega)) gX4_isOf_Jx4a65c_size_8abf5 rfl (by decide +kernel) (n := 0) ⟨Nat.le_of_ble_eq_true rfl, Nat.le_of_ble_eq_true rfl⟩ ⟨Nat.zero_le _, Nat.zero_le _⟩ (Nat.le_of_ble_eq_true rfl) rfl rfl dX4_isOf_44 (fun r44 I44 H locs hp h => ?_)
        obtain ⟨rfl, hI44⟩ := hp
        rw [hI44] at h
        rw [up2_n _ _ _ _ (by decide), hE.1]
        refine lv_icmp_ge (tgt := 121) hx hb dX4_isOf_47 (by decide) (fun c_47 => ?_) (fun c_47 => ?_)
        · refine lv_iload hx hb dX4_isOf_121 (lv_at hl 1 rfl) ?_
          exact m_zret C0 h hr dX4_isOf_123 (by first | exact zb1 | exact zb0 | exact ⟨_, rfl⟩) (by first | (rw [if_pos ⟨bI_nz c_5, bI_nz c_12, bI_nz c_21⟩]; exact ⟨up2_s _ _ _ _, rfl⟩) | (rw [if_neg (fun z => by rw [bI_z c_5] at z; exact absurd z.1 (by decide))]; exact up2_s _ _ _ _) | (rw [if_neg (fun z => by rw [bI_z c_12] at z; exact absurd z.2.1 (by decide))]; exact up2_s _ _ _ _) | (rw [if_neg (fun z => by rw [bI_z c_21] at z; exact absurd z.2.2 (by decide))]; exact up2_s _ _ _ _))
        · exact absurd (by decide) c_47
set_option maxHeartbeats 4000000 in
set_option maxRecDepth 100000 in
theorem ct_X4_meanChain (l : Launch) (k : Sk) (M : Nat) (I : IS) (hJ : IjM k M) (hE : I 1 2 = nI 0 ∧ I 2 2 = nI 0) (t u : Int32) : MmD l yX4_meanChain wsX4_meanChain 4 [.ref (k.2.1 0), .int t, .int u] k M I (fun r I' => if (isW t (nI 999) && isW u (nI 3)) = true then I' 0 0 = nI 0 ∧ r = FP.dconst0 else I' 0 0 = nI 1) := by
  refine mmD_of (cc := cX4_meanChain) (maxL := 7) hJ (by decide) rfl (Nat.le_of_ble_eq_true rfl) ?_
  intro p e s m args below meth c A ls C0 h hr hl
  have hx := C0.1.1
  have hb := C0.1.2.1
  have hown := C0.1.2.2.2.1
  have hts := C0.1.2.2.2.2
  have hM := hJ.1
  have hl : lv_has ls 7 [(0, _), (1, _), (2, _)] := hl
  have hinX4 : ∀ w ∈ u_ws RX4 TX4 8, w ∈ wsX4_meanChain := by decide +kernel
  refine lv_aload_n hx hb dX4_meanChain_0 rfl (lv_at hl 0 rfl) ?_
  refine lv_iload_n hx hb dX4_meanChain_1 rfl (lv_at hl 1 rfl) ?_
  refine lv_iload_n hx hb dX4_meanChain_2 rfl (lv_at hl 2 rfl) ?_
  refine m_cSI C0 h hl.1 (ct_X4_isAt l k M _ hJ _ _) gX4_meanChain_X4_isAt rfl (by decide +kernel) (n := 2) ⟨Nat.le_of_ble_eq_true rfl, Nat.le_of_ble_eq_true rfl⟩ ⟨Nat.zero_le _, Nat.zero_le _⟩ (Nat.le_of_ble_eq_true rfl) rfl rfl dX4_meanChain_3 (fun r3 I3 H locs hp h => ?_)
  obtain ⟨rfl, hI3⟩ := hp
  rw [hI3] at h
  refine lv_if_eq (tgt := 13) hx hb dX4_meanChain_6 (by decide) (fun c_6 => ?_) (fun c_6 => ?_)
  · refine lv_iconst (v := nI 1) hx hb dX4_meanChain_13 (by decide) ?_
    refine m_put (T := TX4) (N := 8) (ty0 := tyX4) C0 h _ (by omega) (cm0 k M _) hinX4 tyX4_ok nmX4 rfl 0 (by decide) (by decide +kernel) rfl rfl rfl rfl (Nat.le_of_ble_eq_true rfl) (cm0 k M _) dX4_meanChain_14 (fun H locs h => ?_)
    refine lv_iconst (v := nI 0) hx hb dX4_meanChain_17 (by decide) ?_
    refine lv_istore_n hx hb dX4_meanChain_18 rfl hl (by decide) rfl (fun ls hl => ?_)
    have hl : lv_has ls 7 [(3, _), (0, _), (1, _), (2, _)] := hl
    refine lv_iconst (v := nI 0) hx hb dX4_meanChain_19 (by decide) ?_
    refine lv_istore hx hb dX4_meanChain_20 hl (by decide) rfl (fun ls hl => ?_)
    have hl : lv_has ls 7 [(4, _), (3, _), (0, _), (1, _), (2, _)] := hl
    refine lv_iconst (v := nI 0) hx hb dX4_meanChain_22 (by decide) ?_
    refine lv_istore hx hb dX4_meanChain_23 hl (by decide) rfl (fun ls hl => ?_)
    have hl : lv_has ls 7 [(5, _), (4, _), (3, _), (0, _), (1, _), (2, _)] := hl
    refine lv_iload hx hb dX4_meanChain_25 (lv_at hl 0 rfl) ?_
    refine lv_aload_n hx hb dX4_meanChain_27 rfl (lv_at hl 3 rfl) ?_
    refine m_get (T := TX4) (N := 8) C0 h _ (by omega) (cm0 k M _) hinX4 rfl 1 (by decide) (by decide +kernel) rfl rfl dX4_meanChain_28 ?_
    refine m_cVI C0 h hl.1 _ (by omega) (cm1 k M _ (by first | decide | assumption)) rfl (ct_Jx4a65c_size_8abf5 l k M _ hJ 1 (by decide) (by omega)) gX4_meanChain_Jx4a65c_size_8abf5 rfl (by decide +kernel) (n := 0) ⟨Nat.le_of_ble_eq_true rfl, Nat.le_of_ble_eq_true rfl⟩ ⟨Nat.zero_le _, Nat.zero_le _⟩ (Nat.le_of_ble_eq_true rfl) rfl rfl dX4_meanChain_31 (fun r31 I31 H locs hp h => ?_)
    obtain ⟨rfl, hI31⟩ := hp
    rw [hI31] at h
    rw [up2_n _ _ _ _ (by decide), hE.1]
    refine lv_icmp_ge (tgt := 90) hx hb dX4_meanChain_34 (by decide) (fun c_34 => ?_) (fun c_34 => ?_)
    · refine lv_iload_n hx hb dX4_meanChain_90 rfl (lv_at hl 2 rfl) ?_
      refine lv_if_ne (tgt := 98) hx hb dX4_meanChain_91 (by decide) (fun c_91 => ?_) (fun c_91 => ?_)
      · exact absurd (by decide) c_91
      · refine lv_dconst0 hx hb dX4_meanChain_94 ?_
        refine lv_goto (tgt := 104) hx hb dX4_meanChain_95 (by decide) ?_
        exact m_dret C0 h hr dX4_meanChain_104 (by first | (rw [if_pos (bI_nz c_6)]; exact ⟨up2_s _ _ _ _, rfl⟩) | (rw [if_neg (fun z => by rw [bI_z c_6] at z; exact absurd z (by decide))]; exact up2_s _ _ _ _))
    · exact absurd (by decide) c_34
  · refine lv_iconst (v := nI 0) hx hb dX4_meanChain_9 (by decide) ?_
    refine lv_goto (tgt := 14) hx hb dX4_meanChain_10 (by decide) ?_
    refine m_put (T := TX4) (N := 8) (ty0 := tyX4) C0 h _ (by omega) (cm0 k M _) hinX4 tyX4_ok nmX4 rfl 0 (by decide) (by decide +kernel) rfl rfl rfl rfl (Nat.le_of_ble_eq_true rfl) (cm0 k M _) dX4_meanChain_14 (fun H locs h => ?_)
    refine lv_iconst (v := nI 0) hx hb dX4_meanChain_17 (by decide) ?_
    refine lv_istore_n hx hb dX4_meanChain_18 rfl hl (by decide) rfl (fun ls hl => ?_)
    have hl : lv_has ls 7 [(3, _), (0, _), (1, _), (2, _)] := hl
    refine lv_iconst (v := nI 0) hx hb dX4_meanChain_19 (by decide) ?_
    refine lv_istore hx hb dX4_meanChain_20 hl (by decide) rfl (fun ls hl => ?_)
    have hl : lv_has ls 7 [(4, _), (3, _), (0, _), (1, _), (2, _)] := hl
    refine lv_iconst (v := nI 0) hx hb dX4_meanChain_22 (by decide) ?_
    refine lv_istore hx hb dX4_meanChain_23 hl (by decide) rfl (fun ls hl => ?_)
    have hl : lv_has ls 7 [(5, _), (4, _), (3, _), (0, _), (1, _), (2, _)] := hl
    refine lv_iload hx hb dX4_meanChain_25 (lv_at hl 0 rfl) ?_
    refine lv_aload_n hx hb dX4_meanChain_27 rfl (lv_at hl 3 rfl) ?_
    refine m_get (T := TX4) (N := 8) C0 h _ (by omega) (cm0 k M _) hinX4 rfl 1 (by decide) (by decide +kernel) rfl rfl dX4_meanChain_28 ?_
    refine m_cVI C0 h hl.1 _ (by omega) (cm1 k M _ (by first | decide | assumption)) rfl (ct_Jx4a65c_size_8abf5 l k M _ hJ 1 (by decide) (by omega)) gX4_meanChain_Jx4a65c_size_8abf5 rfl (by decide +kernel) (n := 0) ⟨Nat.le_of_ble_eq_true rfl, Nat.le_of_ble_eq_true rfl⟩ ⟨Nat.zero_le _, Nat.zero_le _⟩ (Nat.le_of_ble_eq_true rfl) rfl rfl dX4_meanChain_31 (fun r31 I31 H locs hp h => ?_)
    obtain ⟨rfl, hI31⟩ := hp
    rw [hI31] at h
    rw [up2_n _ _ _ _ (by decide), hE.1]
    refine lv_icmp_ge (tgt := 90) hx hb dX4_meanChain_34 (by decide) (fun c_34 => ?_) (fun c_34 => ?_)
    · refine lv_iload_n hx hb dX4_meanChain_90 rfl (lv_at hl 2 rfl) ?_
      refine lv_if_ne (tgt := 98) hx hb dX4_meanChain_91 (by decide) (fun c_91 => ?_) (fun c_91 => ?_)
      · exact absurd (by decide) c_91
      · refine lv_dconst0 hx hb dX4_meanChain_94 ?_
        refine lv_goto (tgt := 104) hx hb dX4_meanChain_95 (by decide) ?_
        exact m_dret C0 h hr dX4_meanChain_104 (by first | (rw [if_pos (bI_nz c_6)]; exact ⟨up2_s _ _ _ _, rfl⟩) | (rw [if_neg (fun z => by rw [bI_z c_6] at z; exact absurd z (by decide))]; exact up2_s _ _ _ _))
    · exact absurd (by decide) c_34
set_option maxHeartbeats 4000000 in
set_option maxRecDepth 100000 in
theorem ct_X4_stolen (l : Launch) (k : Sk) (M : Nat) (I : IS) (hJ : IjM k M) (hE : I 1 2 = nI 0 ∧ I 2 2 = nI 0) (y t u : Int32) : MmI l yX4_stolen wsX4_stolen 4 [.ref (k.2.1 0), .int y, .int t, .int u] k M I (fun r I' => if isW y (nI 15) = true ∧ (isW t (nI 999) && isW u (nI 3)) = true then I' 0 0 = nI 0 ∧ r = nI 0 else I' 0 0 = nI 1) := by
  refine mmI_of (cc := cX4_stolen) (maxL := 9) hJ (by decide) rfl (Nat.le_of_ble_eq_true rfl) ?_
  intro p e s m args below meth c A ls C0 h hr hl
  have hx := C0.1.1
  have hb := C0.1.2.1
  have hown := C0.1.2.2.2.1
  have hts := C0.1.2.2.2.2
  have hM := hJ.1
  have hl : lv_has ls 9 [(0, _), (1, _), (2, _), (3, _)] := hl
  have hinX4 : ∀ w ∈ u_ws RX4 TX4 8, w ∈ wsX4_stolen := by decide +kernel
  refine lv_aload_n hx hb dX4_stolen_0 rfl (lv_at hl 0 rfl) ?_
  refine lv_iconst (v := nI 0) hx hb dX4_stolen_1 (by decide) ?_
  refine m_put (T := TX4) (N := 8) (ty0 := tyX4) C0 h _ (by omega) (cm0 k M _) hinX4 tyX4_ok nmX4 rfl 0 (by decide) (by decide +kernel) rfl rfl rfl rfl (Nat.le_of_ble_eq_true rfl) (cm0 k M _) dX4_stolen_2 (fun H locs h => ?_)
  refine lv_iload_n hx hb dX4_stolen_5 rfl (lv_at hl 1 rfl) ?_
  refine m_cSI C0 h hl.1 (ct_X4_isKey l k M _ hJ _) gX4_stolen_X4_isKey rfl (by decide +kernel) (n := 1) ⟨Nat.le_of_ble_eq_true rfl, Nat.le_of_ble_eq_true rfl⟩ ⟨Nat.zero_le _, Nat.zero_le _⟩ (Nat.le_of_ble_eq_true rfl) rfl rfl dX4_stolen_6 (fun r6 I6 H locs hp h => ?_)
  obtain ⟨rfl, hI6⟩ := hp
  rw [hI6] at h
  refine lv_if_eq (tgt := 20) hx hb dX4_stolen_9 (by decide) (fun c_9 => ?_) (fun c_9 => ?_)
  · refine lv_aload_n hx hb dX4_stolen_20 rfl (lv_at hl 0 rfl) ?_
    refine lv_iconst (v := nI 1) hx hb dX4_stolen_21 (by decide) ?_
    refine m_cVI C0 h hl.1 _ (by omega) (cm0 k M _) rfl (ct_X4_refuse l k M _ hJ (nI 1)) gX4_stolen_X4_refuse rfl (by decide +kernel) (n := 1) ⟨Nat.le_of_ble_eq_true rfl, Nat.le_of_ble_eq_true rfl⟩ ⟨Nat.zero_le _, Nat.zero_le _⟩ (Nat.le_of_ble_eq_true rfl) rfl rfl dX4_stolen_22 (fun r22 I22 H locs hp h => ?_)
    obtain ⟨rfl, hI22⟩ := hp
    rw [hI22] at h
    exact m_iret C0 h hr dX4_stolen_25 (by first | (rw [if_pos ⟨bI_nz c_9, bI_nz c_17⟩]; exact ⟨up2_s _ _ _ _, rfl⟩) | (rw [if_neg (fun z => by rw [bI_z c_9] at z; exact absurd z.1 (by decide))]; exact up2_s _ _ _ _) | (rw [if_neg (fun z => by rw [bI_z c_17] at z; exact absurd z.2 (by decide))]; exact up2_s _ _ _ _))
  · refine lv_iload_n hx hb dX4_stolen_12 rfl (lv_at hl 2 rfl) ?_
    refine lv_iload_n hx hb dX4_stolen_13 rfl (lv_at hl 3 rfl) ?_
    refine m_cSI C0 h hl.1 (ct_X4_isAt l k M _ hJ _ _) gX4_stolen_X4_isAt rfl (by decide +kernel) (n := 2) ⟨Nat.le_of_ble_eq_true rfl, Nat.le_of_ble_eq_true rfl⟩ ⟨Nat.zero_le _, Nat.zero_le _⟩ (Nat.le_of_ble_eq_true rfl) rfl rfl dX4_stolen_14 (fun r14 I14 H locs hp h => ?_)
    obtain ⟨rfl, hI14⟩ := hp
    rw [hI14] at h
    refine lv_if_ne (tgt := 26) hx hb dX4_stolen_17 (by decide) (fun c_17 => ?_) (fun c_17 => ?_)
    · refine lv_iconst (v := nI 0) hx hb dX4_stolen_26 (by decide) ?_
      refine lv_istore hx hb dX4_stolen_27 hl (by decide) rfl (fun ls hl => ?_)
      have hl : lv_has ls 9 [(4, _), (0, _), (1, _), (2, _), (3, _)] := hl
      refine lv_iconst (v := nI 0) hx hb dX4_stolen_29 (by decide) ?_
      refine lv_istore hx hb dX4_stolen_30 hl (by decide) rfl (fun ls hl => ?_)
      have hl : lv_has ls 9 [(5, _), (4, _), (0, _), (1, _), (2, _), (3, _)] := hl
      refine lv_iload hx hb dX4_stolen_32 (lv_at hl 0 rfl) ?_
      refine lv_aload_n hx hb dX4_stolen_34 rfl (lv_at hl 2 rfl) ?_
      refine m_get (T := TX4) (N := 8) C0 h _ (by omega) (cm0 k M _) hinX4 rfl 1 (by decide) (by decide +kernel) rfl rfl dX4_stolen_35 ?_
      refine m_cVI C0 h hl.1 _ (by omega) (cm1 k M _ (by first | decide | assumption)) rfl (ct_Jx4a65c_size_8abf5 l k M _ hJ 1 (by decide) (by omega)) gX4_stolen_Jx4a65c_size_8abf5 rfl (by decide +kernel) (n := 0) ⟨Nat.le_of_ble_eq_true rfl, Nat.le_of_ble_eq_true rfl⟩ ⟨Nat.zero_le _, Nat.zero_le _⟩ (Nat.le_of_ble_eq_true rfl) rfl rfl dX4_stolen_38 (fun r38 I38 H locs hp h => ?_)
      obtain ⟨rfl, hI38⟩ := hp
      rw [hI38] at h
      rw [up2_n _ _ _ _ (by decide), hE.1]
      refine lv_icmp_ge (tgt := 131) hx hb dX4_stolen_41 (by decide) (fun c_41 => ?_) (fun c_41 => ?_)
      · refine lv_iload hx hb dX4_stolen_131 (lv_at hl 1 rfl) ?_
        exact m_iret C0 h hr dX4_stolen_133 (by first | (rw [if_pos ⟨bI_nz c_9, bI_nz c_17⟩]; exact ⟨up2_s _ _ _ _, rfl⟩) | (rw [if_neg (fun z => by rw [bI_z c_9] at z; exact absurd z.1 (by decide))]; exact up2_s _ _ _ _) | (rw [if_neg (fun z => by rw [bI_z c_17] at z; exact absurd z.2 (by decide))]; exact up2_s _ _ _ _))
      · exact absurd (by decide) c_41
    · refine lv_aload_n hx hb dX4_stolen_20 rfl (lv_at hl 0 rfl) ?_
      refine lv_iconst (v := nI 1) hx hb dX4_stolen_21 (by decide) ?_
      refine m_cVI C0 h hl.1 _ (by omega) (cm0 k M _) rfl (ct_X4_refuse l k M _ hJ (nI 1)) gX4_stolen_X4_refuse rfl (by decide +kernel) (n := 1) ⟨Nat.le_of_ble_eq_true rfl, Nat.le_of_ble_eq_true rfl⟩ ⟨Nat.zero_le _, Nat.zero_le _⟩ (Nat.le_of_ble_eq_true rfl) rfl rfl dX4_stolen_22 (fun r22 I22 H locs hp h => ?_)
      obtain ⟨rfl, hI22⟩ := hp
      rw [hI22] at h
      exact m_iret C0 h hr dX4_stolen_25 (by first | (rw [if_pos ⟨bI_nz c_9, bI_nz c_17⟩]; exact ⟨up2_s _ _ _ _, rfl⟩) | (rw [if_neg (fun z => by rw [bI_z c_9] at z; exact absurd z.1 (by decide))]; exact up2_s _ _ _ _) | (rw [if_neg (fun z => by rw [bI_z c_17] at z; exact absurd z.2 (by decide))]; exact up2_s _ _ _ _))
