/-! 05: the static helpers of SignetRoom -/
set_option maxHeartbeats 4000000 in
set_option maxRecDepth 100000 in
/-- isWithin -/
theorem ct_X3_isWithin (l : Launch) (k : Sk) (M : Nat) (I : IS) (hJ : Ij k M) (a b : Int32) : MtI l yX3_isWithin wsX3_isWithin 0 [.int a, .int b] k M I (fun r I' => r = bI (isW a b) ∧ I' = I) := by
  refine mtIz_of (cc := cX3_isWithin) (maxL := 2) hJ (by decide) rfl (Nat.le_of_ble_eq_true rfl) ?_
  intro p e s m args below meth c A ls C0 h hr hl
  have hx := C0.1.1
  have hb := C0.1.2.1
  have hown := C0.1.2.2.2.1
  have hts := C0.1.2.2.2.2
  have hM := hJ.1
  have hl : lv_has ls 2 [(0, _), (1, _)] := hl
  refine lv_iload_n hx hb dX3_isWithin_0 rfl (lv_at hl 0 rfl) ?_
  refine lv_if_lt (tgt := 13) hx hb dX3_isWithin_1 (by decide) (fun c_1 => ?_) (fun c_1 => ?_)
  · refine lv_iconst (v := nI 0) hx hb dX3_isWithin_13 (by decide) ?_
    exact r_zret C0 h hr dX3_isWithin_14 (by first | exact zb1 | exact zb0 | exact ⟨_, rfl⟩) ⟨by simp [isW, bI_t, bI_f, *], rfl⟩
  · refine lv_iload_n hx hb dX3_isWithin_4 rfl (lv_at hl 0 rfl) ?_
    refine lv_iload_n hx hb dX3_isWithin_5 rfl (lv_at hl 1 rfl) ?_
    refine lv_icmp_gt (tgt := 13) hx hb dX3_isWithin_6 (by decide) (fun c_6 => ?_) (fun c_6 => ?_)
    · refine lv_iconst (v := nI 0) hx hb dX3_isWithin_13 (by decide) ?_
      exact r_zret C0 h hr dX3_isWithin_14 (by first | exact zb1 | exact zb0 | exact ⟨_, rfl⟩) ⟨by simp [isW, bI_t, bI_f, *], rfl⟩
    · refine lv_iconst (v := nI 1) hx hb dX3_isWithin_9 (by decide) ?_
      refine lv_goto (tgt := 14) hx hb dX3_isWithin_10 (by decide) ?_
      exact r_zret C0 h hr dX3_isWithin_14 (by first | exact zb1 | exact zb0 | exact ⟨_, rfl⟩) ⟨by simp [isW, bI_t, bI_f, *], rfl⟩
set_option maxHeartbeats 4000000 in
set_option maxRecDepth 100000 in
theorem ct_X3_isKey (l : Launch) (k : Sk) (M : Nat) (I : IS) (hJ : Ij k M) (a : Int32) : MtI l yX3_isKey wsX3_isKey 1 [.int a] k M I (fun r I' => r = bI (isW a (nI 15)) ∧ I' = I) := by
  refine mtIz_of (cc := cX3_isKey) (maxL := 1) hJ (by decide) rfl (Nat.le_of_ble_eq_true rfl) ?_
  intro p e s m args below meth c A ls C0 h hr hl
  have hx := C0.1.1
  have hb := C0.1.2.1
  have hown := C0.1.2.2.2.1
  have hts := C0.1.2.2.2.2
  have hM := hJ.1
  have hl : lv_has ls 1 [(0, _)] := hl
  refine lv_iload_n hx hb dX3_isKey_0 rfl (lv_at hl 0 rfl) ?_
  refine lv_bipush (v := nI 15) hx hb dX3_isKey_1 (by decide) ?_
  refine r_cSI C0 h hl.1 (ct_X3_isWithin l k M _ hJ _ _) gX3_isKey_X3_isWithin rfl (by decide +kernel) (n := 2) ⟨Nat.le_of_ble_eq_true rfl, Nat.le_of_ble_eq_true rfl⟩ ⟨Nat.zero_le _, Nat.zero_le _⟩ (Nat.le_of_ble_eq_true rfl) rfl rfl dX3_isKey_3 (fun r3 I3 H locs hp h => ?_)
  obtain ⟨rfl, hI3⟩ := hp
  rw [hI3] at h
  exact r_zret C0 h hr dX3_isKey_6 (by first | exact zb1 | exact zb0 | exact ⟨_, rfl⟩) ⟨rfl, rfl⟩
set_option maxHeartbeats 4000000 in
set_option maxRecDepth 100000 in
theorem ct_X3_isSerial (l : Launch) (k : Sk) (M : Nat) (I : IS) (hJ : Ij k M) (a : Int32) : MtI l yX3_isSerial wsX3_isSerial 1 [.int a] k M I (fun r I' => r = bI (isW a (nI 30)) ∧ I' = I) := by
  refine mtIz_of (cc := cX3_isSerial) (maxL := 1) hJ (by decide) rfl (Nat.le_of_ble_eq_true rfl) ?_
  intro p e s m args below meth c A ls C0 h hr hl
  have hx := C0.1.1
  have hb := C0.1.2.1
  have hown := C0.1.2.2.2.1
  have hts := C0.1.2.2.2.2
  have hM := hJ.1
  have hl : lv_has ls 1 [(0, _)] := hl
  refine lv_iload_n hx hb dX3_isSerial_0 rfl (lv_at hl 0 rfl) ?_
  refine lv_bipush (v := nI 30) hx hb dX3_isSerial_1 (by decide) ?_
  refine r_cSI C0 h hl.1 (ct_X3_isWithin l k M _ hJ _ _) gX3_isSerial_X3_isWithin rfl (by decide +kernel) (n := 2) ⟨Nat.le_of_ble_eq_true rfl, Nat.le_of_ble_eq_true rfl⟩ ⟨Nat.zero_le _, Nat.zero_le _⟩ (Nat.le_of_ble_eq_true rfl) rfl rfl dX3_isSerial_3 (fun r3 I3 H locs hp h => ?_)
  obtain ⟨rfl, hI3⟩ := hp
  rw [hI3] at h
  exact r_zret C0 h hr dX3_isSerial_6 (by first | exact zb1 | exact zb0 | exact ⟨_, rfl⟩) ⟨rfl, rfl⟩
set_option maxHeartbeats 4000000 in
set_option maxRecDepth 100000 in
theorem ct_X3_isTime (l : Launch) (k : Sk) (M : Nat) (I : IS) (hJ : Ij k M) (a : Int32) : MtI l yX3_isTime wsX3_isTime 1 [.int a] k M I (fun r I' => r = bI (isW a (nI 999)) ∧ I' = I) := by
  refine mtIz_of (cc := cX3_isTime) (maxL := 1) hJ (by decide) rfl (Nat.le_of_ble_eq_true rfl) ?_
  intro p e s m args below meth c A ls C0 h hr hl
  have hx := C0.1.1
  have hb := C0.1.2.1
  have hown := C0.1.2.2.2.1
  have hts := C0.1.2.2.2.2
  have hM := hJ.1
  have hl : lv_has ls 1 [(0, _)] := hl
  refine lv_iload_n hx hb dX3_isTime_0 rfl (lv_at hl 0 rfl) ?_
  refine lv_sipush (v := nI 999) hx hb dX3_isTime_1 (by decide) ?_
  refine r_cSI C0 h hl.1 (ct_X3_isWithin l k M _ hJ _ _) gX3_isTime_X3_isWithin rfl (by decide +kernel) (n := 2) ⟨Nat.le_of_ble_eq_true rfl, Nat.le_of_ble_eq_true rfl⟩ ⟨Nat.zero_le _, Nat.zero_le _⟩ (Nat.le_of_ble_eq_true rfl) rfl rfl dX3_isTime_4 (fun r4 I4 H locs hp h => ?_)
  obtain ⟨rfl, hI4⟩ := hp
  rw [hI4] at h
  exact r_zret C0 h hr dX3_isTime_7 (by first | exact zb1 | exact zb0 | exact ⟨_, rfl⟩) ⟨rfl, rfl⟩
set_option maxHeartbeats 4000000 in
set_option maxRecDepth 100000 in
theorem ct_X3_isResidue (l : Launch) (k : Sk) (M : Nat) (I : IS) (hJ : Ij k M) (a : Int32) : MtI l yX3_isResidue wsX3_isResidue 1 [.int a] k M I (fun r I' => r = bI (isW a (nI 996)) ∧ I' = I) := by
  refine mtIz_of (cc := cX3_isResidue) (maxL := 1) hJ (by decide) rfl (Nat.le_of_ble_eq_true rfl) ?_
  intro p e s m args below meth c A ls C0 h hr hl
  have hx := C0.1.1
  have hb := C0.1.2.1
  have hown := C0.1.2.2.2.1
  have hts := C0.1.2.2.2.2
  have hM := hJ.1
  have hl : lv_has ls 1 [(0, _)] := hl
  refine lv_iload_n hx hb dX3_isResidue_0 rfl (lv_at hl 0 rfl) ?_
  refine lv_sipush (v := nI 996) hx hb dX3_isResidue_1 (by decide) ?_
  refine r_cSI C0 h hl.1 (ct_X3_isWithin l k M _ hJ _ _) gX3_isResidue_X3_isWithin rfl (by decide +kernel) (n := 2) ⟨Nat.le_of_ble_eq_true rfl, Nat.le_of_ble_eq_true rfl⟩ ⟨Nat.zero_le _, Nat.zero_le _⟩ (Nat.le_of_ble_eq_true rfl) rfl rfl dX3_isResidue_4 (fun r4 I4 H locs hp h => ?_)
  obtain ⟨rfl, hI4⟩ := hp
  rw [hI4] at h
  exact r_zret C0 h hr dX3_isResidue_7 (by first | exact zb1 | exact zb0 | exact ⟨_, rfl⟩) ⟨rfl, rfl⟩
set_option maxHeartbeats 4000000 in
set_option maxRecDepth 100000 in
theorem ct_X3_isName (l : Launch) (k : Sk) (M : Nat) (I : IS) (hJ : Ij k M) (a : Int32) : MtI l yX3_isName wsX3_isName 0 [.int a] k M I (fun r I' => r = bI (isNm a) ∧ I' = I) := by
  refine mtIz_of (cc := cX3_isName) (maxL := 2) hJ (by decide) rfl (Nat.le_of_ble_eq_true rfl) ?_
  intro p e s m args below meth c A ls C0 h hr hl
  have hx := C0.1.1
  have hb := C0.1.2.1
  have hown := C0.1.2.2.2.1
  have hts := C0.1.2.2.2.2
  have hM := hJ.1
  have hl : lv_has ls 2 [(0, _)] := hl
  refine lv_iload_n hx hb dX3_isName_0 rfl (lv_at hl 0 rfl) ?_
  refine lv_iconst (v := nI 1) hx hb dX3_isName_1 (by decide) ?_
  refine lv_icmp_lt (tgt := 12) hx hb dX3_isName_2 (by decide) (fun c_2 => ?_) (fun c_2 => ?_)
  · refine lv_iconst (v := nI 0) hx hb dX3_isName_12 (by decide) ?_
    
    exact r_zret C0 h hr dX3_isName_13 (by first | exact zb1 | exact zb0 | exact ⟨_, rfl⟩) ⟨by first | (rw [isNm, if_pos c_2]; rfl) | (rw [isNm, if_neg c_2, if_pos (fa_nle c_9)]; rfl), rfl⟩
  · refine lv_iload_n hx hb dX3_isName_5 rfl (lv_at hl 0 rfl) ?_
    refine lv_sipush (v := nI 9999) hx hb dX3_isName_6 (by decide) ?_
    refine lv_icmp_le (tgt := 14) hx hb dX3_isName_9 (by decide) (fun c_9 => ?_) (fun c_9 => ?_)
    · refine lv_iload_n hx hb dX3_isName_14 rfl (lv_at hl 0 rfl) ?_
      refine lv_istore_n hx hb dX3_isName_15 rfl hl (by decide) rfl (fun ls hl => ?_)
      have hl : lv_has ls 2 [(1, _), (0, _)] := hl
      obtain ⟨j0, hj0, hj1⟩ := nI_of2 (n := 9999) (M := nI 9999) (by decide) (nlt1 c_2) c_9
      have hv0 : nmF 10000 j0 = isNm a := by
        unfold isNm
        rw [if_neg c_2, if_neg (fun q => by rw [Int32.lt_iff_toInt_lt] at q; rw [Int32.le_iff_toInt_le] at c_9; omega), hj1, nI_clamp (by omega)]
      have hl : lv_has ls 2 [(1, .int (nI j0)), (0, .int a)] := by rw [← hj1]; exact hl
      have key16 : ∀ (n : Nat) (j : Nat), j < n → j < 10000 → nmF n j = isNm a → ∀ (H : Heap) (locs : List Loc) (ls : Array Slot), HX k M A s I H locs → lv_has ls 2 [(1, .int (nI j)), (0, .int a)] → W p l e (Rm 0) s m args below meth c H locs 0 0 (MQ below (va_Qi (fun r I' => r = bI (isNm a) ∧ I' = I) (EnX k M) A) args s 0 0 A) (F0 m 16 ls []) := by
        intro n
        induction n with
        | zero =>
          intro j hn hj hv H locs ls h hl
          exact absurd hn (Nat.not_lt_zero _)
        | succ n ih16 =>
          intro j hn hj hv H locs ls h hl
          refine lv_iload_n hx hb dX3_isName_16 rfl (lv_at hl 0 rfl) ?_
          refine lv_if_le (tgt := 37) hx hb dX3_isName_17 (by decide) (fun c_17 => ?_) (fun c_17 => ?_)
          · refine lv_iconst (v := nI 1) hx hb dX3_isName_37 (by decide) ?_
            exact r_zret C0 h hr dX3_isName_38 (by first | exact zb1 | exact zb0 | exact ⟨_, rfl⟩) ⟨by rw [← hv, nmF, if_pos (nn0 (by omega) c_17)]; rfl, rfl⟩
          · refine lv_iload_n hx hb dX3_isName_20 rfl (lv_at hl 0 rfl) ?_
            refine lv_bipush (v := nI 10) hx hb dX3_isName_21 (by decide) ?_
            refine lv_irem hx hb dX3_isName_23 (by decide) ?_
            rw [pk_rem (by omega) (by omega) (by omega)]
            refine lv_if_ne (tgt := 29) hx hb dX3_isName_24 (by decide) (fun c_24 => ?_) (fun c_24 => ?_)
            · refine lv_iload_n hx hb dX3_isName_29 rfl (lv_at hl 0 rfl) ?_
              refine lv_bipush (v := nI 10) hx hb dX3_isName_30 (by decide) ?_
              refine lv_idiv hx hb dX3_isName_32 (by decide) ?_
              rw [pk_div (by omega) (by omega) (by omega)]
              refine lv_istore_n hx hb dX3_isName_33 rfl hl (by decide) rfl (fun ls hl => ?_)
              have hl : lv_has ls 2 [(1, _), (0, _)] := hl
              refine lv_goto (tgt := 16) hx hb dX3_isName_34 (by decide) ?_
              exact ih16 (j / 10) (by have := nn1 c_17; omega) (by omega) (by rw [← hv, nmF, if_neg (nn1 c_17), if_neg (nz1 c_24)]) _ _ _ h (lv_sub hl [0, 1] rfl)
            · refine lv_iconst (v := nI 0) hx hb dX3_isName_27 (by decide) ?_
              exact r_zret C0 h hr dX3_isName_28 (by first | exact zb1 | exact zb0 | exact ⟨_, rfl⟩) ⟨by rw [← hv, nmF, if_neg (nn1 c_17), if_pos (nz0 (by omega) (c_24))]; rfl, rfl⟩
      exact key16 10000 j0 (by omega) (by omega) hv0 _ _ _ h (lv_sub hl [0, 1] rfl)
    · refine lv_iconst (v := nI 0) hx hb dX3_isName_12 (by decide) ?_
      
      exact r_zret C0 h hr dX3_isName_13 (by first | exact zb1 | exact zb0 | exact ⟨_, rfl⟩) ⟨by first | (rw [isNm, if_pos c_2]; rfl) | (rw [isNm, if_neg c_2, if_pos (fa_nle c_9)]; rfl), rfl⟩
set_option maxHeartbeats 4000000 in
set_option maxRecDepth 100000 in
theorem ct_X3_isNameOrZero (l : Launch) (k : Sk) (M : Nat) (I : IS) (hJ : Ij k M) (a : Int32) : MtI l yX3_isNameOrZero wsX3_isNameOrZero 1 [.int a] k M I (fun r I' => r = bI (isN0 a) ∧ I' = I) := by
  refine mtIz_of (cc := cX3_isNameOrZero) (maxL := 1) hJ (by decide) rfl (Nat.le_of_ble_eq_true rfl) ?_
  intro p e s m args below meth c A ls C0 h hr hl
  have hx := C0.1.1
  have hb := C0.1.2.1
  have hown := C0.1.2.2.2.1
  have hts := C0.1.2.2.2.2
  have hM := hJ.1
  have hl : lv_has ls 1 [(0, _)] := hl
  refine lv_iload_n hx hb dX3_isNameOrZero_0 rfl (lv_at hl 0 rfl) ?_
  refine lv_if_eq (tgt := 11) hx hb dX3_isNameOrZero_1 (by decide) (fun c_1 => ?_) (fun c_1 => ?_)
  · refine lv_iconst (v := nI 1) hx hb dX3_isNameOrZero_11 (by decide) ?_
    refine lv_goto (tgt := 16) hx hb dX3_isNameOrZero_12 (by decide) ?_
    exact r_zret C0 h hr dX3_isNameOrZero_16 (by first | exact zb1 | exact zb0 | exact ⟨_, rfl⟩) ⟨by simp [isN0, bI_0, bI_t, bI_f, *] <;> simp_all [bI_0, bI_t, bI_f], rfl⟩
  · refine lv_iload_n hx hb dX3_isNameOrZero_4 rfl (lv_at hl 0 rfl) ?_
    refine r_cSI C0 h hl.1 (ct_X3_isName l k M _ hJ _) gX3_isNameOrZero_X3_isName rfl (by decide +kernel) (n := 1) ⟨Nat.le_of_ble_eq_true rfl, Nat.le_of_ble_eq_true rfl⟩ ⟨Nat.zero_le _, Nat.zero_le _⟩ (Nat.le_of_ble_eq_true rfl) rfl rfl dX3_isNameOrZero_5 (fun r5 I5 H locs hp h => ?_)
    obtain ⟨rfl, hI5⟩ := hp
    rw [hI5] at h
    refine lv_if_eq (tgt := 15) hx hb dX3_isNameOrZero_8 (by decide) (fun c_8 => ?_) (fun c_8 => ?_)
    · refine lv_iconst (v := nI 0) hx hb dX3_isNameOrZero_15 (by decide) ?_
      exact r_zret C0 h hr dX3_isNameOrZero_16 (by first | exact zb1 | exact zb0 | exact ⟨_, rfl⟩) ⟨by simp [isN0, bI_0, bI_t, bI_f, *] <;> simp_all [bI_0, bI_t, bI_f], rfl⟩
    · refine lv_iconst (v := nI 1) hx hb dX3_isNameOrZero_11 (by decide) ?_
      refine lv_goto (tgt := 16) hx hb dX3_isNameOrZero_12 (by decide) ?_
      exact r_zret C0 h hr dX3_isNameOrZero_16 (by first | exact zb1 | exact zb0 | exact ⟨_, rfl⟩) ⟨by simp [isN0, bI_0, bI_t, bI_f, *] <;> simp_all [bI_0, bI_t, bI_f], rfl⟩
set_option maxHeartbeats 4000000 in
set_option maxRecDepth 100000 in
theorem ct_X3_isBelow (l : Launch) (k : Sk) (M : Nat) (I : IS) (hJ : Ij k M) (a o : Int32) : MtI l yX3_isBelow wsX3_isBelow 0 [.int a, .int o] k M I (fun r I' => r = bI (isUn a o) ∧ I' = I) := by
  refine mtIz_of (cc := cX3_isBelow) (maxL := 3) hJ (by decide) rfl (Nat.le_of_ble_eq_true rfl) ?_
  intro p e s m args below meth c A ls C0 h hr hl
  have hx := C0.1.1
  have hb := C0.1.2.1
  have hown := C0.1.2.2.2.1
  have hts := C0.1.2.2.2.2
  have hM := hJ.1
  have hl : lv_has ls 3 [(0, _), (1, _)] := hl
  refine lv_iload_n hx hb dX3_isBelow_0 rfl (lv_at hl 0 rfl) ?_
  refine lv_istore_n hx hb dX3_isBelow_1 rfl hl (by decide) rfl (fun ls hl => ?_)
  have hl : lv_has ls 3 [(2, _), (0, _), (1, _)] := hl
  obtain ⟨j0, q1, q2, q3⟩ := isUn_start a
  have key2 : ∀ (n : Nat) (j : Nat) (x : Int32), j < n → j < 2147483648 → (x = nI j ∨ (x ≤ 0 ∧ j = 0)) → unF n j o = isUn a o → ∀ (H : Heap) (locs : List Loc) (ls : Array Slot), HX k M A s I H locs → lv_has ls 3 [(2, .int x), (0, .int a), (1, .int o)] → W p l e (Rm 0) s m args below meth c H locs 0 0 (MQ below (va_Qi (fun r I' => r = bI (isUn a o) ∧ I' = I) (EnX k M) A) args s 0 0 A) (F0 m 2 ls []) := by
    intro n
    induction n with
    | zero =>
      intro j x hn hj hxj hv H locs ls h hl
      exact absurd hn (Nat.not_lt_zero _)
    | succ n ih2 =>
      intro j x hn hj hxj hv H locs ls h hl
      refine lv_iload_n hx hb dX3_isBelow_2 rfl (lv_at hl 0 rfl) ?_
      refine lv_if_le (tgt := 21) hx hb dX3_isBelow_3 (by decide) (fun c_3 => ?_) (fun c_3 => ?_)
      · have hj0 : j = 0 := by
          rcases hxj with rfl | q
          · exact nn0 hj c_3
          · exact q.2
        subst hj0
        refine lv_iload_n hx hb dX3_isBelow_21 rfl (lv_at hl 2 rfl) ?_
        refine lv_if_ne (tgt := 29) hx hb dX3_isBelow_22 (by decide) (fun c_22 => ?_) (fun c_22 => ?_)
        · refine lv_iconst (v := nI 0) hx hb dX3_isBelow_29 (by decide) ?_
          exact r_zret C0 h hr dX3_isBelow_30 (by first | exact zb1 | exact zb0 | exact ⟨_, rfl⟩) ⟨by rw [← hv, unF_0]; simp_all [bI_t, bI_f], rfl⟩
        · refine lv_iconst (v := nI 1) hx hb dX3_isBelow_25 (by decide) ?_
          refine lv_goto (tgt := 30) hx hb dX3_isBelow_26 (by decide) ?_
          exact r_zret C0 h hr dX3_isBelow_30 (by first | exact zb1 | exact zb0 | exact ⟨_, rfl⟩) ⟨by rw [← hv, unF_0]; simp_all [bI_t, bI_f], rfl⟩
      · obtain rfl : x = nI j := hxj.resolve_right (fun q => c_3 q.1)
        refine lv_iload_n hx hb dX3_isBelow_6 rfl (lv_at hl 0 rfl) ?_
        refine lv_iload_n hx hb dX3_isBelow_7 rfl (lv_at hl 2 rfl) ?_
        refine lv_icmp_ne (tgt := 13) hx hb dX3_isBelow_8 (by decide) (fun c_8 => ?_) (fun c_8 => ?_)
        · refine lv_iload_n hx hb dX3_isBelow_13 rfl (lv_at hl 0 rfl) ?_
          refine lv_bipush (v := nI 10) hx hb dX3_isBelow_14 (by decide) ?_
          refine lv_idiv hx hb dX3_isBelow_16 (by decide) ?_
          rw [pk_div (by omega) (by omega) (by omega)]
          refine lv_istore_n hx hb dX3_isBelow_17 rfl hl (by decide) rfl (fun ls hl => ?_)
          have hl : lv_has ls 3 [(2, _), (0, _), (1, _)] := hl
          refine lv_goto (tgt := 2) hx hb dX3_isBelow_18 (by decide) ?_
          exact ih2 (j / 10) _ (by have := nn1 c_3; omega) (by omega) (Or.inl rfl) (by rw [← hv, unF, if_neg (nn1 c_3), if_neg c_8]) _ _ _ h (lv_sub hl [0, 1, 2] rfl)
        · refine lv_iconst (v := nI 1) hx hb dX3_isBelow_11 (by decide) ?_
          exact r_zret C0 h hr dX3_isBelow_12 (by first | exact zb1 | exact zb0 | exact ⟨_, rfl⟩) ⟨by rw [← hv, unF, if_neg (nn1 c_3), if_pos (c_8)]; rfl, rfl⟩
  exact key2 2147483648 j0 a q1 q1 q2 (by rw [← q3]; rfl) _ _ _ h (lv_sub hl [0, 1, 2] rfl)
set_option maxHeartbeats 4000000 in
set_option maxRecDepth 100000 in
theorem ct_X3_sealFor (l : Launch) (k : Sk) (M : Nat) (I : IS) (hJ : Ij k M) (a b : Int32) : MtI l yX3_sealFor wsX3_sealFor 0 [.int a, .int b] k M I (fun r I' => r = sealF a b ∧ I' = I) := by
  refine mtI_of (cc := cX3_sealFor) (maxL := 2) hJ (by decide) rfl (Nat.le_of_ble_eq_true rfl) ?_
  intro p e s m args below meth c A ls C0 h hr hl
  have hx := C0.1.1
  have hb := C0.1.2.1
  have hown := C0.1.2.2.2.1
  have hts := C0.1.2.2.2.2
  have hM := hJ.1
  have hl : lv_has ls 2 [(0, _), (1, _)] := hl
  refine lv_iload_n hx hb dX3_sealFor_0 rfl (lv_at hl 0 rfl) ?_
  refine lv_iconst (v := nI 2) hx hb dX3_sealFor_1 (by decide) ?_
  refine lv_iload_n hx hb dX3_sealFor_2 rfl (lv_at hl 1 rfl) ?_
  refine lv_imul hx hb dX3_sealFor_3 ?_
  refine lv_iconst (v := nI 3) hx hb dX3_sealFor_4 (by decide) ?_
  refine lv_iadd hx hb dX3_sealFor_5 ?_
  refine lv_imul hx hb dX3_sealFor_6 ?_
  refine lv_sipush (v := nI 997) hx hb dX3_sealFor_7 (by decide) ?_
  refine lv_irem hx hb dX3_sealFor_10 (by decide) ?_
  exact r_iret C0 h hr dX3_sealFor_11 ⟨rfl, rfl⟩
set_option maxHeartbeats 4000000 in
set_option maxRecDepth 100000 in
theorem ct_X3_mix (l : Launch) (k : Sk) (M : Nat) (I : IS) (hJ : Ij k M) (a b : Int32) : MtI l yX3_mix wsX3_mix 0 [.int a, .int b] k M I (fun r I' => r = mixF a b ∧ I' = I) := by
  refine mtI_of (cc := cX3_mix) (maxL := 2) hJ (by decide) rfl (Nat.le_of_ble_eq_true rfl) ?_
  intro p e s m args below meth c A ls C0 h hr hl
  have hx := C0.1.1
  have hb := C0.1.2.1
  have hown := C0.1.2.2.2.1
  have hts := C0.1.2.2.2.2
  have hM := hJ.1
  have hl : lv_has ls 2 [(0, _), (1, _)] := hl
  refine lv_iload_n hx hb dX3_mix_0 rfl (lv_at hl 0 rfl) ?_
  refine lv_bipush (v := nI 31) hx hb dX3_mix_1 (by decide) ?_
  refine lv_imul hx hb dX3_mix_3 ?_
  refine lv_iload_n hx hb dX3_mix_4 rfl (lv_at hl 1 rfl) ?_
  refine lv_iadd hx hb dX3_mix_5 ?_
  refine lv_sipush (v := nI 997) hx hb dX3_mix_6 (by decide) ?_
  refine lv_irem hx hb dX3_mix_9 (by decide) ?_
  exact r_iret C0 h hr dX3_mix_10 ⟨rfl, rfl⟩
