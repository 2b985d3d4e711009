/-! 14: what is written, and the plain questions -/
set_option maxHeartbeats 4000000 in
set_option maxRecDepth 100000 in
theorem ct_J6_bitCount_0f7a4 (l : Launch) (k : Sk) (M : Nat) (I : IS) (hJ : Ij k M) (x : Int32) : MtI l yJ6_bitCount_0f7a4 wsJ6_bitCount_0f7a4 0 [.int x] k M I (fun r I' => r = bcF x ∧ I' = I) := by
  refine mtI_of (cc := cJ6_bitCount_0f7a4) (maxL := 1) hJ (by decide) rfl (Nat.le_of_ble_eq_true rfl) ?_
  intro p e s m args below meth c A ls C0 h hr hl
  have hx := C0.1.1
  have hb := C0.1.2.1
  have hown := C0.1.2.2.2.1
  have hts := C0.1.2.2.2.2
  have hM := hJ.1
  have hl : lv_has ls 1 [(0, _)] := hl
  refine lv_iload_n hx hb dJ6_bitCount_0f7a4_0 rfl (lv_at hl 0 rfl) ?_
  refine lv_iload_n hx hb dJ6_bitCount_0f7a4_1 rfl (lv_at hl 0 rfl) ?_
  refine lv_iconst (v := nI 1) hx hb dJ6_bitCount_0f7a4_2 (by decide) ?_
  refine lv_iushr hx hb dJ6_bitCount_0f7a4_3 rfl ?_
  refine lv_ldcw (v := 1431655765) hx hb hown (hts (.constant RJ6 265 1431655765) (by decide +kernel)) dJ6_bitCount_0f7a4_4 ?_
  refine lv_iand hx hb dJ6_bitCount_0f7a4_7 ?_
  refine lv_isub hx hb dJ6_bitCount_0f7a4_8 ?_
  refine lv_istore_n hx hb dJ6_bitCount_0f7a4_9 rfl hl (by decide) rfl (fun ls hl => ?_)
  have hl : lv_has ls 1 [(0, _)] := hl
  refine lv_iload_n hx hb dJ6_bitCount_0f7a4_10 rfl (lv_at hl 0 rfl) ?_
  refine lv_ldcw (v := 858993459) hx hb hown (hts (.constant RJ6 266 858993459) (by decide +kernel)) dJ6_bitCount_0f7a4_11 ?_
  refine lv_iand hx hb dJ6_bitCount_0f7a4_14 ?_
  refine lv_iload_n hx hb dJ6_bitCount_0f7a4_15 rfl (lv_at hl 0 rfl) ?_
  refine lv_iconst (v := nI 2) hx hb dJ6_bitCount_0f7a4_16 (by decide) ?_
  refine lv_iushr hx hb dJ6_bitCount_0f7a4_17 rfl ?_
  refine lv_ldcw (v := 858993459) hx hb hown (hts (.constant RJ6 266 858993459) (by decide +kernel)) dJ6_bitCount_0f7a4_18 ?_
  refine lv_iand hx hb dJ6_bitCount_0f7a4_21 ?_
  refine lv_iadd hx hb dJ6_bitCount_0f7a4_22 ?_
  refine lv_istore_n hx hb dJ6_bitCount_0f7a4_23 rfl hl (by decide) rfl (fun ls hl => ?_)
  have hl : lv_has ls 1 [(0, _)] := hl
  refine lv_iload_n hx hb dJ6_bitCount_0f7a4_24 rfl (lv_at hl 0 rfl) ?_
  refine lv_iload_n hx hb dJ6_bitCount_0f7a4_25 rfl (lv_at hl 0 rfl) ?_
  refine lv_iconst (v := nI 4) hx hb dJ6_bitCount_0f7a4_26 (by decide) ?_
  refine lv_iushr hx hb dJ6_bitCount_0f7a4_27 rfl ?_
  refine lv_iadd hx hb dJ6_bitCount_0f7a4_28 ?_
  refine lv_ldcw (v := 252645135) hx hb hown (hts (.constant RJ6 267 252645135) (by decide +kernel)) dJ6_bitCount_0f7a4_29 ?_
  refine lv_iand hx hb dJ6_bitCount_0f7a4_32 ?_
  refine lv_istore_n hx hb dJ6_bitCount_0f7a4_33 rfl hl (by decide) rfl (fun ls hl => ?_)
  have hl : lv_has ls 1 [(0, _)] := hl
  refine lv_iload_n hx hb dJ6_bitCount_0f7a4_34 rfl (lv_at hl 0 rfl) ?_
  refine lv_iload_n hx hb dJ6_bitCount_0f7a4_35 rfl (lv_at hl 0 rfl) ?_
  refine lv_bipush (v := nI 8) hx hb dJ6_bitCount_0f7a4_36 (by decide) ?_
  refine lv_iushr hx hb dJ6_bitCount_0f7a4_38 rfl ?_
  refine lv_iadd hx hb dJ6_bitCount_0f7a4_39 ?_
  refine lv_istore_n hx hb dJ6_bitCount_0f7a4_40 rfl hl (by decide) rfl (fun ls hl => ?_)
  have hl : lv_has ls 1 [(0, _)] := hl
  refine lv_iload_n hx hb dJ6_bitCount_0f7a4_41 rfl (lv_at hl 0 rfl) ?_
  refine lv_iload_n hx hb dJ6_bitCount_0f7a4_42 rfl (lv_at hl 0 rfl) ?_
  refine lv_bipush (v := nI 16) hx hb dJ6_bitCount_0f7a4_43 (by decide) ?_
  refine lv_iushr hx hb dJ6_bitCount_0f7a4_45 rfl ?_
  refine lv_iadd hx hb dJ6_bitCount_0f7a4_46 ?_
  refine lv_istore_n hx hb dJ6_bitCount_0f7a4_47 rfl hl (by decide) rfl (fun ls hl => ?_)
  have hl : lv_has ls 1 [(0, _)] := hl
  refine lv_iload_n hx hb dJ6_bitCount_0f7a4_48 rfl (lv_at hl 0 rfl) ?_
  refine lv_bipush (v := nI 63) hx hb dJ6_bitCount_0f7a4_49 (by decide) ?_
  refine lv_iand hx hb dJ6_bitCount_0f7a4_51 ?_
  exact r_iret C0 h hr dJ6_bitCount_0f7a4_52 ⟨rfl, rfl⟩
set_option maxHeartbeats 4000000 in
set_option maxRecDepth 100000 in
theorem ct_X3_pairCount (l : Launch) (k : Sk) (M : Nat) (I : IS) (hJ : Ij k M) (cn : Nat) (hc20 : cn ≤ 20) (hcn : I 0 4 = nI cn) (hS : SvH I cn) : MtI l yX3_pairCount wsX3_pairCount 2 [.ref (k.2.1 0)] k M I (fun r I' => r = pcF (vw I) cn cn ∧ I' = I) := by
  refine mtI_of (cc := cX3_pairCount) (maxL := 3) hJ (by decide) rfl (Nat.le_of_ble_eq_true rfl) ?_
  intro p e s m args below meth c A ls C0 h hr hl
  have hx := C0.1.1
  have hb := C0.1.2.1
  have hown := C0.1.2.2.2.1
  have hts := C0.1.2.2.2.2
  have hM := hJ.1
  have hl : lv_has ls 3 [(0, _)] := hl
  have hinX1 : ∀ w ∈ u_ws RX1 TX1 7, w ∈ wsX3_pairCount := by decide +kernel
  have hinX3 : ∀ w ∈ u_ws RX3 TX3 7, w ∈ wsX3_pairCount := by decide +kernel
  refine lv_iconst (v := nI 0) hx hb dX3_pairCount_0 (by decide) ?_
  refine lv_istore_n hx hb dX3_pairCount_1 rfl hl (by decide) rfl (fun ls hl => ?_)
  have hl : lv_has ls 3 [(1, _), (0, _)] := hl
  refine lv_iconst (v := nI 0) hx hb dX3_pairCount_2 (by decide) ?_
  refine lv_istore_n hx hb dX3_pairCount_3 rfl hl (by decide) rfl (fun ls hl => ?_)
  have hl : lv_has ls 3 [(2, _), (1, _), (0, _)] := hl
  have key4 : ∀ (n : Nat) (j : Nat), 21 - j < n → j ≤ cn → ∀ (H : Heap) (locs : List Loc) (ls : Array Slot), HX k M A s I H locs → lv_has ls 3 [(2, .int (nI j)), (1, .int (pcF (vw I) cn j)), (0, .ref (k.2.1 0))] → W p l e (Rm 2) s m args below meth c H locs 0 0 (MQ below (va_Qi (fun r I' => r = pcF (vw I) cn cn ∧ I' = I) (EnX k M) A) args s 0 0 A) (F0 m 4 ls []) := by
    intro n
    induction n with
    | zero =>
      intro j hn hj H locs ls h hl
      exact absurd hn (Nat.not_lt_zero _)
    | succ n ih4 =>
      intro j hn hj H locs ls h hl
      refine lv_iload_n hx hb dX3_pairCount_4 rfl (lv_at hl 0 rfl) ?_
      refine lv_aload_n hx hb dX3_pairCount_5 rfl (lv_at hl 2 rfl) ?_
      refine r_get (T := TX3) (N := 7) C0 h _ (by omega) (ce0 k _) hinX3 rfl 4 (by decide) (by decide +kernel) rfl rfl dX3_pairCount_6 ?_
      rw [hcn]
      refine lv_icmp_ge (tgt := 33) hx hb dX3_pairCount_9 (by decide) (fun c_9 => ?_) (fun c_9 => ?_)
      · have hjc : j = cn := by have := (nI_leI (by omega) (by omega)).mp c_9; omega
        refine lv_iload_n hx hb dX3_pairCount_33 rfl (lv_at hl 1 rfl) ?_
        exact r_iret C0 h hr dX3_pairCount_34 ⟨by rw [hjc], rfl⟩
      · have hjc : j < cn := Nat.lt_of_not_le (fun q => c_9 (nI_le q (by omega)))
        refine lv_iload_n hx hb dX3_pairCount_12 rfl (lv_at hl 1 rfl) ?_
        refine lv_aload_n hx hb dX3_pairCount_13 rfl (lv_at hl 2 rfl) ?_
        refine r_get (T := TX3) (N := 7) C0 h _ (by omega) (ce0 k _) hinX3 rfl 2 (by decide) (by decide +kernel) rfl rfl dX3_pairCount_14 ?_
        refine r_getN (T := TX1) (N := 7) C0 h _ (by omega) (ce3 k _) hinX1 rfl 0 (by decide) (by decide +kernel) rfl rfl dX3_pairCount_17 ?_
        refine lv_iload_n hx hb dX3_pairCount_20 rfl (lv_at hl 0 rfl) ?_
        refine r_iald C0 h 5 (by omega) isA_5 _ (by show _ < 20; omega) dX3_pairCount_21 ?_
        rw [hS.2.1 j hjc]
        refine r_cSI C0 h hl.1 (ct_J6_bitCount_0f7a4 l k M _ hJ _) gX3_pairCount_J6_bitCount_0f7a4 rfl (by decide +kernel) (n := 1) ⟨Nat.le_of_ble_eq_true rfl, Nat.le_of_ble_eq_true rfl⟩ ⟨Nat.zero_le _, Nat.zero_le _⟩ (Nat.le_of_ble_eq_true rfl) rfl rfl dX3_pairCount_22 (fun r22 I22 H locs hp h => ?_)
        obtain ⟨rfl, hI22⟩ := hp
        rw [hI22] at h
        refine lv_iadd hx hb dX3_pairCount_25 ?_
        refine lv_istore_n hx hb dX3_pairCount_26 rfl hl (by decide) rfl (fun ls hl => ?_)
        have hl : lv_has ls 3 [(1, _), (2, _), (0, _)] := hl
        refine lv_iinc (v := nI (j + 1)) hx hb dX3_pairCount_27 hl (k := 1) rfl (nI_1 _) (by decide) rfl (fun ls hl => ?_)
        have hl : lv_has ls 3 [(2, _), (1, _), (0, _)] := hl
        refine lv_goto (tgt := 4) hx hb dX3_pairCount_30 (by decide) ?_
        exact ih4 (j + 1) (by omega) (by omega) _ _ _ h (lv_sub hl [0, 1, 2] rfl)
  exact key4 100 0 (by omega) (by omega) _ _ _ h (lv_sub hl [0, 1, 2] rfl)
set_option maxHeartbeats 4000000 in
set_option maxRecDepth 100000 in
theorem ct_X3_countOf (l : Launch) (k : Sk) (M : Nat) (I : IS) (hJ : Ij k M) (cn : Nat) (hc20 : cn ≤ 20) (hcn : I 0 4 = nI cn) (lcn : Nat) (hl8 : lcn ≤ 8) (hlcn : I 0 5 = nI lcn) (hS : SvH I cn) (w : Nat) (hw : w ≤ 3) : MtI l yX3_countOf wsX3_countOf 3 [.ref (k.2.1 0), .int (nI w)] k M I (fun r I' => r = mnF (vw I) cn lcn w ∧ I' = I) := by
  refine mtI_of (cc := cX3_countOf) (maxL := 2) hJ (by decide) rfl (Nat.le_of_ble_eq_true rfl) ?_
  intro p e s m args below meth c A ls C0 h hr hl
  have hx := C0.1.1
  have hb := C0.1.2.1
  have hown := C0.1.2.2.2.1
  have hts := C0.1.2.2.2.2
  have hM := hJ.1
  have hl : lv_has ls 2 [(0, _), (1, _)] := hl
  have hinX3 : ∀ w ∈ u_ws RX3 TX3 7, w ∈ wsX3_countOf := by decide +kernel
  refine lv_iload_n hx hb dX3_countOf_0 rfl (lv_at hl 1 rfl) ?_
  rcases (show w = 0 ∨ w = 1 ∨ w = 2 ∨ w = 3 by omega) with rfl | rfl | rfl | rfl
  · refine lv_tableIn (tgt := 28) hx hb dX3_countOf_1 (by decide) (by decide) rfl (by decide) ?_
    refine lv_aload_n hx hb dX3_countOf_28 rfl (lv_at hl 0 rfl) ?_
    refine r_get (T := TX3) (N := 7) C0 h _ (by omega) (ce0 k _) hinX3 rfl 4 (by decide) (by decide +kernel) rfl rfl dX3_countOf_29 ?_
    rw [hcn]
    exact r_iret C0 h hr dX3_countOf_32 ⟨rfl, rfl⟩
  · refine lv_tableIn (tgt := 33) hx hb dX3_countOf_1 (by decide) (by decide) rfl (by decide) ?_
    refine lv_aload_n hx hb dX3_countOf_33 rfl (lv_at hl 0 rfl) ?_
    refine r_cVI C0 h hl.1 _ (by omega) (ce0 k _) rfl (ct_X3_anchorSet l k M _ hJ cn hc20 hcn) gX3_countOf_X3_anchorSet rfl (by decide +kernel) (n := 0) ⟨Nat.le_of_ble_eq_true rfl, Nat.le_of_ble_eq_true rfl⟩ ⟨Nat.zero_le _, Nat.zero_le _⟩ (Nat.le_of_ble_eq_true rfl) rfl rfl dX3_countOf_34 (fun r34 I34 H locs hp h => ?_)
    obtain ⟨rfl, hI34⟩ := hp
    rw [hI34] at h
    rw [← anN_vw I hc20]
    refine r_cSI C0 h hl.1 (ct_J6_bitCount_0f7a4 l k M _ hJ _) gX3_countOf_J6_bitCount_0f7a4 rfl (by decide +kernel) (n := 1) ⟨Nat.le_of_ble_eq_true rfl, Nat.le_of_ble_eq_true rfl⟩ ⟨Nat.zero_le _, Nat.zero_le _⟩ (Nat.le_of_ble_eq_true rfl) rfl rfl dX3_countOf_37 (fun r37 I37 H locs hp h => ?_)
    obtain ⟨rfl, hI37⟩ := hp
    rw [hI37] at h
    exact r_iret C0 h hr dX3_countOf_40 ⟨rfl, rfl⟩
  · refine lv_tableIn (tgt := 41) hx hb dX3_countOf_1 (by decide) (by decide) rfl (by decide) ?_
    refine lv_aload_n hx hb dX3_countOf_41 rfl (lv_at hl 0 rfl) ?_
    refine r_get (T := TX3) (N := 7) C0 h _ (by omega) (ce0 k _) hinX3 rfl 5 (by decide) (by decide +kernel) rfl rfl dX3_countOf_42 ?_
    rw [hlcn]
    exact r_iret C0 h hr dX3_countOf_45 ⟨rfl, rfl⟩
  · refine lv_tableOut (tgt := 46) hx hb dX3_countOf_1 (by decide) (by decide) ?_
    refine lv_aload_n hx hb dX3_countOf_46 rfl (lv_at hl 0 rfl) ?_
    refine r_cVI C0 h hl.1 _ (by omega) (ce0 k _) rfl (ct_X3_pairCount l k M _ hJ cn hc20 hcn hS) gX3_countOf_X3_pairCount rfl (by decide +kernel) (n := 0) ⟨Nat.le_of_ble_eq_true rfl, Nat.le_of_ble_eq_true rfl⟩ ⟨Nat.zero_le _, Nat.zero_le _⟩ (Nat.le_of_ble_eq_true rfl) rfl rfl dX3_countOf_47 (fun r47 I47 H locs hp h => ?_)
    obtain ⟨rfl, hI47⟩ := hp
    rw [hI47] at h
    exact r_iret C0 h hr dX3_countOf_50 ⟨rfl, rfl⟩
set_option maxHeartbeats 4000000 in
set_option maxRecDepth 100000 in
theorem ct_X3_letter (l : Launch) (k : Sk) (M : Nat) (I : IS) (hJ : Ij k M) (cn : Nat) (hcn : I 0 4 = nI cn) (hcl : cn < 20) (a b9 c9 d9 : Int32) (h1 : isNm a = true) (h2 : isNm b9 = true) (h3 : isW c9 (nI 15) = true) (h4 : isW d9 (nI 30) = true) : MtI l yX3_letter wsX3_letter 12 [.ref (k.2.1 0), .int a, .int b9, .int c9, .int d9] k M I (fun r I' => r = nI cn ∧ I' = up2 (up2 (up2 (up2 (up2 I (10 + cn) 0 a) (10 + cn) 1 b9) (10 + cn) 2 c9) (10 + cn) 3 d9) 0 4 (nI (cn + 1))) := by
  refine mtI_of (cc := cX3_letter) (maxL := 6) hJ (by decide) rfl (Nat.le_of_ble_eq_true rfl) ?_
  intro p e s m args below meth c A ls C0 h hr hl
  have hx := C0.1.1
  have hb := C0.1.2.1
  have hown := C0.1.2.2.2.1
  have hts := C0.1.2.2.2.2
  have hM := hJ.1
  have hl : lv_has ls 6 [(0, _), (1, _), (2, _), (3, _), (4, _)] := hl
  have hinX3 : ∀ w ∈ u_ws RX3 TX3 7, w ∈ wsX3_letter := by decide +kernel
  refine lv_iload_n hx hb dX3_letter_0 rfl (lv_at hl 1 rfl) ?_
  refine r_cSI C0 h hl.1 (ct_X3_isName l k M _ hJ _) gX3_letter_X3_isName rfl (by decide +kernel) (n := 1) ⟨Nat.le_of_ble_eq_true rfl, Nat.le_of_ble_eq_true rfl⟩ ⟨Nat.zero_le _, Nat.zero_le _⟩ (Nat.le_of_ble_eq_true rfl) rfl rfl dX3_letter_1 (fun r1 I1 H locs hp h => ?_)
  obtain ⟨rfl, hI1⟩ := hp
  rw [hI1] at h
  refine lv_if_eq (tgt := 33) hx hb dX3_letter_4 (by decide) (fun c_4 => ?_) (fun c_4 => ?_)
  · exact absurd (show ¬ bI (isNm a) = 0 by rw [h1]; decide) (fun z => z c_4)
  · refine lv_iload_n hx hb dX3_letter_7 rfl (lv_at hl 2 rfl) ?_
    refine r_cSI C0 h hl.1 (ct_X3_isName l k M _ hJ _) gX3_letter_X3_isName rfl (by decide +kernel) (n := 1) ⟨Nat.le_of_ble_eq_true rfl, Nat.le_of_ble_eq_true rfl⟩ ⟨Nat.zero_le _, Nat.zero_le _⟩ (Nat.le_of_ble_eq_true rfl) rfl rfl dX3_letter_8 (fun r8 I8 H locs hp h => ?_)
    obtain ⟨rfl, hI8⟩ := hp
    rw [hI8] at h
    refine lv_if_eq (tgt := 33) hx hb dX3_letter_11 (by decide) (fun c_11 => ?_) (fun c_11 => ?_)
    · exact absurd (show ¬ bI (isNm b9) = 0 by rw [h2]; decide) (fun z => z c_11)
    · refine lv_iload_n hx hb dX3_letter_14 rfl (lv_at hl 3 rfl) ?_
      refine r_cSI C0 h hl.1 (ct_X3_isKey l k M _ hJ _) gX3_letter_X3_isKey rfl (by decide +kernel) (n := 1) ⟨Nat.le_of_ble_eq_true rfl, Nat.le_of_ble_eq_true rfl⟩ ⟨Nat.zero_le _, Nat.zero_le _⟩ (Nat.le_of_ble_eq_true rfl) rfl rfl dX3_letter_15 (fun r15 I15 H locs hp h => ?_)
      obtain ⟨rfl, hI15⟩ := hp
      rw [hI15] at h
      refine lv_if_eq (tgt := 33) hx hb dX3_letter_18 (by decide) (fun c_18 => ?_) (fun c_18 => ?_)
      · exact absurd (show ¬ bI (isW c9 (nI 15)) = 0 by rw [h3]; decide) (fun z => z c_18)
      · refine lv_iload hx hb dX3_letter_21 (lv_at hl 4 rfl) ?_
        refine r_cSI C0 h hl.1 (ct_X3_isSerial l k M _ hJ _) gX3_letter_X3_isSerial rfl (by decide +kernel) (n := 1) ⟨Nat.le_of_ble_eq_true rfl, Nat.le_of_ble_eq_true rfl⟩ ⟨Nat.zero_le _, Nat.zero_le _⟩ (Nat.le_of_ble_eq_true rfl) rfl rfl dX3_letter_23 (fun r23 I23 H locs hp h => ?_)
        obtain ⟨rfl, hI23⟩ := hp
        rw [hI23] at h
        refine lv_if_eq (tgt := 33) hx hb dX3_letter_26 (by decide) (fun c_26 => ?_) (fun c_26 => ?_)
        · exact absurd (show ¬ bI (isW d9 (nI 30)) = 0 by rw [h4]; decide) (fun z => z c_26)
        · refine lv_iconst (v := nI 1) hx hb dX3_letter_29 (by decide) ?_
          refine lv_goto (tgt := 34) hx hb dX3_letter_30 (by decide) ?_
          refine r_cSV C0 h hl.1 (ok_X3_refuseUnless l k M _ hJ _ (by decide)) gX3_letter_X3_refuseUnless rfl (by decide +kernel) (n := 1) ⟨Nat.le_of_ble_eq_true rfl, Nat.le_of_ble_eq_true rfl⟩ ⟨Nat.zero_le _, Nat.zero_le _⟩ (Nat.le_of_ble_eq_true rfl) rfl rfl dX3_letter_34 (fun I34 H locs hp h => ?_)
          rw [hp] at h
          refine lv_aload_n hx hb dX3_letter_37 rfl (lv_at hl 0 rfl) ?_
          refine r_get (T := TX3) (N := 7) C0 h _ (by omega) (ce0 k _) hinX3 rfl 4 (by decide) (by decide +kernel) rfl rfl dX3_letter_38 ?_
          rw [hcn]
          refine lv_bipush (v := nI 20) hx hb dX3_letter_41 (by decide) ?_
          refine lv_icmp_lt (tgt := 56) hx hb dX3_letter_43 (by decide) (fun c_43 => ?_) (fun c_43 => ?_)
          · refine lv_aload_n hx hb dX3_letter_56 rfl (lv_at hl 0 rfl) ?_
            refine r_get (T := TX3) (N := 7) C0 h _ (by omega) (ce0 k _) hinX3 rfl 4 (by decide) (by decide +kernel) rfl rfl dX3_letter_57 ?_
            rw [hcn]
            refine lv_istore hx hb dX3_letter_60 hl (by decide) rfl (fun ls hl => ?_)
            have hl : lv_has ls 6 [(5, _), (0, _), (1, _), (2, _), (3, _), (4, _)] := hl
            refine lv_aload_n hx hb dX3_letter_62 rfl (lv_at hl 1 rfl) ?_
            refine r_get (T := TX3) (N := 7) C0 h _ (by omega) (ce0 k _) hinX3 rfl 0 (by decide) (by decide +kernel) rfl rfl dX3_letter_63 ?_
            refine lv_iload hx hb dX3_letter_66 (lv_at hl 0 rfl) ?_
            refine r_aaldL C0 h _ (by omega) dX3_letter_68 ?_
            refine lv_iload_n hx hb dX3_letter_69 rfl (lv_at hl 2 rfl) ?_
            refine lv_iload_n hx hb dX3_letter_70 rfl (lv_at hl 3 rfl) ?_
            refine lv_iload_n hx hb dX3_letter_71 rfl (lv_at hl 4 rfl) ?_
            refine lv_iload hx hb dX3_letter_72 (lv_at hl 5 rfl) ?_
            refine r_cVNV C0 h hl.1 _ (by omega) (ceL k _ (by omega)) rfl (ct_X2_write l k M _ hJ cn hcl a b9 c9 d9) gX3_letter_X2_write_n59 rfl (by decide +kernel) (by decide +kernel) (by decide +kernel) (by decide +kernel) (by decide +kernel) (n := 4) ⟨Nat.le_of_ble_eq_true rfl, Nat.le_of_ble_eq_true rfl⟩ ⟨Nat.zero_le _, Nat.zero_le _⟩ (Nat.le_of_ble_eq_true rfl) rfl rfl dX3_letter_74 (fun I74 H locs hp h => ?_)
            rw [hp] at h
            refine lv_aload_n hx hb dX3_letter_77 rfl (lv_at hl 1 rfl) ?_
            refine lv_iload hx hb dX3_letter_78 (lv_at hl 0 rfl) ?_
            refine lv_iconst (v := nI 1) hx hb dX3_letter_80 (by decide) ?_
            refine lv_iadd hx hb dX3_letter_81 ?_
            rw [nI_add]
            refine r_put (T := TX3) (N := 7) (ty0 := tyX3) C0 h _ (by omega) (ce0 k _) hinX3 tyX3_ok nmX3 rfl 4 (by decide) (by decide +kernel) rfl rfl rfl rfl (Nat.le_of_ble_eq_true rfl) (ce0 k _) dX3_letter_82 (fun H locs h => ?_)
            refine lv_iload hx hb dX3_letter_85 (lv_at hl 0 rfl) ?_
            exact r_iret C0 h hr dX3_letter_87 ⟨rfl, rfl⟩
          · exact absurd (nI_lt hcl (by omega) : nI cn < nI 20) c_43
set_option maxHeartbeats 4000000 in
set_option maxRecDepth 100000 in
theorem ct_X3_times (l : Launch) (k : Sk) (M : Nat) (I : IS) (hJ : Ij k M) (cn : Nat) (hc20 : cn ≤ 20) (hcn : I 0 4 = nI cn) (i : Nat) (hi : i < cn) (f t : Int32) (h1 : isW f (nI 999) = true) (h2 : isW t (nI 999) = true) (h3 : f ≤ t) : MtI l yX3_times wsX3_times 12 [.ref (k.2.1 0), .int (nI i), .int f, .int t] k M I (fun r I' => r = prLf (up2 (up2 I (10 + i) 4 f) (10 + i) 5 t (10 + i)) ∧ I' = up2 (up2 I (10 + i) 4 f) (10 + i) 5 t) := by
  refine mtI_of (cc := cX3_times) (maxL := 4) hJ (by decide) rfl (Nat.le_of_ble_eq_true rfl) ?_
  intro p e s m args below meth c A ls C0 h hr hl
  have hx := C0.1.1
  have hb := C0.1.2.1
  have hown := C0.1.2.2.2.1
  have hts := C0.1.2.2.2.2
  have hM := hJ.1
  have hl : lv_has ls 4 [(0, _), (1, _), (2, _), (3, _)] := hl
  have hinX2 : ∀ w ∈ u_ws RX2 TX2 12, w ∈ wsX3_times := by decide +kernel
  have hinX3 : ∀ w ∈ u_ws RX3 TX3 7, w ∈ wsX3_times := by decide +kernel
  refine lv_aload_n hx hb dX3_times_0 rfl (lv_at hl 0 rfl) ?_
  refine lv_iload_n hx hb dX3_times_1 rfl (lv_at hl 1 rfl) ?_
  refine r_cVV C0 h hl.1 _ (by omega) (ce0 k _) rfl (ok_X3_refuseUnlessLetter l k M _ hJ cn hcn _ (isLt_at hi (by omega))) gX3_times_X3_refuseUnlessLetter rfl (by decide +kernel) (n := 1) ⟨Nat.le_of_ble_eq_true rfl, Nat.le_of_ble_eq_true rfl⟩ ⟨Nat.zero_le _, Nat.zero_le _⟩ (Nat.le_of_ble_eq_true rfl) rfl rfl dX3_times_2 (fun I2 H locs hp h => ?_)
  rw [hp] at h
  refine lv_iload_n hx hb dX3_times_5 rfl (lv_at hl 2 rfl) ?_
  refine r_cSI C0 h hl.1 (ct_X3_isTime l k M _ hJ _) gX3_times_X3_isTime rfl (by decide +kernel) (n := 1) ⟨Nat.le_of_ble_eq_true rfl, Nat.le_of_ble_eq_true rfl⟩ ⟨Nat.zero_le _, Nat.zero_le _⟩ (Nat.le_of_ble_eq_true rfl) rfl rfl dX3_times_6 (fun r6 I6 H locs hp h => ?_)
  obtain ⟨rfl, hI6⟩ := hp
  rw [hI6] at h
  refine lv_if_eq (tgt := 28) hx hb dX3_times_9 (by decide) (fun c_9 => ?_) (fun c_9 => ?_)
  · exact absurd (show ¬ bI (isW f (nI 999)) = 0 by rw [h1]; decide) (fun z => z c_9)
  · refine lv_iload_n hx hb dX3_times_12 rfl (lv_at hl 3 rfl) ?_
    refine r_cSI C0 h hl.1 (ct_X3_isTime l k M _ hJ _) gX3_times_X3_isTime rfl (by decide +kernel) (n := 1) ⟨Nat.le_of_ble_eq_true rfl, Nat.le_of_ble_eq_true rfl⟩ ⟨Nat.zero_le _, Nat.zero_le _⟩ (Nat.le_of_ble_eq_true rfl) rfl rfl dX3_times_13 (fun r13 I13 H locs hp h => ?_)
    obtain ⟨rfl, hI13⟩ := hp
    rw [hI13] at h
    refine lv_if_eq (tgt := 28) hx hb dX3_times_16 (by decide) (fun c_16 => ?_) (fun c_16 => ?_)
    · exact absurd (show ¬ bI (isW t (nI 999)) = 0 by rw [h2]; decide) (fun z => z c_16)
    · refine lv_iload_n hx hb dX3_times_19 rfl (lv_at hl 2 rfl) ?_
      refine lv_iload_n hx hb dX3_times_20 rfl (lv_at hl 3 rfl) ?_
      refine lv_icmp_gt (tgt := 28) hx hb dX3_times_21 (by decide) (fun c_21 => ?_) (fun c_21 => ?_)
      · exact absurd c_21 (fa_ge h3)
      · refine lv_iconst (v := nI 1) hx hb dX3_times_24 (by decide) ?_
        refine lv_goto (tgt := 29) hx hb dX3_times_25 (by decide) ?_
        refine r_cSV C0 h hl.1 (ok_X3_refuseUnless l k M _ hJ _ (by decide)) gX3_times_X3_refuseUnless rfl (by decide +kernel) (n := 1) ⟨Nat.le_of_ble_eq_true rfl, Nat.le_of_ble_eq_true rfl⟩ ⟨Nat.zero_le _, Nat.zero_le _⟩ (Nat.le_of_ble_eq_true rfl) rfl rfl dX3_times_29 (fun I29 H locs hp h => ?_)
        rw [hp] at h
        refine lv_aload_n hx hb dX3_times_32 rfl (lv_at hl 0 rfl) ?_
        refine r_get (T := TX3) (N := 7) C0 h _ (by omega) (ce0 k _) hinX3 rfl 0 (by decide) (by decide +kernel) rfl rfl dX3_times_33 ?_
        refine lv_iload_n hx hb dX3_times_36 rfl (lv_at hl 1 rfl) ?_
        refine r_aaldL C0 h _ (by omega) dX3_times_37 ?_
        refine lv_iload_n hx hb dX3_times_38 rfl (lv_at hl 2 rfl) ?_
        refine r_putN (T := TX2) (N := 12) (ty0 := tyX2) C0 h _ (by omega) (ceL k _ (by omega)) hinX2 tyX2_ok nmX2 rfl 4 (by decide) (by decide +kernel) rfl rfl rfl rfl (Nat.le_of_ble_eq_true rfl) (ceL k _ (by omega)) dX3_times_39 (fun H locs h => ?_)
        refine lv_aload_n hx hb dX3_times_42 rfl (lv_at hl 0 rfl) ?_
        refine r_get (T := TX3) (N := 7) C0 h _ (by omega) (ce0 k _) hinX3 rfl 0 (by decide) (by decide +kernel) rfl rfl dX3_times_43 ?_
        refine lv_iload_n hx hb dX3_times_46 rfl (lv_at hl 1 rfl) ?_
        refine r_aaldL C0 h _ (by omega) dX3_times_47 ?_
        refine lv_iload_n hx hb dX3_times_48 rfl (lv_at hl 3 rfl) ?_
        refine r_putN (T := TX2) (N := 12) (ty0 := tyX2) C0 h _ (by omega) (ceL k _ (by omega)) hinX2 tyX2_ok nmX2 rfl 5 (by decide) (by decide +kernel) rfl rfl rfl rfl (Nat.le_of_ble_eq_true rfl) (ceL k _ (by omega)) dX3_times_49 (fun H locs h => ?_)
        refine lv_aload_n hx hb dX3_times_52 rfl (lv_at hl 0 rfl) ?_
        refine r_get (T := TX3) (N := 7) C0 h _ (by omega) (ce0 k _) hinX3 rfl 0 (by decide) (by decide +kernel) rfl rfl dX3_times_53 ?_
        refine lv_iload_n hx hb dX3_times_56 rfl (lv_at hl 1 rfl) ?_
        refine r_aaldL C0 h _ (by omega) dX3_times_57 ?_
        refine r_cVNI C0 h hl.1 _ (by omega) (ceL k _ (by omega)) rfl (ct_X2_print l k M _ hJ _ (by omega)) gX3_times_X2_print_n76 rfl (by decide +kernel) (by decide +kernel) (by decide +kernel) (by decide +kernel) (by decide +kernel) (n := 0) ⟨Nat.le_of_ble_eq_true rfl, Nat.le_of_ble_eq_true rfl⟩ ⟨Nat.zero_le _, Nat.zero_le _⟩ (Nat.le_of_ble_eq_true rfl) rfl rfl dX3_times_58 (fun r58 I58 H locs hp h => ?_)
        obtain ⟨rfl, hI58⟩ := hp
        rw [hI58] at h
        exact r_iret C0 h hr dX3_times_61 ⟨rfl, rfl⟩
set_option maxHeartbeats 4000000 in
set_option maxRecDepth 100000 in
theorem ct_X3_master (l : Launch) (k : Sk) (M : Nat) (I : IS) (hJ : Ij k M) (cn : Nat) (hc20 : cn ≤ 20) (hcn : I 0 4 = nI cn) (i : Nat) (hi : i < cn) (b9 : Bool) (t : Int32) (h1 : isW t (nI 5) = true) : MtI l yX3_master wsX3_master 12 [.ref (k.2.1 0), .int (nI i), .int (bI b9), .int t] k M I (fun r I' => r = prLf (up2 (up2 I (10 + i) 6 (bI b9)) (10 + i) 7 t (10 + i)) ∧ I' = up2 (up2 I (10 + i) 6 (bI b9)) (10 + i) 7 t) := by
  refine mtI_of (cc := cX3_master) (maxL := 4) hJ (by decide) rfl (Nat.le_of_ble_eq_true rfl) ?_
  intro p e s m args below meth c A ls C0 h hr hl
  have hx := C0.1.1
  have hb := C0.1.2.1
  have hown := C0.1.2.2.2.1
  have hts := C0.1.2.2.2.2
  have hM := hJ.1
  have hl : lv_has ls 4 [(0, _), (1, _), (2, _), (3, _)] := hl
  have hinX2 : ∀ w ∈ u_ws RX2 TX2 12, w ∈ wsX3_master := by decide +kernel
  have hinX3 : ∀ w ∈ u_ws RX3 TX3 7, w ∈ wsX3_master := by decide +kernel
  refine lv_aload_n hx hb dX3_master_0 rfl (lv_at hl 0 rfl) ?_
  refine lv_iload_n hx hb dX3_master_1 rfl (lv_at hl 1 rfl) ?_
  refine r_cVV C0 h hl.1 _ (by omega) (ce0 k _) rfl (ok_X3_refuseUnlessLetter l k M _ hJ cn hcn _ (isLt_at hi (by omega))) gX3_master_X3_refuseUnlessLetter rfl (by decide +kernel) (n := 1) ⟨Nat.le_of_ble_eq_true rfl, Nat.le_of_ble_eq_true rfl⟩ ⟨Nat.zero_le _, Nat.zero_le _⟩ (Nat.le_of_ble_eq_true rfl) rfl rfl dX3_master_2 (fun I2 H locs hp h => ?_)
  rw [hp] at h
  refine lv_iload_n hx hb dX3_master_5 rfl (lv_at hl 3 rfl) ?_
  refine lv_iconst (v := nI 5) hx hb dX3_master_6 (by decide) ?_
  refine r_cSI C0 h hl.1 (ct_X3_isWithin l k M _ hJ _ _) gX3_master_X3_isWithin rfl (by decide +kernel) (n := 2) ⟨Nat.le_of_ble_eq_true rfl, Nat.le_of_ble_eq_true rfl⟩ ⟨Nat.zero_le _, Nat.zero_le _⟩ (Nat.le_of_ble_eq_true rfl) rfl rfl dX3_master_7 (fun r7 I7 H locs hp h => ?_)
  obtain ⟨rfl, hI7⟩ := hp
  rw [hI7] at h
  refine r_cSV C0 h hl.1 (ok_X3_refuseUnless l k M _ hJ _ (show ¬ bI (isW t (nI 5)) = 0 by rw [h1]; decide)) gX3_master_X3_refuseUnless rfl (by decide +kernel) (n := 1) ⟨Nat.le_of_ble_eq_true rfl, Nat.le_of_ble_eq_true rfl⟩ ⟨Nat.zero_le _, Nat.zero_le _⟩ (Nat.le_of_ble_eq_true rfl) rfl rfl dX3_master_10 (fun I10 H locs hp h => ?_)
  rw [hp] at h
  refine lv_aload_n hx hb dX3_master_13 rfl (lv_at hl 0 rfl) ?_
  refine r_get (T := TX3) (N := 7) C0 h _ (by omega) (ce0 k _) hinX3 rfl 0 (by decide) (by decide +kernel) rfl rfl dX3_master_14 ?_
  refine lv_iload_n hx hb dX3_master_17 rfl (lv_at hl 1 rfl) ?_
  refine r_aaldL C0 h _ (by omega) dX3_master_18 ?_
  refine lv_iload_n hx hb dX3_master_19 rfl (lv_at hl 2 rfl) ?_
  refine r_putN (T := TX2) (N := 12) (ty0 := tyX2) C0 h _ (by omega) (ceL k _ (by omega)) hinX2 tyX2_ok nmX2 rfl 6 (by decide) (by decide +kernel) rfl rfl (nar_bI _) (fit_bI _) (Nat.le_of_ble_eq_true rfl) (ceL k _ (by omega)) dX3_master_20 (fun H locs h => ?_)
  refine lv_aload_n hx hb dX3_master_23 rfl (lv_at hl 0 rfl) ?_
  refine r_get (T := TX3) (N := 7) C0 h _ (by omega) (ce0 k _) hinX3 rfl 0 (by decide) (by decide +kernel) rfl rfl dX3_master_24 ?_
  refine lv_iload_n hx hb dX3_master_27 rfl (lv_at hl 1 rfl) ?_
  refine r_aaldL C0 h _ (by omega) dX3_master_28 ?_
  refine lv_iload_n hx hb dX3_master_29 rfl (lv_at hl 3 rfl) ?_
  refine r_putN (T := TX2) (N := 12) (ty0 := tyX2) C0 h _ (by omega) (ceL k _ (by omega)) hinX2 tyX2_ok nmX2 rfl 7 (by decide) (by decide +kernel) rfl rfl rfl rfl (Nat.le_of_ble_eq_true rfl) (ceL k _ (by omega)) dX3_master_30 (fun H locs h => ?_)
  refine lv_aload_n hx hb dX3_master_33 rfl (lv_at hl 0 rfl) ?_
  refine r_get (T := TX3) (N := 7) C0 h _ (by omega) (ce0 k _) hinX3 rfl 0 (by decide) (by decide +kernel) rfl rfl dX3_master_34 ?_
  refine lv_iload_n hx hb dX3_master_37 rfl (lv_at hl 1 rfl) ?_
  refine r_aaldL C0 h _ (by omega) dX3_master_38 ?_
  refine r_cVNI C0 h hl.1 _ (by omega) (ceL k _ (by omega)) rfl (ct_X2_print l k M _ hJ _ (by omega)) gX3_master_X2_print_n76 rfl (by decide +kernel) (by decide +kernel) (by decide +kernel) (by decide +kernel) (by decide +kernel) (n := 0) ⟨Nat.le_of_ble_eq_true rfl, Nat.le_of_ble_eq_true rfl⟩ ⟨Nat.zero_le _, Nat.zero_le _⟩ (Nat.le_of_ble_eq_true rfl) rfl rfl dX3_master_39 (fun r39 I39 H locs hp h => ?_)
  obtain ⟨rfl, hI39⟩ := hp
  rw [hI39] at h
  exact r_iret C0 h hr dX3_master_42 ⟨rfl, rfl⟩
set_option maxHeartbeats 4000000 in
set_option maxRecDepth 100000 in
theorem ct_X3_good (l : Launch) (k : Sk) (M : Nat) (I : IS) (hJ : Ij k M) (cn : Nat) (hc20 : cn ≤ 20) (hcn : I 0 4 = nI cn) (i : Nat) (hi : i < cn) (f t : Int32) (h1 : isW f (nI 15) = true) (h2 : isN0 t = true) : MtI l yX3_good wsX3_good 12 [.ref (k.2.1 0), .int (nI i), .int f, .int t] k M I (fun r I' => r = prLf (up2 (up2 I (10 + i) 8 f) (10 + i) 9 t (10 + i)) ∧ I' = up2 (up2 I (10 + i) 8 f) (10 + i) 9 t) := by
  refine mtI_of (cc := cX3_good) (maxL := 4) hJ (by decide) rfl (Nat.le_of_ble_eq_true rfl) ?_
  intro p e s m args below meth c A ls C0 h hr hl
  have hx := C0.1.1
  have hb := C0.1.2.1
  have hown := C0.1.2.2.2.1
  have hts := C0.1.2.2.2.2
  have hM := hJ.1
  have hl : lv_has ls 4 [(0, _), (1, _), (2, _), (3, _)] := hl
  have hinX2 : ∀ w ∈ u_ws RX2 TX2 12, w ∈ wsX3_good := by decide +kernel
  have hinX3 : ∀ w ∈ u_ws RX3 TX3 7, w ∈ wsX3_good := by decide +kernel
  refine lv_aload_n hx hb dX3_good_0 rfl (lv_at hl 0 rfl) ?_
  refine lv_iload_n hx hb dX3_good_1 rfl (lv_at hl 1 rfl) ?_
  refine r_cVV C0 h hl.1 _ (by omega) (ce0 k _) rfl (ok_X3_refuseUnlessLetter l k M _ hJ cn hcn _ (isLt_at hi (by omega))) gX3_good_X3_refuseUnlessLetter rfl (by decide +kernel) (n := 1) ⟨Nat.le_of_ble_eq_true rfl, Nat.le_of_ble_eq_true rfl⟩ ⟨Nat.zero_le _, Nat.zero_le _⟩ (Nat.le_of_ble_eq_true rfl) rfl rfl dX3_good_2 (fun I2 H locs hp h => ?_)
  rw [hp] at h
  refine lv_iload_n hx hb dX3_good_5 rfl (lv_at hl 2 rfl) ?_
  refine lv_bipush (v := nI 15) hx hb dX3_good_6 (by decide) ?_
  refine r_cSI C0 h hl.1 (ct_X3_isWithin l k M _ hJ _ _) gX3_good_X3_isWithin rfl (by decide +kernel) (n := 2) ⟨Nat.le_of_ble_eq_true rfl, Nat.le_of_ble_eq_true rfl⟩ ⟨Nat.zero_le _, Nat.zero_le _⟩ (Nat.le_of_ble_eq_true rfl) rfl rfl dX3_good_8 (fun r8 I8 H locs hp h => ?_)
  obtain ⟨rfl, hI8⟩ := hp
  rw [hI8] at h
  refine lv_if_eq (tgt := 25) hx hb dX3_good_11 (by decide) (fun c_11 => ?_) (fun c_11 => ?_)
  · exact absurd (show ¬ bI (isW f (nI 15)) = 0 by rw [h1]; decide) (fun z => z c_11)
  · refine lv_iload_n hx hb dX3_good_14 rfl (lv_at hl 3 rfl) ?_
    refine r_cSI C0 h hl.1 (ct_X3_isNameOrZero l k M _ hJ _) gX3_good_X3_isNameOrZero rfl (by decide +kernel) (n := 1) ⟨Nat.le_of_ble_eq_true rfl, Nat.le_of_ble_eq_true rfl⟩ ⟨Nat.zero_le _, Nat.zero_le _⟩ (Nat.le_of_ble_eq_true rfl) rfl rfl dX3_good_15 (fun r15 I15 H locs hp h => ?_)
    obtain ⟨rfl, hI15⟩ := hp
    rw [hI15] at h
    refine lv_if_eq (tgt := 25) hx hb dX3_good_18 (by decide) (fun c_18 => ?_) (fun c_18 => ?_)
    · exact absurd (show ¬ bI (isN0 t) = 0 by rw [h2]; decide) (fun z => z c_18)
    · refine lv_iconst (v := nI 1) hx hb dX3_good_21 (by decide) ?_
      refine lv_goto (tgt := 26) hx hb dX3_good_22 (by decide) ?_
      refine r_cSV C0 h hl.1 (ok_X3_refuseUnless l k M _ hJ _ (by decide)) gX3_good_X3_refuseUnless rfl (by decide +kernel) (n := 1) ⟨Nat.le_of_ble_eq_true rfl, Nat.le_of_ble_eq_true rfl⟩ ⟨Nat.zero_le _, Nat.zero_le _⟩ (Nat.le_of_ble_eq_true rfl) rfl rfl dX3_good_26 (fun I26 H locs hp h => ?_)
      rw [hp] at h
      refine lv_aload_n hx hb dX3_good_29 rfl (lv_at hl 0 rfl) ?_
      refine r_get (T := TX3) (N := 7) C0 h _ (by omega) (ce0 k _) hinX3 rfl 0 (by decide) (by decide +kernel) rfl rfl dX3_good_30 ?_
      refine lv_iload_n hx hb dX3_good_33 rfl (lv_at hl 1 rfl) ?_
      refine r_aaldL C0 h _ (by omega) dX3_good_34 ?_
      refine lv_iload_n hx hb dX3_good_35 rfl (lv_at hl 2 rfl) ?_
      refine r_putN (T := TX2) (N := 12) (ty0 := tyX2) C0 h _ (by omega) (ceL k _ (by omega)) hinX2 tyX2_ok nmX2 rfl 8 (by decide) (by decide +kernel) rfl rfl rfl rfl (Nat.le_of_ble_eq_true rfl) (ceL k _ (by omega)) dX3_good_36 (fun H locs h => ?_)
      refine lv_aload_n hx hb dX3_good_39 rfl (lv_at hl 0 rfl) ?_
      refine r_get (T := TX3) (N := 7) C0 h _ (by omega) (ce0 k _) hinX3 rfl 0 (by decide) (by decide +kernel) rfl rfl dX3_good_40 ?_
      refine lv_iload_n hx hb dX3_good_43 rfl (lv_at hl 1 rfl) ?_
      refine r_aaldL C0 h _ (by omega) dX3_good_44 ?_
      refine lv_iload_n hx hb dX3_good_45 rfl (lv_at hl 3 rfl) ?_
      refine r_putN (T := TX2) (N := 12) (ty0 := tyX2) C0 h _ (by omega) (ceL k _ (by omega)) hinX2 tyX2_ok nmX2 rfl 9 (by decide) (by decide +kernel) rfl rfl rfl rfl (Nat.le_of_ble_eq_true rfl) (ceL k _ (by omega)) dX3_good_46 (fun H locs h => ?_)
      refine lv_aload_n hx hb dX3_good_49 rfl (lv_at hl 0 rfl) ?_
      refine r_get (T := TX3) (N := 7) C0 h _ (by omega) (ce0 k _) hinX3 rfl 0 (by decide) (by decide +kernel) rfl rfl dX3_good_50 ?_
      refine lv_iload_n hx hb dX3_good_53 rfl (lv_at hl 1 rfl) ?_
      refine r_aaldL C0 h _ (by omega) dX3_good_54 ?_
      refine r_cVNI C0 h hl.1 _ (by omega) (ceL k _ (by omega)) rfl (ct_X2_print l k M _ hJ _ (by omega)) gX3_good_X2_print_n76 rfl (by decide +kernel) (by decide +kernel) (by decide +kernel) (by decide +kernel) (by decide +kernel) (n := 0) ⟨Nat.le_of_ble_eq_true rfl, Nat.le_of_ble_eq_true rfl⟩ ⟨Nat.zero_le _, Nat.zero_le _⟩ (Nat.le_of_ble_eq_true rfl) rfl rfl dX3_good_55 (fun r55 I55 H locs hp h => ?_)
      obtain ⟨rfl, hI55⟩ := hp
      rw [hI55] at h
      exact r_iret C0 h hr dX3_good_58 ⟨rfl, rfl⟩
set_option maxHeartbeats 4000000 in
set_option maxRecDepth 100000 in
theorem ct_X3_sign (l : Launch) (k : Sk) (M : Nat) (I : IS) (hJ : Ij k M) (cn : Nat) (hc20 : cn ≤ 20) (hcn : I 0 4 = nI cn) (i : Nat) (hi : i < cn) (t : Int32) (h1 : isW t (nI 15) = true) : MtI l yX3_sign wsX3_sign 12 [.ref (k.2.1 0), .int (nI i), .int t] k M I (fun r I' => r = sealF (prLf (I (10 + i))) t ∧ I' = up2 I (10 + i) 10 (sealF (prLf (I (10 + i))) t)) := by
  refine mtI_of (cc := cX3_sign) (maxL := 3) hJ (by decide) rfl (Nat.le_of_ble_eq_true rfl) ?_
  intro p e s m args below meth c A ls C0 h hr hl
  have hx := C0.1.1
  have hb := C0.1.2.1
  have hown := C0.1.2.2.2.1
  have hts := C0.1.2.2.2.2
  have hM := hJ.1
  have hl : lv_has ls 3 [(0, _), (1, _), (2, _)] := hl
  have hinX2 : ∀ w ∈ u_ws RX2 TX2 12, w ∈ wsX3_sign := by decide +kernel
  have hinX3 : ∀ w ∈ u_ws RX3 TX3 7, w ∈ wsX3_sign := by decide +kernel
  refine lv_aload_n hx hb dX3_sign_0 rfl (lv_at hl 0 rfl) ?_
  refine lv_iload_n hx hb dX3_sign_1 rfl (lv_at hl 1 rfl) ?_
  refine r_cVV C0 h hl.1 _ (by omega) (ce0 k _) rfl (ok_X3_refuseUnlessLetter l k M _ hJ cn hcn _ (isLt_at hi (by omega))) gX3_sign_X3_refuseUnlessLetter rfl (by decide +kernel) (n := 1) ⟨Nat.le_of_ble_eq_true rfl, Nat.le_of_ble_eq_true rfl⟩ ⟨Nat.zero_le _, Nat.zero_le _⟩ (Nat.le_of_ble_eq_true rfl) rfl rfl dX3_sign_2 (fun I2 H locs hp h => ?_)
  rw [hp] at h
  refine lv_iload_n hx hb dX3_sign_5 rfl (lv_at hl 2 rfl) ?_
  refine r_cSI C0 h hl.1 (ct_X3_isKey l k M _ hJ _) gX3_sign_X3_isKey rfl (by decide +kernel) (n := 1) ⟨Nat.le_of_ble_eq_true rfl, Nat.le_of_ble_eq_true rfl⟩ ⟨Nat.zero_le _, Nat.zero_le _⟩ (Nat.le_of_ble_eq_true rfl) rfl rfl dX3_sign_6 (fun r6 I6 H locs hp h => ?_)
  obtain ⟨rfl, hI6⟩ := hp
  rw [hI6] at h
  refine r_cSV C0 h hl.1 (ok_X3_refuseUnless l k M _ hJ _ (show ¬ bI (isW t (nI 15)) = 0 by rw [h1]; decide)) gX3_sign_X3_refuseUnless rfl (by decide +kernel) (n := 1) ⟨Nat.le_of_ble_eq_true rfl, Nat.le_of_ble_eq_true rfl⟩ ⟨Nat.zero_le _, Nat.zero_le _⟩ (Nat.le_of_ble_eq_true rfl) rfl rfl dX3_sign_9 (fun I9 H locs hp h => ?_)
  rw [hp] at h
  refine lv_aload_n hx hb dX3_sign_12 rfl (lv_at hl 0 rfl) ?_
  refine r_get (T := TX3) (N := 7) C0 h _ (by omega) (ce0 k _) hinX3 rfl 0 (by decide) (by decide +kernel) rfl rfl dX3_sign_13 ?_
  refine lv_iload_n hx hb dX3_sign_16 rfl (lv_at hl 1 rfl) ?_
  refine r_aaldL C0 h _ (by omega) dX3_sign_17 ?_
  refine lv_aload_n hx hb dX3_sign_18 rfl (lv_at hl 0 rfl) ?_
  refine r_get (T := TX3) (N := 7) C0 h _ (by omega) (ce0 k _) hinX3 rfl 0 (by decide) (by decide +kernel) rfl rfl dX3_sign_19 ?_
  refine lv_iload_n hx hb dX3_sign_22 rfl (lv_at hl 1 rfl) ?_
  refine r_aaldL C0 h _ (by omega) dX3_sign_23 ?_
  refine r_cVNI C0 h hl.1 _ (by omega) (ceL k _ (by omega)) rfl (ct_X2_print l k M _ hJ _ (by omega)) gX3_sign_X2_print_n76 rfl (by decide +kernel) (by decide +kernel) (by decide +kernel) (by decide +kernel) (by decide +kernel) (n := 0) ⟨Nat.le_of_ble_eq_true rfl, Nat.le_of_ble_eq_true rfl⟩ ⟨Nat.zero_le _, Nat.zero_le _⟩ (Nat.le_of_ble_eq_true rfl) rfl rfl dX3_sign_24 (fun r24 I24 H locs hp h => ?_)
  obtain ⟨rfl, hI24⟩ := hp
  rw [hI24] at h
  refine lv_iload_n hx hb dX3_sign_27 rfl (lv_at hl 2 rfl) ?_
  refine r_cSI C0 h hl.1 (ct_X3_sealFor l k M _ hJ _ _) gX3_sign_X3_sealFor rfl (by decide +kernel) (n := 2) ⟨Nat.le_of_ble_eq_true rfl, Nat.le_of_ble_eq_true rfl⟩ ⟨Nat.zero_le _, Nat.zero_le _⟩ (Nat.le_of_ble_eq_true rfl) rfl rfl dX3_sign_28 (fun r28 I28 H locs hp h => ?_)
  obtain ⟨rfl, hI28⟩ := hp
  rw [hI28] at h
  refine r_putN (T := TX2) (N := 12) (ty0 := tyX2) C0 h _ (by omega) (ceL k _ (by omega)) hinX2 tyX2_ok nmX2 rfl 10 (by decide) (by decide +kernel) rfl rfl rfl rfl (Nat.le_of_ble_eq_true rfl) (ceL k _ (by omega)) dX3_sign_31 (fun H locs h => ?_)
  refine lv_aload_n hx hb dX3_sign_34 rfl (lv_at hl 0 rfl) ?_
  refine r_get (T := TX3) (N := 7) C0 h _ (by omega) (ce0 k _) hinX3 rfl 0 (by decide) (by decide +kernel) rfl rfl dX3_sign_35 ?_
  refine lv_iload_n hx hb dX3_sign_38 rfl (lv_at hl 1 rfl) ?_
  refine r_aaldL C0 h _ (by omega) dX3_sign_39 ?_
  refine r_getN (T := TX2) (N := 12) C0 h _ (by omega) (ceL k _ (by omega)) hinX2 rfl 10 (by decide) (by decide +kernel) rfl rfl dX3_sign_40 ?_
  exact r_iret C0 h hr dX3_sign_43 ⟨by rw [up2_s], rfl⟩
set_option maxHeartbeats 4000000 in
set_option maxRecDepth 100000 in
theorem ct_X3_anchor (l : Launch) (k : Sk) (M : Nat) (I : IS) (hJ : Ij k M) (cn : Nat) (hc20 : cn ≤ 20) (hcn : I 0 4 = nI cn) (i : Nat) (hi : i < cn) (b9 : Bool) : MtI l yX3_anchor wsX3_anchor 12 [.ref (k.2.1 0), .int (nI i), .int (bI b9)] k M I (fun r I' => r = bcF (nI (anN (up2 I (10 + i) 11 (bI b9)) cn)) ∧ I' = up2 I (10 + i) 11 (bI b9)) := by
  refine mtI_of (cc := cX3_anchor) (maxL := 3) hJ (by decide) rfl (Nat.le_of_ble_eq_true rfl) ?_
  intro p e s m args below meth c A ls C0 h hr hl
  have hx := C0.1.1
  have hb := C0.1.2.1
  have hown := C0.1.2.2.2.1
  have hts := C0.1.2.2.2.2
  have hM := hJ.1
  have hl : lv_has ls 3 [(0, _), (1, _), (2, _)] := hl
  have hinX2 : ∀ w ∈ u_ws RX2 TX2 12, w ∈ wsX3_anchor := by decide +kernel
  have hinX3 : ∀ w ∈ u_ws RX3 TX3 7, w ∈ wsX3_anchor := by decide +kernel
  refine lv_aload_n hx hb dX3_anchor_0 rfl (lv_at hl 0 rfl) ?_
  refine lv_iload_n hx hb dX3_anchor_1 rfl (lv_at hl 1 rfl) ?_
  refine r_cVV C0 h hl.1 _ (by omega) (ce0 k _) rfl (ok_X3_refuseUnlessLetter l k M _ hJ cn hcn _ (isLt_at hi (by omega))) gX3_anchor_X3_refuseUnlessLetter rfl (by decide +kernel) (n := 1) ⟨Nat.le_of_ble_eq_true rfl, Nat.le_of_ble_eq_true rfl⟩ ⟨Nat.zero_le _, Nat.zero_le _⟩ (Nat.le_of_ble_eq_true rfl) rfl rfl dX3_anchor_2 (fun I2 H locs hp h => ?_)
  rw [hp] at h
  refine lv_aload_n hx hb dX3_anchor_5 rfl (lv_at hl 0 rfl) ?_
  refine r_get (T := TX3) (N := 7) C0 h _ (by omega) (ce0 k _) hinX3 rfl 0 (by decide) (by decide +kernel) rfl rfl dX3_anchor_6 ?_
  refine lv_iload_n hx hb dX3_anchor_9 rfl (lv_at hl 1 rfl) ?_
  refine r_aaldL C0 h _ (by omega) dX3_anchor_10 ?_
  refine lv_iload_n hx hb dX3_anchor_11 rfl (lv_at hl 2 rfl) ?_
  refine r_putN (T := TX2) (N := 12) (ty0 := tyX2) C0 h _ (by omega) (ceL k _ (by omega)) hinX2 tyX2_ok nmX2 rfl 11 (by decide) (by decide +kernel) rfl rfl (nar_bI _) (fit_bI _) (Nat.le_of_ble_eq_true rfl) (ceL k _ (by omega)) dX3_anchor_12 (fun H locs h => ?_)
  refine lv_aload_n hx hb dX3_anchor_15 rfl (lv_at hl 0 rfl) ?_
  refine r_cVI C0 h hl.1 _ (by omega) (ce0 k _) rfl (ct_X3_anchorSet l k M _ hJ cn hc20 (by rw [up2_n _ _ _ _ (by omega)]; exact hcn)) gX3_anchor_X3_anchorSet rfl (by decide +kernel) (n := 0) ⟨Nat.le_of_ble_eq_true rfl, Nat.le_of_ble_eq_true rfl⟩ ⟨Nat.zero_le _, Nat.zero_le _⟩ (Nat.le_of_ble_eq_true rfl) rfl rfl dX3_anchor_16 (fun r16 I16 H locs hp h => ?_)
  obtain ⟨rfl, hI16⟩ := hp
  rw [hI16] at h
  refine r_cSI C0 h hl.1 (ct_J6_bitCount_0f7a4 l k M _ hJ _) gX3_anchor_J6_bitCount_0f7a4 rfl (by decide +kernel) (n := 1) ⟨Nat.le_of_ble_eq_true rfl, Nat.le_of_ble_eq_true rfl⟩ ⟨Nat.zero_le _, Nat.zero_le _⟩ (Nat.le_of_ble_eq_true rfl) rfl rfl dX3_anchor_19 (fun r19 I19 H locs hp h => ?_)
  obtain ⟨rfl, hI19⟩ := hp
  rw [hI19] at h
  exact r_iret C0 h hr dX3_anchor_22 ⟨rfl, rfl⟩
set_option maxHeartbeats 4000000 in
set_option maxRecDepth 100000 in
theorem ct_X3_list (l : Launch) (k : Sk) (M : Nat) (I : IS) (hJ : Ij k M) (lcn : Nat) (hlcn : I 0 5 = nI lcn) (hcl : lcn < 8) (a f t : Int32) (h1 : isNm a = true) (h2 : isW f (nI 999) = true) (h3 : isW t (nI 999) = true) (h4 : f ≤ t) : MtI l yX3_list wsX3_list 12 [.ref (k.2.1 0), .int a, .int f, .int t] k M I (fun r I' => r = nI lcn ∧ I' = up2 (up2 (up2 (up2 I (30 + lcn) 0 a) (30 + lcn) 1 f) (30 + lcn) 2 t) 0 5 (nI (lcn + 1))) := by
  refine mtI_of (cc := cX3_list) (maxL := 5) hJ (by decide) rfl (Nat.le_of_ble_eq_true rfl) ?_
  intro p e s m args below meth c A ls C0 h hr hl
  have hx := C0.1.1
  have hb := C0.1.2.1
  have hown := C0.1.2.2.2.1
  have hts := C0.1.2.2.2.2
  have hM := hJ.1
  have hl : lv_has ls 5 [(0, _), (1, _), (2, _), (3, _)] := hl
  have hinX3 : ∀ w ∈ u_ws RX3 TX3 7, w ∈ wsX3_list := by decide +kernel
  refine lv_iload_n hx hb dX3_list_0 rfl (lv_at hl 1 rfl) ?_
  refine r_cSI C0 h hl.1 (ct_X3_isName l k M _ hJ _) gX3_list_X3_isName rfl (by decide +kernel) (n := 1) ⟨Nat.le_of_ble_eq_true rfl, Nat.le_of_ble_eq_true rfl⟩ ⟨Nat.zero_le _, Nat.zero_le _⟩ (Nat.le_of_ble_eq_true rfl) rfl rfl dX3_list_1 (fun r1 I1 H locs hp h => ?_)
  obtain ⟨rfl, hI1⟩ := hp
  rw [hI1] at h
  refine lv_if_eq (tgt := 30) hx hb dX3_list_4 (by decide) (fun c_4 => ?_) (fun c_4 => ?_)
  · exact absurd (show ¬ bI (isNm a) = 0 by rw [h1]; decide) (fun z => z c_4)
  · refine lv_iload_n hx hb dX3_list_7 rfl (lv_at hl 2 rfl) ?_
    refine r_cSI C0 h hl.1 (ct_X3_isTime l k M _ hJ _) gX3_list_X3_isTime rfl (by decide +kernel) (n := 1) ⟨Nat.le_of_ble_eq_true rfl, Nat.le_of_ble_eq_true rfl⟩ ⟨Nat.zero_le _, Nat.zero_le _⟩ (Nat.le_of_ble_eq_true rfl) rfl rfl dX3_list_8 (fun r8 I8 H locs hp h => ?_)
    obtain ⟨rfl, hI8⟩ := hp
    rw [hI8] at h
    refine lv_if_eq (tgt := 30) hx hb dX3_list_11 (by decide) (fun c_11 => ?_) (fun c_11 => ?_)
    · exact absurd (show ¬ bI (isW f (nI 999)) = 0 by rw [h2]; decide) (fun z => z c_11)
    · refine lv_iload_n hx hb dX3_list_14 rfl (lv_at hl 3 rfl) ?_
      refine r_cSI C0 h hl.1 (ct_X3_isTime l k M _ hJ _) gX3_list_X3_isTime rfl (by decide +kernel) (n := 1) ⟨Nat.le_of_ble_eq_true rfl, Nat.le_of_ble_eq_true rfl⟩ ⟨Nat.zero_le _, Nat.zero_le _⟩ (Nat.le_of_ble_eq_true rfl) rfl rfl dX3_list_15 (fun r15 I15 H locs hp h => ?_)
      obtain ⟨rfl, hI15⟩ := hp
      rw [hI15] at h
      refine lv_if_eq (tgt := 30) hx hb dX3_list_18 (by decide) (fun c_18 => ?_) (fun c_18 => ?_)
      · exact absurd (show ¬ bI (isW t (nI 999)) = 0 by rw [h3]; decide) (fun z => z c_18)
      · refine lv_iload_n hx hb dX3_list_21 rfl (lv_at hl 2 rfl) ?_
        refine lv_iload_n hx hb dX3_list_22 rfl (lv_at hl 3 rfl) ?_
        refine lv_icmp_gt (tgt := 30) hx hb dX3_list_23 (by decide) (fun c_23 => ?_) (fun c_23 => ?_)
        · exact absurd c_23 (fa_ge h4)
        · refine lv_iconst (v := nI 1) hx hb dX3_list_26 (by decide) ?_
          refine lv_goto (tgt := 31) hx hb dX3_list_27 (by decide) ?_
          refine r_cSV C0 h hl.1 (ok_X3_refuseUnless l k M _ hJ _ (by decide)) gX3_list_X3_refuseUnless rfl (by decide +kernel) (n := 1) ⟨Nat.le_of_ble_eq_true rfl, Nat.le_of_ble_eq_true rfl⟩ ⟨Nat.zero_le _, Nat.zero_le _⟩ (Nat.le_of_ble_eq_true rfl) rfl rfl dX3_list_31 (fun I31 H locs hp h => ?_)
          rw [hp] at h
          refine lv_aload_n hx hb dX3_list_34 rfl (lv_at hl 0 rfl) ?_
          refine r_get (T := TX3) (N := 7) C0 h _ (by omega) (ce0 k _) hinX3 rfl 5 (by decide) (by decide +kernel) rfl rfl dX3_list_35 ?_
          rw [hlcn]
          refine lv_bipush (v := nI 8) hx hb dX3_list_38 (by decide) ?_
          refine lv_icmp_lt (tgt := 53) hx hb dX3_list_40 (by decide) (fun c_40 => ?_) (fun c_40 => ?_)
          · refine lv_aload_n hx hb dX3_list_53 rfl (lv_at hl 0 rfl) ?_
            refine r_get (T := TX3) (N := 7) C0 h _ (by omega) (ce0 k _) hinX3 rfl 5 (by decide) (by decide +kernel) rfl rfl dX3_list_54 ?_
            rw [hlcn]
            refine lv_istore hx hb dX3_list_57 hl (by decide) rfl (fun ls hl => ?_)
            have hl : lv_has ls 5 [(4, _), (0, _), (1, _), (2, _), (3, _)] := hl
            refine lv_aload_n hx hb dX3_list_59 rfl (lv_at hl 1 rfl) ?_
            refine r_get (T := TX3) (N := 7) C0 h _ (by omega) (ce0 k _) hinX3 rfl 1 (by decide) (by decide +kernel) rfl rfl dX3_list_60 ?_
            refine lv_iload hx hb dX3_list_63 (lv_at hl 0 rfl) ?_
            refine r_aaldC C0 h _ (by omega) dX3_list_65 ?_
            refine lv_iload_n hx hb dX3_list_66 rfl (lv_at hl 2 rfl) ?_
            refine lv_iload_n hx hb dX3_list_67 rfl (lv_at hl 3 rfl) ?_
            refine lv_iload_n hx hb dX3_list_68 rfl (lv_at hl 4 rfl) ?_
            refine r_cVNV C0 h hl.1 _ (by omega) (ceC k _ (by omega)) rfl (ct_X0_write l k M _ hJ lcn hcl a f t) gX3_list_X0_write_n124 rfl (by decide +kernel) (by decide +kernel) (by decide +kernel) (by decide +kernel) (by decide +kernel) (n := 3) ⟨Nat.le_of_ble_eq_true rfl, Nat.le_of_ble_eq_true rfl⟩ ⟨Nat.zero_le _, Nat.zero_le _⟩ (Nat.le_of_ble_eq_true rfl) rfl rfl dX3_list_69 (fun I69 H locs hp h => ?_)
            rw [hp] at h
            refine lv_aload_n hx hb dX3_list_72 rfl (lv_at hl 1 rfl) ?_
            refine lv_iload hx hb dX3_list_73 (lv_at hl 0 rfl) ?_
            refine lv_iconst (v := nI 1) hx hb dX3_list_75 (by decide) ?_
            refine lv_iadd hx hb dX3_list_76 ?_
            rw [nI_add]
            refine r_put (T := TX3) (N := 7) (ty0 := tyX3) C0 h _ (by omega) (ce0 k _) hinX3 tyX3_ok nmX3 rfl 5 (by decide) (by decide +kernel) rfl rfl rfl rfl (Nat.le_of_ble_eq_true rfl) (ce0 k _) dX3_list_77 (fun H locs h => ?_)
            refine lv_iload hx hb dX3_list_80 (lv_at hl 0 rfl) ?_
            exact r_iret C0 h hr dX3_list_82 ⟨rfl, rfl⟩
          · exact absurd (nI_lt hcl (by omega) : nI lcn < nI 8) c_40
set_option maxHeartbeats 4000000 in
set_option maxRecDepth 100000 in
theorem ct_X3_call (l : Launch) (k : Sk) (M : Nat) (I : IS) (hJ : Ij k M) (lcn : Nat) (hl8 : lcn ≤ 8) (hlcn : I 0 5 = nI lcn) (j : Nat) (hj : j < lcn) (t : Int32) (h1 : isW t (nI 30) = true) : MtI l yX3_call wsX3_call 12 [.ref (k.2.1 0), .int (nI j), .int t] k M I (fun r I' => r = bcF (I (30 + j) 3 ^^^ (nI 1 <<< (t &&& 31))) ∧ I' = up2 I (30 + j) 3 (I (30 + j) 3 ^^^ (nI 1 <<< (t &&& 31)))) := by
  refine mtI_of (cc := cX3_call) (maxL := 3) hJ (by decide) rfl (Nat.le_of_ble_eq_true rfl) ?_
  intro p e s m args below meth c A ls C0 h hr hl
  have hx := C0.1.1
  have hb := C0.1.2.1
  have hown := C0.1.2.2.2.1
  have hts := C0.1.2.2.2.2
  have hM := hJ.1
  have hl : lv_has ls 3 [(0, _), (1, _), (2, _)] := hl
  have hinX0 : ∀ w ∈ u_ws RX0 TX0 6, w ∈ wsX3_call := by decide +kernel
  have hinX3 : ∀ w ∈ u_ws RX3 TX3 7, w ∈ wsX3_call := by decide +kernel
  refine lv_aload_n hx hb dX3_call_0 rfl (lv_at hl 0 rfl) ?_
  refine lv_iload_n hx hb dX3_call_1 rfl (lv_at hl 1 rfl) ?_
  refine r_cVV C0 h hl.1 _ (by omega) (ce0 k _) rfl (ok_X3_refuseUnlessList l k M _ hJ lcn hlcn hl8 _ (isLt_at hj (by omega))) gX3_call_X3_refuseUnlessList rfl (by decide +kernel) (n := 1) ⟨Nat.le_of_ble_eq_true rfl, Nat.le_of_ble_eq_true rfl⟩ ⟨Nat.zero_le _, Nat.zero_le _⟩ (Nat.le_of_ble_eq_true rfl) rfl rfl dX3_call_2 (fun I2 H locs hp h => ?_)
  rw [hp] at h
  refine lv_iload_n hx hb dX3_call_5 rfl (lv_at hl 2 rfl) ?_
  refine r_cSI C0 h hl.1 (ct_X3_isSerial l k M _ hJ _) gX3_call_X3_isSerial rfl (by decide +kernel) (n := 1) ⟨Nat.le_of_ble_eq_true rfl, Nat.le_of_ble_eq_true rfl⟩ ⟨Nat.zero_le _, Nat.zero_le _⟩ (Nat.le_of_ble_eq_true rfl) rfl rfl dX3_call_6 (fun r6 I6 H locs hp h => ?_)
  obtain ⟨rfl, hI6⟩ := hp
  rw [hI6] at h
  refine r_cSV C0 h hl.1 (ok_X3_refuseUnless l k M _ hJ _ (show ¬ bI (isW t (nI 30)) = 0 by rw [h1]; decide)) gX3_call_X3_refuseUnless rfl (by decide +kernel) (n := 1) ⟨Nat.le_of_ble_eq_true rfl, Nat.le_of_ble_eq_true rfl⟩ ⟨Nat.zero_le _, Nat.zero_le _⟩ (Nat.le_of_ble_eq_true rfl) rfl rfl dX3_call_9 (fun I9 H locs hp h => ?_)
  rw [hp] at h
  refine lv_aload_n hx hb dX3_call_12 rfl (lv_at hl 0 rfl) ?_
  refine r_get (T := TX3) (N := 7) C0 h _ (by omega) (ce0 k _) hinX3 rfl 1 (by decide) (by decide +kernel) rfl rfl dX3_call_13 ?_
  refine lv_iload_n hx hb dX3_call_16 rfl (lv_at hl 1 rfl) ?_
  refine r_aaldC C0 h _ (by omega) dX3_call_17 ?_
  refine lv_dup hx hb dX3_call_18 rfl ?_
  refine r_getN (T := TX0) (N := 6) C0 h _ (by omega) (ceC k _ (by omega)) hinX0 rfl 3 (by decide) (by decide +kernel) rfl rfl dX3_call_19 ?_
  refine lv_iconst (v := nI 1) hx hb dX3_call_22 (by decide) ?_
  refine lv_iload_n hx hb dX3_call_23 rfl (lv_at hl 2 rfl) ?_
  refine lv_ishl hx hb dX3_call_24 ?_
  refine lv_ixor hx hb dX3_call_25 ?_
  refine r_putN (T := TX0) (N := 6) (ty0 := tyX0) C0 h _ (by omega) (ceC k _ (by omega)) hinX0 tyX0_ok nmX0 rfl 3 (by decide) (by decide +kernel) rfl rfl rfl rfl (Nat.le_of_ble_eq_true rfl) (ceC k _ (by omega)) dX3_call_26 (fun H locs h => ?_)
  refine lv_aload_n hx hb dX3_call_29 rfl (lv_at hl 0 rfl) ?_
  refine r_get (T := TX3) (N := 7) C0 h _ (by omega) (ce0 k _) hinX3 rfl 1 (by decide) (by decide +kernel) rfl rfl dX3_call_30 ?_
  refine lv_iload_n hx hb dX3_call_33 rfl (lv_at hl 1 rfl) ?_
  refine r_aaldC C0 h _ (by omega) dX3_call_34 ?_
  refine r_getN (T := TX0) (N := 6) C0 h _ (by omega) (ceC k _ (by omega)) hinX0 rfl 3 (by decide) (by decide +kernel) rfl rfl dX3_call_35 ?_
  refine r_cSI C0 h hl.1 (ct_J6_bitCount_0f7a4 l k M _ hJ _) gX3_call_J6_bitCount_0f7a4 rfl (by decide +kernel) (n := 1) ⟨Nat.le_of_ble_eq_true rfl, Nat.le_of_ble_eq_true rfl⟩ ⟨Nat.zero_le _, Nat.zero_le _⟩ (Nat.le_of_ble_eq_true rfl) rfl rfl dX3_call_38 (fun r38 I38 H locs hp h => ?_)
  obtain ⟨rfl, hI38⟩ := hp
  rw [hI38] at h
  exact r_iret C0 h hr dX3_call_41 ⟨by rw [up2_s], rfl⟩
set_option maxHeartbeats 4000000 in
set_option maxRecDepth 100000 in
theorem ct_X3_signList (l : Launch) (k : Sk) (M : Nat) (I : IS) (hJ : Ij k M) (lcn : Nat) (hl8 : lcn ≤ 8) (hlcn : I 0 5 = nI lcn) (j : Nat) (hj : j < lcn) (t : Int32) (h1 : isW t (nI 15) = true) : MtI l yX3_signList wsX3_signList 12 [.ref (k.2.1 0), .int (nI j), .int t] k M I (fun r I' => r = sealF (prCf (I (30 + j))) t ∧ I' = up2 I (30 + j) 4 (sealF (prCf (I (30 + j))) t)) := by
  refine mtI_of (cc := cX3_signList) (maxL := 3) hJ (by decide) rfl (Nat.le_of_ble_eq_true rfl) ?_
  intro p e s m args below meth c A ls C0 h hr hl
  have hx := C0.1.1
  have hb := C0.1.2.1
  have hown := C0.1.2.2.2.1
  have hts := C0.1.2.2.2.2
  have hM := hJ.1
  have hl : lv_has ls 3 [(0, _), (1, _), (2, _)] := hl
  have hinX0 : ∀ w ∈ u_ws RX0 TX0 6, w ∈ wsX3_signList := by decide +kernel
  have hinX3 : ∀ w ∈ u_ws RX3 TX3 7, w ∈ wsX3_signList := by decide +kernel
  refine lv_aload_n hx hb dX3_signList_0 rfl (lv_at hl 0 rfl) ?_
  refine lv_iload_n hx hb dX3_signList_1 rfl (lv_at hl 1 rfl) ?_
  refine r_cVV C0 h hl.1 _ (by omega) (ce0 k _) rfl (ok_X3_refuseUnlessList l k M _ hJ lcn hlcn hl8 _ (isLt_at hj (by omega))) gX3_signList_X3_refuseUnlessList rfl (by decide +kernel) (n := 1) ⟨Nat.le_of_ble_eq_true rfl, Nat.le_of_ble_eq_true rfl⟩ ⟨Nat.zero_le _, Nat.zero_le _⟩ (Nat.le_of_ble_eq_true rfl) rfl rfl dX3_signList_2 (fun I2 H locs hp h => ?_)
  rw [hp] at h
  refine lv_iload_n hx hb dX3_signList_5 rfl (lv_at hl 2 rfl) ?_
  refine r_cSI C0 h hl.1 (ct_X3_isKey l k M _ hJ _) gX3_signList_X3_isKey rfl (by decide +kernel) (n := 1) ⟨Nat.le_of_ble_eq_true rfl, Nat.le_of_ble_eq_true rfl⟩ ⟨Nat.zero_le _, Nat.zero_le _⟩ (Nat.le_of_ble_eq_true rfl) rfl rfl dX3_signList_6 (fun r6 I6 H locs hp h => ?_)
  obtain ⟨rfl, hI6⟩ := hp
  rw [hI6] at h
  refine r_cSV C0 h hl.1 (ok_X3_refuseUnless l k M _ hJ _ (show ¬ bI (isW t (nI 15)) = 0 by rw [h1]; decide)) gX3_signList_X3_refuseUnless rfl (by decide +kernel) (n := 1) ⟨Nat.le_of_ble_eq_true rfl, Nat.le_of_ble_eq_true rfl⟩ ⟨Nat.zero_le _, Nat.zero_le _⟩ (Nat.le_of_ble_eq_true rfl) rfl rfl dX3_signList_9 (fun I9 H locs hp h => ?_)
  rw [hp] at h
  refine lv_aload_n hx hb dX3_signList_12 rfl (lv_at hl 0 rfl) ?_
  refine r_get (T := TX3) (N := 7) C0 h _ (by omega) (ce0 k _) hinX3 rfl 1 (by decide) (by decide +kernel) rfl rfl dX3_signList_13 ?_
  refine lv_iload_n hx hb dX3_signList_16 rfl (lv_at hl 1 rfl) ?_
  refine r_aaldC C0 h _ (by omega) dX3_signList_17 ?_
  refine lv_aload_n hx hb dX3_signList_18 rfl (lv_at hl 0 rfl) ?_
  refine r_get (T := TX3) (N := 7) C0 h _ (by omega) (ce0 k _) hinX3 rfl 1 (by decide) (by decide +kernel) rfl rfl dX3_signList_19 ?_
  refine lv_iload_n hx hb dX3_signList_22 rfl (lv_at hl 1 rfl) ?_
  refine r_aaldC C0 h _ (by omega) dX3_signList_23 ?_
  refine r_cVNI C0 h hl.1 _ (by omega) (ceC k _ (by omega)) rfl (ct_X0_print l k M _ hJ _ (by omega)) gX3_signList_X0_print_n133 rfl (by decide +kernel) (by decide +kernel) (by decide +kernel) (by decide +kernel) (by decide +kernel) (n := 0) ⟨Nat.le_of_ble_eq_true rfl, Nat.le_of_ble_eq_true rfl⟩ ⟨Nat.zero_le _, Nat.zero_le _⟩ (Nat.le_of_ble_eq_true rfl) rfl rfl dX3_signList_24 (fun r24 I24 H locs hp h => ?_)
  obtain ⟨rfl, hI24⟩ := hp
  rw [hI24] at h
  refine lv_iload_n hx hb dX3_signList_27 rfl (lv_at hl 2 rfl) ?_
  refine r_cSI C0 h hl.1 (ct_X3_sealFor l k M _ hJ _ _) gX3_signList_X3_sealFor rfl (by decide +kernel) (n := 2) ⟨Nat.le_of_ble_eq_true rfl, Nat.le_of_ble_eq_true rfl⟩ ⟨Nat.zero_le _, Nat.zero_le _⟩ (Nat.le_of_ble_eq_true rfl) rfl rfl dX3_signList_28 (fun r28 I28 H locs hp h => ?_)
  obtain ⟨rfl, hI28⟩ := hp
  rw [hI28] at h
  refine r_putN (T := TX0) (N := 6) (ty0 := tyX0) C0 h _ (by omega) (ceC k _ (by omega)) hinX0 tyX0_ok nmX0 rfl 4 (by decide) (by decide +kernel) rfl rfl rfl rfl (Nat.le_of_ble_eq_true rfl) (ceC k _ (by omega)) dX3_signList_31 (fun H locs h => ?_)
  refine lv_aload_n hx hb dX3_signList_34 rfl (lv_at hl 0 rfl) ?_
  refine r_get (T := TX3) (N := 7) C0 h _ (by omega) (ce0 k _) hinX3 rfl 1 (by decide) (by decide +kernel) rfl rfl dX3_signList_35 ?_
  refine lv_iload_n hx hb dX3_signList_38 rfl (lv_at hl 1 rfl) ?_
  refine r_aaldC C0 h _ (by omega) dX3_signList_39 ?_
  refine r_getN (T := TX0) (N := 6) C0 h _ (by omega) (ceC k _ (by omega)) hinX0 rfl 4 (by decide) (by decide +kernel) rfl rfl dX3_signList_40 ?_
  exact r_iret C0 h hr dX3_signList_43 ⟨by rw [up2_s], rfl⟩
set_option maxHeartbeats 4000000 in
set_option maxRecDepth 100000 in
theorem ct_X3_strict (l : Launch) (k : Sk) (M : Nat) (I : IS) (hJ : Ij k M) (hst : ∃ b, I 0 6 = bI b) (b9 : Bool) : MtI l yX3_strict wsX3_strict 12 [.ref (k.2.1 0), .int (bI b9)] k M I (fun r I' => r = I 0 6 ∧ I' = up2 I 0 6 (bI b9)) := by
  refine mtIz_of (cc := cX3_strict) (maxL := 3) hJ (by decide) rfl (Nat.le_of_ble_eq_true rfl) ?_
  intro p e s m args below meth c A ls C0 h hr hl
  have hx := C0.1.1
  have hb := C0.1.2.1
  have hown := C0.1.2.2.2.1
  have hts := C0.1.2.2.2.2
  have hM := hJ.1
  have hl : lv_has ls 3 [(0, _), (1, _)] := hl
  have hinX3 : ∀ w ∈ u_ws RX3 TX3 7, w ∈ wsX3_strict := by decide +kernel
  refine lv_aload_n hx hb dX3_strict_0 rfl (lv_at hl 0 rfl) ?_
  refine r_get (T := TX3) (N := 7) C0 h _ (by omega) (ce0 k _) hinX3 rfl 6 (by decide) (by decide +kernel) rfl rfl dX3_strict_1 ?_
  refine lv_istore_n hx hb dX3_strict_4 rfl hl (by decide) rfl (fun ls hl => ?_)
  have hl : lv_has ls 3 [(2, _), (0, _), (1, _)] := hl
  refine lv_aload_n hx hb dX3_strict_5 rfl (lv_at hl 1 rfl) ?_
  refine lv_iload_n hx hb dX3_strict_6 rfl (lv_at hl 2 rfl) ?_
  refine r_put (T := TX3) (N := 7) (ty0 := tyX3) C0 h _ (by omega) (ce0 k _) hinX3 tyX3_ok nmX3 rfl 6 (by decide) (by decide +kernel) rfl rfl (nar_bI _) (fit_bI _) (Nat.le_of_ble_eq_true rfl) (ce0 k _) dX3_strict_7 (fun H locs h => ?_)
  refine lv_iload_n hx hb dX3_strict_10 rfl (lv_at hl 0 rfl) ?_
  exact r_zret C0 h hr dX3_strict_11 hst ⟨rfl, rfl⟩
set_option maxHeartbeats 4000000 in
set_option maxRecDepth 100000 in
theorem ct_X3_many (l : Launch) (k : Sk) (M : Nat) (I : IS) (hJ : Ij k M) (cn : Nat) (hc20 : cn ≤ 20) (hcn : I 0 4 = nI cn) (lcn : Nat) (hl8 : lcn ≤ 8) (hlcn : I 0 5 = nI lcn) (w : Nat) (hw : w ≤ 3) : MtI l yX3_many wsX3_many 12 [.ref (k.2.1 0), .int (nI w)] k M I (fun r I' => r = mnF (vw I) cn lcn w ∧ vw I' = vw I) := by
  refine mtI_of (cc := cX3_many) (maxL := 2) hJ (by decide) rfl (Nat.le_of_ble_eq_true rfl) ?_
  intro p e s m args below meth c A ls C0 h hr hl
  have hx := C0.1.1
  have hb := C0.1.2.1
  have hown := C0.1.2.2.2.1
  have hts := C0.1.2.2.2.2
  have hM := hJ.1
  have hl : lv_has ls 2 [(0, _), (1, _)] := hl
  refine lv_iload_n hx hb dX3_many_0 rfl (lv_at hl 1 rfl) ?_
  refine lv_iconst (v := nI 3) hx hb dX3_many_1 (by decide) ?_
  refine r_cSI C0 h hl.1 (ct_X3_isWithin l k M _ hJ _ _) gX3_many_X3_isWithin rfl (by decide +kernel) (n := 2) ⟨Nat.le_of_ble_eq_true rfl, Nat.le_of_ble_eq_true rfl⟩ ⟨Nat.zero_le _, Nat.zero_le _⟩ (Nat.le_of_ble_eq_true rfl) rfl rfl dX3_many_2 (fun r2 I2 H locs hp h => ?_)
  obtain ⟨rfl, hI2⟩ := hp
  rw [hI2] at h
  refine r_cSV C0 h hl.1 (ok_X3_refuseUnless l k M _ hJ _ (show ¬ bI (isW (nI w) (nI 3)) = 0 by rw [isW_n hw (by omega)]; decide)) gX3_many_X3_refuseUnless rfl (by decide +kernel) (n := 1) ⟨Nat.le_of_ble_eq_true rfl, Nat.le_of_ble_eq_true rfl⟩ ⟨Nat.zero_le _, Nat.zero_le _⟩ (Nat.le_of_ble_eq_true rfl) rfl rfl dX3_many_5 (fun I5 H locs hp h => ?_)
  rw [hp] at h
  refine lv_aload_n hx hb dX3_many_8 rfl (lv_at hl 0 rfl) ?_
  refine r_cVV C0 h hl.1 _ (by omega) (ce0 k _) rfl (ct_X3_survey l k M _ hJ cn hc20 hcn lcn hl8 hlcn) gX3_many_X3_survey rfl (by decide +kernel) (n := 0) ⟨Nat.le_of_ble_eq_true rfl, Nat.le_of_ble_eq_true rfl⟩ ⟨Nat.zero_le _, Nat.zero_le _⟩ (Nat.le_of_ble_eq_true rfl) rfl rfl dX3_many_9 (fun I9 H locs hp h => ?_)
  obtain ⟨hS, hsg, hv, hv4⟩ := hp
  refine lv_aload_n hx hb dX3_many_12 rfl (lv_at hl 0 rfl) ?_
  refine lv_iload_n hx hb dX3_many_13 rfl (lv_at hl 1 rfl) ?_
  refine r_cVI C0 h hl.1 _ (by omega) (ce0 k _) rfl (ct_X3_countOf l k M _ hJ cn hc20 (by rw [vw_use0 hv]; exact hcn) lcn hl8 (by rw [vw_use0 hv]; exact hlcn) hS w hw) gX3_many_X3_countOf rfl (by decide +kernel) (n := 1) ⟨Nat.le_of_ble_eq_true rfl, Nat.le_of_ble_eq_true rfl⟩ ⟨Nat.zero_le _, Nat.zero_le _⟩ (Nat.le_of_ble_eq_true rfl) rfl rfl dX3_many_14 (fun r14 I14 H locs hp h => ?_)
  obtain ⟨rfl, hI14⟩ := hp
  rw [hI14] at h
  exact r_iret C0 h hr dX3_many_17 ⟨by rw [hv], hv⟩
set_option maxHeartbeats 4000000 in
set_option maxRecDepth 100000 in
theorem ct_X3_ofLetter (l : Launch) (k : Sk) (M : Nat) (I : IS) (hJ : Ij k M) (cn : Nat) (hc20 : cn ≤ 20) (hcn : I 0 4 = nI cn) (i : Nat) (hi : i < cn) (w : Nat) (hw : w ≤ 12) : MtI l yX3_ofLetter wsX3_ofLetter 12 [.ref (k.2.1 0), .int (nI i), .int (nI w)] k M I (fun r I' => r = pyL (I (10 + i)) w ∧ I' = I) := by
  refine mtI_of (cc := cX3_ofLetter) (maxL := 3) hJ (by decide) rfl (Nat.le_of_ble_eq_true rfl) ?_
  intro p e s m args below meth c A ls C0 h hr hl
  have hx := C0.1.1
  have hb := C0.1.2.1
  have hown := C0.1.2.2.2.1
  have hts := C0.1.2.2.2.2
  have hM := hJ.1
  have hl : lv_has ls 3 [(0, _), (1, _), (2, _)] := hl
  have hinX3 : ∀ w ∈ u_ws RX3 TX3 7, w ∈ wsX3_ofLetter := by decide +kernel
  refine lv_aload_n hx hb dX3_ofLetter_0 rfl (lv_at hl 0 rfl) ?_
  refine lv_iload_n hx hb dX3_ofLetter_1 rfl (lv_at hl 1 rfl) ?_
  refine r_cVV C0 h hl.1 _ (by omega) (ce0 k _) rfl (ok_X3_refuseUnlessLetter l k M _ hJ cn hcn _ (isLt_at hi (by omega))) gX3_ofLetter_X3_refuseUnlessLetter rfl (by decide +kernel) (n := 1) ⟨Nat.le_of_ble_eq_true rfl, Nat.le_of_ble_eq_true rfl⟩ ⟨Nat.zero_le _, Nat.zero_le _⟩ (Nat.le_of_ble_eq_true rfl) rfl rfl dX3_ofLetter_2 (fun I2 H locs hp h => ?_)
  rw [hp] at h
  refine lv_iload_n hx hb dX3_ofLetter_5 rfl (lv_at hl 2 rfl) ?_
  refine lv_bipush (v := nI 12) hx hb dX3_ofLetter_6 (by decide) ?_
  refine r_cSI C0 h hl.1 (ct_X3_isWithin l k M _ hJ _ _) gX3_ofLetter_X3_isWithin rfl (by decide +kernel) (n := 2) ⟨Nat.le_of_ble_eq_true rfl, Nat.le_of_ble_eq_true rfl⟩ ⟨Nat.zero_le _, Nat.zero_le _⟩ (Nat.le_of_ble_eq_true rfl) rfl rfl dX3_ofLetter_8 (fun r8 I8 H locs hp h => ?_)
  obtain ⟨rfl, hI8⟩ := hp
  rw [hI8] at h
  refine r_cSV C0 h hl.1 (ok_X3_refuseUnless l k M _ hJ _ (show ¬ bI (isW (nI w) (nI 12)) = 0 by rw [isW_n hw (by omega)]; decide)) gX3_ofLetter_X3_refuseUnless rfl (by decide +kernel) (n := 1) ⟨Nat.le_of_ble_eq_true rfl, Nat.le_of_ble_eq_true rfl⟩ ⟨Nat.zero_le _, Nat.zero_le _⟩ (Nat.le_of_ble_eq_true rfl) rfl rfl dX3_ofLetter_11 (fun I11 H locs hp h => ?_)
  rw [hp] at h
  refine lv_aload_n hx hb dX3_ofLetter_14 rfl (lv_at hl 0 rfl) ?_
  refine r_get (T := TX3) (N := 7) C0 h _ (by omega) (ce0 k _) hinX3 rfl 0 (by decide) (by decide +kernel) rfl rfl dX3_ofLetter_15 ?_
  refine lv_iload_n hx hb dX3_ofLetter_18 rfl (lv_at hl 1 rfl) ?_
  refine r_aaldL C0 h _ (by omega) dX3_ofLetter_19 ?_
  refine lv_iload_n hx hb dX3_ofLetter_20 rfl (lv_at hl 2 rfl) ?_
  refine r_cVNI C0 h hl.1 _ (by omega) (ceL k _ (by omega)) rfl (ct_X2_property l k M _ hJ i (by omega) w hw) gX3_ofLetter_X2_property_n144 rfl (by decide +kernel) (by decide +kernel) (by decide +kernel) (by decide +kernel) (by decide +kernel) (n := 1) ⟨Nat.le_of_ble_eq_true rfl, Nat.le_of_ble_eq_true rfl⟩ ⟨Nat.zero_le _, Nat.zero_le _⟩ (Nat.le_of_ble_eq_true rfl) rfl rfl dX3_ofLetter_21 (fun r21 I21 H locs hp h => ?_)
  obtain ⟨rfl, hI21⟩ := hp
  rw [hI21] at h
  exact r_iret C0 h hr dX3_ofLetter_24 ⟨rfl, rfl⟩
set_option maxHeartbeats 4000000 in
set_option maxRecDepth 100000 in
theorem ct_X3_ofList (l : Launch) (k : Sk) (M : Nat) (I : IS) (hJ : Ij k M) (lcn : Nat) (hl8 : lcn ≤ 8) (hlcn : I 0 5 = nI lcn) (j : Nat) (hj : j < lcn) (w : Nat) (hw : w ≤ 5) : MtI l yX3_ofList wsX3_ofList 12 [.ref (k.2.1 0), .int (nI j), .int (nI w)] k M I (fun r I' => r = pyC (I (30 + j)) w ∧ I' = I) := by
  refine mtI_of (cc := cX3_ofList) (maxL := 3) hJ (by decide) rfl (Nat.le_of_ble_eq_true rfl) ?_
  intro p e s m args below meth c A ls C0 h hr hl
  have hx := C0.1.1
  have hb := C0.1.2.1
  have hown := C0.1.2.2.2.1
  have hts := C0.1.2.2.2.2
  have hM := hJ.1
  have hl : lv_has ls 3 [(0, _), (1, _), (2, _)] := hl
  have hinX3 : ∀ w ∈ u_ws RX3 TX3 7, w ∈ wsX3_ofList := by decide +kernel
  refine lv_aload_n hx hb dX3_ofList_0 rfl (lv_at hl 0 rfl) ?_
  refine lv_iload_n hx hb dX3_ofList_1 rfl (lv_at hl 1 rfl) ?_
  refine r_cVV C0 h hl.1 _ (by omega) (ce0 k _) rfl (ok_X3_refuseUnlessList l k M _ hJ lcn hlcn hl8 _ (isLt_at hj (by omega))) gX3_ofList_X3_refuseUnlessList rfl (by decide +kernel) (n := 1) ⟨Nat.le_of_ble_eq_true rfl, Nat.le_of_ble_eq_true rfl⟩ ⟨Nat.zero_le _, Nat.zero_le _⟩ (Nat.le_of_ble_eq_true rfl) rfl rfl dX3_ofList_2 (fun I2 H locs hp h => ?_)
  rw [hp] at h
  refine lv_iload_n hx hb dX3_ofList_5 rfl (lv_at hl 2 rfl) ?_
  refine lv_iconst (v := nI 5) hx hb dX3_ofList_6 (by decide) ?_
  refine r_cSI C0 h hl.1 (ct_X3_isWithin l k M _ hJ _ _) gX3_ofList_X3_isWithin rfl (by decide +kernel) (n := 2) ⟨Nat.le_of_ble_eq_true rfl, Nat.le_of_ble_eq_true rfl⟩ ⟨Nat.zero_le _, Nat.zero_le _⟩ (Nat.le_of_ble_eq_true rfl) rfl rfl dX3_ofList_7 (fun r7 I7 H locs hp h => ?_)
  obtain ⟨rfl, hI7⟩ := hp
  rw [hI7] at h
  refine r_cSV C0 h hl.1 (ok_X3_refuseUnless l k M _ hJ _ (show ¬ bI (isW (nI w) (nI 5)) = 0 by rw [isW_n hw (by omega)]; decide)) gX3_ofList_X3_refuseUnless rfl (by decide +kernel) (n := 1) ⟨Nat.le_of_ble_eq_true rfl, Nat.le_of_ble_eq_true rfl⟩ ⟨Nat.zero_le _, Nat.zero_le _⟩ (Nat.le_of_ble_eq_true rfl) rfl rfl dX3_ofList_10 (fun I10 H locs hp h => ?_)
  rw [hp] at h
  refine lv_aload_n hx hb dX3_ofList_13 rfl (lv_at hl 0 rfl) ?_
  refine r_get (T := TX3) (N := 7) C0 h _ (by omega) (ce0 k _) hinX3 rfl 1 (by decide) (by decide +kernel) rfl rfl dX3_ofList_14 ?_
  refine lv_iload_n hx hb dX3_ofList_17 rfl (lv_at hl 1 rfl) ?_
  refine r_aaldC C0 h _ (by omega) dX3_ofList_18 ?_
  refine lv_iload_n hx hb dX3_ofList_19 rfl (lv_at hl 2 rfl) ?_
  refine r_cVNI C0 h hl.1 _ (by omega) (ceC k _ (by omega)) rfl (ct_X0_property l k M _ hJ j (by omega) w hw) gX3_ofList_X0_property_n147 rfl (by decide +kernel) (by decide +kernel) (by decide +kernel) (by decide +kernel) (by decide +kernel) (n := 1) ⟨Nat.le_of_ble_eq_true rfl, Nat.le_of_ble_eq_true rfl⟩ ⟨Nat.zero_le _, Nat.zero_le _⟩ (Nat.le_of_ble_eq_true rfl) rfl rfl dX3_ofList_20 (fun r20 I20 H locs hp h => ?_)
  obtain ⟨rfl, hI20⟩ := hp
  rw [hI20] at h
  exact r_iret C0 h hr dX3_ofList_23 ⟨rfl, rfl⟩
set_option maxHeartbeats 4000000 in
set_option maxRecDepth 100000 in
theorem ct_X3_signed (l : Launch) (k : Sk) (M : Nat) (I : IS) (hJ : Ij k M) (t d9 : Int32) (h1 : isW t (nI 15) = true) (h2 : isW d9 (nI 996) = true) : MtI l yX3_signed wsX3_signed 12 [.ref (k.2.1 0), .int t, .int d9] k M I (fun r I' => r = sealF d9 t ∧ I' = I) := by
  refine mtI_of (cc := cX3_signed) (maxL := 3) hJ (by decide) rfl (Nat.le_of_ble_eq_true rfl) ?_
  intro p e s m args below meth c A ls C0 h hr hl
  have hx := C0.1.1
  have hb := C0.1.2.1
  have hown := C0.1.2.2.2.1
  have hts := C0.1.2.2.2.2
  have hM := hJ.1
  have hl : lv_has ls 3 [(0, _), (1, _), (2, _)] := hl
  refine lv_iload_n hx hb dX3_signed_0 rfl (lv_at hl 1 rfl) ?_
  refine r_cSI C0 h hl.1 (ct_X3_isKey l k M _ hJ _) gX3_signed_X3_isKey rfl (by decide +kernel) (n := 1) ⟨Nat.le_of_ble_eq_true rfl, Nat.le_of_ble_eq_true rfl⟩ ⟨Nat.zero_le _, Nat.zero_le _⟩ (Nat.le_of_ble_eq_true rfl) rfl rfl dX3_signed_1 (fun r1 I1 H locs hp h => ?_)
  obtain ⟨rfl, hI1⟩ := hp
  rw [hI1] at h
  refine lv_if_eq (tgt := 18) hx hb dX3_signed_4 (by decide) (fun c_4 => ?_) (fun c_4 => ?_)
  · exact absurd (show ¬ bI (isW t (nI 15)) = 0 by rw [h1]; decide) (fun z => z c_4)
  · refine lv_iload_n hx hb dX3_signed_7 rfl (lv_at hl 2 rfl) ?_
    refine r_cSI C0 h hl.1 (ct_X3_isResidue l k M _ hJ _) gX3_signed_X3_isResidue rfl (by decide +kernel) (n := 1) ⟨Nat.le_of_ble_eq_true rfl, Nat.le_of_ble_eq_true rfl⟩ ⟨Nat.zero_le _, Nat.zero_le _⟩ (Nat.le_of_ble_eq_true rfl) rfl rfl dX3_signed_8 (fun r8 I8 H locs hp h => ?_)
    obtain ⟨rfl, hI8⟩ := hp
    rw [hI8] at h
    refine lv_if_eq (tgt := 18) hx hb dX3_signed_11 (by decide) (fun c_11 => ?_) (fun c_11 => ?_)
    · exact absurd (show ¬ bI (isW d9 (nI 996)) = 0 by rw [h2]; decide) (fun z => z c_11)
    · refine lv_iconst (v := nI 1) hx hb dX3_signed_14 (by decide) ?_
      refine lv_goto (tgt := 19) hx hb dX3_signed_15 (by decide) ?_
      refine r_cSV C0 h hl.1 (ok_X3_refuseUnless l k M _ hJ _ (by decide)) gX3_signed_X3_refuseUnless rfl (by decide +kernel) (n := 1) ⟨Nat.le_of_ble_eq_true rfl, Nat.le_of_ble_eq_true rfl⟩ ⟨Nat.zero_le _, Nat.zero_le _⟩ (Nat.le_of_ble_eq_true rfl) rfl rfl dX3_signed_19 (fun I19 H locs hp h => ?_)
      rw [hp] at h
      refine lv_iload_n hx hb dX3_signed_22 rfl (lv_at hl 2 rfl) ?_
      refine lv_iload_n hx hb dX3_signed_23 rfl (lv_at hl 1 rfl) ?_
      refine r_cSI C0 h hl.1 (ct_X3_sealFor l k M _ hJ _ _) gX3_signed_X3_sealFor rfl (by decide +kernel) (n := 2) ⟨Nat.le_of_ble_eq_true rfl, Nat.le_of_ble_eq_true rfl⟩ ⟨Nat.zero_le _, Nat.zero_le _⟩ (Nat.le_of_ble_eq_true rfl) rfl rfl dX3_signed_24 (fun r24 I24 H locs hp h => ?_)
      obtain ⟨rfl, hI24⟩ := hp
      rw [hI24] at h
      exact r_iret C0 h hr dX3_signed_27 ⟨rfl, rfl⟩
set_option maxHeartbeats 4000000 in
set_option maxRecDepth 100000 in
theorem ct_X3_signer (l : Launch) (k : Sk) (M : Nat) (I : IS) (hJ : Ij k M) (sl d9 : Int32) (h1 : isW sl (nI 996) = true) (h2 : isW d9 (nI 996) = true) : MtI l yX3_signer wsX3_signer 12 [.ref (k.2.1 0), .int sl, .int d9] k M I (fun r I' => r = opI (fdF (fun q => decide (sealF d9 (nI q) = sl)) 16 0) ∧ I' = I) := by
  refine mtI_of (cc := cX3_signer) (maxL := 4) hJ (by decide) rfl (Nat.le_of_ble_eq_true rfl) ?_
  intro p e s m args below meth c A ls C0 h hr hl
  have hx := C0.1.1
  have hb := C0.1.2.1
  have hown := C0.1.2.2.2.1
  have hts := C0.1.2.2.2.2
  have hM := hJ.1
  have hl : lv_has ls 4 [(0, _), (1, _), (2, _)] := hl
  refine lv_iload_n hx hb dX3_signer_0 rfl (lv_at hl 1 rfl) ?_
  refine r_cSI C0 h hl.1 (ct_X3_isResidue l k M _ hJ _) gX3_signer_X3_isResidue rfl (by decide +kernel) (n := 1) ⟨Nat.le_of_ble_eq_true rfl, Nat.le_of_ble_eq_true rfl⟩ ⟨Nat.zero_le _, Nat.zero_le _⟩ (Nat.le_of_ble_eq_true rfl) rfl rfl dX3_signer_1 (fun r1 I1 H locs hp h => ?_)
  obtain ⟨rfl, hI1⟩ := hp
  rw [hI1] at h
  refine lv_if_eq (tgt := 18) hx hb dX3_signer_4 (by decide) (fun c_4 => ?_) (fun c_4 => ?_)
  · exact absurd (show ¬ bI (isW sl (nI 996)) = 0 by rw [h1]; decide) (fun z => z c_4)
  · refine lv_iload_n hx hb dX3_signer_7 rfl (lv_at hl 2 rfl) ?_
    refine r_cSI C0 h hl.1 (ct_X3_isResidue l k M _ hJ _) gX3_signer_X3_isResidue rfl (by decide +kernel) (n := 1) ⟨Nat.le_of_ble_eq_true rfl, Nat.le_of_ble_eq_true rfl⟩ ⟨Nat.zero_le _, Nat.zero_le _⟩ (Nat.le_of_ble_eq_true rfl) rfl rfl dX3_signer_8 (fun r8 I8 H locs hp h => ?_)
    obtain ⟨rfl, hI8⟩ := hp
    rw [hI8] at h
    refine lv_if_eq (tgt := 18) hx hb dX3_signer_11 (by decide) (fun c_11 => ?_) (fun c_11 => ?_)
    · exact absurd (show ¬ bI (isW d9 (nI 996)) = 0 by rw [h2]; decide) (fun z => z c_11)
    · refine lv_iconst (v := nI 1) hx hb dX3_signer_14 (by decide) ?_
      refine lv_goto (tgt := 19) hx hb dX3_signer_15 (by decide) ?_
      refine r_cSV C0 h hl.1 (ok_X3_refuseUnless l k M _ hJ _ (by decide)) gX3_signer_X3_refuseUnless rfl (by decide +kernel) (n := 1) ⟨Nat.le_of_ble_eq_true rfl, Nat.le_of_ble_eq_true rfl⟩ ⟨Nat.zero_le _, Nat.zero_le _⟩ (Nat.le_of_ble_eq_true rfl) rfl rfl dX3_signer_19 (fun I19 H locs hp h => ?_)
      rw [hp] at h
      refine lv_iconst (v := nI 0) hx hb dX3_signer_22 (by decide) ?_
      refine lv_istore_n hx hb dX3_signer_23 rfl hl (by decide) rfl (fun ls hl => ?_)
      have hl : lv_has ls 4 [(3, _), (0, _), (1, _), (2, _)] := hl
      have key24 : ∀ (n : Nat) (j : Nat), 17 - j < n → j ≤ 16 → (∀ r, r < j → (decide (sealF d9 (nI r) = sl)) = false) → ∀ (H : Heap) (locs : List Loc) (ls : Array Slot), HX k M A s I H locs → lv_has ls 4 [(3, .int (nI j)), (0, .ref (k.2.1 0)), (1, .int sl), (2, .int d9)] → W p l e (Rm 12) s m args below meth c H locs 0 0 (MQ below (va_Qi (fun r I' => r = opI (fdF (fun q => decide (sealF d9 (nI q) = sl)) 16 0) ∧ I' = I) (EnX k M) A) args s 0 0 A) (F0 m 24 ls []) := by
        intro n
        induction n with
        | zero =>
          intro j hn hj hall H locs ls h hl
          exact absurd hn (Nat.not_lt_zero _)
        | succ n ih24 =>
          intro j hn hj hall H locs ls h hl
          refine lv_iload_n hx hb dX3_signer_24 rfl (lv_at hl 0 rfl) ?_
          refine lv_bipush (v := nI 15) hx hb dX3_signer_25 (by decide) ?_
          refine lv_icmp_gt (tgt := 47) hx hb dX3_signer_27 (by decide) (fun c_27 => ?_) (fun c_27 => ?_)
          · have hjc : j = 16 := by have := (nI_ltI (by omega) (by omega)).mp c_27; omega
            refine lv_iconst (v := (-1)) hx hb dX3_signer_47 (by decide) ?_
            exact r_iret C0 h hr dX3_signer_48 ⟨by rw [fdF_no (by rw [← hjc]; exact hall)]; rfl, rfl⟩
          · have hjc : j < 16 := by have h9 : ¬ 15 < j := fun q => c_27 (nI_lt q (by omega)); omega
            refine lv_iload_n hx hb dX3_signer_30 rfl (lv_at hl 3 rfl) ?_
            refine lv_iload_n hx hb dX3_signer_31 rfl (lv_at hl 0 rfl) ?_
            refine r_cSI C0 h hl.1 (ct_X3_sealFor l k M _ hJ _ _) gX3_signer_X3_sealFor rfl (by decide +kernel) (n := 2) ⟨Nat.le_of_ble_eq_true rfl, Nat.le_of_ble_eq_true rfl⟩ ⟨Nat.zero_le _, Nat.zero_le _⟩ (Nat.le_of_ble_eq_true rfl) rfl rfl dX3_signer_32 (fun r32 I32 H locs hp h => ?_)
            obtain ⟨rfl, hI32⟩ := hp
            rw [hI32] at h
            refine lv_iload_n hx hb dX3_signer_35 rfl (lv_at hl 2 rfl) ?_
            refine lv_icmp_ne (tgt := 41) hx hb dX3_signer_36 (by decide) (fun c_36 => ?_) (fun c_36 => ?_)
            · refine lv_iinc (v := nI (j + 1)) hx hb dX3_signer_41 hl (k := 0) rfl (nI_1 _) (by decide) rfl (fun ls hl => ?_)
              have hl : lv_has ls 4 [(3, _), (0, _), (1, _), (2, _)] := hl
              refine lv_goto (tgt := 24) hx hb dX3_signer_44 (by decide) ?_
              exact ih24 (j + 1) (by omega) (by omega) (fun r hr => by rcases Nat.lt_or_ge r j with z | z; (exact hall r z); (obtain rfl : r = j := (by omega)); exact decide_eq_false c_36) _ _ _ h (lv_sub hl [0, 1, 2, 3] rfl)
            · refine lv_iload_n hx hb dX3_signer_39 rfl (lv_at hl 0 rfl) ?_
              exact r_iret C0 h hr dX3_signer_40 ⟨by rw [fdF_is (j := j) hjc (decide_eq_true c_36) hall]; rfl, rfl⟩
      exact key24 100 0 (by omega) (by omega) (fun r hr => absurd hr (Nat.not_lt_zero _)) _ _ _ h (lv_sub hl [0, 1, 2, 3] rfl)
set_option maxHeartbeats 4000000 in
set_option maxRecDepth 100000 in
theorem ct_X3_isUnder (l : Launch) (k : Sk) (M : Nat) (I : IS) (hJ : Ij k M) (a o : Int32) (h1 : isNm a = true) (h2 : isN0 o = true) : MtI l yX3_isUnder wsX3_isUnder 12 [.ref (k.2.1 0), .int a, .int o] k M I (fun r I' => r = bI (isUn a o) ∧ I' = I) := by
  refine mtIz_of (cc := cX3_isUnder) (maxL := 3) hJ (by decide) rfl (Nat.le_of_ble_eq_true rfl) ?_
  intro p e s m args below meth c A ls C0 h hr hl
  have hx := C0.1.1
  have hb := C0.1.2.1
  have hown := C0.1.2.2.2.1
  have hts := C0.1.2.2.2.2
  have hM := hJ.1
  have hl : lv_has ls 3 [(0, _), (1, _), (2, _)] := hl
  refine lv_iload_n hx hb dX3_isUnder_0 rfl (lv_at hl 1 rfl) ?_
  refine r_cSI C0 h hl.1 (ct_X3_isName l k M _ hJ _) gX3_isUnder_X3_isName rfl (by decide +kernel) (n := 1) ⟨Nat.le_of_ble_eq_true rfl, Nat.le_of_ble_eq_true rfl⟩ ⟨Nat.zero_le _, Nat.zero_le _⟩ (Nat.le_of_ble_eq_true rfl) rfl rfl dX3_isUnder_1 (fun r1 I1 H locs hp h => ?_)
  obtain ⟨rfl, hI1⟩ := hp
  rw [hI1] at h
  refine lv_if_eq (tgt := 18) hx hb dX3_isUnder_4 (by decide) (fun c_4 => ?_) (fun c_4 => ?_)
  · exact absurd (show ¬ bI (isNm a) = 0 by rw [h1]; decide) (fun z => z c_4)
  · refine lv_iload_n hx hb dX3_isUnder_7 rfl (lv_at hl 2 rfl) ?_
    refine r_cSI C0 h hl.1 (ct_X3_isNameOrZero l k M _ hJ _) gX3_isUnder_X3_isNameOrZero rfl (by decide +kernel) (n := 1) ⟨Nat.le_of_ble_eq_true rfl, Nat.le_of_ble_eq_true rfl⟩ ⟨Nat.zero_le _, Nat.zero_le _⟩ (Nat.le_of_ble_eq_true rfl) rfl rfl dX3_isUnder_8 (fun r8 I8 H locs hp h => ?_)
    obtain ⟨rfl, hI8⟩ := hp
    rw [hI8] at h
    refine lv_if_eq (tgt := 18) hx hb dX3_isUnder_11 (by decide) (fun c_11 => ?_) (fun c_11 => ?_)
    · exact absurd (show ¬ bI (isN0 o) = 0 by rw [h2]; decide) (fun z => z c_11)
    · refine lv_iconst (v := nI 1) hx hb dX3_isUnder_14 (by decide) ?_
      refine lv_goto (tgt := 19) hx hb dX3_isUnder_15 (by decide) ?_
      refine r_cSV C0 h hl.1 (ok_X3_refuseUnless l k M _ hJ _ (by decide)) gX3_isUnder_X3_refuseUnless rfl (by decide +kernel) (n := 1) ⟨Nat.le_of_ble_eq_true rfl, Nat.le_of_ble_eq_true rfl⟩ ⟨Nat.zero_le _, Nat.zero_le _⟩ (Nat.le_of_ble_eq_true rfl) rfl rfl dX3_isUnder_19 (fun I19 H locs hp h => ?_)
      rw [hp] at h
      refine lv_iload_n hx hb dX3_isUnder_22 rfl (lv_at hl 1 rfl) ?_
      refine lv_iload_n hx hb dX3_isUnder_23 rfl (lv_at hl 2 rfl) ?_
      refine r_cSI C0 h hl.1 (ct_X3_isBelow l k M _ hJ _ _) gX3_isUnder_X3_isBelow rfl (by decide +kernel) (n := 2) ⟨Nat.le_of_ble_eq_true rfl, Nat.le_of_ble_eq_true rfl⟩ ⟨Nat.zero_le _, Nat.zero_le _⟩ (Nat.le_of_ble_eq_true rfl) rfl rfl dX3_isUnder_24 (fun r24 I24 H locs hp h => ?_)
      obtain ⟨rfl, hI24⟩ := hp
      rw [hI24] at h
      exact r_zret C0 h hr dX3_isUnder_27 (by first | exact zb1 | exact zb0 | exact ⟨_, rfl⟩) ⟨rfl, rfl⟩
set_option maxHeartbeats 4000000 in
set_option maxRecDepth 100000 in
theorem ct_X3_backs (l : Launch) (k : Sk) (M : Nat) (I : IS) (hJ : Ij k M) (cn : Nat) (hc20 : cn ≤ 20) (hcn : I 0 4 = nI cn) (x1 x2 : Nat) (h1 : x1 < cn) (h2 : x2 < cn) : MtI l yX3_backs wsX3_backs 12 [.ref (k.2.1 0), .int (nI x1), .int (nI x2)] k M I (fun r I' => r = bI (bkB I x1 x2) ∧ I' = I) := by
  refine mtIz_of (cc := cX3_backs) (maxL := 3) hJ (by decide) rfl (Nat.le_of_ble_eq_true rfl) ?_
  intro p e s m args below meth c A ls C0 h hr hl
  have hx := C0.1.1
  have hb := C0.1.2.1
  have hown := C0.1.2.2.2.1
  have hts := C0.1.2.2.2.2
  have hM := hJ.1
  have hl : lv_has ls 3 [(0, _), (1, _), (2, _)] := hl
  have hinX3 : ∀ w ∈ u_ws RX3 TX3 7, w ∈ wsX3_backs := by decide +kernel
  refine lv_aload_n hx hb dX3_backs_0 rfl (lv_at hl 0 rfl) ?_
  refine lv_iload_n hx hb dX3_backs_1 rfl (lv_at hl 1 rfl) ?_
  refine r_cVV C0 h hl.1 _ (by omega) (ce0 k _) rfl (ok_X3_refuseUnlessLetter l k M _ hJ cn hcn _ (isLt_at h1 (by omega))) gX3_backs_X3_refuseUnlessLetter rfl (by decide +kernel) (n := 1) ⟨Nat.le_of_ble_eq_true rfl, Nat.le_of_ble_eq_true rfl⟩ ⟨Nat.zero_le _, Nat.zero_le _⟩ (Nat.le_of_ble_eq_true rfl) rfl rfl dX3_backs_2 (fun I2 H locs hp h => ?_)
  rw [hp] at h
  refine lv_aload_n hx hb dX3_backs_5 rfl (lv_at hl 0 rfl) ?_
  refine lv_iload_n hx hb dX3_backs_6 rfl (lv_at hl 2 rfl) ?_
  refine r_cVV C0 h hl.1 _ (by omega) (ce0 k _) rfl (ok_X3_refuseUnlessLetter l k M _ hJ cn hcn _ (isLt_at h2 (by omega))) gX3_backs_X3_refuseUnlessLetter rfl (by decide +kernel) (n := 1) ⟨Nat.le_of_ble_eq_true rfl, Nat.le_of_ble_eq_true rfl⟩ ⟨Nat.zero_le _, Nat.zero_le _⟩ (Nat.le_of_ble_eq_true rfl) rfl rfl dX3_backs_7 (fun I7 H locs hp h => ?_)
  rw [hp] at h
  refine lv_aload_n hx hb dX3_backs_10 rfl (lv_at hl 0 rfl) ?_
  refine r_get (T := TX3) (N := 7) C0 h _ (by omega) (ce0 k _) hinX3 rfl 0 (by decide) (by decide +kernel) rfl rfl dX3_backs_11 ?_
  refine lv_iload_n hx hb dX3_backs_14 rfl (lv_at hl 1 rfl) ?_
  refine r_aaldL C0 h _ (by omega) dX3_backs_15 ?_
  refine lv_aload_n hx hb dX3_backs_16 rfl (lv_at hl 0 rfl) ?_
  refine r_get (T := TX3) (N := 7) C0 h _ (by omega) (ce0 k _) hinX3 rfl 0 (by decide) (by decide +kernel) rfl rfl dX3_backs_17 ?_
  refine lv_iload_n hx hb dX3_backs_20 rfl (lv_at hl 2 rfl) ?_
  refine r_aaldL C0 h _ (by omega) dX3_backs_21 ?_
  refine r_cSI C0 h hl.1 (ct_X3_isBacking l k M _ hJ _ _ (by omega) (by omega)) gX3_backs_X3_isBacking rfl (by decide +kernel) (n := 2) ⟨Nat.le_of_ble_eq_true rfl, Nat.le_of_ble_eq_true rfl⟩ ⟨Nat.zero_le _, Nat.zero_le _⟩ (Nat.le_of_ble_eq_true rfl) rfl rfl dX3_backs_22 (fun r22 I22 H locs hp h => ?_)
  obtain ⟨rfl, hI22⟩ := hp
  rw [hI22] at h
  exact r_zret C0 h hr dX3_backs_25 (by first | exact zb1 | exact zb0 | exact ⟨_, rfl⟩) ⟨rfl, rfl⟩
