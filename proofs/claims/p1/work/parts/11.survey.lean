/-! 11: the survey -/
set_option maxHeartbeats 4000000 in
set_option maxRecDepth 100000 in
theorem ct_X3_isLetter (l : Launch) (k : Sk) (M : Nat) (I : IS) (hJ : Ij k M) (cn : Nat) (hcn : I 0 4 = nI cn) (x : Int32) : MtI l yX3_isLetter wsX3_isLetter 1 [.ref (k.2.1 0), .int x] k M I (fun r I' => r = bI (isLt cn x) ∧ I' = I) := by
  refine mtIz_of (cc := cX3_isLetter) (maxL := 2) hJ (by decide) rfl (Nat.le_of_ble_eq_true rfl) ?_
  intro p e s m args below meth c A ls C0 h hr hl
  have hx := C0.1.1
  have hb := C0.1.2.1
  have hown := C0.1.2.2.2.1
  have hts := C0.1.2.2.2.2
  have hM := hJ.1
  have hl : lv_has ls 2 [(0, _), (1, _)] := hl
  have hinX3 : ∀ w ∈ u_ws RX3 TX3 7, w ∈ wsX3_isLetter := by decide +kernel
  refine lv_iload_n hx hb dX3_isLetter_0 rfl (lv_at hl 1 rfl) ?_
  refine lv_if_lt (tgt := 16) hx hb dX3_isLetter_1 (by decide) (fun c_1 => ?_) (fun c_1 => ?_)
  · refine lv_iconst (v := nI 0) hx hb dX3_isLetter_16 (by decide) ?_
    exact r_zret C0 h hr dX3_isLetter_17 (by first | exact zb1 | exact zb0 | exact ⟨_, rfl⟩) ⟨by simp [isLt, bI_t, bI_f, *], rfl⟩
  · refine lv_iload_n hx hb dX3_isLetter_4 rfl (lv_at hl 1 rfl) ?_
    refine lv_aload_n hx hb dX3_isLetter_5 rfl (lv_at hl 0 rfl) ?_
    refine r_get (T := TX3) (N := 7) C0 h _ (by omega) (ce0 k _) hinX3 rfl 4 (by decide) (by decide +kernel) rfl rfl dX3_isLetter_6 ?_
    rw [hcn]
    refine lv_icmp_ge (tgt := 16) hx hb dX3_isLetter_9 (by decide) (fun c_9 => ?_) (fun c_9 => ?_)
    · refine lv_iconst (v := nI 0) hx hb dX3_isLetter_16 (by decide) ?_
      exact r_zret C0 h hr dX3_isLetter_17 (by first | exact zb1 | exact zb0 | exact ⟨_, rfl⟩) ⟨by simp [isLt, bI_t, bI_f, *], rfl⟩
    · refine lv_iconst (v := nI 1) hx hb dX3_isLetter_12 (by decide) ?_
      refine lv_goto (tgt := 17) hx hb dX3_isLetter_13 (by decide) ?_
      exact r_zret C0 h hr dX3_isLetter_17 (by first | exact zb1 | exact zb0 | exact ⟨_, rfl⟩) ⟨by simp [isLt, bI_t, bI_f, *], rfl⟩
set_option maxHeartbeats 4000000 in
set_option maxRecDepth 100000 in
theorem ct_X3_isBacking (l : Launch) (k : Sk) (M : Nat) (I : IS) (hJ : Ij k M) (x1 x2 : Nat) (h1 : x1 < 20) (h2 : x2 < 20) : MtI l yX3_isBacking wsX3_isBacking 4 [.ref (k.2.1 (10 + x1)), .ref (k.2.1 (10 + x2))] k M I (fun r I' => r = bI (bkB I x1 x2) ∧ I' = I) := by
  refine mtIz_of (cc := cX3_isBacking) (maxL := 2) hJ (by decide) rfl (Nat.le_of_ble_eq_true rfl) ?_
  intro p e s m args below meth c A ls C0 h hr hl
  have hx := C0.1.1
  have hb := C0.1.2.1
  have hown := C0.1.2.2.2.1
  have hts := C0.1.2.2.2.2
  have hM := hJ.1
  have hl : lv_has ls 2 [(0, _), (1, _)] := hl
  have hinX2 : ∀ w ∈ u_ws RX2 TX2 12, w ∈ wsX3_isBacking := by decide +kernel
  refine lv_aload_n hx hb dX3_isBacking_0 rfl (lv_at hl 0 rfl) ?_
  refine r_getN (T := TX2) (N := 12) C0 h _ (by omega) (ceL k _ (by omega)) hinX2 rfl 0 (by decide) (by decide +kernel) rfl rfl dX3_isBacking_1 ?_
  refine lv_aload_n hx hb dX3_isBacking_4 rfl (lv_at hl 1 rfl) ?_
  refine r_getN (T := TX2) (N := 12) C0 h _ (by omega) (ceL k _ (by omega)) hinX2 rfl 1 (by decide) (by decide +kernel) rfl rfl dX3_isBacking_5 ?_
  refine lv_icmp_ne (tgt := 26) hx hb dX3_isBacking_8 (by decide) (fun c_8 => ?_) (fun c_8 => ?_)
  · refine lv_iconst (v := nI 0) hx hb dX3_isBacking_26 (by decide) ?_
    exact r_zret C0 h hr dX3_isBacking_27 (by first | exact zb1 | exact zb0 | exact ⟨_, rfl⟩) ⟨by first | rw [bkB, decide_eq_false c_8]; rfl | rw [bkB, decide_eq_true c_8, bI_z c_19]; rfl | rw [bkB, decide_eq_true c_8, bI_nz c_19]; rfl, rfl⟩
  · refine lv_aload_n hx hb dX3_isBacking_11 rfl (lv_at hl 1 rfl) ?_
    refine lv_aload_n hx hb dX3_isBacking_12 rfl (lv_at hl 0 rfl) ?_
    refine r_getN (T := TX2) (N := 12) C0 h _ (by omega) (ceL k _ (by omega)) hinX2 rfl 2 (by decide) (by decide +kernel) rfl rfl dX3_isBacking_13 ?_
    refine r_cVNI C0 h hl.1 _ (by omega) (ceL k _ (by omega)) rfl (ct_X2_isSealedBy l k M _ hJ _ (by omega) _) gX3_isBacking_X2_isSealedBy_n226 rfl (by decide +kernel) (by decide +kernel) (by decide +kernel) (by decide +kernel) (by decide +kernel) (n := 1) ⟨Nat.le_of_ble_eq_true rfl, Nat.le_of_ble_eq_true rfl⟩ ⟨Nat.zero_le _, Nat.zero_le _⟩ (Nat.le_of_ble_eq_true rfl) rfl rfl dX3_isBacking_16 (fun r16 I16 H locs hp h => ?_)
    obtain ⟨rfl, hI16⟩ := hp
    rw [hI16] at h
    refine lv_if_eq (tgt := 26) hx hb dX3_isBacking_19 (by decide) (fun c_19 => ?_) (fun c_19 => ?_)
    · refine lv_iconst (v := nI 0) hx hb dX3_isBacking_26 (by decide) ?_
      exact r_zret C0 h hr dX3_isBacking_27 (by first | exact zb1 | exact zb0 | exact ⟨_, rfl⟩) ⟨by first | rw [bkB, decide_eq_false c_8]; rfl | rw [bkB, decide_eq_true c_8, bI_z c_19]; rfl | rw [bkB, decide_eq_true c_8, bI_nz c_19]; rfl, rfl⟩
    · refine lv_iconst (v := nI 1) hx hb dX3_isBacking_22 (by decide) ?_
      refine lv_goto (tgt := 27) hx hb dX3_isBacking_23 (by decide) ?_
      exact r_zret C0 h hr dX3_isBacking_27 (by first | exact zb1 | exact zb0 | exact ⟨_, rfl⟩) ⟨by first | rw [bkB, decide_eq_false c_8]; rfl | rw [bkB, decide_eq_true c_8, bI_z c_19]; rfl | rw [bkB, decide_eq_true c_8, bI_nz c_19]; rfl, rfl⟩
set_option maxHeartbeats 4000000 in
set_option maxRecDepth 100000 in
theorem ct_X3_backersOf (l : Launch) (k : Sk) (M : Nat) (I : IS) (hJ : Ij k M) (cn : Nat) (hc20 : cn ≤ 20) (hcn : I 0 4 = nI cn) (x2 : Nat) (h2 : x2 < 20) : MtI l yX3_backersOf wsX3_backersOf 5 [.ref (k.2.1 0), .ref (k.2.1 (10 + x2))] k M I (fun r I' => r = nI (bkN I cn x2) ∧ I' = I) := by
  refine mtI_of (cc := cX3_backersOf) (maxL := 4) hJ (by decide) rfl (Nat.le_of_ble_eq_true rfl) ?_
  intro p e s m args below meth c A ls C0 h hr hl
  have hx := C0.1.1
  have hb := C0.1.2.1
  have hown := C0.1.2.2.2.1
  have hts := C0.1.2.2.2.2
  have hM := hJ.1
  have hl : lv_has ls 4 [(0, _), (1, _)] := hl
  have hinX3 : ∀ w ∈ u_ws RX3 TX3 7, w ∈ wsX3_backersOf := by decide +kernel
  refine lv_iconst (v := nI 0) hx hb dX3_backersOf_0 (by decide) ?_
  refine lv_istore_n hx hb dX3_backersOf_1 rfl hl (by decide) rfl (fun ls hl => ?_)
  have hl : lv_has ls 4 [(2, _), (0, _), (1, _)] := hl
  refine lv_iconst (v := nI 0) hx hb dX3_backersOf_2 (by decide) ?_
  refine lv_istore_n hx hb dX3_backersOf_3 rfl hl (by decide) rfl (fun ls hl => ?_)
  have hl : lv_has ls 4 [(3, _), (2, _), (0, _), (1, _)] := hl
  have key4 : ∀ (n : Nat) (j : Nat), 21 - j < n → j ≤ cn → ∀ (H : Heap) (locs : List Loc) (ls : Array Slot), HX k M A s I H locs → lv_has ls 4 [(3, .int (nI j)), (2, .int (nI (bsN (fun b => bkB I b x2) j))), (0, .ref (k.2.1 0)), (1, .ref (k.2.1 (10 + x2)))] → W p l e (Rm 5) s m args below meth c H locs 0 0 (MQ below (va_Qi (fun r I' => r = nI (bkN I cn x2) ∧ I' = I) (EnX k M) A) args s 0 0 A) (F0 m 4 ls []) := by
    intro n
    induction n with
    | zero =>
      intro j hn hj H locs ls h hl
      exact absurd hn (Nat.not_lt_zero _)
    | succ n ih4 =>
      intro j hn hj H locs ls h hl
      refine lv_iload_n hx hb dX3_backersOf_4 rfl (lv_at hl 0 rfl) ?_
      refine lv_aload_n hx hb dX3_backersOf_5 rfl (lv_at hl 2 rfl) ?_
      refine r_get (T := TX3) (N := 7) C0 h _ (by omega) (ce0 k _) hinX3 rfl 4 (by decide) (by decide +kernel) rfl rfl dX3_backersOf_6 ?_
      rw [hcn]
      refine lv_icmp_ge (tgt := 37) hx hb dX3_backersOf_9 (by decide) (fun c_9 => ?_) (fun c_9 => ?_)
      · have hjc : j = cn := by have := (nI_leI (by omega) (by omega)).mp c_9; omega
        refine lv_iload_n hx hb dX3_backersOf_37 rfl (lv_at hl 1 rfl) ?_
        exact r_iret C0 h hr dX3_backersOf_38 ⟨by rw [hjc]; rfl, rfl⟩
      · have hjc : j < cn := Nat.lt_of_not_le (fun q => c_9 (nI_le q (by omega)))
        refine lv_aload_n hx hb dX3_backersOf_12 rfl (lv_at hl 2 rfl) ?_
        refine r_get (T := TX3) (N := 7) C0 h _ (by omega) (ce0 k _) hinX3 rfl 0 (by decide) (by decide +kernel) rfl rfl dX3_backersOf_13 ?_
        refine lv_iload_n hx hb dX3_backersOf_16 rfl (lv_at hl 0 rfl) ?_
        refine r_aaldL C0 h _ (by omega) dX3_backersOf_17 ?_
        refine lv_aload_n hx hb dX3_backersOf_18 rfl (lv_at hl 3 rfl) ?_
        refine r_cSI C0 h hl.1 (ct_X3_isBacking l k M _ hJ _ _ (by omega) (by omega)) gX3_backersOf_X3_isBacking rfl (by decide +kernel) (n := 2) ⟨Nat.le_of_ble_eq_true rfl, Nat.le_of_ble_eq_true rfl⟩ ⟨Nat.zero_le _, Nat.zero_le _⟩ (Nat.le_of_ble_eq_true rfl) rfl rfl dX3_backersOf_19 (fun r19 I19 H locs hp h => ?_)
        obtain ⟨rfl, hI19⟩ := hp
        rw [hI19] at h
        refine lv_if_eq (tgt := 31) hx hb dX3_backersOf_22 (by decide) (fun c_22 => ?_) (fun c_22 => ?_)
        · rw [bs_no (p := fun b => bkB I b x2) (bI_z c_22)] at hl
          refine lv_iinc (v := nI (j + 1)) hx hb dX3_backersOf_31 hl (k := 0) rfl (nI_1 _) (by decide) rfl (fun ls hl => ?_)
          have hl : lv_has ls 4 [(3, _), (2, _), (0, _), (1, _)] := hl
          refine lv_goto (tgt := 4) hx hb dX3_backersOf_34 (by decide) ?_
          exact ih4 (j + 1) (by omega) (by omega) _ _ _ h (lv_sub hl [0, 1, 2, 3] rfl)
        · refine lv_iload_n hx hb dX3_backersOf_25 rfl (lv_at hl 1 rfl) ?_
          refine lv_iconst (v := nI 1) hx hb dX3_backersOf_26 (by decide) ?_
          refine lv_iload_n hx hb dX3_backersOf_27 rfl (lv_at hl 0 rfl) ?_
          refine lv_ishl hx hb dX3_backersOf_28 ?_
          refine lv_ior hx hb dX3_backersOf_29 ?_
          rw [bs_up (p := fun b => bkB I b x2) (by omega) (bI_nz c_22)]
          refine lv_istore_n hx hb dX3_backersOf_30 rfl hl (by decide) rfl (fun ls hl => ?_)
          have hl : lv_has ls 4 [(2, _), (3, _), (0, _), (1, _)] := hl
          refine lv_iinc (v := nI (j + 1)) hx hb dX3_backersOf_31 hl (k := 1) rfl (nI_1 _) (by decide) rfl (fun ls hl => ?_)
          have hl : lv_has ls 4 [(3, _), (2, _), (0, _), (1, _)] := hl
          refine lv_goto (tgt := 4) hx hb dX3_backersOf_34 (by decide) ?_
          exact ih4 (j + 1) (by omega) (by omega) _ _ _ h (lv_sub hl [0, 1, 2, 3] rfl)
  exact key4 100 0 (by omega) (by omega) _ _ _ h (lv_sub hl [0, 1, 2, 3] rfl)
set_option maxHeartbeats 4000000 in
set_option maxRecDepth 100000 in
theorem ct_X3_anchorSet (l : Launch) (k : Sk) (M : Nat) (I : IS) (hJ : Ij k M) (cn : Nat) (hc20 : cn ≤ 20) (hcn : I 0 4 = nI cn) : MtI l yX3_anchorSet wsX3_anchorSet 1 [.ref (k.2.1 0)] k M I (fun r I' => r = nI (anN I cn) ∧ I' = I) := by
  refine mtI_of (cc := cX3_anchorSet) (maxL := 3) hJ (by decide) rfl (Nat.le_of_ble_eq_true rfl) ?_
  intro p e s m args below meth c A ls C0 h hr hl
  have hx := C0.1.1
  have hb := C0.1.2.1
  have hown := C0.1.2.2.2.1
  have hts := C0.1.2.2.2.2
  have hM := hJ.1
  have hl : lv_has ls 3 [(0, _)] := hl
  have hinX2 : ∀ w ∈ u_ws RX2 TX2 12, w ∈ wsX3_anchorSet := by decide +kernel
  have hinX3 : ∀ w ∈ u_ws RX3 TX3 7, w ∈ wsX3_anchorSet := by decide +kernel
  refine lv_iconst (v := nI 0) hx hb dX3_anchorSet_0 (by decide) ?_
  refine lv_istore_n hx hb dX3_anchorSet_1 rfl hl (by decide) rfl (fun ls hl => ?_)
  have hl : lv_has ls 3 [(1, _), (0, _)] := hl
  refine lv_iconst (v := nI 0) hx hb dX3_anchorSet_2 (by decide) ?_
  refine lv_istore_n hx hb dX3_anchorSet_3 rfl hl (by decide) rfl (fun ls hl => ?_)
  have hl : lv_has ls 3 [(2, _), (1, _), (0, _)] := hl
  have key4 : ∀ (n : Nat) (j : Nat), 21 - j < n → j ≤ cn → ∀ (H : Heap) (locs : List Loc) (ls : Array Slot), HX k M A s I H locs → lv_has ls 3 [(2, .int (nI j)), (1, .int (nI (bsN (ancB I) j))), (0, .ref (k.2.1 0))] → W p l e (Rm 1) s m args below meth c H locs 0 0 (MQ below (va_Qi (fun r I' => r = nI (anN I cn) ∧ I' = I) (EnX k M) A) args s 0 0 A) (F0 m 4 ls []) := by
    intro n
    induction n with
    | zero =>
      intro j hn hj H locs ls h hl
      exact absurd hn (Nat.not_lt_zero _)
    | succ n ih4 =>
      intro j hn hj H locs ls h hl
      refine lv_iload_n hx hb dX3_anchorSet_4 rfl (lv_at hl 0 rfl) ?_
      refine lv_aload_n hx hb dX3_anchorSet_5 rfl (lv_at hl 2 rfl) ?_
      refine r_get (T := TX3) (N := 7) C0 h _ (by omega) (ce0 k _) hinX3 rfl 4 (by decide) (by decide +kernel) rfl rfl dX3_anchorSet_6 ?_
      rw [hcn]
      refine lv_icmp_ge (tgt := 36) hx hb dX3_anchorSet_9 (by decide) (fun c_9 => ?_) (fun c_9 => ?_)
      · have hjc : j = cn := by have := (nI_leI (by omega) (by omega)).mp c_9; omega
        refine lv_iload_n hx hb dX3_anchorSet_36 rfl (lv_at hl 1 rfl) ?_
        exact r_iret C0 h hr dX3_anchorSet_37 ⟨by rw [hjc]; rfl, rfl⟩
      · have hjc : j < cn := Nat.lt_of_not_le (fun q => c_9 (nI_le q (by omega)))
        refine lv_aload_n hx hb dX3_anchorSet_12 rfl (lv_at hl 2 rfl) ?_
        refine r_get (T := TX3) (N := 7) C0 h _ (by omega) (ce0 k _) hinX3 rfl 0 (by decide) (by decide +kernel) rfl rfl dX3_anchorSet_13 ?_
        refine lv_iload_n hx hb dX3_anchorSet_16 rfl (lv_at hl 0 rfl) ?_
        refine r_aaldL C0 h _ (by omega) dX3_anchorSet_17 ?_
        refine r_getN (T := TX2) (N := 12) C0 h _ (by omega) (ceL k _ (by omega)) hinX2 rfl 11 (by decide) (by decide +kernel) rfl rfl dX3_anchorSet_18 ?_
        refine lv_if_eq (tgt := 30) hx hb dX3_anchorSet_21 (by decide) (fun c_21 => ?_) (fun c_21 => ?_)
        · rw [bs_no (p := ancB I) (decide_eq_false (fun q => q c_21))] at hl
          refine lv_iinc (v := nI (j + 1)) hx hb dX3_anchorSet_30 hl (k := 0) rfl (nI_1 _) (by decide) rfl (fun ls hl => ?_)
          have hl : lv_has ls 3 [(2, _), (1, _), (0, _)] := hl
          refine lv_goto (tgt := 4) hx hb dX3_anchorSet_33 (by decide) ?_
          exact ih4 (j + 1) (by omega) (by omega) _ _ _ h (lv_sub hl [0, 1, 2] rfl)
        · refine lv_iload_n hx hb dX3_anchorSet_24 rfl (lv_at hl 1 rfl) ?_
          refine lv_iconst (v := nI 1) hx hb dX3_anchorSet_25 (by decide) ?_
          refine lv_iload_n hx hb dX3_anchorSet_26 rfl (lv_at hl 0 rfl) ?_
          refine lv_ishl hx hb dX3_anchorSet_27 ?_
          refine lv_ior hx hb dX3_anchorSet_28 ?_
          rw [bs_up (p := ancB I) (by omega) (decide_eq_true c_21)]
          refine lv_istore_n hx hb dX3_anchorSet_29 rfl hl (by decide) rfl (fun ls hl => ?_)
          have hl : lv_has ls 3 [(1, _), (2, _), (0, _)] := hl
          refine lv_iinc (v := nI (j + 1)) hx hb dX3_anchorSet_30 hl (k := 1) rfl (nI_1 _) (by decide) rfl (fun ls hl => ?_)
          have hl : lv_has ls 3 [(2, _), (1, _), (0, _)] := hl
          refine lv_goto (tgt := 4) hx hb dX3_anchorSet_33 (by decide) ?_
          exact ih4 (j + 1) (by omega) (by omega) _ _ _ h (lv_sub hl [0, 1, 2] rfl)
  exact key4 100 0 (by omega) (by omega) _ _ _ h (lv_sub hl [0, 1, 2] rfl)
set_option maxHeartbeats 4000000 in
set_option maxRecDepth 100000 in
theorem ct_X3_survey (l : Launch) (k : Sk) (M : Nat) (I : IS) (hJ : Ij k M) (cn : Nat) (hc20 : cn ≤ 20) (hcn : I 0 4 = nI cn) (lcn : Nat) (hl8 : lcn ≤ 8) (hlcn : I 0 5 = nI lcn) : MtV l yX3_survey wsX3_survey 6 [.ref (k.2.1 0)] k M I (fun I' => SvH I' cn ∧ SgH I' lcn ∧ vw I' = vw I ∧ I' 4 = I 4) := by
  refine mtV_of (cc := cX3_survey) (maxL := 2) hJ (by decide) rfl (Nat.le_of_ble_eq_true rfl) ?_
  intro p e s m args below meth c A ls C0 h hr hl
  have hx := C0.1.1
  have hb := C0.1.2.1
  have hown := C0.1.2.2.2.1
  have hts := C0.1.2.2.2.2
  have hM := hJ.1
  have hl : lv_has ls 2 [(0, _)] := hl
  have hinX1 : ∀ w ∈ u_ws RX1 TX1 7, w ∈ wsX3_survey := by decide +kernel
  have hinX3 : ∀ w ∈ u_ws RX3 TX3 7, w ∈ wsX3_survey := by decide +kernel
  refine lv_iconst (v := nI 0) hx hb dX3_survey_0 (by decide) ?_
  refine lv_istore_n hx hb dX3_survey_1 rfl hl (by decide) rfl (fun ls hl => ?_)
  have hl : lv_has ls 2 [(1, _), (0, _)] := hl
  have key2 : ∀ (n : Nat) (j : Nat) (I1 : IS), 21 - j < n → j ≤ cn → (∀ a, a < j → I1 5 a = nI (bkN (vw I) cn a)) → vw I1 = vw I → I1 4 = I 4 → ∀ (H : Heap) (locs : List Loc) (ls : Array Slot), HX k M A s I1 H locs → lv_has ls 2 [(1, .int (nI j)), (0, .ref (k.2.1 0))] → W p l e (Rm 6) s m args below meth c H locs 0 0 (MQ below (va_Qv (fun I' => SvH I' cn ∧ SgH I' lcn ∧ vw I' = vw I ∧ I' 4 = I 4) (EnX k M) A) args s 0 0 A) (F0 m 2 ls []) := by
    intro n
    induction n with
    | zero =>
      intro j I1 hn hj hbk hv hv4 H locs ls h hl
      exact absurd hn (Nat.not_lt_zero _)
    | succ n ih2 =>
      intro j I1 hn hj hbk hv hv4 H locs ls h hl
      have hcn1 : I1 0 4 = nI cn := by rw [vw_use0 hv]; exact hcn
      refine lv_iload_n hx hb dX3_survey_2 rfl (lv_at hl 0 rfl) ?_
      refine lv_aload_n hx hb dX3_survey_3 rfl (lv_at hl 1 rfl) ?_
      refine r_get (T := TX3) (N := 7) C0 h _ (by omega) (ce0 k _) hinX3 rfl 4 (by decide) (by decide +kernel) rfl rfl dX3_survey_4 ?_
      rw [hcn1]
      refine lv_icmp_ge (tgt := 35) hx hb dX3_survey_7 (by decide) (fun c_7 => ?_) (fun c_7 => ?_)
      · have hjc : j = cn := by have := (nI_leI (by omega) (by omega)).mp c_7; omega
        refine lv_aload_n hx hb dX3_survey_35 rfl (lv_at hl 1 rfl) ?_
        refine r_get (T := TX3) (N := 7) C0 h _ (by omega) (ce0 k _) hinX3 rfl 2 (by decide) (by decide +kernel) rfl rfl dX3_survey_36 ?_
        refine lv_aload_n hx hb dX3_survey_39 rfl (lv_at hl 1 rfl) ?_
        refine r_get (T := TX3) (N := 7) C0 h _ (by omega) (ce0 k _) hinX3 rfl 4 (by decide) (by decide +kernel) rfl rfl dX3_survey_40 ?_
        rw [hcn1]
        refine lv_aload_n hx hb dX3_survey_43 rfl (lv_at hl 1 rfl) ?_
        refine r_cVI C0 h hl.1 _ (by omega) (ce0 k _) rfl (ct_X3_anchorSet l k M _ hJ cn hc20 hcn1) gX3_survey_X3_anchorSet rfl (by decide +kernel) (n := 0) ⟨Nat.le_of_ble_eq_true rfl, Nat.le_of_ble_eq_true rfl⟩ ⟨Nat.zero_le _, Nat.zero_le _⟩ (Nat.le_of_ble_eq_true rfl) rfl rfl dX3_survey_44 (fun r44 I44 H locs hp h => ?_)
        obtain ⟨rfl, hI44⟩ := hp
        rw [hI44] at h
        rw [← anN_vw I1 hc20]
        refine r_cVNV C0 h hl.1 _ (by omega) (ce3 k _) rfl (ct_X1_markWays l k M _ hJ cn hc20 (fun a ha => by rw [hv]; exact hbk a (by omega))) gX3_survey_X1_markWays_n239 rfl (by decide +kernel) (by decide +kernel) (by decide +kernel) (by decide +kernel) (by decide +kernel) (n := 2) ⟨Nat.le_of_ble_eq_true rfl, Nat.le_of_ble_eq_true rfl⟩ ⟨Nat.zero_le _, Nat.zero_le _⟩ (Nat.le_of_ble_eq_true rfl) rfl rfl dX3_survey_47 (fun I47 H locs hp h => ?_)
        -- marked
        refine lv_iconst (v := nI 0) hx hb dX3_survey_50 (by decide) ?_
        refine lv_istore_n hx hb dX3_survey_51 rfl hl (by decide) rfl (fun ls hl => ?_)
        have hl : lv_has ls 2 [(1, _), (0, _)] := hl
        have key52 : ∀ (n : Nat) (q : Nat) (I2 : IS), 9 - q < n → q ≤ lcn → SvH I2 cn → (∀ a, a < q → I2 (30 + a) 5 = sgF (prCf (vw I (30 + a))) (vw I (30 + a) 4) 16) → vw I2 = vw I → I2 4 = I 4 → ∀ (H : Heap) (locs : List Loc) (ls : Array Slot), HX k M A s I2 H locs → lv_has ls 2 [(1, .int (nI q)), (0, .ref (k.2.1 0))] → W p l e (Rm 6) s m args below meth c H locs 0 0 (MQ below (va_Qv (fun I' => SvH I' cn ∧ SgH I' lcn ∧ vw I' = vw I ∧ I' 4 = I 4) (EnX k M) A) args s 0 0 A) (F0 m 52 ls []) := by
          intro n
          induction n with
          | zero =>
            intro q I2 hn52 hq hS2 hsg hv2 hv24 H locs ls h hl
            exact absurd hn52 (Nat.not_lt_zero _)
          | succ n ih52 =>
            intro q I2 hn52 hq hS2 hsg hv2 hv24 H locs ls h hl
            refine lv_iload_n hx hb dX3_survey_52 rfl (lv_at hl 0 rfl) ?_
            refine lv_aload_n hx hb dX3_survey_53 rfl (lv_at hl 1 rfl) ?_
            refine r_get (T := TX3) (N := 7) C0 h _ (by omega) (ce0 k _) hinX3 rfl 5 (by decide) (by decide +kernel) rfl rfl dX3_survey_54 ?_
            rw [vw_use0 hv2, hlcn]
            refine lv_icmp_ge (tgt := 75) hx hb dX3_survey_57 (by decide) (fun c_57 => ?_) (fun c_57 => ?_)
            · have hqc : q = lcn := by have := (nI_leI (by omega) (by omega)).mp c_57; omega
              exact r_vret C0 h hr dX3_survey_75 ⟨hS2, fun a ha => by rw [hv2]; exact hsg a (by omega), hv2, hv24⟩
            · have hqc : q < lcn := Nat.lt_of_not_le (fun z => c_57 (nI_le z (by omega)))
              refine lv_aload_n hx hb dX3_survey_60 rfl (lv_at hl 1 rfl) ?_
              refine r_get (T := TX3) (N := 7) C0 h _ (by omega) (ce0 k _) hinX3 rfl 1 (by decide) (by decide +kernel) rfl rfl dX3_survey_61 ?_
              refine lv_iload_n hx hb dX3_survey_64 rfl (lv_at hl 0 rfl) ?_
              refine r_aaldC C0 h _ (by omega) dX3_survey_65 ?_
              refine r_cVNV C0 h hl.1 _ (by omega) (ceC k _ (by omega)) rfl (ct_X0_markSigners l k M _ hJ q (by omega)) gX3_survey_X0_markSigners_n242 rfl (by decide +kernel) (by decide +kernel) (by decide +kernel) (by decide +kernel) (by decide +kernel) (n := 0) ⟨Nat.le_of_ble_eq_true rfl, Nat.le_of_ble_eq_true rfl⟩ ⟨Nat.zero_le _, Nat.zero_le _⟩ (Nat.le_of_ble_eq_true rfl) rfl rfl dX3_survey_66 (fun I66 H locs hp h => ?_)
              rw [hp, show prCf (I2 (30 + q)) = prCf (vw I2 (30 + q)) from (by unfold prCf; rw [vwC_ I2 (j := q) (by omega) (by decide), vwC_ I2 (j := q) (by omega) (by decide), vwC_ I2 (j := q) (by omega) (by decide), vwC_ I2 (j := q) (by omega) (by decide)]), show I2 (30 + q) 4 = vw I2 (30 + q) 4 from (vwC_ I2 (j := q) (by omega) (by decide)).symm] at h
              refine lv_iinc (v := nI (q + 1)) hx hb dX3_survey_69 hl (k := 0) rfl (nI_1 _) (by decide) rfl (fun ls hl => ?_)
              have hl : lv_has ls 2 [(1, _), (0, _)] := hl
              refine lv_goto (tgt := 52) hx hb dX3_survey_72 (by decide) ?_
              exact ih52 (q + 1) _ (by omega) (by omega) (hS2.up (by omega) _) (fun a ha => by rcases Nat.lt_or_ge a q with z | z; (rw [up2_n _ _ _ _ (by omega)]; exact hsg a z); (obtain rfl : a = q := (by omega)); rw [up2_s, ← prC_vw (I := vw I) (I' := vw I2) (by rw [hv2]) (by omega), hv2]) (by rw [vw_up _ (obC5 (by omega))]; exact hv2) (by rw [up2_ne _ _ _ (by omega)]; exact hv24) _ _ _ h (lv_sub hl [0, 1] rfl)
        exact key52 100 0 _ (by omega) (by omega) hp.1 (fun a ha => absurd ha (Nat.not_lt_zero _)) (hp.2.vw.trans hv) (by rw [← hv4]; funext q; exact hp.2 4 q (by decide) (by decide)) _ _ _ h (lv_sub hl [0, 1] rfl)
      · have hjc : j < cn := Nat.lt_of_not_le (fun q => c_7 (nI_le q (by omega)))
        refine lv_aload_n hx hb dX3_survey_10 rfl (lv_at hl 1 rfl) ?_
        refine r_get (T := TX3) (N := 7) C0 h _ (by omega) (ce0 k _) hinX3 rfl 2 (by decide) (by decide +kernel) rfl rfl dX3_survey_11 ?_
        refine r_getN (T := TX1) (N := 7) C0 h _ (by omega) (ce3 k _) hinX1 rfl 0 (by decide) (by decide +kernel) rfl rfl dX3_survey_14 ?_
        refine lv_iload_n hx hb dX3_survey_17 rfl (lv_at hl 0 rfl) ?_
        refine lv_aload_n hx hb dX3_survey_18 rfl (lv_at hl 1 rfl) ?_
        refine lv_aload_n hx hb dX3_survey_19 rfl (lv_at hl 1 rfl) ?_
        refine r_get (T := TX3) (N := 7) C0 h _ (by omega) (ce0 k _) hinX3 rfl 0 (by decide) (by decide +kernel) rfl rfl dX3_survey_20 ?_
        refine lv_iload_n hx hb dX3_survey_23 rfl (lv_at hl 0 rfl) ?_
        refine r_aaldL C0 h _ (by omega) dX3_survey_24 ?_
        refine r_cVI C0 h hl.1 _ (by omega) (ce0 k _) rfl (ct_X3_backersOf l k M _ hJ cn hc20 hcn1 j (by omega)) gX3_survey_X3_backersOf rfl (by decide +kernel) (n := 1) ⟨Nat.le_of_ble_eq_true rfl, Nat.le_of_ble_eq_true rfl⟩ ⟨Nat.zero_le _, Nat.zero_le _⟩ (Nat.le_of_ble_eq_true rfl) rfl rfl dX3_survey_25 (fun r25 I25 H locs hp h => ?_)
        obtain ⟨rfl, hI25⟩ := hp
        rw [hI25] at h
        refine r_iast C0 h 5 (by omega) isA_5 _ (by show _ < 20; omega) dX3_survey_28 (fun H locs h => ?_)
        refine lv_iinc (v := nI (j + 1)) hx hb dX3_survey_29 hl (k := 0) rfl (nI_1 _) (by decide) rfl (fun ls hl => ?_)
        have hl : lv_has ls 2 [(1, _), (0, _)] := hl
        refine lv_goto (tgt := 2) hx hb dX3_survey_32 (by decide) ?_
        exact ih2 (j + 1) _ (by omega) (by omega) (fun a ha => by rcases Nat.lt_or_ge a j with q | q; (rw [up2_f _ _ _ _ (by omega)]; exact hbk a q); (obtain rfl : a = j := (by omega)); rw [up2_s, ← hv, bkN_vw I1 hc20 (by omega)]) (by rw [vw_up _ (ob5 _)]; exact hv) (by rw [up2_ne _ _ _ (by decide)]; exact hv4) _ _ _ h (lv_sub hl [0, 1] rfl)
  exact key2 100 0 _ (by omega) (by omega) (fun a ha => absurd ha (Nat.not_lt_zero _)) rfl rfl _ _ _ h (lv_sub hl [0, 1] rfl)
set_option maxHeartbeats 4000000 in
set_option maxRecDepth 100000 in
theorem ct_X3_latestList (l : Launch) (k : Sk) (M : Nat) (I : IS) (hJ : Ij k M) (lcn : Nat) (hl8 : lcn ≤ 8) (hlcn : I 0 5 = nI lcn) (hsg : SgH I lcn) (iss key t : Int32) : MtI l yX3_latestList wsX3_latestList 1 [.ref (k.2.1 0), .int iss, .int key, .int t] k M I (fun r I' => r = opI (ltF (vw I) iss key t lcn).1 ∧ I' = I) := by
  refine mtI_of (cc := cX3_latestList) (maxL := 9) hJ (by decide) rfl (Nat.le_of_ble_eq_true rfl) ?_
  intro p e s m args below meth c A ls C0 h hr hl
  have hx := C0.1.1
  have hb := C0.1.2.1
  have hown := C0.1.2.2.2.1
  have hts := C0.1.2.2.2.2
  have hM := hJ.1
  have hl : lv_has ls 9 [(0, _), (1, _), (2, _), (3, _)] := hl
  have hinX0 : ∀ w ∈ u_ws RX0 TX0 6, w ∈ wsX3_latestList := by decide +kernel
  have hinX3 : ∀ w ∈ u_ws RX3 TX3 7, w ∈ wsX3_latestList := by decide +kernel
  refine lv_iconst (v := (-1)) hx hb dX3_latestList_0 (by decide) ?_
  refine lv_istore hx hb dX3_latestList_1 hl (by decide) rfl (fun ls hl => ?_)
  have hl : lv_has ls 9 [(4, _), (0, _), (1, _), (2, _), (3, _)] := hl
  refine lv_iconst (v := (-1)) hx hb dX3_latestList_3 (by decide) ?_
  refine lv_istore hx hb dX3_latestList_4 hl (by decide) rfl (fun ls hl => ?_)
  have hl : lv_has ls 9 [(5, _), (4, _), (0, _), (1, _), (2, _), (3, _)] := hl
  refine lv_iconst (v := nI 0) hx hb dX3_latestList_6 (by decide) ?_
  refine lv_istore hx hb dX3_latestList_7 hl (by decide) rfl (fun ls hl => ?_)
  have hl : lv_has ls 9 [(6, _), (5, _), (4, _), (0, _), (1, _), (2, _), (3, _)] := hl
  have key9 : ∀ (n : Nat) (j : Nat), 9 - j < n → j ≤ lcn → ∀ (H : Heap) (locs : List Loc) (ls : Array Slot), HX k M A s I H locs → lv_has ls 9 [(6, .int (nI j)), (4, .int (opI (ltF (vw I) iss key t j).1)), (5, .int (ltF (vw I) iss key t j).2), (0, .ref (k.2.1 0)), (1, .int iss), (2, .int key), (3, .int t)] → W p l e (Rm 1) s m args below meth c H locs 0 0 (MQ below (va_Qi (fun r I' => r = opI (ltF (vw I) iss key t lcn).1 ∧ I' = I) (EnX k M) A) args s 0 0 A) (F0 m 9 ls []) := by
    intro n
    induction n with
    | zero =>
      intro j hn hj H locs ls h hl
      exact absurd hn (Nat.not_lt_zero _)
    | succ n ih9 =>
      intro j hn hj H locs ls h hl
      refine lv_iload hx hb dX3_latestList_9 (lv_at hl 0 rfl) ?_
      refine lv_aload_n hx hb dX3_latestList_11 rfl (lv_at hl 3 rfl) ?_
      refine r_get (T := TX3) (N := 7) C0 h _ (by omega) (ce0 k _) hinX3 rfl 5 (by decide) (by decide +kernel) rfl rfl dX3_latestList_12 ?_
      rw [hlcn]
      refine lv_icmp_ge (tgt := 96) hx hb dX3_latestList_15 (by decide) (fun c_15 => ?_) (fun c_15 => ?_)
      · have hjc : j = lcn := by have := (nI_leI (by omega) (by omega)).mp c_15; omega
        refine lv_iload hx hb dX3_latestList_96 (lv_at hl 1 rfl) ?_
        exact r_iret C0 h hr dX3_latestList_98 ⟨by rw [hjc], rfl⟩
      · have hjc : j < lcn := Nat.lt_of_not_le (fun q => c_15 (nI_le q (by omega)))
        have hj8 : j < 8 := by omega
        refine lv_aload_n hx hb dX3_latestList_18 rfl (lv_at hl 3 rfl) ?_
        refine r_get (T := TX3) (N := 7) C0 h _ (by omega) (ce0 k _) hinX3 rfl 1 (by decide) (by decide +kernel) rfl rfl dX3_latestList_19 ?_
        refine lv_iload hx hb dX3_latestList_22 (lv_at hl 0 rfl) ?_
        refine r_aaldC C0 h _ (by omega) dX3_latestList_24 ?_
        refine lv_astore hx hb dX3_latestList_25 hl (by decide) rfl (fun ls hl => ?_)
        have hl : lv_has ls 9 [(7, _), (6, _), (4, _), (5, _), (0, _), (1, _), (2, _), (3, _)] := hl
        refine lv_aload hx hb dX3_latestList_27 (lv_at hl 0 rfl) ?_
        refine r_getN (T := TX0) (N := 6) C0 h _ (by omega) (ceC k _ (by omega)) hinX0 rfl 0 (by decide) (by decide +kernel) rfl rfl dX3_latestList_29 ?_
        rw [← vwC_ I hj8 (q := 0) (by decide)]
        refine lv_iload_n hx hb dX3_latestList_32 rfl (lv_at hl 5 rfl) ?_
        refine lv_icmp_ne (tgt := 52) hx hb dX3_latestList_33 (by decide) (fun c_33 => ?_) (fun c_33 => ?_)
        · have hno : ltF (vw I) iss key t (j + 1) = ltF (vw I) iss key t j := if_neg (fun z => c_33 z.1)
          rw [← hno] at hl
          refine lv_iconst (v := nI 0) hx hb dX3_latestList_52 (by decide) ?_
          refine lv_istore hx hb dX3_latestList_53 hl (by decide) rfl (fun ls hl => ?_)
          have hl : lv_has ls 9 [(8, _), (7, _), (6, _), (4, _), (5, _), (0, _), (1, _), (2, _), (3, _)] := hl
          refine lv_iload hx hb dX3_latestList_55 (lv_at hl 0 rfl) ?_
          refine lv_if_eq (tgt := 90) hx hb dX3_latestList_57 (by decide) (fun c_57 => ?_) (fun c_57 => ?_)
          · refine lv_iinc (v := nI (j + 1)) hx hb dX3_latestList_90 hl (k := 2) rfl (nI_1 _) (by decide) rfl (fun ls hl => ?_)
            have hl : lv_has ls 9 [(6, _), (8, _), (7, _), (4, _), (5, _), (0, _), (1, _), (2, _), (3, _)] := hl
            refine lv_goto (tgt := 9) hx hb dX3_latestList_93 (by decide) ?_
            exact ih9 (j + 1) (by omega) (by omega) _ _ _ h (lv_sub hl [0, 3, 4, 5, 6, 7, 8] rfl)
          · exact absurd c_57 (by decide)
        · refine lv_aload hx hb dX3_latestList_36 (lv_at hl 0 rfl) ?_
          refine r_getN (T := TX0) (N := 6) C0 h _ (by omega) (ceC k _ (by omega)) hinX0 rfl 5 (by decide) (by decide +kernel) rfl rfl dX3_latestList_38 ?_
          rw [hsg j hjc]
          refine lv_iload_n hx hb dX3_latestList_41 rfl (lv_at hl 6 rfl) ?_
          refine lv_ishr hx hb dX3_latestList_42 ?_
          refine lv_iconst (v := nI 1) hx hb dX3_latestList_43 (by decide) ?_
          refine lv_iand hx hb dX3_latestList_44 ?_
          refine lv_if_eq (tgt := 52) hx hb dX3_latestList_45 (by decide) (fun c_45 => ?_) (fun c_45 => ?_)
          · have hno : ltF (vw I) iss key t (j + 1) = ltF (vw I) iss key t j := if_neg (fun z => by have h9 := z.2.1; unfold sgB at h9; exact of_decide_eq_true h9 c_45)
            rw [← hno] at hl
            refine lv_iconst (v := nI 0) hx hb dX3_latestList_52 (by decide) ?_
            refine lv_istore hx hb dX3_latestList_53 hl (by decide) rfl (fun ls hl => ?_)
            have hl : lv_has ls 9 [(8, _), (7, _), (6, _), (4, _), (5, _), (0, _), (1, _), (2, _), (3, _)] := hl
            refine lv_iload hx hb dX3_latestList_55 (lv_at hl 0 rfl) ?_
            refine lv_if_eq (tgt := 90) hx hb dX3_latestList_57 (by decide) (fun c_57 => ?_) (fun c_57 => ?_)
            · refine lv_iinc (v := nI (j + 1)) hx hb dX3_latestList_90 hl (k := 2) rfl (nI_1 _) (by decide) rfl (fun ls hl => ?_)
              have hl : lv_has ls 9 [(6, _), (8, _), (7, _), (4, _), (5, _), (0, _), (1, _), (2, _), (3, _)] := hl
              refine lv_goto (tgt := 9) hx hb dX3_latestList_93 (by decide) ?_
              exact ih9 (j + 1) (by omega) (by omega) _ _ _ h (lv_sub hl [0, 3, 4, 5, 6, 7, 8] rfl)
            · exact absurd c_57 (by decide)
          · refine lv_iconst (v := nI 1) hx hb dX3_latestList_48 (by decide) ?_
            refine lv_goto (tgt := 53) hx hb dX3_latestList_49 (by decide) ?_
            refine lv_istore hx hb dX3_latestList_53 hl (by decide) rfl (fun ls hl => ?_)
            have hl : lv_has ls 9 [(8, _), (7, _), (6, _), (4, _), (5, _), (0, _), (1, _), (2, _), (3, _)] := hl
            refine lv_iload hx hb dX3_latestList_55 (lv_at hl 0 rfl) ?_
            refine lv_if_eq (tgt := 90) hx hb dX3_latestList_57 (by decide) (fun c_57 => ?_) (fun c_57 => ?_)
            · exact absurd c_57 (by decide)
            · refine lv_aload hx hb dX3_latestList_60 (lv_at hl 1 rfl) ?_
              refine r_getN (T := TX0) (N := 6) C0 h _ (by omega) (ceC k _ (by omega)) hinX0 rfl 1 (by decide) (by decide +kernel) rfl rfl dX3_latestList_62 ?_
              rw [← vwC_ I hj8 (q := 1) (by decide)]
              refine lv_iload_n hx hb dX3_latestList_65 rfl (lv_at hl 8 rfl) ?_
              refine lv_icmp_gt (tgt := 90) hx hb dX3_latestList_66 (by decide) (fun c_66 => ?_) (fun c_66 => ?_)
              · have hno : ltF (vw I) iss key t (j + 1) = ltF (vw I) iss key t j := if_neg (fun z => fa_ge z.2.2.1 c_66)
                rw [← hno] at hl
                refine lv_iinc (v := nI (j + 1)) hx hb dX3_latestList_90 hl (k := 2) rfl (nI_1 _) (by decide) rfl (fun ls hl => ?_)
                have hl : lv_has ls 9 [(6, _), (8, _), (7, _), (4, _), (5, _), (0, _), (1, _), (2, _), (3, _)] := hl
                refine lv_goto (tgt := 9) hx hb dX3_latestList_93 (by decide) ?_
                exact ih9 (j + 1) (by omega) (by omega) _ _ _ h (lv_sub hl [0, 3, 4, 5, 6, 7, 8] rfl)
              · refine lv_aload hx hb dX3_latestList_69 (lv_at hl 1 rfl) ?_
                refine r_getN (T := TX0) (N := 6) C0 h _ (by omega) (ceC k _ (by omega)) hinX0 rfl 1 (by decide) (by decide +kernel) rfl rfl dX3_latestList_71 ?_
                rw [← vwC_ I hj8 (q := 1) (by decide)]
                refine lv_iload hx hb dX3_latestList_74 (lv_at hl 4 rfl) ?_
                refine lv_icmp_lt (tgt := 90) hx hb dX3_latestList_76 (by decide) (fun c_76 => ?_) (fun c_76 => ?_)
                · have hno : ltF (vw I) iss key t (j + 1) = ltF (vw I) iss key t j := if_neg (fun z => fa_ge z.2.2.2 c_76)
                  rw [← hno] at hl
                  refine lv_iinc (v := nI (j + 1)) hx hb dX3_latestList_90 hl (k := 2) rfl (nI_1 _) (by decide) rfl (fun ls hl => ?_)
                  have hl : lv_has ls 9 [(6, _), (8, _), (7, _), (4, _), (5, _), (0, _), (1, _), (2, _), (3, _)] := hl
                  refine lv_goto (tgt := 9) hx hb dX3_latestList_93 (by decide) ?_
                  exact ih9 (j + 1) (by omega) (by omega) _ _ _ h (lv_sub hl [0, 3, 4, 5, 6, 7, 8] rfl)
                · have hyes : ltF (vw I) iss key t (j + 1) = (some j, vw I (30 + j) 1) := if_pos ⟨c_33, decide_eq_true c_45, fa_nlt c_66, fa_nlt c_76⟩
                  refine lv_iload hx hb dX3_latestList_79 (lv_at hl 2 rfl) ?_
                  refine lv_istore hx hb dX3_latestList_81 hl (by decide) rfl (fun ls hl => ?_)
                  have hl : lv_has ls 9 [(4, _), (8, _), (7, _), (6, _), (5, _), (0, _), (1, _), (2, _), (3, _)] := hl
                  refine lv_aload hx hb dX3_latestList_83 (lv_at hl 2 rfl) ?_
                  refine r_getN (T := TX0) (N := 6) C0 h _ (by omega) (ceC k _ (by omega)) hinX0 rfl 1 (by decide) (by decide +kernel) rfl rfl dX3_latestList_85 ?_
                  rw [← vwC_ I hj8 (q := 1) (by decide)]
                  refine lv_istore hx hb dX3_latestList_88 hl (by decide) rfl (fun ls hl => ?_)
                  have hl : lv_has ls 9 [(5, _), (4, _), (8, _), (7, _), (6, _), (0, _), (1, _), (2, _), (3, _)] := hl
                  have hl : lv_has ls 9 [(5, .int (ltF (vw I) iss key t (j + 1)).2), (4, .int (opI (ltF (vw I) iss key t (j + 1)).1)), (8, .int (nI 1)), (7, .ref (k.2.1 (30 + j))), (6, .int (nI j)), (0, .ref (k.2.1 0)), (1, .int iss), (2, .int key), (3, .int t)] := by rw [hyes]; exact hl
                  refine lv_iinc (v := nI (j + 1)) hx hb dX3_latestList_90 hl (k := 4) rfl (nI_1 _) (by decide) rfl (fun ls hl => ?_)
                  have hl : lv_has ls 9 [(6, _), (5, _), (4, _), (8, _), (7, _), (0, _), (1, _), (2, _), (3, _)] := hl
                  refine lv_goto (tgt := 9) hx hb dX3_latestList_93 (by decide) ?_
                  exact ih9 (j + 1) (by omega) (by omega) _ _ _ h (lv_sub hl [0, 2, 1, 5, 6, 7, 8] rfl)
  exact key9 100 0 (by omega) (by omega) _ _ _ h (lv_sub hl [0, 2, 1, 3, 4, 5, 6] rfl)
