/-! 31: arguments out of their range: refused (for p1) -/
theorem nb_t {b : Bool} (h : ¬ bI b = 0) : b = true := by cases b; exact absurd rfl h; rfl
set_option maxHeartbeats 4000000 in
set_option maxRecDepth 100000 in
theorem th_X3_letter_arg (l : Launch) (hf : l.stackTraces = false) (k : Sk) (M : Nat) (I : IS) (hJ : Ij k M) (a b9 c9 d9 : Int32) (hno : ¬ (isNm a = true ∧ isNm b9 = true ∧ isW c9 (nI 15) = true ∧ isW d9 (nI 30) = true)) : TtI l yX3_letter wsX3_letter 12 [.ref (k.2.1 0), .int a, .int b9, .int c9, .int d9] k M I sIA := by
  intro sz
  refine mtT_of (cc := cX3_letter) (maxL := 6) (ret := some .int) hJ (by decide) rfl (Nat.le_of_ble_eq_true rfl) ?_
  intro p e s m args below meth c A ls C0 h hX hr hl
  have hx := C0.1.1
  have hb := C0.1.2.1
  have hown := C0.1.2.2.2.1
  have hts := C0.1.2.2.2.2
  have hM := hJ.1
  have hl : lv_has ls 6 [(0, _), (1, _), (2, _), (3, _), (4, _)] := hl
  have hinX3 : ∀ w ∈ u_ws RX3 TX3 7, w ∈ wsX3_letter := by decide +kernel
  have hend : ∀ (H : Heap) (locs : List Loc), HX k M A s I H locs → W p l e (RmA 12 1 6) s m args below meth c H locs 0 0 (vx_MQ below (va_Qi (fun (_ : Int32) (_ : IS) => False) (EnX k M) (AX k M sz)) (XT k M I sIA A) args s 1 6 A) (F0 m 33 ls []) := fun H locs h => by
    refine lv_iconst (v := nI 0) hx hb dX3_letter_33 (by decide) ?_
    exact r_tSV C0 h hX hr hl.1 (th_X3_refuseUnless l hf k M I hJ) gX3_letter_X3_refuseUnless rfl (by decide +kernel) (n := 1) ⟨Nat.le_of_ble_eq_true rfl, Nat.le_of_ble_eq_true rfl⟩ (Nat.le_of_ble_eq_true rfl) rfl rfl dX3_letter_34
  refine lv_iload_n hx hb dX3_letter_0 rfl (lv_at hl 1 rfl) ?_
  refine r_cSI C0 h hl.1 (ct_X3_isName l k M _ hJ _) gX3_letter_X3_isName rfl (by decide +kernel) (n := 1) ⟨Nat.le_of_ble_eq_true rfl, Nat.le_of_ble_eq_true rfl⟩ ⟨Nat.zero_le _, Nat.zero_le _⟩ (Nat.le_of_ble_eq_true rfl) rfl rfl dX3_letter_1 (fun r1 I1 H locs hp h => ?_)
  obtain ⟨rfl, hI1⟩ := hp
  rw [hI1] at h
  refine lv_if_eq (tgt := 33) hx hb dX3_letter_4 (by decide) (fun c_4 => ?_) (fun c_4 => ?_)
  · exact hend _ _ h
  · refine lv_iload_n hx hb dX3_letter_7 rfl (lv_at hl 2 rfl) ?_
    refine r_cSI C0 h hl.1 (ct_X3_isName l k M _ hJ _) gX3_letter_X3_isName rfl (by decide +kernel) (n := 1) ⟨Nat.le_of_ble_eq_true rfl, Nat.le_of_ble_eq_true rfl⟩ ⟨Nat.zero_le _, Nat.zero_le _⟩ (Nat.le_of_ble_eq_true rfl) rfl rfl dX3_letter_8 (fun r8 I8 H locs hp h => ?_)
    obtain ⟨rfl, hI8⟩ := hp
    rw [hI8] at h
    refine lv_if_eq (tgt := 33) hx hb dX3_letter_11 (by decide) (fun c_11 => ?_) (fun c_11 => ?_)
    · exact hend _ _ h
    · refine lv_iload_n hx hb dX3_letter_14 rfl (lv_at hl 3 rfl) ?_
      refine r_cSI C0 h hl.1 (ct_X3_isKey l k M _ hJ _) gX3_letter_X3_isKey rfl (by decide +kernel) (n := 1) ⟨Nat.le_of_ble_eq_true rfl, Nat.le_of_ble_eq_true rfl⟩ ⟨Nat.zero_le _, Nat.zero_le _⟩ (Nat.le_of_ble_eq_true rfl) rfl rfl dX3_letter_15 (fun r15 I15 H locs hp h => ?_)
      obtain ⟨rfl, hI15⟩ := hp
      rw [hI15] at h
      refine lv_if_eq (tgt := 33) hx hb dX3_letter_18 (by decide) (fun c_18 => ?_) (fun c_18 => ?_)
      · exact hend _ _ h
      · refine lv_iload hx hb dX3_letter_21 (lv_at hl 4 rfl) ?_
        refine r_cSI C0 h hl.1 (ct_X3_isSerial l k M _ hJ _) gX3_letter_X3_isSerial rfl (by decide +kernel) (n := 1) ⟨Nat.le_of_ble_eq_true rfl, Nat.le_of_ble_eq_true rfl⟩ ⟨Nat.zero_le _, Nat.zero_le _⟩ (Nat.le_of_ble_eq_true rfl) rfl rfl dX3_letter_23 (fun r23 I23 H locs hp h => ?_)
        obtain ⟨rfl, hI23⟩ := hp
        rw [hI23] at h
        refine lv_if_eq (tgt := 33) hx hb dX3_letter_26 (by decide) (fun c_26 => ?_) (fun c_26 => ?_)
        · exact hend _ _ h
        · exact absurd ⟨nb_t c_4, nb_t c_11, nb_t c_18, nb_t c_26⟩ hno
set_option maxHeartbeats 4000000 in
set_option maxRecDepth 100000 in
theorem th_X3_list_arg (l : Launch) (hf : l.stackTraces = false) (k : Sk) (M : Nat) (I : IS) (hJ : Ij k M) (a f t : Int32) (hno : ¬ (isNm a = true ∧ isW f (nI 999) = true ∧ isW t (nI 999) = true ∧ f ≤ t)) : TtI l yX3_list wsX3_list 12 [.ref (k.2.1 0), .int a, .int f, .int t] k M I sIA := by
  intro sz
  refine mtT_of (cc := cX3_list) (maxL := 5) (ret := some .int) hJ (by decide) rfl (Nat.le_of_ble_eq_true rfl) ?_
  intro p e s m args below meth c A ls C0 h hX hr hl
  have hx := C0.1.1
  have hb := C0.1.2.1
  have hown := C0.1.2.2.2.1
  have hts := C0.1.2.2.2.2
  have hM := hJ.1
  have hl : lv_has ls 5 [(0, _), (1, _), (2, _), (3, _)] := hl
  have hinX3 : ∀ w ∈ u_ws RX3 TX3 7, w ∈ wsX3_list := by decide +kernel
  have hend : ∀ (H : Heap) (locs : List Loc), HX k M A s I H locs → W p l e (RmA 12 1 6) s m args below meth c H locs 0 0 (vx_MQ below (va_Qi (fun (_ : Int32) (_ : IS) => False) (EnX k M) (AX k M sz)) (XT k M I sIA A) args s 1 6 A) (F0 m 30 ls []) := fun H locs h => by
    refine lv_iconst (v := nI 0) hx hb dX3_list_30 (by decide) ?_
    exact r_tSV C0 h hX hr hl.1 (th_X3_refuseUnless l hf k M I hJ) gX3_list_X3_refuseUnless rfl (by decide +kernel) (n := 1) ⟨Nat.le_of_ble_eq_true rfl, Nat.le_of_ble_eq_true rfl⟩ (Nat.le_of_ble_eq_true rfl) rfl rfl dX3_list_31
  refine lv_iload_n hx hb dX3_list_0 rfl (lv_at hl 1 rfl) ?_
  refine r_cSI C0 h hl.1 (ct_X3_isName l k M _ hJ _) gX3_list_X3_isName rfl (by decide +kernel) (n := 1) ⟨Nat.le_of_ble_eq_true rfl, Nat.le_of_ble_eq_true rfl⟩ ⟨Nat.zero_le _, Nat.zero_le _⟩ (Nat.le_of_ble_eq_true rfl) rfl rfl dX3_list_1 (fun r1 I1 H locs hp h => ?_)
  obtain ⟨rfl, hI1⟩ := hp
  rw [hI1] at h
  refine lv_if_eq (tgt := 30) hx hb dX3_list_4 (by decide) (fun c_4 => ?_) (fun c_4 => ?_)
  · exact hend _ _ h
  · refine lv_iload_n hx hb dX3_list_7 rfl (lv_at hl 2 rfl) ?_
    refine r_cSI C0 h hl.1 (ct_X3_isTime l k M _ hJ _) gX3_list_X3_isTime rfl (by decide +kernel) (n := 1) ⟨Nat.le_of_ble_eq_true rfl, Nat.le_of_ble_eq_true rfl⟩ ⟨Nat.zero_le _, Nat.zero_le _⟩ (Nat.le_of_ble_eq_true rfl) rfl rfl dX3_list_8 (fun r8 I8 H locs hp h => ?_)
    obtain ⟨rfl, hI8⟩ := hp
    rw [hI8] at h
    refine lv_if_eq (tgt := 30) hx hb dX3_list_11 (by decide) (fun c_11 => ?_) (fun c_11 => ?_)
    · exact hend _ _ h
    · refine lv_iload_n hx hb dX3_list_14 rfl (lv_at hl 3 rfl) ?_
      refine r_cSI C0 h hl.1 (ct_X3_isTime l k M _ hJ _) gX3_list_X3_isTime rfl (by decide +kernel) (n := 1) ⟨Nat.le_of_ble_eq_true rfl, Nat.le_of_ble_eq_true rfl⟩ ⟨Nat.zero_le _, Nat.zero_le _⟩ (Nat.le_of_ble_eq_true rfl) rfl rfl dX3_list_15 (fun r15 I15 H locs hp h => ?_)
      obtain ⟨rfl, hI15⟩ := hp
      rw [hI15] at h
      refine lv_if_eq (tgt := 30) hx hb dX3_list_18 (by decide) (fun c_18 => ?_) (fun c_18 => ?_)
      · exact hend _ _ h
      · refine lv_iload_n hx hb dX3_list_21 rfl (lv_at hl 2 rfl) ?_
        refine lv_iload_n hx hb dX3_list_22 rfl (lv_at hl 3 rfl) ?_
        refine lv_icmp_gt (tgt := 30) hx hb dX3_list_23 (by decide) (fun c_23 => ?_) (fun c_23 => ?_)
        · exact hend _ _ h
        · exact absurd ⟨nb_t c_4, nb_t c_11, nb_t c_18, fa_nlt c_23⟩ hno
set_option maxHeartbeats 4000000 in
set_option maxRecDepth 100000 in
theorem th_X3_signed_arg (l : Launch) (hf : l.stackTraces = false) (k : Sk) (M : Nat) (I : IS) (hJ : Ij k M) (t d9 : Int32) (hno : ¬ (isW t (nI 15) = true ∧ isW d9 (nI 996) = true)) : TtI l yX3_signed wsX3_signed 12 [.ref (k.2.1 0), .int t, .int d9] k M I sIA := by
  intro sz
  refine mtT_of (cc := cX3_signed) (maxL := 3) (ret := some .int) hJ (by decide) rfl (Nat.le_of_ble_eq_true rfl) ?_
  intro p e s m args below meth c A ls C0 h hX hr hl
  have hx := C0.1.1
  have hb := C0.1.2.1
  have hown := C0.1.2.2.2.1
  have hts := C0.1.2.2.2.2
  have hM := hJ.1
  have hl : lv_has ls 3 [(0, _), (1, _), (2, _)] := hl
  have hend : ∀ (H : Heap) (locs : List Loc), HX k M A s I H locs → W p l e (RmA 12 1 6) s m args below meth c H locs 0 0 (vx_MQ below (va_Qi (fun (_ : Int32) (_ : IS) => False) (EnX k M) (AX k M sz)) (XT k M I sIA A) args s 1 6 A) (F0 m 18 ls []) := fun H locs h => by
    refine lv_iconst (v := nI 0) hx hb dX3_signed_18 (by decide) ?_
    exact r_tSV C0 h hX hr hl.1 (th_X3_refuseUnless l hf k M I hJ) gX3_signed_X3_refuseUnless rfl (by decide +kernel) (n := 1) ⟨Nat.le_of_ble_eq_true rfl, Nat.le_of_ble_eq_true rfl⟩ (Nat.le_of_ble_eq_true rfl) rfl rfl dX3_signed_19
  refine lv_iload_n hx hb dX3_signed_0 rfl (lv_at hl 1 rfl) ?_
  refine r_cSI C0 h hl.1 (ct_X3_isKey l k M _ hJ _) gX3_signed_X3_isKey rfl (by decide +kernel) (n := 1) ⟨Nat.le_of_ble_eq_true rfl, Nat.le_of_ble_eq_true rfl⟩ ⟨Nat.zero_le _, Nat.zero_le _⟩ (Nat.le_of_ble_eq_true rfl) rfl rfl dX3_signed_1 (fun r1 I1 H locs hp h => ?_)
  obtain ⟨rfl, hI1⟩ := hp
  rw [hI1] at h
  refine lv_if_eq (tgt := 18) hx hb dX3_signed_4 (by decide) (fun c_4 => ?_) (fun c_4 => ?_)
  · exact hend _ _ h
  · refine lv_iload_n hx hb dX3_signed_7 rfl (lv_at hl 2 rfl) ?_
    refine r_cSI C0 h hl.1 (ct_X3_isResidue l k M _ hJ _) gX3_signed_X3_isResidue rfl (by decide +kernel) (n := 1) ⟨Nat.le_of_ble_eq_true rfl, Nat.le_of_ble_eq_true rfl⟩ ⟨Nat.zero_le _, Nat.zero_le _⟩ (Nat.le_of_ble_eq_true rfl) rfl rfl dX3_signed_8 (fun r8 I8 H locs hp h => ?_)
    obtain ⟨rfl, hI8⟩ := hp
    rw [hI8] at h
    refine lv_if_eq (tgt := 18) hx hb dX3_signed_11 (by decide) (fun c_11 => ?_) (fun c_11 => ?_)
    · exact hend _ _ h
    · exact absurd ⟨nb_t c_4, nb_t c_11⟩ hno
set_option maxHeartbeats 4000000 in
set_option maxRecDepth 100000 in
theorem th_X3_signer_arg (l : Launch) (hf : l.stackTraces = false) (k : Sk) (M : Nat) (I : IS) (hJ : Ij k M) (sl d9 : Int32) (hno : ¬ (isW sl (nI 996) = true ∧ isW d9 (nI 996) = true)) : TtI l yX3_signer wsX3_signer 12 [.ref (k.2.1 0), .int sl, .int d9] k M I sIA := by
  intro sz
  refine mtT_of (cc := cX3_signer) (maxL := 4) (ret := some .int) hJ (by decide) rfl (Nat.le_of_ble_eq_true rfl) ?_
  intro p e s m args below meth c A ls C0 h hX hr hl
  have hx := C0.1.1
  have hb := C0.1.2.1
  have hown := C0.1.2.2.2.1
  have hts := C0.1.2.2.2.2
  have hM := hJ.1
  have hl : lv_has ls 4 [(0, _), (1, _), (2, _)] := hl
  have hend : ∀ (H : Heap) (locs : List Loc), HX k M A s I H locs → W p l e (RmA 12 1 6) s m args below meth c H locs 0 0 (vx_MQ below (va_Qi (fun (_ : Int32) (_ : IS) => False) (EnX k M) (AX k M sz)) (XT k M I sIA A) args s 1 6 A) (F0 m 18 ls []) := fun H locs h => by
    refine lv_iconst (v := nI 0) hx hb dX3_signer_18 (by decide) ?_
    exact r_tSV C0 h hX hr hl.1 (th_X3_refuseUnless l hf k M I hJ) gX3_signer_X3_refuseUnless rfl (by decide +kernel) (n := 1) ⟨Nat.le_of_ble_eq_true rfl, Nat.le_of_ble_eq_true rfl⟩ (Nat.le_of_ble_eq_true rfl) rfl rfl dX3_signer_19
  refine lv_iload_n hx hb dX3_signer_0 rfl (lv_at hl 1 rfl) ?_
  refine r_cSI C0 h hl.1 (ct_X3_isResidue l k M _ hJ _) gX3_signer_X3_isResidue rfl (by decide +kernel) (n := 1) ⟨Nat.le_of_ble_eq_true rfl, Nat.le_of_ble_eq_true rfl⟩ ⟨Nat.zero_le _, Nat.zero_le _⟩ (Nat.le_of_ble_eq_true rfl) rfl rfl dX3_signer_1 (fun r1 I1 H locs hp h => ?_)
  obtain ⟨rfl, hI1⟩ := hp
  rw [hI1] at h
  refine lv_if_eq (tgt := 18) hx hb dX3_signer_4 (by decide) (fun c_4 => ?_) (fun c_4 => ?_)
  · exact hend _ _ h
  · refine lv_iload_n hx hb dX3_signer_7 rfl (lv_at hl 2 rfl) ?_
    refine r_cSI C0 h hl.1 (ct_X3_isResidue l k M _ hJ _) gX3_signer_X3_isResidue rfl (by decide +kernel) (n := 1) ⟨Nat.le_of_ble_eq_true rfl, Nat.le_of_ble_eq_true rfl⟩ ⟨Nat.zero_le _, Nat.zero_le _⟩ (Nat.le_of_ble_eq_true rfl) rfl rfl dX3_signer_8 (fun r8 I8 H locs hp h => ?_)
    obtain ⟨rfl, hI8⟩ := hp
    rw [hI8] at h
    refine lv_if_eq (tgt := 18) hx hb dX3_signer_11 (by decide) (fun c_11 => ?_) (fun c_11 => ?_)
    · exact hend _ _ h
    · exact absurd ⟨nb_t c_4, nb_t c_11⟩ hno
set_option maxHeartbeats 4000000 in
set_option maxRecDepth 100000 in
theorem th_X3_isUnder_arg (l : Launch) (hf : l.stackTraces = false) (k : Sk) (M : Nat) (I : IS) (hJ : Ij k M) (a o : Int32) (hno : ¬ (isNm a = true ∧ isN0 o = true)) : TtI l yX3_isUnder wsX3_isUnder 12 [.ref (k.2.1 0), .int a, .int o] k M I sIA := by
  intro sz
  refine mtT_of (cc := cX3_isUnder) (maxL := 3) (ret := some .boolean) hJ (by decide) rfl (Nat.le_of_ble_eq_true rfl) ?_
  intro p e s m args below meth c A ls C0 h hX hr hl
  have hx := C0.1.1
  have hb := C0.1.2.1
  have hown := C0.1.2.2.2.1
  have hts := C0.1.2.2.2.2
  have hM := hJ.1
  have hl : lv_has ls 3 [(0, _), (1, _), (2, _)] := hl
  have hend : ∀ (H : Heap) (locs : List Loc), HX k M A s I H locs → W p l e (RmA 12 1 6) s m args below meth c H locs 0 0 (vx_MQ below (va_Qi (fun (_ : Int32) (_ : IS) => False) (EnX k M) (AX k M sz)) (XT k M I sIA A) args s 1 6 A) (F0 m 18 ls []) := fun H locs h => by
    refine lv_iconst (v := nI 0) hx hb dX3_isUnder_18 (by decide) ?_
    exact r_tSV C0 h hX hr hl.1 (th_X3_refuseUnless l hf k M I hJ) gX3_isUnder_X3_refuseUnless rfl (by decide +kernel) (n := 1) ⟨Nat.le_of_ble_eq_true rfl, Nat.le_of_ble_eq_true rfl⟩ (Nat.le_of_ble_eq_true rfl) rfl rfl dX3_isUnder_19
  refine lv_iload_n hx hb dX3_isUnder_0 rfl (lv_at hl 1 rfl) ?_
  refine r_cSI C0 h hl.1 (ct_X3_isName l k M _ hJ _) gX3_isUnder_X3_isName rfl (by decide +kernel) (n := 1) ⟨Nat.le_of_ble_eq_true rfl, Nat.le_of_ble_eq_true rfl⟩ ⟨Nat.zero_le _, Nat.zero_le _⟩ (Nat.le_of_ble_eq_true rfl) rfl rfl dX3_isUnder_1 (fun r1 I1 H locs hp h => ?_)
  obtain ⟨rfl, hI1⟩ := hp
  rw [hI1] at h
  refine lv_if_eq (tgt := 18) hx hb dX3_isUnder_4 (by decide) (fun c_4 => ?_) (fun c_4 => ?_)
  · exact hend _ _ h
  · refine lv_iload_n hx hb dX3_isUnder_7 rfl (lv_at hl 2 rfl) ?_
    refine r_cSI C0 h hl.1 (ct_X3_isNameOrZero l k M _ hJ _) gX3_isUnder_X3_isNameOrZero rfl (by decide +kernel) (n := 1) ⟨Nat.le_of_ble_eq_true rfl, Nat.le_of_ble_eq_true rfl⟩ ⟨Nat.zero_le _, Nat.zero_le _⟩ (Nat.le_of_ble_eq_true rfl) rfl rfl dX3_isUnder_8 (fun r8 I8 H locs hp h => ?_)
    obtain ⟨rfl, hI8⟩ := hp
    rw [hI8] at h
    refine lv_if_eq (tgt := 18) hx hb dX3_isUnder_11 (by decide) (fun c_11 => ?_) (fun c_11 => ?_)
    · exact hend _ _ h
    · exact absurd ⟨nb_t c_4, nb_t c_11⟩ hno
