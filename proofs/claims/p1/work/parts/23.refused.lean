/-! 23: letter and list when there is no room, a list that is not there: refused -/
set_option maxHeartbeats 4000000 in
set_option maxRecDepth 100000 in
theorem th_X3_letter_full (l : Launch) (hf : l.stackTraces = false) (k : Sk) (M : Nat) (I : IS) (hJ : Ij k M) (hcn : I 0 4 = nI 20) (a b9 c9 d9 : Int32) (h1 : isNm a = true) (h2 : isNm b9 = true) (h3 : isW c9 (nI 15) = true) (h4 : isW d9 (nI 30) = true) : TtI l yX3_letter wsX3_letter 12 [.ref (k.2.1 0), .int a, .int b9, .int c9, .int d9] k M I sIS := by
  intro sz
  refine mtT_of (cc := cX3_letter) (maxL := 6) (ret := some .int) hJ (by decide) rfl (Nat.le_of_ble_eq_true rfl) ?_
  intro p e s m args below meth c A ls C0 h hX hr hl
  have hx := C0.1.1
  have hb := C0.1.2.1
  have hown := C0.1.2.2.2.1
  have hts := C0.1.2.2.2.2
  have hM := hJ.1
  have hl : lv_has ls 6 [(0, _), (1, _), (2, _), (3, _), (4, _)] := hl
  have hinX3 : ∀ w ∈ u_ws RX3 TX3 7, w ∈ wsX3_letter := by decide +kernel
  refine lv_iload_n hx hb dX3_letter_0 rfl (lv_at hl 1 rfl) ?_
  refine r_cSI C0 h hl.1 (ct_X3_isName l k M _ hJ _) gX3_letter_X3_isName rfl (by decide +kernel) (n := 1) ⟨Nat.le_of_ble_eq_true rfl, Nat.le_of_ble_eq_true rfl⟩ ⟨Nat.zero_le _, Nat.zero_le _⟩ (Nat.le_of_ble_eq_true rfl) rfl rfl dX3_letter_1 (fun r1 I1 H locs hp h => ?_)
  obtain ⟨rfl, hI1⟩ := hp
  rw [hI1] at h
  refine lv_if_eq (tgt := 33) hx hb dX3_letter_4 (by decide) (fun c_4 => ?_) (fun c_4 => ?_)
  · exact absurd (show ¬ bI (isNm a) = 0 by rw [h1]; decide) (fun z => z c_4)
  · refine lv_iload_n hx hb dX3_letter_7 rfl (lv_at hl 2 rfl) ?_
    refine r_cSI C0 h hl.1 (ct_X3_isName l k M _ hJ _) gX3_letter_X3_isName rfl (by decide +kernel) (n := 1) ⟨Nat.le_of_ble_eq_true rfl, Nat.le_of_ble_eq_true rfl⟩ ⟨Nat.zero_le _, Nat.zero_le _⟩ (Nat.le_of_ble_eq_true rfl) rfl rfl dX3_letter_8 (fun r8 I8 H locs hp h => ?_)
    obtain ⟨rfl, hI8⟩ := hp
    rw [hI8] at h
    refine lv_if_eq (tgt := 33) hx hb dX3_letter_11 (by decide) (fun c_11 => ?_) (fun c_11 => ?_)
    · exact absurd (show ¬ bI (isNm b9) = 0 by rw [h2]; decide) (fun z => z c_11)
    · refine lv_iload_n hx hb dX3_letter_14 rfl (lv_at hl 3 rfl) ?_
      refine r_cSI C0 h hl.1 (ct_X3_isKey l k M _ hJ _) gX3_letter_X3_isKey rfl (by decide +kernel) (n := 1) ⟨Nat.le_of_ble_eq_true rfl, Nat.le_of_ble_eq_true rfl⟩ ⟨Nat.zero_le _, Nat.zero_le _⟩ (Nat.le_of_ble_eq_true rfl) rfl rfl dX3_letter_15 (fun r15 I15 H locs hp h => ?_)
      obtain ⟨rfl, hI15⟩ := hp
      rw [hI15] at h
      refine lv_if_eq (tgt := 33) hx hb dX3_letter_18 (by decide) (fun c_18 => ?_) (fun c_18 => ?_)
      · exact absurd (show ¬ bI (isW c9 (nI 15)) = 0 by rw [h3]; decide) (fun z => z c_18)
      · refine lv_iload hx hb dX3_letter_21 (lv_at hl 4 rfl) ?_
        refine r_cSI C0 h hl.1 (ct_X3_isSerial l k M _ hJ _) gX3_letter_X3_isSerial rfl (by decide +kernel) (n := 1) ⟨Nat.le_of_ble_eq_true rfl, Nat.le_of_ble_eq_true rfl⟩ ⟨Nat.zero_le _, Nat.zero_le _⟩ (Nat.le_of_ble_eq_true rfl) rfl rfl dX3_letter_23 (fun r23 I23 H locs hp h => ?_)
        obtain ⟨rfl, hI23⟩ := hp
        rw [hI23] at h
        refine lv_if_eq (tgt := 33) hx hb dX3_letter_26 (by decide) (fun c_26 => ?_) (fun c_26 => ?_)
        · exact absurd (show ¬ bI (isW d9 (nI 30)) = 0 by rw [h4]; decide) (fun z => z c_26)
        · refine lv_iconst (v := nI 1) hx hb dX3_letter_29 (by decide) ?_
          refine lv_goto (tgt := 34) hx hb dX3_letter_30 (by decide) ?_
          refine r_cSV C0 h hl.1 (ok_X3_refuseUnless l k M _ hJ _ (by decide)) gX3_letter_X3_refuseUnless rfl (by decide +kernel) (n := 1) ⟨Nat.le_of_ble_eq_true rfl, Nat.le_of_ble_eq_true rfl⟩ ⟨Nat.zero_le _, Nat.zero_le _⟩ (Nat.le_of_ble_eq_true rfl) rfl rfl dX3_letter_34 (fun I34 H locs hp h => ?_)
          rw [hp] at h
          refine lv_aload_n hx hb dX3_letter_37 rfl (lv_at hl 0 rfl) ?_
          refine r_get (T := TX3) (N := 7) C0 h _ (by omega) (ce0 k _) hinX3 rfl 4 (by decide) (by decide +kernel) rfl rfl dX3_letter_38 ?_
          rw [hcn]
          refine lv_bipush (v := nI 20) hx hb dX3_letter_41 (by decide) ?_
          refine lv_icmp_lt (tgt := 56) hx hb dX3_letter_43 (by decide) (fun c_43 => absurd c_43 (by decide)) (fun c_43 => ?_)
          exact r_throw C0 h hX hl.1 hf (ik := 52) (ic := 56) (is := 54) (by decide) (List.mem_of_getElem? (i := 1) rfl) (by decide +kernel) (by decide +kernel) (by decide +kernel) hr (Nat.le_of_ble_eq_true rfl) dX3_letter_46 dX3_letter_49 dX3_letter_50 dX3_letter_52 dX3_letter_55
set_option maxHeartbeats 4000000 in
set_option maxRecDepth 100000 in
theorem th_X3_list_full (l : Launch) (hf : l.stackTraces = false) (k : Sk) (M : Nat) (I : IS) (hJ : Ij k M) (hlcn : I 0 5 = nI 8) (a f t : Int32) (h1 : isNm a = true) (h2 : isW f (nI 999) = true) (h3 : isW t (nI 999) = true) (h4 : f ≤ t) : TtI l yX3_list wsX3_list 12 [.ref (k.2.1 0), .int a, .int f, .int t] k M I sIS := by
  intro sz
  refine mtT_of (cc := cX3_list) (maxL := 5) (ret := some .int) hJ (by decide) rfl (Nat.le_of_ble_eq_true rfl) ?_
  intro p e s m args below meth c A ls C0 h hX hr hl
  have hx := C0.1.1
  have hb := C0.1.2.1
  have hown := C0.1.2.2.2.1
  have hts := C0.1.2.2.2.2
  have hM := hJ.1
  have hl : lv_has ls 5 [(0, _), (1, _), (2, _), (3, _)] := hl
  have hinX3 : ∀ w ∈ u_ws RX3 TX3 7, w ∈ wsX3_list := by decide +kernel
  refine lv_iload_n hx hb dX3_list_0 rfl (lv_at hl 1 rfl) ?_
  refine r_cSI C0 h hl.1 (ct_X3_isName l k M _ hJ _) gX3_list_X3_isName rfl (by decide +kernel) (n := 1) ⟨Nat.le_of_ble_eq_true rfl, Nat.le_of_ble_eq_true rfl⟩ ⟨Nat.zero_le _, Nat.zero_le _⟩ (Nat.le_of_ble_eq_true rfl) rfl rfl dX3_list_1 (fun r1 I1 H locs hp h => ?_)
  obtain ⟨rfl, hI1⟩ := hp
  rw [hI1] at h
  refine lv_if_eq (tgt := 30) hx hb dX3_list_4 (by decide) (fun c_4 => ?_) (fun c_4 => ?_)
  · exact absurd (show ¬ bI (isNm a) = 0 by rw [h1]; decide) (fun z => z c_4)
  · refine lv_iload_n hx hb dX3_list_7 rfl (lv_at hl 2 rfl) ?_
    refine r_cSI C0 h hl.1 (ct_X3_isTime l k M _ hJ _) gX3_list_X3_isTime rfl (by decide +kernel) (n := 1) ⟨Nat.le_of_ble_eq_true rfl, Nat.le_of_ble_eq_true rfl⟩ ⟨Nat.zero_le _, Nat.zero_le _⟩ (Nat.le_of_ble_eq_true rfl) rfl rfl dX3_list_8 (fun r8 I8 H locs hp h => ?_)
    obtain ⟨rfl, hI8⟩ := hp
    rw [hI8] at h
    refine lv_if_eq (tgt := 30) hx hb dX3_list_11 (by decide) (fun c_11 => ?_) (fun c_11 => ?_)
    · exact absurd (show ¬ bI (isW f (nI 999)) = 0 by rw [h2]; decide) (fun z => z c_11)
    · refine lv_iload_n hx hb dX3_list_14 rfl (lv_at hl 3 rfl) ?_
      refine r_cSI C0 h hl.1 (ct_X3_isTime l k M _ hJ _) gX3_list_X3_isTime rfl (by decide +kernel) (n := 1) ⟨Nat.le_of_ble_eq_true rfl, Nat.le_of_ble_eq_true rfl⟩ ⟨Nat.zero_le _, Nat.zero_le _⟩ (Nat.le_of_ble_eq_true rfl) rfl rfl dX3_list_15 (fun r15 I15 H locs hp h => ?_)
      obtain ⟨rfl, hI15⟩ := hp
      rw [hI15] at h
      refine lv_if_eq (tgt := 30) hx hb dX3_list_18 (by decide) (fun c_18 => ?_) (fun c_18 => ?_)
      · exact absurd (show ¬ bI (isW t (nI 999)) = 0 by rw [h3]; decide) (fun z => z c_18)
      · refine lv_iload_n hx hb dX3_list_21 rfl (lv_at hl 2 rfl) ?_
        refine lv_iload_n hx hb dX3_list_22 rfl (lv_at hl 3 rfl) ?_
        refine lv_icmp_gt (tgt := 30) hx hb dX3_list_23 (by decide) (fun c_23 => ?_) (fun c_23 => ?_)
        · exact absurd c_23 (fa_ge h4)
        · refine lv_iconst (v := nI 1) hx hb dX3_list_26 (by decide) ?_
          refine lv_goto (tgt := 31) hx hb dX3_list_27 (by decide) ?_
          refine r_cSV C0 h hl.1 (ok_X3_refuseUnless l k M _ hJ _ (by decide)) gX3_list_X3_refuseUnless rfl (by decide +kernel) (n := 1) ⟨Nat.le_of_ble_eq_true rfl, Nat.le_of_ble_eq_true rfl⟩ ⟨Nat.zero_le _, Nat.zero_le _⟩ (Nat.le_of_ble_eq_true rfl) rfl rfl dX3_list_31 (fun I31 H locs hp h => ?_)
          rw [hp] at h
          refine lv_aload_n hx hb dX3_list_34 rfl (lv_at hl 0 rfl) ?_
          refine r_get (T := TX3) (N := 7) C0 h _ (by omega) (ce0 k _) hinX3 rfl 5 (by decide) (by decide +kernel) rfl rfl dX3_list_35 ?_
          rw [hlcn]
          refine lv_bipush (v := nI 8) hx hb dX3_list_38 (by decide) ?_
          refine lv_icmp_lt (tgt := 53) hx hb dX3_list_40 (by decide) (fun c_40 => absurd c_40 (by decide)) (fun c_40 => ?_)
          exact r_throw C0 h hX hl.1 hf (ik := 52) (ic := 56) (is := 122) (by decide) (List.mem_of_getElem? (i := 2) rfl) (by decide +kernel) (by decide +kernel) (by decide +kernel) hr (Nat.le_of_ble_eq_true rfl) dX3_list_43 dX3_list_46 dX3_list_47 dX3_list_49 dX3_list_52
set_option maxHeartbeats 4000000 in
set_option maxRecDepth 100000 in
theorem th_X3_ofList_no (l : Launch) (hf : l.stackTraces = false) (k : Sk) (M : Nat) (I : IS) (hJ : Ij k M) (x w9 : Int32) (hno : x < 0 ∨ (¬ x < 0 ∧ ¬ x < I 0 5)) : TtI l yX3_ofList wsX3_ofList 12 [.ref (k.2.1 0), .int x, .int w9] k M I sIO := by
  intro sz
  refine mtT_of (cc := cX3_ofList) (maxL := 3) (ret := some .int) hJ (by decide) rfl (Nat.le_of_ble_eq_true rfl) ?_
  intro p e s m args below meth c A ls C0 h hX hr hl
  have hx := C0.1.1
  have hb := C0.1.2.1
  have hown := C0.1.2.2.2.1
  have hts := C0.1.2.2.2.2
  have hM := hJ.1
  have hl : lv_has ls 3 [(0, _), (1, _), (2, _)] := hl
  have hinX3 : ∀ w ∈ u_ws RX3 TX3 7, w ∈ wsX3_ofList := by decide +kernel
  refine lv_aload_n hx hb dX3_ofList_0 rfl (lv_at hl 0 rfl) ?_
  refine lv_iload_n hx hb dX3_ofList_1 rfl (lv_at hl 1 rfl) ?_
  exact r_tVV C0 h hX hr hl.1 _ (by omega) (ce0 k _) rfl (th_X3_refuseUnlessList l hf k M I hJ _ hno) gX3_ofList_X3_refuseUnlessList rfl (by decide +kernel) (n := 1) ⟨Nat.le_of_ble_eq_true rfl, Nat.le_of_ble_eq_true rfl⟩ (Nat.le_of_ble_eq_true rfl) rfl rfl dX3_ofList_2
