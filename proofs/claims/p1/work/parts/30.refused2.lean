/-! 30: a letter that is not there, a time or a use out of its range, a list that is not there: refused by every method that asks (for p1) -/
set_option maxHeartbeats 4000000 in
set_option maxRecDepth 100000 in
theorem th_X3_refuseUnlessLetter (l : Launch) (hf : l.stackTraces = false) (k : Sk) (M : Nat) (I : IS) (hJ : Ij k M) (cn : Nat) (hcn : I 0 4 = nI cn) (x : Int32) (hno : isLt cn x = false) : TtV l yX3_refuseUnlessLetter wsX3_refuseUnlessLetter 6 [.ref (k.2.1 0), .int x] k M I sIO := by
  intro sz
  refine mtT_of (cc := cX3_refuseUnlessLetter) (maxL := 2) (ret := none) hJ (by decide) rfl (Nat.le_of_ble_eq_true rfl) ?_
  intro p e s m args below meth c A ls C0 h hX hr hl
  have hx := C0.1.1
  have hb := C0.1.2.1
  have hown := C0.1.2.2.2.1
  have hts := C0.1.2.2.2.2
  have hM := hJ.1
  have hl : lv_has ls 2 [(0, _), (1, _)] := hl
  refine lv_aload_n hx hb dX3_refuseUnlessLetter_0 rfl (lv_at hl 0 rfl) ?_
  refine lv_iload_n hx hb dX3_refuseUnlessLetter_1 rfl (lv_at hl 1 rfl) ?_
  refine r_cVI C0 h hl.1 _ (by omega) (ce0 k _) rfl (ct_X3_isLetter l k M _ hJ cn hcn _) gX3_refuseUnlessLetter_X3_isLetter rfl (by decide +kernel) (n := 1) ⟨Nat.le_of_ble_eq_true rfl, Nat.le_of_ble_eq_true rfl⟩ ⟨Nat.zero_le _, Nat.zero_le _⟩ (Nat.le_of_ble_eq_true rfl) rfl rfl dX3_refuseUnlessLetter_2 (fun r2 I2 H locs hp h => ?_)
  obtain ⟨rfl, hI2⟩ := hp
  rw [hI2] at h
  refine lv_if_ne (tgt := 18) hx hb dX3_refuseUnlessLetter_5 (by decide) (fun c_5 => absurd (show bI (isLt cn x) = 0 by rw [hno]; rfl) c_5) (fun c_5 => ?_)
  exact r_throw C0 h hX hl.1 hf (ik := 216) (ic := 220) (is := 218) (by decide) (List.mem_of_getElem? (i := 3) rfl) (by decide +kernel) (by decide +kernel) (by decide +kernel) hr (Nat.le_refl _) dX3_refuseUnlessLetter_8 dX3_refuseUnlessLetter_11 dX3_refuseUnlessLetter_12 dX3_refuseUnlessLetter_14 dX3_refuseUnlessLetter_17
set_option maxHeartbeats 4000000 in
set_option maxRecDepth 100000 in
theorem th_X3_refuseUnlessMoment (l : Launch) (hf : l.stackTraces = false) (k : Sk) (M : Nat) (I : IS) (hJ : Ij k M) (t u : Int32) (hno : isW t (nI 999) = false ∨ isW u (nI 3) = false) : TtV l yX3_refuseUnlessMoment wsX3_refuseUnlessMoment 8 [.int t, .int u] k M I sIA := by
  intro sz
  refine mtT_of (cc := cX3_refuseUnlessMoment) (maxL := 2) (ret := none) hJ (by decide) rfl (Nat.le_of_ble_eq_true rfl) ?_
  intro p e s m args below meth c A ls C0 h hX hr hl
  have hx := C0.1.1
  have hb := C0.1.2.1
  have hown := C0.1.2.2.2.1
  have hts := C0.1.2.2.2.2
  have hM := hJ.1
  have hl : lv_has ls 2 [(0, _), (1, _)] := hl
  have hend : ∀ (H : Heap) (locs : List Loc), HX k M A s I H locs → W p l e (RmA 8 1 6) s m args below meth c H locs 0 0 (vx_MQ below (va_Qv (fun (_ : IS) => False) (EnX k M) (AX k M sz)) (XT k M I sIA A) args s 1 6 A) (F0 m 19 ls []) := fun H locs h => by
    refine lv_iconst (v := nI 0) hx hb dX3_refuseUnlessMoment_19 (by decide) ?_
    exact r_tSV C0 h hX hr hl.1 (th_X3_refuseUnless l hf k M I hJ) gX3_refuseUnlessMoment_X3_refuseUnless rfl (by decide +kernel) (n := 1) ⟨Nat.le_of_ble_eq_true rfl, Nat.le_of_ble_eq_true rfl⟩ (Nat.le_of_ble_eq_true rfl) rfl rfl dX3_refuseUnlessMoment_20
  refine lv_iload_n hx hb dX3_refuseUnlessMoment_0 rfl (lv_at hl 0 rfl) ?_
  refine r_cSI C0 h hl.1 (ct_X3_isTime l k M _ hJ _) gX3_refuseUnlessMoment_X3_isTime rfl (by decide +kernel) (n := 1) ⟨Nat.le_of_ble_eq_true rfl, Nat.le_of_ble_eq_true rfl⟩ ⟨Nat.zero_le _, Nat.zero_le _⟩ (Nat.le_of_ble_eq_true rfl) rfl rfl dX3_refuseUnlessMoment_1 (fun r1 I1 H locs hp h => ?_)
  obtain ⟨rfl, hI1⟩ := hp
  rw [hI1] at h
  refine lv_if_eq (tgt := 19) hx hb dX3_refuseUnlessMoment_4 (by decide) (fun c_4 => hend _ _ h) (fun c_4 => ?_)
  refine lv_iload_n hx hb dX3_refuseUnlessMoment_7 rfl (lv_at hl 1 rfl) ?_
  refine lv_iconst (v := nI 3) hx hb dX3_refuseUnlessMoment_8 (by decide) ?_
  refine r_cSI C0 h hl.1 (ct_X3_isWithin l k M _ hJ _ _) gX3_refuseUnlessMoment_X3_isWithin rfl (by decide +kernel) (n := 2) ⟨Nat.le_of_ble_eq_true rfl, Nat.le_of_ble_eq_true rfl⟩ ⟨Nat.zero_le _, Nat.zero_le _⟩ (Nat.le_of_ble_eq_true rfl) rfl rfl dX3_refuseUnlessMoment_9 (fun r9 I9 H locs hp h => ?_)
  obtain ⟨rfl, hI9⟩ := hp
  rw [hI9] at h
  refine lv_if_eq (tgt := 19) hx hb dX3_refuseUnlessMoment_12 (by decide) (fun c_12 => hend _ _ h) (fun c_12 => ?_)
  rcases hno with z | z
  · exact absurd (show bI (isW t (nI 999)) = 0 by rw [z]; rfl) c_4
  · exact absurd (show bI (isW u (nI 3)) = 0 by rw [z]; rfl) c_12
set_option maxHeartbeats 4000000 in
set_option maxRecDepth 100000 in
theorem th_X3_times_no (l : Launch) (hf : l.stackTraces = false) (k : Sk) (M : Nat) (I : IS) (hJ : Ij k M) (cn : Nat) (hcn : I 0 4 = nI cn) (x : Int32) (hno : isLt cn x = false) (y1 y2 : Int32) : TtI l yX3_times wsX3_times 12 [.ref (k.2.1 0), .int x, .int y1, .int y2] k M I sIO := by
  intro sz
  refine mtT_of (cc := cX3_times) (maxL := 4) (ret := some .int) hJ (by decide) rfl (Nat.le_of_ble_eq_true rfl) ?_
  intro p e s m args below meth c A ls C0 h hX hr hl
  have hx := C0.1.1
  have hb := C0.1.2.1
  have hown := C0.1.2.2.2.1
  have hts := C0.1.2.2.2.2
  have hM := hJ.1
  have hl : lv_has ls 4 [(0, _), (1, _), (2, _), (3, _)] := hl
  refine lv_aload_n hx hb dX3_times_0 rfl (lv_at hl 0 rfl) ?_
  refine lv_iload_n hx hb dX3_times_1 rfl (lv_at hl 1 rfl) ?_
  exact r_tVV C0 h hX hr hl.1 _ (by omega) (ce0 k _) rfl (th_X3_refuseUnlessLetter l hf k M I hJ cn hcn x hno) gX3_times_X3_refuseUnlessLetter rfl (by decide +kernel) (n := 1) ⟨Nat.le_of_ble_eq_true rfl, Nat.le_of_ble_eq_true rfl⟩ (Nat.le_of_ble_eq_true rfl) rfl rfl dX3_times_2
set_option maxHeartbeats 4000000 in
set_option maxRecDepth 100000 in
theorem th_X3_master_no (l : Launch) (hf : l.stackTraces = false) (k : Sk) (M : Nat) (I : IS) (hJ : Ij k M) (cn : Nat) (hcn : I 0 4 = nI cn) (x : Int32) (hno : isLt cn x = false) (y1 y2 : Int32) : TtI l yX3_master wsX3_master 12 [.ref (k.2.1 0), .int x, .int y1, .int y2] k M I sIO := by
  intro sz
  refine mtT_of (cc := cX3_master) (maxL := 4) (ret := some .int) hJ (by decide) rfl (Nat.le_of_ble_eq_true rfl) ?_
  intro p e s m args below meth c A ls C0 h hX hr hl
  have hx := C0.1.1
  have hb := C0.1.2.1
  have hown := C0.1.2.2.2.1
  have hts := C0.1.2.2.2.2
  have hM := hJ.1
  have hl : lv_has ls 4 [(0, _), (1, _), (2, _), (3, _)] := hl
  refine lv_aload_n hx hb dX3_master_0 rfl (lv_at hl 0 rfl) ?_
  refine lv_iload_n hx hb dX3_master_1 rfl (lv_at hl 1 rfl) ?_
  exact r_tVV C0 h hX hr hl.1 _ (by omega) (ce0 k _) rfl (th_X3_refuseUnlessLetter l hf k M I hJ cn hcn x hno) gX3_master_X3_refuseUnlessLetter rfl (by decide +kernel) (n := 1) ⟨Nat.le_of_ble_eq_true rfl, Nat.le_of_ble_eq_true rfl⟩ (Nat.le_of_ble_eq_true rfl) rfl rfl dX3_master_2
set_option maxHeartbeats 4000000 in
set_option maxRecDepth 100000 in
theorem th_X3_good_no (l : Launch) (hf : l.stackTraces = false) (k : Sk) (M : Nat) (I : IS) (hJ : Ij k M) (cn : Nat) (hcn : I 0 4 = nI cn) (x : Int32) (hno : isLt cn x = false) (y1 y2 : Int32) : TtI l yX3_good wsX3_good 12 [.ref (k.2.1 0), .int x, .int y1, .int y2] k M I sIO := by
  intro sz
  refine mtT_of (cc := cX3_good) (maxL := 4) (ret := some .int) hJ (by decide) rfl (Nat.le_of_ble_eq_true rfl) ?_
  intro p e s m args below meth c A ls C0 h hX hr hl
  have hx := C0.1.1
  have hb := C0.1.2.1
  have hown := C0.1.2.2.2.1
  have hts := C0.1.2.2.2.2
  have hM := hJ.1
  have hl : lv_has ls 4 [(0, _), (1, _), (2, _), (3, _)] := hl
  refine lv_aload_n hx hb dX3_good_0 rfl (lv_at hl 0 rfl) ?_
  refine lv_iload_n hx hb dX3_good_1 rfl (lv_at hl 1 rfl) ?_
  exact r_tVV C0 h hX hr hl.1 _ (by omega) (ce0 k _) rfl (th_X3_refuseUnlessLetter l hf k M I hJ cn hcn x hno) gX3_good_X3_refuseUnlessLetter rfl (by decide +kernel) (n := 1) ⟨Nat.le_of_ble_eq_true rfl, Nat.le_of_ble_eq_true rfl⟩ (Nat.le_of_ble_eq_true rfl) rfl rfl dX3_good_2
set_option maxHeartbeats 4000000 in
set_option maxRecDepth 100000 in
theorem th_X3_sign_no (l : Launch) (hf : l.stackTraces = false) (k : Sk) (M : Nat) (I : IS) (hJ : Ij k M) (cn : Nat) (hcn : I 0 4 = nI cn) (x : Int32) (hno : isLt cn x = false) (y1 : Int32) : TtI l yX3_sign wsX3_sign 12 [.ref (k.2.1 0), .int x, .int y1] k M I sIO := by
  intro sz
  refine mtT_of (cc := cX3_sign) (maxL := 3) (ret := some .int) hJ (by decide) rfl (Nat.le_of_ble_eq_true rfl) ?_
  intro p e s m args below meth c A ls C0 h hX hr hl
  have hx := C0.1.1
  have hb := C0.1.2.1
  have hown := C0.1.2.2.2.1
  have hts := C0.1.2.2.2.2
  have hM := hJ.1
  have hl : lv_has ls 3 [(0, _), (1, _), (2, _)] := hl
  refine lv_aload_n hx hb dX3_sign_0 rfl (lv_at hl 0 rfl) ?_
  refine lv_iload_n hx hb dX3_sign_1 rfl (lv_at hl 1 rfl) ?_
  exact r_tVV C0 h hX hr hl.1 _ (by omega) (ce0 k _) rfl (th_X3_refuseUnlessLetter l hf k M I hJ cn hcn x hno) gX3_sign_X3_refuseUnlessLetter rfl (by decide +kernel) (n := 1) ⟨Nat.le_of_ble_eq_true rfl, Nat.le_of_ble_eq_true rfl⟩ (Nat.le_of_ble_eq_true rfl) rfl rfl dX3_sign_2
set_option maxHeartbeats 4000000 in
set_option maxRecDepth 100000 in
theorem th_X3_anchor_no (l : Launch) (hf : l.stackTraces = false) (k : Sk) (M : Nat) (I : IS) (hJ : Ij k M) (cn : Nat) (hcn : I 0 4 = nI cn) (x : Int32) (hno : isLt cn x = false) (y1 : Int32) : TtI l yX3_anchor wsX3_anchor 12 [.ref (k.2.1 0), .int x, .int y1] k M I sIO := by
  intro sz
  refine mtT_of (cc := cX3_anchor) (maxL := 3) (ret := some .int) hJ (by decide) rfl (Nat.le_of_ble_eq_true rfl) ?_
  intro p e s m args below meth c A ls C0 h hX hr hl
  have hx := C0.1.1
  have hb := C0.1.2.1
  have hown := C0.1.2.2.2.1
  have hts := C0.1.2.2.2.2
  have hM := hJ.1
  have hl : lv_has ls 3 [(0, _), (1, _), (2, _)] := hl
  refine lv_aload_n hx hb dX3_anchor_0 rfl (lv_at hl 0 rfl) ?_
  refine lv_iload_n hx hb dX3_anchor_1 rfl (lv_at hl 1 rfl) ?_
  exact r_tVV C0 h hX hr hl.1 _ (by omega) (ce0 k _) rfl (th_X3_refuseUnlessLetter l hf k M I hJ cn hcn x hno) gX3_anchor_X3_refuseUnlessLetter rfl (by decide +kernel) (n := 1) ⟨Nat.le_of_ble_eq_true rfl, Nat.le_of_ble_eq_true rfl⟩ (Nat.le_of_ble_eq_true rfl) rfl rfl dX3_anchor_2
set_option maxHeartbeats 4000000 in
set_option maxRecDepth 100000 in
theorem th_X3_ofLetter_no (l : Launch) (hf : l.stackTraces = false) (k : Sk) (M : Nat) (I : IS) (hJ : Ij k M) (cn : Nat) (hcn : I 0 4 = nI cn) (x : Int32) (hno : isLt cn x = false) (y1 : Int32) : TtI l yX3_ofLetter wsX3_ofLetter 12 [.ref (k.2.1 0), .int x, .int y1] k M I sIO := by
  intro sz
  refine mtT_of (cc := cX3_ofLetter) (maxL := 3) (ret := some .int) hJ (by decide) rfl (Nat.le_of_ble_eq_true rfl) ?_
  intro p e s m args below meth c A ls C0 h hX hr hl
  have hx := C0.1.1
  have hb := C0.1.2.1
  have hown := C0.1.2.2.2.1
  have hts := C0.1.2.2.2.2
  have hM := hJ.1
  have hl : lv_has ls 3 [(0, _), (1, _), (2, _)] := hl
  refine lv_aload_n hx hb dX3_ofLetter_0 rfl (lv_at hl 0 rfl) ?_
  refine lv_iload_n hx hb dX3_ofLetter_1 rfl (lv_at hl 1 rfl) ?_
  exact r_tVV C0 h hX hr hl.1 _ (by omega) (ce0 k _) rfl (th_X3_refuseUnlessLetter l hf k M I hJ cn hcn x hno) gX3_ofLetter_X3_refuseUnlessLetter rfl (by decide +kernel) (n := 1) ⟨Nat.le_of_ble_eq_true rfl, Nat.le_of_ble_eq_true rfl⟩ (Nat.le_of_ble_eq_true rfl) rfl rfl dX3_ofLetter_2
set_option maxHeartbeats 4000000 in
set_option maxRecDepth 100000 in
theorem th_X3_backs_no (l : Launch) (hf : l.stackTraces = false) (k : Sk) (M : Nat) (I : IS) (hJ : Ij k M) (cn : Nat) (hcn : I 0 4 = nI cn) (x : Int32) (hno : isLt cn x = false) (y1 : Int32) : TtI l yX3_backs wsX3_backs 12 [.ref (k.2.1 0), .int x, .int y1] k M I sIO := by
  intro sz
  refine mtT_of (cc := cX3_backs) (maxL := 3) (ret := some .boolean) hJ (by decide) rfl (Nat.le_of_ble_eq_true rfl) ?_
  intro p e s m args below meth c A ls C0 h hX hr hl
  have hx := C0.1.1
  have hb := C0.1.2.1
  have hown := C0.1.2.2.2.1
  have hts := C0.1.2.2.2.2
  have hM := hJ.1
  have hl : lv_has ls 3 [(0, _), (1, _), (2, _)] := hl
  refine lv_aload_n hx hb dX3_backs_0 rfl (lv_at hl 0 rfl) ?_
  refine lv_iload_n hx hb dX3_backs_1 rfl (lv_at hl 1 rfl) ?_
  exact r_tVV C0 h hX hr hl.1 _ (by omega) (ce0 k _) rfl (th_X3_refuseUnlessLetter l hf k M I hJ cn hcn x hno) gX3_backs_X3_refuseUnlessLetter rfl (by decide +kernel) (n := 1) ⟨Nat.le_of_ble_eq_true rfl, Nat.le_of_ble_eq_true rfl⟩ (Nat.le_of_ble_eq_true rfl) rfl rfl dX3_backs_2
set_option maxHeartbeats 4000000 in
set_option maxRecDepth 100000 in
theorem th_X3_chains_no (l : Launch) (hf : l.stackTraces = false) (k : Sk) (M : Nat) (I : IS) (hJ : Ij k M) (cn : Nat) (hcn : I 0 4 = nI cn) (x : Int32) (hno : isLt cn x = false) : TtI l yX3_chains wsX3_chains 12 [.ref (k.2.1 0), .int x] k M I sIO := by
  intro sz
  refine mtT_of (cc := cX3_chains) (maxL := 2) (ret := some .int) hJ (by decide) rfl (Nat.le_of_ble_eq_true rfl) ?_
  intro p e s m args below meth c A ls C0 h hX hr hl
  have hx := C0.1.1
  have hb := C0.1.2.1
  have hown := C0.1.2.2.2.1
  have hts := C0.1.2.2.2.2
  have hM := hJ.1
  have hl : lv_has ls 2 [(0, _), (1, _)] := hl
  refine lv_aload_n hx hb dX3_chains_0 rfl (lv_at hl 0 rfl) ?_
  refine lv_iload_n hx hb dX3_chains_1 rfl (lv_at hl 1 rfl) ?_
  exact r_tVV C0 h hX hr hl.1 _ (by omega) (ce0 k _) rfl (th_X3_refuseUnlessLetter l hf k M I hJ cn hcn x hno) gX3_chains_X3_refuseUnlessLetter rfl (by decide +kernel) (n := 1) ⟨Nat.le_of_ble_eq_true rfl, Nat.le_of_ble_eq_true rfl⟩ (Nat.le_of_ble_eq_true rfl) rfl rfl dX3_chains_2
set_option maxHeartbeats 4000000 in
set_option maxRecDepth 100000 in
theorem th_X3_verdict_no (l : Launch) (hf : l.stackTraces = false) (k : Sk) (M : Nat) (I : IS) (hJ : Ij k M) (cn : Nat) (hcn : I 0 4 = nI cn) (x : Int32) (hno : isLt cn x = false) (y1 y2 : Int32) : TtI l yX3_verdict wsX3_verdict 12 [.ref (k.2.1 0), .int x, .int y1, .int y2] k M I sIO := by
  intro sz
  refine mtT_of (cc := cX3_verdict) (maxL := 4) (ret := some .int) hJ (by decide) rfl (Nat.le_of_ble_eq_true rfl) ?_
  intro p e s m args below meth c A ls C0 h hX hr hl
  have hx := C0.1.1
  have hb := C0.1.2.1
  have hown := C0.1.2.2.2.1
  have hts := C0.1.2.2.2.2
  have hM := hJ.1
  have hl : lv_has ls 4 [(0, _), (1, _), (2, _), (3, _)] := hl
  refine lv_aload_n hx hb dX3_verdict_0 rfl (lv_at hl 0 rfl) ?_
  refine lv_iload_n hx hb dX3_verdict_1 rfl (lv_at hl 1 rfl) ?_
  exact r_tVV C0 h hX hr hl.1 _ (by omega) (ce0 k _) rfl (th_X3_refuseUnlessLetter l hf k M I hJ cn hcn x hno) gX3_verdict_X3_refuseUnlessLetter rfl (by decide +kernel) (n := 1) ⟨Nat.le_of_ble_eq_true rfl, Nat.le_of_ble_eq_true rfl⟩ (Nat.le_of_ble_eq_true rfl) rfl rfl dX3_verdict_2
set_option maxHeartbeats 4000000 in
set_option maxRecDepth 100000 in
theorem th_X3_chain_no (l : Launch) (hf : l.stackTraces = false) (k : Sk) (M : Nat) (I : IS) (hJ : Ij k M) (cn : Nat) (hcn : I 0 4 = nI cn) (x : Int32) (hno : isLt cn x = false) (y1 y2 y3 : Int32) : TtI l yX3_chain wsX3_chain 12 [.ref (k.2.1 0), .int x, .int y1, .int y2, .int y3] k M I sIO := by
  intro sz
  refine mtT_of (cc := cX3_chain) (maxL := 6) (ret := some .int) hJ (by decide) rfl (Nat.le_of_ble_eq_true rfl) ?_
  intro p e s m args below meth c A ls C0 h hX hr hl
  have hx := C0.1.1
  have hb := C0.1.2.1
  have hown := C0.1.2.2.2.1
  have hts := C0.1.2.2.2.2
  have hM := hJ.1
  have hl : lv_has ls 6 [(0, _), (1, _), (2, _), (3, _), (4, _)] := hl
  refine lv_aload_n hx hb dX3_chain_0 rfl (lv_at hl 0 rfl) ?_
  refine lv_iload_n hx hb dX3_chain_1 rfl (lv_at hl 1 rfl) ?_
  exact r_tVV C0 h hX hr hl.1 _ (by omega) (ce0 k _) rfl (th_X3_refuseUnlessLetter l hf k M I hJ cn hcn x hno) gX3_chain_X3_refuseUnlessLetter rfl (by decide +kernel) (n := 1) ⟨Nat.le_of_ble_eq_true rfl, Nat.le_of_ble_eq_true rfl⟩ (Nat.le_of_ble_eq_true rfl) rfl rfl dX3_chain_2
set_option maxHeartbeats 4000000 in
set_option maxRecDepth 100000 in
theorem th_X3_flawAt_no (l : Launch) (hf : l.stackTraces = false) (k : Sk) (M : Nat) (I : IS) (hJ : Ij k M) (cn : Nat) (hcn : I 0 4 = nI cn) (x : Int32) (hno : isLt cn x = false) (y1 y2 : Int32) : TtI l yX3_flawAt wsX3_flawAt 12 [.ref (k.2.1 0), .int x, .int y1, .int y2] k M I sIO := by
  intro sz
  refine mtT_of (cc := cX3_flawAt) (maxL := 4) (ret := some .int) hJ (by decide) rfl (Nat.le_of_ble_eq_true rfl) ?_
  intro p e s m args below meth c A ls C0 h hX hr hl
  have hx := C0.1.1
  have hb := C0.1.2.1
  have hown := C0.1.2.2.2.1
  have hts := C0.1.2.2.2.2
  have hM := hJ.1
  have hl : lv_has ls 4 [(0, _), (1, _), (2, _), (3, _)] := hl
  refine lv_aload_n hx hb dX3_flawAt_0 rfl (lv_at hl 0 rfl) ?_
  refine lv_iload_n hx hb dX3_flawAt_1 rfl (lv_at hl 1 rfl) ?_
  exact r_tVV C0 h hX hr hl.1 _ (by omega) (ce0 k _) rfl (th_X3_refuseUnlessLetter l hf k M I hJ cn hcn x hno) gX3_flawAt_X3_refuseUnlessLetter rfl (by decide +kernel) (n := 1) ⟨Nat.le_of_ble_eq_true rfl, Nat.le_of_ble_eq_true rfl⟩ (Nat.le_of_ble_eq_true rfl) rfl rfl dX3_flawAt_2
set_option maxHeartbeats 4000000 in
set_option maxRecDepth 100000 in
theorem th_X3_holdsTo_no (l : Launch) (hf : l.stackTraces = false) (k : Sk) (M : Nat) (I : IS) (hJ : Ij k M) (cn : Nat) (hcn : I 0 4 = nI cn) (x : Int32) (hno : isLt cn x = false) (y1 y2 : Int32) : TtI l yX3_holdsTo wsX3_holdsTo 12 [.ref (k.2.1 0), .int x, .int y1, .int y2] k M I sIO := by
  intro sz
  refine mtT_of (cc := cX3_holdsTo) (maxL := 6) (ret := some .int) hJ (by decide) rfl (Nat.le_of_ble_eq_true rfl) ?_
  intro p e s m args below meth c A ls C0 h hX hr hl
  have hx := C0.1.1
  have hb := C0.1.2.1
  have hown := C0.1.2.2.2.1
  have hts := C0.1.2.2.2.2
  have hM := hJ.1
  have hl : lv_has ls 6 [(0, _), (1, _), (2, _), (3, _)] := hl
  refine lv_aload_n hx hb dX3_holdsTo_0 rfl (lv_at hl 0 rfl) ?_
  refine lv_iload_n hx hb dX3_holdsTo_1 rfl (lv_at hl 1 rfl) ?_
  exact r_tVV C0 h hX hr hl.1 _ (by omega) (ce0 k _) rfl (th_X3_refuseUnlessLetter l hf k M I hJ cn hcn x hno) gX3_holdsTo_X3_refuseUnlessLetter rfl (by decide +kernel) (n := 1) ⟨Nat.le_of_ble_eq_true rfl, Nat.le_of_ble_eq_true rfl⟩ (Nat.le_of_ble_eq_true rfl) rfl rfl dX3_holdsTo_2
set_option maxHeartbeats 4000000 in
set_option maxRecDepth 100000 in
theorem th_X3_otherwise_no (l : Launch) (hf : l.stackTraces = false) (k : Sk) (M : Nat) (I : IS) (hJ : Ij k M) (cn : Nat) (hcn : I 0 4 = nI cn) (x : Int32) (hno : isLt cn x = false) (y1 y2 : Int32) : TtI l yX3_otherwise wsX3_otherwise 12 [.ref (k.2.1 0), .int x, .int y1, .int y2] k M I sIO := by
  intro sz
  refine mtT_of (cc := cX3_otherwise) (maxL := 6) (ret := some .int) hJ (by decide) rfl (Nat.le_of_ble_eq_true rfl) ?_
  intro p e s m args below meth c A ls C0 h hX hr hl
  have hx := C0.1.1
  have hb := C0.1.2.1
  have hown := C0.1.2.2.2.1
  have hts := C0.1.2.2.2.2
  have hM := hJ.1
  have hl : lv_has ls 6 [(0, _), (1, _), (2, _), (3, _)] := hl
  refine lv_aload_n hx hb dX3_otherwise_0 rfl (lv_at hl 0 rfl) ?_
  refine lv_iload_n hx hb dX3_otherwise_1 rfl (lv_at hl 1 rfl) ?_
  exact r_tVV C0 h hX hr hl.1 _ (by omega) (ce0 k _) rfl (th_X3_refuseUnlessLetter l hf k M I hJ cn hcn x hno) gX3_otherwise_X3_refuseUnlessLetter rfl (by decide +kernel) (n := 1) ⟨Nat.le_of_ble_eq_true rfl, Nat.le_of_ble_eq_true rfl⟩ (Nat.le_of_ble_eq_true rfl) rfl rfl dX3_otherwise_2
set_option maxHeartbeats 4000000 in
set_option maxRecDepth 100000 in
theorem th_X3_call_no (l : Launch) (hf : l.stackTraces = false) (k : Sk) (M : Nat) (I : IS) (hJ : Ij k M) (x : Int32) (hno : x < 0 ∨ (¬ x < 0 ∧ ¬ x < I 0 5)) (y1 : Int32) : TtI l yX3_call wsX3_call 12 [.ref (k.2.1 0), .int x, .int y1] k M I sIO := by
  intro sz
  refine mtT_of (cc := cX3_call) (maxL := 3) (ret := some .int) hJ (by decide) rfl (Nat.le_of_ble_eq_true rfl) ?_
  intro p e s m args below meth c A ls C0 h hX hr hl
  have hx := C0.1.1
  have hb := C0.1.2.1
  have hown := C0.1.2.2.2.1
  have hts := C0.1.2.2.2.2
  have hM := hJ.1
  have hl : lv_has ls 3 [(0, _), (1, _), (2, _)] := hl
  refine lv_aload_n hx hb dX3_call_0 rfl (lv_at hl 0 rfl) ?_
  refine lv_iload_n hx hb dX3_call_1 rfl (lv_at hl 1 rfl) ?_
  exact r_tVV C0 h hX hr hl.1 _ (by omega) (ce0 k _) rfl (th_X3_refuseUnlessList l hf k M I hJ x hno) gX3_call_X3_refuseUnlessList rfl (by decide +kernel) (n := 1) ⟨Nat.le_of_ble_eq_true rfl, Nat.le_of_ble_eq_true rfl⟩ (Nat.le_of_ble_eq_true rfl) rfl rfl dX3_call_2
set_option maxHeartbeats 4000000 in
set_option maxRecDepth 100000 in
theorem th_X3_signList_no (l : Launch) (hf : l.stackTraces = false) (k : Sk) (M : Nat) (I : IS) (hJ : Ij k M) (x : Int32) (hno : x < 0 ∨ (¬ x < 0 ∧ ¬ x < I 0 5)) (y1 : Int32) : TtI l yX3_signList wsX3_signList 12 [.ref (k.2.1 0), .int x, .int y1] k M I sIO := by
  intro sz
  refine mtT_of (cc := cX3_signList) (maxL := 3) (ret := some .int) hJ (by decide) rfl (Nat.le_of_ble_eq_true rfl) ?_
  intro p e s m args below meth c A ls C0 h hX hr hl
  have hx := C0.1.1
  have hb := C0.1.2.1
  have hown := C0.1.2.2.2.1
  have hts := C0.1.2.2.2.2
  have hM := hJ.1
  have hl : lv_has ls 3 [(0, _), (1, _), (2, _)] := hl
  refine lv_aload_n hx hb dX3_signList_0 rfl (lv_at hl 0 rfl) ?_
  refine lv_iload_n hx hb dX3_signList_1 rfl (lv_at hl 1 rfl) ?_
  exact r_tVV C0 h hX hr hl.1 _ (by omega) (ce0 k _) rfl (th_X3_refuseUnlessList l hf k M I hJ x hno) gX3_signList_X3_refuseUnlessList rfl (by decide +kernel) (n := 1) ⟨Nat.le_of_ble_eq_true rfl, Nat.le_of_ble_eq_true rfl⟩ (Nat.le_of_ble_eq_true rfl) rfl rfl dX3_signList_2
