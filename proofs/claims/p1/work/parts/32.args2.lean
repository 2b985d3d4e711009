/-! 32: a question that answers by a count, a mean, a name: its arguments out of their range (for p1) -/
abbrev TtD (l : Launch) (y : MethodName) (ws : List Cond) (d : Nat) (av : List Value) (k : Sk) (M : Nat) (I : IS) (E : String) : Prop := ∀ sz : Nat, vx_Met l y ws (RmA d 1 6) (PcT k M I sz av) (va_Qd (fun (_ : UInt64) (_ : IS) => False) (EnX k M) (AX k M sz)) (XT k M I E (AX k M sz)) 1 6 (AX k M sz)
set_option maxHeartbeats 4000000 in
set_option maxRecDepth 100000 in
theorem th_X3_many_arg (l : Launch) (hf : l.stackTraces = false) (k : Sk) (M : Nat) (I : IS) (hJ : Ij k M) (x : Int32) (hno : isW x (nI 3) = false) : TtI l yX3_many wsX3_many 12 [.ref (k.2.1 0), .int x] k M I sIA := by
  intro sz
  refine mtT_of (cc := cX3_many) (maxL := 2) (ret := some .int) hJ (by decide) rfl (Nat.le_of_ble_eq_true rfl) ?_
  intro p e s m args below meth c A ls C0 h hX hr hl
  have hx := C0.1.1
  have hb := C0.1.2.1
  have hown := C0.1.2.2.2.1
  have hts := C0.1.2.2.2.2
  have hM := hJ.1
  have hl : lv_has ls 2 [(0, _), (1, _)] := hl
  refine lv_iload_n hx hb dX3_many_0 rfl (lv_at hl 1 rfl) ?_
  refine lv_iconst (v := nI 3) hx hb dX3_many_1 (by decide) ?_
  refine r_cSI C0 h hl.1 (ct_X3_isWithin l k M _ hJ _ _) gX3_many_X3_isWithin rfl (by decide +kernel) (n := 2) ⟨Nat.le_of_ble_eq_true rfl, Nat.le_of_ble_eq_true rfl⟩ ⟨Nat.zero_le _, Nat.zero_le _⟩ (Nat.le_of_ble_eq_true rfl) rfl rfl dX3_many_2 (fun r2 I2 H locs hp h => ?_)
  obtain ⟨rfl, hI2⟩ := hp
  rw [hI2] at h
  rw [show bI (isW x (nI 3)) = 0 by rw [hno]; rfl]
  exact r_tSV C0 h hX hr hl.1 (th_X3_refuseUnless l hf k M I hJ) gX3_many_X3_refuseUnless rfl (by decide +kernel) (n := 1) ⟨Nat.le_of_ble_eq_true rfl, Nat.le_of_ble_eq_true rfl⟩ (Nat.le_of_ble_eq_true rfl) rfl rfl dX3_many_5
set_option maxHeartbeats 4000000 in
set_option maxRecDepth 100000 in
theorem th_X3_stolen_key (l : Launch) (hf : l.stackTraces = false) (k : Sk) (M : Nat) (I : IS) (hJ : Ij k M) (x t u : Int32) (hno : isW x (nI 15) = false) : TtI l yX3_stolen wsX3_stolen 12 [.ref (k.2.1 0), .int x, .int t, .int u] k M I sIA := by
  intro sz
  refine mtT_of (cc := cX3_stolen) (maxL := 6) (ret := some .int) hJ (by decide) rfl (Nat.le_of_ble_eq_true rfl) ?_
  intro p e s m args below meth c A ls C0 h hX hr hl
  have hx := C0.1.1
  have hb := C0.1.2.1
  have hown := C0.1.2.2.2.1
  have hts := C0.1.2.2.2.2
  have hM := hJ.1
  have hl : lv_has ls 6 [(0, _), (1, _), (2, _), (3, _)] := hl
  refine lv_iload_n hx hb dX3_stolen_0 rfl (lv_at hl 1 rfl) ?_
  refine r_cSI C0 h hl.1 (ct_X3_isKey l k M _ hJ _) gX3_stolen_X3_isKey rfl (by decide +kernel) (n := 1) ⟨Nat.le_of_ble_eq_true rfl, Nat.le_of_ble_eq_true rfl⟩ ⟨Nat.zero_le _, Nat.zero_le _⟩ (Nat.le_of_ble_eq_true rfl) rfl rfl dX3_stolen_1 (fun r1 I1 H locs hp h => ?_)
  obtain ⟨rfl, hI1⟩ := hp
  rw [hI1] at h
  rw [show bI (isW x (nI 15)) = 0 by rw [hno]; rfl]
  exact r_tSV C0 h hX hr hl.1 (th_X3_refuseUnless l hf k M I hJ) gX3_stolen_X3_refuseUnless rfl (by decide +kernel) (n := 1) ⟨Nat.le_of_ble_eq_true rfl, Nat.le_of_ble_eq_true rfl⟩ (Nat.le_of_ble_eq_true rfl) rfl rfl dX3_stolen_4
set_option maxHeartbeats 4000000 in
set_option maxRecDepth 100000 in
theorem th_X3_stolen_mom (l : Launch) (hf : l.stackTraces = false) (k : Sk) (M : Nat) (I : IS) (hJ : Ij k M) (x t u : Int32) (h1 : isW x (nI 15) = true) (hno : isW t (nI 999) = false ∨ isW u (nI 3) = false) : TtI l yX3_stolen wsX3_stolen 12 [.ref (k.2.1 0), .int x, .int t, .int u] k M I sIA := by
  intro sz
  refine mtT_of (cc := cX3_stolen) (maxL := 6) (ret := some .int) hJ (by decide) rfl (Nat.le_of_ble_eq_true rfl) ?_
  intro p e s m args below meth c A ls C0 h hX hr hl
  have hx := C0.1.1
  have hb := C0.1.2.1
  have hown := C0.1.2.2.2.1
  have hts := C0.1.2.2.2.2
  have hM := hJ.1
  have hl : lv_has ls 6 [(0, _), (1, _), (2, _), (3, _)] := hl
  refine lv_iload_n hx hb dX3_stolen_0 rfl (lv_at hl 1 rfl) ?_
  refine r_cSI C0 h hl.1 (ct_X3_isKey l k M _ hJ _) gX3_stolen_X3_isKey rfl (by decide +kernel) (n := 1) ⟨Nat.le_of_ble_eq_true rfl, Nat.le_of_ble_eq_true rfl⟩ ⟨Nat.zero_le _, Nat.zero_le _⟩ (Nat.le_of_ble_eq_true rfl) rfl rfl dX3_stolen_1 (fun r1 I1 H locs hp h => ?_)
  obtain ⟨rfl, hI1⟩ := hp
  rw [hI1] at h
  refine r_cSV C0 h hl.1 (ok_X3_refuseUnless l k M _ hJ _ (show ¬ bI (isW x (nI 15)) = 0 by rw [h1]; decide)) gX3_stolen_X3_refuseUnless rfl (by decide +kernel) (n := 1) ⟨Nat.le_of_ble_eq_true rfl, Nat.le_of_ble_eq_true rfl⟩ ⟨Nat.zero_le _, Nat.zero_le _⟩ (Nat.le_of_ble_eq_true rfl) rfl rfl dX3_stolen_4 (fun I4 H locs hp h => ?_)
  rw [hp] at h
  refine lv_iload_n hx hb dX3_stolen_7 rfl (lv_at hl 2 rfl) ?_
  refine lv_iload_n hx hb dX3_stolen_8 rfl (lv_at hl 3 rfl) ?_
  exact r_tSV C0 h hX hr hl.1 (th_X3_refuseUnlessMoment l hf k M I hJ _ _ hno) gX3_stolen_X3_refuseUnlessMoment rfl (by decide +kernel) (n := 2) ⟨Nat.le_of_ble_eq_true rfl, Nat.le_of_ble_eq_true rfl⟩ (Nat.le_of_ble_eq_true rfl) rfl rfl dX3_stolen_9
set_option maxHeartbeats 4000000 in
set_option maxRecDepth 100000 in
theorem th_X3_meanChain_mom (l : Launch) (hf : l.stackTraces = false) (k : Sk) (M : Nat) (I : IS) (hJ : Ij k M) (t u : Int32) (hno : isW t (nI 999) = false ∨ isW u (nI 3) = false) : TtD l yX3_meanChain wsX3_meanChain 12 [.ref (k.2.1 0), .int t, .int u] k M I sIA := by
  intro sz
  refine mtT_of (cc := cX3_meanChain) (maxL := 7) (ret := some .double) hJ (by decide) rfl (Nat.le_of_ble_eq_true rfl) ?_
  intro p e s m args below meth c A ls C0 h hX hr hl
  have hx := C0.1.1
  have hb := C0.1.2.1
  have hown := C0.1.2.2.2.1
  have hts := C0.1.2.2.2.2
  have hM := hJ.1
  have hl : lv_has ls 7 [(0, _), (1, _), (2, _)] := hl
  refine lv_iload_n hx hb dX3_meanChain_0 rfl (lv_at hl 1 rfl) ?_
  refine lv_iload_n hx hb dX3_meanChain_1 rfl (lv_at hl 2 rfl) ?_
  exact r_tSV C0 h hX hr hl.1 (th_X3_refuseUnlessMoment l hf k M I hJ _ _ hno) gX3_meanChain_X3_refuseUnlessMoment rfl (by decide +kernel) (n := 2) ⟨Nat.le_of_ble_eq_true rfl, Nat.le_of_ble_eq_true rfl⟩ (Nat.le_of_ble_eq_true rfl) rfl rfl dX3_meanChain_2
set_option maxHeartbeats 4000000 in
set_option maxRecDepth 100000 in
theorem th_X3_isOf_arg (l : Launch) (hf : l.stackTraces = false) (k : Sk) (M : Nat) (I : IS) (hJ : Ij k M) (a key t u : Int32) (hno : ¬ (isNm a = true ∧ isW key (nI 15) = true)) : TtI l yX3_isOf wsX3_isOf 12 [.ref (k.2.1 0), .int a, .int key, .int t, .int u] k M I sIA := by
  intro sz
  refine mtT_of (cc := cX3_isOf) (maxL := 7) (ret := some .boolean) hJ (by decide) rfl (Nat.le_of_ble_eq_true rfl) ?_
  intro p e s m args below meth c A ls C0 h hX hr hl
  have hx := C0.1.1
  have hb := C0.1.2.1
  have hown := C0.1.2.2.2.1
  have hts := C0.1.2.2.2.2
  have hM := hJ.1
  have hl : lv_has ls 7 [(0, _), (1, _), (2, _), (3, _), (4, _)] := hl
  have hend : ∀ (H : Heap) (locs : List Loc), HX k M A s I H locs → W p l e (RmA 12 1 6) s m args below meth c H locs 0 0 (vx_MQ below (va_Qi (fun (_ : Int32) (_ : IS) => False) (EnX k M) (AX k M sz)) (XT k M I sIA A) args s 1 6 A) (F0 m 18 ls []) := fun H locs h => by
    refine lv_iconst (v := nI 0) hx hb dX3_isOf_18 (by decide) ?_
    exact r_tSV C0 h hX hr hl.1 (th_X3_refuseUnless l hf k M I hJ) gX3_isOf_X3_refuseUnless rfl (by decide +kernel) (n := 1) ⟨Nat.le_of_ble_eq_true rfl, Nat.le_of_ble_eq_true rfl⟩ (Nat.le_of_ble_eq_true rfl) rfl rfl dX3_isOf_19
  refine lv_iload_n hx hb dX3_isOf_0 rfl (lv_at hl 1 rfl) ?_
  refine r_cSI C0 h hl.1 (ct_X3_isName l k M _ hJ _) gX3_isOf_X3_isName rfl (by decide +kernel) (n := 1) ⟨Nat.le_of_ble_eq_true rfl, Nat.le_of_ble_eq_true rfl⟩ ⟨Nat.zero_le _, Nat.zero_le _⟩ (Nat.le_of_ble_eq_true rfl) rfl rfl dX3_isOf_1 (fun r1 I1 H locs hp h => ?_)
  obtain ⟨rfl, hI1⟩ := hp
  rw [hI1] at h
  refine lv_if_eq (tgt := 18) hx hb dX3_isOf_4 (by decide) (fun c_4 => hend _ _ h) (fun c_4 => ?_)
  refine lv_iload_n hx hb dX3_isOf_7 rfl (lv_at hl 2 rfl) ?_
  refine r_cSI C0 h hl.1 (ct_X3_isKey l k M _ hJ _) gX3_isOf_X3_isKey rfl (by decide +kernel) (n := 1) ⟨Nat.le_of_ble_eq_true rfl, Nat.le_of_ble_eq_true rfl⟩ ⟨Nat.zero_le _, Nat.zero_le _⟩ (Nat.le_of_ble_eq_true rfl) rfl rfl dX3_isOf_8 (fun r8 I8 H locs hp h => ?_)
  obtain ⟨rfl, hI8⟩ := hp
  rw [hI8] at h
  refine lv_if_eq (tgt := 18) hx hb dX3_isOf_11 (by decide) (fun c_11 => hend _ _ h) (fun c_11 => ?_)
  exact absurd ⟨nb_t c_4, nb_t c_11⟩ hno
set_option maxHeartbeats 4000000 in
set_option maxRecDepth 100000 in
theorem th_X3_isOf_mom (l : Launch) (hf : l.stackTraces = false) (k : Sk) (M : Nat) (I : IS) (hJ : Ij k M) (a key t u : Int32) (h1 : isNm a = true) (h2 : isW key (nI 15) = true) (hno : isW t (nI 999) = false ∨ isW u (nI 3) = false) : TtI l yX3_isOf wsX3_isOf 12 [.ref (k.2.1 0), .int a, .int key, .int t, .int u] k M I sIA := by
  intro sz
  refine mtT_of (cc := cX3_isOf) (maxL := 7) (ret := some .boolean) hJ (by decide) rfl (Nat.le_of_ble_eq_true rfl) ?_
  intro p e s m args below meth c A ls C0 h hX hr hl
  have hx := C0.1.1
  have hb := C0.1.2.1
  have hown := C0.1.2.2.2.1
  have hts := C0.1.2.2.2.2
  have hM := hJ.1
  have hl : lv_has ls 7 [(0, _), (1, _), (2, _), (3, _), (4, _)] := hl
  refine lv_iload_n hx hb dX3_isOf_0 rfl (lv_at hl 1 rfl) ?_
  refine r_cSI C0 h hl.1 (ct_X3_isName l k M _ hJ _) gX3_isOf_X3_isName rfl (by decide +kernel) (n := 1) ⟨Nat.le_of_ble_eq_true rfl, Nat.le_of_ble_eq_true rfl⟩ ⟨Nat.zero_le _, Nat.zero_le _⟩ (Nat.le_of_ble_eq_true rfl) rfl rfl dX3_isOf_1 (fun r1 I1 H locs hp h => ?_)
  obtain ⟨rfl, hI1⟩ := hp
  rw [hI1] at h
  refine lv_if_eq (tgt := 18) hx hb dX3_isOf_4 (by decide) (fun c_4 => absurd (show ¬ bI (isNm a) = 0 by rw [h1]; decide) (fun z => z c_4)) (fun c_4 => ?_)
  refine lv_iload_n hx hb dX3_isOf_7 rfl (lv_at hl 2 rfl) ?_
  refine r_cSI C0 h hl.1 (ct_X3_isKey l k M _ hJ _) gX3_isOf_X3_isKey rfl (by decide +kernel) (n := 1) ⟨Nat.le_of_ble_eq_true rfl, Nat.le_of_ble_eq_true rfl⟩ ⟨Nat.zero_le _, Nat.zero_le _⟩ (Nat.le_of_ble_eq_true rfl) rfl rfl dX3_isOf_8 (fun r8 I8 H locs hp h => ?_)
  obtain ⟨rfl, hI8⟩ := hp
  rw [hI8] at h
  refine lv_if_eq (tgt := 18) hx hb dX3_isOf_11 (by decide) (fun c_11 => absurd (show ¬ bI (isW key (nI 15)) = 0 by rw [h2]; decide) (fun z => z c_11)) (fun c_11 => ?_)
  refine lv_iconst (v := nI 1) hx hb dX3_isOf_14 (by decide) ?_
  refine lv_goto (tgt := 19) hx hb dX3_isOf_15 (by decide) ?_
  refine r_cSV C0 h hl.1 (ok_X3_refuseUnless l k M _ hJ _ (by decide)) gX3_isOf_X3_refuseUnless rfl (by decide +kernel) (n := 1) ⟨Nat.le_of_ble_eq_true rfl, Nat.le_of_ble_eq_true rfl⟩ ⟨Nat.zero_le _, Nat.zero_le _⟩ (Nat.le_of_ble_eq_true rfl) rfl rfl dX3_isOf_19 (fun I19 H locs hp h => ?_)
  rw [hp] at h
  refine lv_iload_n hx hb dX3_isOf_22 rfl (lv_at hl 3 rfl) ?_
  refine lv_iload hx hb dX3_isOf_23 (lv_at hl 4 rfl) ?_
  exact r_tSV C0 h hX hr hl.1 (th_X3_refuseUnlessMoment l hf k M I hJ _ _ hno) gX3_isOf_X3_refuseUnlessMoment rfl (by decide +kernel) (n := 2) ⟨Nat.le_of_ble_eq_true rfl, Nat.le_of_ble_eq_true rfl⟩ (Nat.le_of_ble_eq_true rfl) rfl rfl dX3_isOf_25
