/-! 50: the law begins -/
def IN : IS := up2 (up2 (up2 (up2 (up2 (up2 I0 98 0 (nI 1)) 98 1 (nI 2)) 98 2 (nI 11)) 98 3 (nI 12)) 98 4 (nI 112)) 98 5 (nI 21)
theorem IN_ne {a : Nat} (h : a ≠ 98) : IN a = I0 a := by
  unfold IN
  rw [up2_ne _ _ _ h, up2_ne _ _ _ h, up2_ne _ _ _ h, up2_ne _ _ _ h, up2_ne _ _ _ h, up2_ne _ _ _ h]
theorem IN_0 : IN 0 4 = nI 0 := by
  rw [IN_ne (by decide)]
  rfl
theorem IN_nm : NmH IN := by
  unfold IN NmH
  refine ⟨?_, ?_, ?_, ?_, ?_, ?_⟩ <;> simp only [up2_at, upd] <;> rfl
theorem up_off {I J : IS} (h : ∀ a, a ≠ 98 → I a = J a) (n j : Nat) (v : Int32) : ∀ a, a ≠ 98 → up2 I n j v a = up2 J n j v a := by
  intro a ha
  by_cases e : a = n
  · subst e
    rw [up2_at, up2_at, h a ha]
  · rw [up2_ne _ _ _ e, up2_ne _ _ _ e, h a ha]
theorem RA_first {κ : Nat} {I' : IS} (hκ : κ < 4) (e : I' = up2 (up2 (up2 (up2 (up2 IN (10 + 0) 0 (nI 1)) (10 + 0) 1 (nI 1)) (10 + 0) 2 (nI κ)) (10 + 0) 3 (nI 0)) 0 4 (nI (0 + 1))) : RA 1 0 I' := by
  subst e
  have hq := up_off (up_off (up_off (up_off (up_off (fun a ha => IN_ne ha) (10 + 0) 0 (nI 1)) (10 + 0) 1 (nI 1)) (10 + 0) 2 (nI κ)) (10 + 0) 3 (nI 0)) 0 4 (nI (0 + 1))
  refine ⟨(RmI_first hκ).off (hq 0 (by decide)) (fun i hi => hq (10 + i) (by omega)), IN_nm.go (fun q => ?_)⟩
  rw [up98 _ _ _ (by decide), up98 _ _ _ (by decide), up98 _ _ _ (by decide), up98 _ _ _ (by decide), up98 _ _ _ (by decide)]
set_option maxHeartbeats 4000000 in
set_option maxRecDepth 100000 in
theorem law_begin {p : Program} {e : Env} {s : State} {m : MethodId} {args : Array Value} {below : List Frame} {meth : Method} {c : Code} {Q : State → Prop} (l : Launch) (hf : l.stackTraces = false) {k : Sk} {M : Nat} {A : Nat → Prop} {b L : Nat} {xs : Nat → Int32} (hL : L ≤ 260) (h99 : 98 < M) (C0 : CX p s m args c cL_law 9 wsL_law RL k M A) (hX : va_X b L xs s s.heap) (hbl : b < s.heap.size) (hbA : ¬ A b) (hT : TL A s)
    (hfin : ∀ (cl sl : Nat) (I1 : IS) (H : Heap) (locs : List Loc) (ls : Array Slot), cl ≤ 139 → sl ≤ 1108 → HX k M A s I1 H locs → W p l e room_1 s m args below meth c H locs cl sl Q (F0 m 261 ls []))
    {H : Heap} {locs : List Loc} {ls : Array Slot} (h : HX k M A s I0 H locs) (hl : lv_has ls 9 [(1, .ref (k.2.1 0)), (0, .ref b)]) : W p l e room_1 s m args below meth c H locs 99 868 Q (F0 m 12 ls [.ref (k.2.1 98)]) := by
  have hx := C0.1.1
  have hb := C0.1.2.1
  have hown := C0.1.2.2.2.1
  have hts := C0.1.2.2.2.2
  have hJ : Ij k M := C0.2.2.2.1
  have hM := hJ.1
  refine lv_dup hx hb dL_law_12 rfl ?_
  refine lv_iconst (v := nI 0) hx hb dL_law_13 (by decide) ?_
  refine lv_iconst (v := nI 1) hx hb dL_law_14 (by decide) ?_
  refine r_iast C0 h 98 (by omega) isA_98 0 (by rw [ln98]; omega) dL_law_15 (fun H locs h => ?_)
  refine lv_dup hx hb dL_law_16 rfl ?_
  refine lv_iconst (v := nI 1) hx hb dL_law_17 (by decide) ?_
  refine lv_iconst (v := nI 2) hx hb dL_law_18 (by decide) ?_
  refine r_iast C0 h 98 (by omega) isA_98 1 (by rw [ln98]; omega) dL_law_19 (fun H locs h => ?_)
  refine lv_dup hx hb dL_law_20 rfl ?_
  refine lv_iconst (v := nI 2) hx hb dL_law_21 (by decide) ?_
  refine lv_bipush (v := nI 11) hx hb dL_law_22 (by decide) ?_
  refine r_iast C0 h 98 (by omega) isA_98 2 (by rw [ln98]; omega) dL_law_24 (fun H locs h => ?_)
  refine lv_dup hx hb dL_law_25 rfl ?_
  refine lv_iconst (v := nI 3) hx hb dL_law_26 (by decide) ?_
  refine lv_bipush (v := nI 12) hx hb dL_law_27 (by decide) ?_
  refine r_iast C0 h 98 (by omega) isA_98 3 (by rw [ln98]; omega) dL_law_29 (fun H locs h => ?_)
  refine lv_dup hx hb dL_law_30 rfl ?_
  refine lv_iconst (v := nI 4) hx hb dL_law_31 (by decide) ?_
  refine lv_bipush (v := nI 112) hx hb dL_law_32 (by decide) ?_
  refine r_iast C0 h 98 (by omega) isA_98 4 (by rw [ln98]; omega) dL_law_34 (fun H locs h => ?_)
  refine lv_dup hx hb dL_law_35 rfl ?_
  refine lv_iconst (v := nI 5) hx hb dL_law_36 (by decide) ?_
  refine lv_bipush (v := nI 21) hx hb dL_law_37 (by decide) ?_
  refine r_iast C0 h 98 (by omega) isA_98 5 (by rw [ln98]; omega) dL_law_39 (fun H locs h => ?_)
  have h : HX k M A s IN H locs := h
  refine lv_astore_n hx hb dL_law_40 rfl hl (by decide) rfl (fun ls hl => ?_)
  have hl : lv_has ls 9 [(2, _), (1, _), (0, _)] := hl
  refine lv_aload_n hx hb dL_law_41 rfl (lv_at hl 1 rfl) ?_
  refine lv_iconst (v := nI 1) hx hb dL_law_42 (by decide) ?_
  refine lv_iconst (v := nI 1) hx hb dL_law_43 (by decide) ?_
  refine lv_aload_n hx hb dL_law_44 rfl (lv_at hl 2 rfl) ?_
  refine lv_iconst (v := nI 0) hx hb dL_law_45 (by decide) ?_
  refine r_cCell C0 h hX hbl hbA hL (show 0 ≤ 260 by omega) hl.1 ⟨Nat.le_of_ble_eq_true rfl, Nat.le_of_ble_eq_true rfl⟩ ⟨Nat.le_of_ble_eq_true rfl, Nat.le_of_ble_eq_true rfl⟩ (Nat.le_of_ble_eq_true rfl) dL_law_46 (fun r46 H locs h => ?_)
  refine lv_iconst (v := nI 4) hx hb dL_law_49 (by decide) ?_
  refine r_cSI C0 h hl.1 (ct_L_below l k M _ hJ _ _ (nI_ne0 (by omega) (by omega))) gL_law_L_below rfl (by decide +kernel) (n := 2) ⟨Nat.le_of_ble_eq_true rfl, Nat.le_of_ble_eq_true rfl⟩ ⟨Nat.le_of_ble_eq_true rfl, Nat.le_of_ble_eq_true rfl⟩ (Nat.le_of_ble_eq_true rfl) rfl rfl dL_law_50 (fun r50 I50 H locs hp h => ?_)
  obtain ⟨rfl, hq9⟩ := hp
  rw [hq9] at h
  rw [bl_at _ (by omega) (by omega)]
  have hb50 := blN_lt r46 (n := 4) (by omega)
  refine lv_iconst (v := nI 0) hx hb dL_law_53 (by decide) ?_
  refine r_cVI C0 h hl.1 _ (by omega) (ce0 k _) rfl (ct_X3_letter l k M _ hJ 0 IN_0 (by omega) _ _ _ _ isNm_six.1 isNm_six.1 (isW_n (show blN r46 4 ≤ 15 by omega) (by omega)) (isW_n (show 0 ≤ 30 by omega) (by omega))) gL_law_X3_letter rfl (by decide +kernel) (n := 4) ⟨Nat.le_of_ble_eq_true rfl, Nat.le_of_ble_eq_true rfl⟩ ⟨Nat.le_of_ble_eq_true rfl, Nat.le_of_ble_eq_true rfl⟩ (Nat.le_of_ble_eq_true rfl) rfl rfl dL_law_54 (fun r54 I54 H locs hp h => ?_)
  obtain ⟨rfl, e54⟩ := hp
  have hR := RA_first hb50 e54
  refine lv_pop hx hb dL_law_57 rfl ?_
  refine lv_aload_n hx hb dL_law_58 rfl (lv_at hl 1 rfl) ?_
  refine lv_iconst (v := nI 0) hx hb dL_law_59 (by decide) ?_
  refine lv_iconst (v := nI 1) hx hb dL_law_60 (by decide) ?_
  refine lv_iconst (v := nI 3) hx hb dL_law_61 (by decide) ?_
  refine r_cVI C0 h hl.1 _ (by omega) (ce0 k _) rfl (ct_X3_master l k M _ hJ 1 hR.c20 hR.n4 0 (by omega) true (nI 3) (isW_n (by omega) (by omega))) gL_law_X3_master rfl (by decide +kernel) (n := 3) ⟨Nat.le_of_ble_eq_true rfl, Nat.le_of_ble_eq_true rfl⟩ ⟨Nat.le_of_ble_eq_true rfl, Nat.le_of_ble_eq_true rfl⟩ (Nat.le_of_ble_eq_true rfl) rfl rfl dL_law_62 (fun r62 I62 H locs hp h => ?_)
  obtain ⟨rfl, e62⟩ := hp
  obtain ⟨hR, -⟩ := hR.mst (show 0 < 1 by omega) (show 3 ≤ 9999 by omega) e62
  refine lv_pop hx hb dL_law_65 rfl ?_
  refine lv_aload_n hx hb dL_law_66 rfl (lv_at hl 1 rfl) ?_
  refine lv_iconst (v := nI 0) hx hb dL_law_67 (by decide) ?_
  refine lv_aload_n hx hb dL_law_68 rfl (lv_at hl 1 rfl) ?_
  refine lv_iconst (v := nI 0) hx hb dL_law_69 (by decide) ?_
  refine lv_iconst (v := nI 2) hx hb dL_law_70 (by decide) ?_
  refine r_cVI C0 h hl.1 _ (by omega) (ce0 k _) rfl (ct_X3_ofLetter l k M _ hJ 1 hR.c20 hR.n4 0 (by omega) 2 (by decide)) gL_law_X3_ofLetter rfl (by decide +kernel) (n := 2) ⟨Nat.le_of_ble_eq_true rfl, Nat.le_of_ble_eq_true rfl⟩ ⟨Nat.le_of_ble_eq_true rfl, Nat.le_of_ble_eq_true rfl⟩ (Nat.le_of_ble_eq_true rfl) rfl rfl dL_law_71 (fun r71 I71 H locs hp h => ?_)
  obtain ⟨rfl, hq9⟩ := hp
  rw [hq9] at h
  rw [py_at _ (by decide) (by decide) (by decide)]
  refine r_cVI C0 h hl.1 _ (by omega) (ce0 k _) rfl (ct_X3_sign l k M _ hJ 1 hR.c20 hR.n4 0 (by omega) _ (hR.ltI (show 0 < 1 by omega)).key) gL_law_X3_sign rfl (by decide +kernel) (n := 2) ⟨Nat.le_of_ble_eq_true rfl, Nat.le_of_ble_eq_true rfl⟩ ⟨Nat.le_of_ble_eq_true rfl, Nat.le_of_ble_eq_true rfl⟩ (Nat.le_of_ble_eq_true rfl) rfl rfl dL_law_74 (fun r74 I74 H locs hp h => ?_)
  obtain ⟨rfl, e74⟩ := hp
  have hR := hR.sgn (show 0 < 1 by omega) e74
  refine lv_pop hx hb dL_law_77 rfl ?_
  refine lv_aload_n hx hb dL_law_78 rfl (lv_at hl 1 rfl) ?_
  refine lv_iconst (v := nI 0) hx hb dL_law_79 (by decide) ?_
  refine lv_iconst (v := nI 1) hx hb dL_law_80 (by decide) ?_
  refine r_cVI C0 h hl.1 _ (by omega) (ce0 k _) rfl (ct_X3_anchor l k M _ hJ 1 hR.c20 hR.n4 0 (by omega) true) gL_law_X3_anchor rfl (by decide +kernel) (n := 2) ⟨Nat.le_of_ble_eq_true rfl, Nat.le_of_ble_eq_true rfl⟩ ⟨Nat.le_of_ble_eq_true rfl, Nat.le_of_ble_eq_true rfl⟩ (Nat.le_of_ble_eq_true rfl) rfl rfl dL_law_81 (fun r81 I81 H locs hp h => ?_)
  obtain ⟨rfl, e81⟩ := hp
  have hR := hR.anc (show 0 < 1 by omega) e81
  refine lv_pop hx hb dL_law_84 rfl ?_
  refine lv_iconst (v := nI 0) hx hb dL_law_85 (by decide) ?_
  refine lv_istore_n hx hb dL_law_86 rfl hl (by decide) rfl (fun ls hl => ?_)
  have hl : lv_has ls 9 [(3, _), (2, _), (1, _), (0, _)] := hl
  exact law_loop l hf hL h99 C0 hX hbl hbA hT hfin 1 0 hR h (lv_sub hl [0, 3, 2, 1] rfl)
