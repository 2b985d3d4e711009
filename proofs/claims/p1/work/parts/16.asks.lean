/-! 16: questions about chains -/
set_option maxHeartbeats 4000000 in
set_option maxRecDepth 100000 in
theorem ct_X3_chains (l : Launch) (k : Sk) (M : Nat) (I : IS) (hJ : Ij k M) (cn : Nat) (hc20 : cn ≤ 20) (hcn : I 0 4 = nI cn) (lcn : Nat) (hl8 : lcn ≤ 8) (hlcn : I 0 5 = nI lcn) (hst : ∃ b, I 0 6 = bI b) (i : Nat) (hi : i < cn) : MtI l yX3_chains wsX3_chains 12 [.ref (k.2.1 0), .int (nI i)] k M I (fun r I' => r = nI (chs (vw I) cn i).length ∧ vw I' = vw I) := by
  refine mtI_of (cc := cX3_chains) (maxL := 2) hJ (by decide) rfl (Nat.le_of_ble_eq_true rfl) ?_
  intro p e s m args below meth c A ls C0 h hr hl
  have hx := C0.1.1
  have hb := C0.1.2.1
  have hown := C0.1.2.2.2.1
  have hts := C0.1.2.2.2.2
  have hM := hJ.1
  have hl : lv_has ls 2 [(0, _), (1, _)] := hl
  have hinX1 : ∀ w ∈ u_ws RX1 TX1 7, w ∈ wsX3_chains := by decide +kernel
  have hinX3 : ∀ w ∈ u_ws RX3 TX3 7, w ∈ wsX3_chains := by decide +kernel
  refine lv_aload_n hx hb dX3_chains_0 rfl (lv_at hl 0 rfl) ?_
  refine lv_iload_n hx hb dX3_chains_1 rfl (lv_at hl 1 rfl) ?_
  refine r_cVV C0 h hl.1 _ (by omega) (ce0 k _) rfl (ok_X3_refuseUnlessLetter l k M _ hJ cn hcn _ (isLt_at hi (by omega))) gX3_chains_X3_refuseUnlessLetter rfl (by decide +kernel) (n := 1) ⟨Nat.le_of_ble_eq_true rfl, Nat.le_of_ble_eq_true rfl⟩ ⟨Nat.zero_le _, Nat.zero_le _⟩ (Nat.le_of_ble_eq_true rfl) rfl rfl dX3_chains_2 (fun I2 H locs hp h => ?_)
  rw [hp] at h
  refine lv_aload_n hx hb dX3_chains_5 rfl (lv_at hl 0 rfl) ?_
  refine r_cVV C0 h hl.1 _ (by omega) (ce0 k _) rfl (ct_X3_survey l k M _ hJ cn hc20 hcn lcn hl8 hlcn) gX3_chains_X3_survey rfl (by decide +kernel) (n := 0) ⟨Nat.le_of_ble_eq_true rfl, Nat.le_of_ble_eq_true rfl⟩ ⟨Nat.zero_le _, Nat.zero_le _⟩ (Nat.le_of_ble_eq_true rfl) rfl rfl dX3_chains_6 (fun I6 H locs hp h => ?_)
  obtain ⟨hS1, hsg1, hv1, hv41⟩ := hp
  have hQ1 : QH (vw I) cn lcn I6 := ⟨hS1, hsg1, hv1⟩
  refine lv_aload_n hx hb dX3_chains_9 rfl (lv_at hl 0 rfl) ?_
  refine r_get (T := TX3) (N := 7) C0 h _ (by omega) (ce0 k _) hinX3 rfl 2 (by decide) (by decide +kernel) rfl rfl dX3_chains_10 ?_
  refine lv_iload_n hx hb dX3_chains_13 rfl (lv_at hl 1 rfl) ?_
  refine r_cVNV C0 h hl.1 _ (by omega) (ce3 k _) rfl (ct_X1_findChainsOf l k M _ hJ cn i (by omega) hc20 hQ1.1) gX3_chains_X1_findChainsOf_n158 rfl (by decide +kernel) (by decide +kernel) (by decide +kernel) (by decide +kernel) (by decide +kernel) (n := 1) ⟨Nat.le_of_ble_eq_true rfl, Nat.le_of_ble_eq_true rfl⟩ ⟨Nat.zero_le _, Nat.zero_le _⟩ (Nat.le_of_ble_eq_true rfl) rfl rfl dX3_chains_14 (fun I14 H locs hp h => ?_)
  obtain ⟨hB, hE⟩ := hp
  rw [hQ1.2.2] at hB
  have hQ := hQ1.ex hl8 hE
  have hO : AcO (chs (vw I) cn i) cn := chs_O _ (by omega)
  have hcn9 : I14 0 4 = nI cn := by rw [vw_use0 hQ.2.2]; exact hcn
  have hlcn9 : I14 0 5 = nI lcn := by rw [vw_use0 hQ.2.2]; exact hlcn
  have hst9 : ∃ b, I14 0 6 = bI b := by rw [vw_use0 hQ.2.2]; exact hst
  have hB60 := hB.2.1
  refine lv_aload_n hx hb dX3_chains_17 rfl (lv_at hl 0 rfl) ?_
  refine r_get (T := TX3) (N := 7) C0 h _ (by omega) (ce0 k _) hinX3 rfl 2 (by decide) (by decide +kernel) rfl rfl dX3_chains_18 ?_
  refine r_getN (T := TX1) (N := 7) C0 h _ (by omega) (ce3 k _) hinX1 rfl 6 (by decide) (by decide +kernel) rfl rfl dX3_chains_21 ?_
  rw [hB.1]
  exact r_iret C0 h hr dX3_chains_24 ⟨rfl, hQ.2.2⟩
set_option maxHeartbeats 4000000 in
set_option maxRecDepth 100000 in
theorem ct_X3_verdict (l : Launch) (k : Sk) (M : Nat) (I : IS) (hJ : Ij k M) (cn : Nat) (hc20 : cn ≤ 20) (hcn : I 0 4 = nI cn) (lcn : Nat) (hl8 : lcn ≤ 8) (hlcn : I 0 5 = nI lcn) (hst : ∃ b, I 0 6 = bI b) (i : Nat) (hi : i < cn) (t u : Int32) (ht : isW t (nI 999) = true) (hu : isW u (nI 3) = true) : MtI l yX3_verdict wsX3_verdict 12 [.ref (k.2.1 0), .int (nI i), .int t, .int u] k M I (fun r I' => r = dcF (vw I) lcn t u (chs (vw I) cn i) ∧ vw I' = vw I) := by
  refine mtI_of (cc := cX3_verdict) (maxL := 4) hJ (by decide) rfl (Nat.le_of_ble_eq_true rfl) ?_
  intro p e s m args below meth c A ls C0 h hr hl
  have hx := C0.1.1
  have hb := C0.1.2.1
  have hown := C0.1.2.2.2.1
  have hts := C0.1.2.2.2.2
  have hM := hJ.1
  have hl : lv_has ls 4 [(0, _), (1, _), (2, _), (3, _)] := hl
  have hinX3 : ∀ w ∈ u_ws RX3 TX3 7, w ∈ wsX3_verdict := by decide +kernel
  refine lv_aload_n hx hb dX3_verdict_0 rfl (lv_at hl 0 rfl) ?_
  refine lv_iload_n hx hb dX3_verdict_1 rfl (lv_at hl 1 rfl) ?_
  refine r_cVV C0 h hl.1 _ (by omega) (ce0 k _) rfl (ok_X3_refuseUnlessLetter l k M _ hJ cn hcn _ (isLt_at hi (by omega))) gX3_verdict_X3_refuseUnlessLetter rfl (by decide +kernel) (n := 1) ⟨Nat.le_of_ble_eq_true rfl, Nat.le_of_ble_eq_true rfl⟩ ⟨Nat.zero_le _, Nat.zero_le _⟩ (Nat.le_of_ble_eq_true rfl) rfl rfl dX3_verdict_2 (fun I2 H locs hp h => ?_)
  rw [hp] at h
  refine lv_iload_n hx hb dX3_verdict_5 rfl (lv_at hl 2 rfl) ?_
  refine lv_iload_n hx hb dX3_verdict_6 rfl (lv_at hl 3 rfl) ?_
  refine r_cSV C0 h hl.1 (ok_X3_refuseUnlessMoment l k M _ hJ t u ht hu) gX3_verdict_X3_refuseUnlessMoment rfl (by decide +kernel) (n := 2) ⟨Nat.le_of_ble_eq_true rfl, Nat.le_of_ble_eq_true rfl⟩ ⟨Nat.zero_le _, Nat.zero_le _⟩ (Nat.le_of_ble_eq_true rfl) rfl rfl dX3_verdict_7 (fun I7 H locs hp h => ?_)
  rw [hp] at h
  refine lv_aload_n hx hb dX3_verdict_10 rfl (lv_at hl 0 rfl) ?_
  refine r_cVV C0 h hl.1 _ (by omega) (ce0 k _) rfl (ct_X3_survey l k M _ hJ cn hc20 hcn lcn hl8 hlcn) gX3_verdict_X3_survey rfl (by decide +kernel) (n := 0) ⟨Nat.le_of_ble_eq_true rfl, Nat.le_of_ble_eq_true rfl⟩ ⟨Nat.zero_le _, Nat.zero_le _⟩ (Nat.le_of_ble_eq_true rfl) rfl rfl dX3_verdict_11 (fun I11 H locs hp h => ?_)
  obtain ⟨hS1, hsg1, hv1, hv41⟩ := hp
  have hQ1 : QH (vw I) cn lcn I11 := ⟨hS1, hsg1, hv1⟩
  refine lv_aload_n hx hb dX3_verdict_14 rfl (lv_at hl 0 rfl) ?_
  refine r_get (T := TX3) (N := 7) C0 h _ (by omega) (ce0 k _) hinX3 rfl 2 (by decide) (by decide +kernel) rfl rfl dX3_verdict_15 ?_
  refine lv_iload_n hx hb dX3_verdict_18 rfl (lv_at hl 1 rfl) ?_
  refine r_cVNV C0 h hl.1 _ (by omega) (ce3 k _) rfl (ct_X1_findChainsOf l k M _ hJ cn i (by omega) hc20 hQ1.1) gX3_verdict_X1_findChainsOf_n158 rfl (by decide +kernel) (by decide +kernel) (by decide +kernel) (by decide +kernel) (by decide +kernel) (n := 1) ⟨Nat.le_of_ble_eq_true rfl, Nat.le_of_ble_eq_true rfl⟩ ⟨Nat.zero_le _, Nat.zero_le _⟩ (Nat.le_of_ble_eq_true rfl) rfl rfl dX3_verdict_19 (fun I19 H locs hp h => ?_)
  obtain ⟨hB, hE⟩ := hp
  rw [hQ1.2.2] at hB
  have hQ := hQ1.ex hl8 hE
  have hO : AcO (chs (vw I) cn i) cn := chs_O _ (by omega)
  have hcn9 : I19 0 4 = nI cn := by rw [vw_use0 hQ.2.2]; exact hcn
  have hlcn9 : I19 0 5 = nI lcn := by rw [vw_use0 hQ.2.2]; exact hlcn
  have hst9 : ∃ b, I19 0 6 = bI b := by rw [vw_use0 hQ.2.2]; exact hst
  have hB60 := hB.2.1
  refine lv_aload_n hx hb dX3_verdict_22 rfl (lv_at hl 0 rfl) ?_
  refine lv_iload_n hx hb dX3_verdict_23 rfl (lv_at hl 2 rfl) ?_
  refine lv_iload_n hx hb dX3_verdict_24 rfl (lv_at hl 3 rfl) ?_
  refine r_cVI C0 h hl.1 _ (by omega) (ce0 k _) rfl (ct_X3_decision l k M _ hJ cn hc20 hcn9 lcn hl8 hlcn9 hQ.2.1 hst9 _ hB hO t u) gX3_verdict_X3_decision rfl (by decide +kernel) (n := 2) ⟨Nat.le_of_ble_eq_true rfl, Nat.le_of_ble_eq_true rfl⟩ ⟨Nat.zero_le _, Nat.zero_le _⟩ (Nat.le_of_ble_eq_true rfl) rfl rfl dX3_verdict_25 (fun r25 I25 H locs hp h => ?_)
  obtain ⟨rfl, hI25⟩ := hp
  rw [hI25] at h
  rw [hQ.2.2]
  exact r_iret C0 h hr dX3_verdict_28 ⟨rfl, hQ.2.2⟩
set_option maxHeartbeats 4000000 in
set_option maxRecDepth 100000 in
theorem ct_X3_flawAt (l : Launch) (k : Sk) (M : Nat) (I : IS) (hJ : Ij k M) (cn : Nat) (hc20 : cn ≤ 20) (hcn : I 0 4 = nI cn) (lcn : Nat) (hl8 : lcn ≤ 8) (hlcn : I 0 5 = nI lcn) (hst : ∃ b, I 0 6 = bI b) (i : Nat) (hi : i < cn) (t u : Int32) (ht : isW t (nI 999) = true) (hu : isW u (nI 3) = true) : MtI l yX3_flawAt wsX3_flawAt 12 [.ref (k.2.1 0), .int (nI i), .int t, .int u] k M I (fun r I' => r = dpF (vw I) lcn t u (chs (vw I) cn i) ∧ vw I' = vw I) := by
  refine mtI_of (cc := cX3_flawAt) (maxL := 4) hJ (by decide) rfl (Nat.le_of_ble_eq_true rfl) ?_
  intro p e s m args below meth c A ls C0 h hr hl
  have hx := C0.1.1
  have hb := C0.1.2.1
  have hown := C0.1.2.2.2.1
  have hts := C0.1.2.2.2.2
  have hM := hJ.1
  have hl : lv_has ls 4 [(0, _), (1, _), (2, _), (3, _)] := hl
  have hinX3 : ∀ w ∈ u_ws RX3 TX3 7, w ∈ wsX3_flawAt := by decide +kernel
  refine lv_aload_n hx hb dX3_flawAt_0 rfl (lv_at hl 0 rfl) ?_
  refine lv_iload_n hx hb dX3_flawAt_1 rfl (lv_at hl 1 rfl) ?_
  refine r_cVV C0 h hl.1 _ (by omega) (ce0 k _) rfl (ok_X3_refuseUnlessLetter l k M _ hJ cn hcn _ (isLt_at hi (by omega))) gX3_flawAt_X3_refuseUnlessLetter rfl (by decide +kernel) (n := 1) ⟨Nat.le_of_ble_eq_true rfl, Nat.le_of_ble_eq_true rfl⟩ ⟨Nat.zero_le _, Nat.zero_le _⟩ (Nat.le_of_ble_eq_true rfl) rfl rfl dX3_flawAt_2 (fun I2 H locs hp h => ?_)
  rw [hp] at h
  refine lv_iload_n hx hb dX3_flawAt_5 rfl (lv_at hl 2 rfl) ?_
  refine lv_iload_n hx hb dX3_flawAt_6 rfl (lv_at hl 3 rfl) ?_
  refine r_cSV C0 h hl.1 (ok_X3_refuseUnlessMoment l k M _ hJ t u ht hu) gX3_flawAt_X3_refuseUnlessMoment rfl (by decide +kernel) (n := 2) ⟨Nat.le_of_ble_eq_true rfl, Nat.le_of_ble_eq_true rfl⟩ ⟨Nat.zero_le _, Nat.zero_le _⟩ (Nat.le_of_ble_eq_true rfl) rfl rfl dX3_flawAt_7 (fun I7 H locs hp h => ?_)
  rw [hp] at h
  refine lv_aload_n hx hb dX3_flawAt_10 rfl (lv_at hl 0 rfl) ?_
  refine r_cVV C0 h hl.1 _ (by omega) (ce0 k _) rfl (ct_X3_survey l k M _ hJ cn hc20 hcn lcn hl8 hlcn) gX3_flawAt_X3_survey rfl (by decide +kernel) (n := 0) ⟨Nat.le_of_ble_eq_true rfl, Nat.le_of_ble_eq_true rfl⟩ ⟨Nat.zero_le _, Nat.zero_le _⟩ (Nat.le_of_ble_eq_true rfl) rfl rfl dX3_flawAt_11 (fun I11 H locs hp h => ?_)
  obtain ⟨hS1, hsg1, hv1, hv41⟩ := hp
  have hQ1 : QH (vw I) cn lcn I11 := ⟨hS1, hsg1, hv1⟩
  refine lv_aload_n hx hb dX3_flawAt_14 rfl (lv_at hl 0 rfl) ?_
  refine r_get (T := TX3) (N := 7) C0 h _ (by omega) (ce0 k _) hinX3 rfl 2 (by decide) (by decide +kernel) rfl rfl dX3_flawAt_15 ?_
  refine lv_iload_n hx hb dX3_flawAt_18 rfl (lv_at hl 1 rfl) ?_
  refine r_cVNV C0 h hl.1 _ (by omega) (ce3 k _) rfl (ct_X1_findChainsOf l k M _ hJ cn i (by omega) hc20 hQ1.1) gX3_flawAt_X1_findChainsOf_n158 rfl (by decide +kernel) (by decide +kernel) (by decide +kernel) (by decide +kernel) (by decide +kernel) (n := 1) ⟨Nat.le_of_ble_eq_true rfl, Nat.le_of_ble_eq_true rfl⟩ ⟨Nat.zero_le _, Nat.zero_le _⟩ (Nat.le_of_ble_eq_true rfl) rfl rfl dX3_flawAt_19 (fun I19 H locs hp h => ?_)
  obtain ⟨hB, hE⟩ := hp
  rw [hQ1.2.2] at hB
  have hQ := hQ1.ex hl8 hE
  have hO : AcO (chs (vw I) cn i) cn := chs_O _ (by omega)
  have hcn9 : I19 0 4 = nI cn := by rw [vw_use0 hQ.2.2]; exact hcn
  have hlcn9 : I19 0 5 = nI lcn := by rw [vw_use0 hQ.2.2]; exact hlcn
  have hst9 : ∃ b, I19 0 6 = bI b := by rw [vw_use0 hQ.2.2]; exact hst
  have hB60 := hB.2.1
  refine lv_aload_n hx hb dX3_flawAt_22 rfl (lv_at hl 0 rfl) ?_
  refine lv_iload_n hx hb dX3_flawAt_23 rfl (lv_at hl 2 rfl) ?_
  refine lv_iload_n hx hb dX3_flawAt_24 rfl (lv_at hl 3 rfl) ?_
  refine r_cVI C0 h hl.1 _ (by omega) (ce0 k _) rfl (ct_X3_decidingPlace l k M _ hJ cn hc20 hcn9 lcn hl8 hlcn9 hQ.2.1 hst9 _ hB hO t u) gX3_flawAt_X3_decidingPlace rfl (by decide +kernel) (n := 2) ⟨Nat.le_of_ble_eq_true rfl, Nat.le_of_ble_eq_true rfl⟩ ⟨Nat.zero_le _, Nat.zero_le _⟩ (Nat.le_of_ble_eq_true rfl) rfl rfl dX3_flawAt_25 (fun r25 I25 H locs hp h => ?_)
  obtain ⟨rfl, hI25⟩ := hp
  rw [hI25] at h
  rw [hQ.2.2]
  exact r_iret C0 h hr dX3_flawAt_28 ⟨rfl, hQ.2.2⟩
set_option maxHeartbeats 4000000 in
set_option maxRecDepth 100000 in
theorem ct_X3_chain (l : Launch) (k : Sk) (M : Nat) (I : IS) (hJ : Ij k M) (cn : Nat) (hc20 : cn ≤ 20) (hcn : I 0 4 = nI cn) (lcn : Nat) (hl8 : lcn ≤ 8) (hlcn : I 0 5 = nI lcn) (hst : ∃ b, I 0 6 = bI b) (i : Nat) (hi : i < cn) (t u : Int32) (ht : isW t (nI 999) = true) (hu : isW u (nI 3) = true) (pl : Int32) : MtI l yX3_chain wsX3_chain 12 [.ref (k.2.1 0), .int (nI i), .int t, .int u, .int pl] k M I (fun r I' => r = mbI (chs (vw I) cn i) ((fhO (vw I) lcn t u (chs (vw I) cn i)).getD 0) pl ∧ vw I' = vw I) := by
  refine mtI_of (cc := cX3_chain) (maxL := 6) hJ (by decide) rfl (Nat.le_of_ble_eq_true rfl) ?_
  intro p e s m args below meth c A ls C0 h hr hl
  have hx := C0.1.1
  have hb := C0.1.2.1
  have hown := C0.1.2.2.2.1
  have hts := C0.1.2.2.2.2
  have hM := hJ.1
  have hl : lv_has ls 6 [(0, _), (1, _), (2, _), (3, _), (4, _)] := hl
  have hinX3 : ∀ w ∈ u_ws RX3 TX3 7, w ∈ wsX3_chain := by decide +kernel
  refine lv_aload_n hx hb dX3_chain_0 rfl (lv_at hl 0 rfl) ?_
  refine lv_iload_n hx hb dX3_chain_1 rfl (lv_at hl 1 rfl) ?_
  refine r_cVV C0 h hl.1 _ (by omega) (ce0 k _) rfl (ok_X3_refuseUnlessLetter l k M _ hJ cn hcn _ (isLt_at hi (by omega))) gX3_chain_X3_refuseUnlessLetter rfl (by decide +kernel) (n := 1) ⟨Nat.le_of_ble_eq_true rfl, Nat.le_of_ble_eq_true rfl⟩ ⟨Nat.zero_le _, Nat.zero_le _⟩ (Nat.le_of_ble_eq_true rfl) rfl rfl dX3_chain_2 (fun I2 H locs hp h => ?_)
  rw [hp] at h
  refine lv_iload_n hx hb dX3_chain_5 rfl (lv_at hl 2 rfl) ?_
  refine lv_iload_n hx hb dX3_chain_6 rfl (lv_at hl 3 rfl) ?_
  refine r_cSV C0 h hl.1 (ok_X3_refuseUnlessMoment l k M _ hJ t u ht hu) gX3_chain_X3_refuseUnlessMoment rfl (by decide +kernel) (n := 2) ⟨Nat.le_of_ble_eq_true rfl, Nat.le_of_ble_eq_true rfl⟩ ⟨Nat.zero_le _, Nat.zero_le _⟩ (Nat.le_of_ble_eq_true rfl) rfl rfl dX3_chain_7 (fun I7 H locs hp h => ?_)
  rw [hp] at h
  refine lv_aload_n hx hb dX3_chain_10 rfl (lv_at hl 0 rfl) ?_
  refine r_cVV C0 h hl.1 _ (by omega) (ce0 k _) rfl (ct_X3_survey l k M _ hJ cn hc20 hcn lcn hl8 hlcn) gX3_chain_X3_survey rfl (by decide +kernel) (n := 0) ⟨Nat.le_of_ble_eq_true rfl, Nat.le_of_ble_eq_true rfl⟩ ⟨Nat.zero_le _, Nat.zero_le _⟩ (Nat.le_of_ble_eq_true rfl) rfl rfl dX3_chain_11 (fun I11 H locs hp h => ?_)
  obtain ⟨hS1, hsg1, hv1, hv41⟩ := hp
  have hQ1 : QH (vw I) cn lcn I11 := ⟨hS1, hsg1, hv1⟩
  refine lv_aload_n hx hb dX3_chain_14 rfl (lv_at hl 0 rfl) ?_
  refine r_get (T := TX3) (N := 7) C0 h _ (by omega) (ce0 k _) hinX3 rfl 2 (by decide) (by decide +kernel) rfl rfl dX3_chain_15 ?_
  refine lv_iload_n hx hb dX3_chain_18 rfl (lv_at hl 1 rfl) ?_
  refine r_cVNV C0 h hl.1 _ (by omega) (ce3 k _) rfl (ct_X1_findChainsOf l k M _ hJ cn i (by omega) hc20 hQ1.1) gX3_chain_X1_findChainsOf_n158 rfl (by decide +kernel) (by decide +kernel) (by decide +kernel) (by decide +kernel) (by decide +kernel) (n := 1) ⟨Nat.le_of_ble_eq_true rfl, Nat.le_of_ble_eq_true rfl⟩ ⟨Nat.zero_le _, Nat.zero_le _⟩ (Nat.le_of_ble_eq_true rfl) rfl rfl dX3_chain_19 (fun I19 H locs hp h => ?_)
  obtain ⟨hB, hE⟩ := hp
  rw [hQ1.2.2] at hB
  have hQ := hQ1.ex hl8 hE
  have hO : AcO (chs (vw I) cn i) cn := chs_O _ (by omega)
  have hcn9 : I19 0 4 = nI cn := by rw [vw_use0 hQ.2.2]; exact hcn
  have hlcn9 : I19 0 5 = nI lcn := by rw [vw_use0 hQ.2.2]; exact hlcn
  have hst9 : ∃ b, I19 0 6 = bI b := by rw [vw_use0 hQ.2.2]; exact hst
  have hB60 := hB.2.1
  refine lv_aload_n hx hb dX3_chain_22 rfl (lv_at hl 0 rfl) ?_
  refine lv_iload_n hx hb dX3_chain_23 rfl (lv_at hl 2 rfl) ?_
  refine lv_iload_n hx hb dX3_chain_24 rfl (lv_at hl 3 rfl) ?_
  refine r_cVI C0 h hl.1 _ (by omega) (ce0 k _) rfl (ct_X3_firstHolding l k M _ hJ cn hc20 hcn9 lcn hl8 hlcn9 hQ.2.1 hst9 _ hB hO t u) gX3_chain_X3_firstHolding rfl (by decide +kernel) (n := 2) ⟨Nat.le_of_ble_eq_true rfl, Nat.le_of_ble_eq_true rfl⟩ ⟨Nat.zero_le _, Nat.zero_le _⟩ (Nat.le_of_ble_eq_true rfl) rfl rfl dX3_chain_25 (fun r25 I25 H locs hp h => ?_)
  obtain ⟨rfl, hI25⟩ := hp
  rw [hI25] at h
  rw [hQ.2.2]
  refine lv_istore hx hb dX3_chain_28 hl (by decide) rfl (fun ls hl => ?_)
  have hl : lv_has ls 6 [(5, _), (0, _), (1, _), (2, _), (3, _), (4, _)] := hl
  refine lv_aload_n hx hb dX3_chain_30 rfl (lv_at hl 1 rfl) ?_
  refine r_get (T := TX3) (N := 7) C0 h _ (by omega) (ce0 k _) hinX3 rfl 2 (by decide) (by decide +kernel) rfl rfl dX3_chain_31 ?_
  refine lv_iload hx hb dX3_chain_34 (lv_at hl 0 rfl) ?_
  refine lv_iconst (v := (-1)) hx hb dX3_chain_36 (by decide) ?_
  refine lv_icmp_ne (tgt := 44) hx hb dX3_chain_37 (by decide) (fun c_37 => ?_) (fun c_37 => ?_)
  · have hq9 : ∃ h9, fhO (vw I) lcn t u (chs (vw I) cn i) = some h9 := by
      cases hq : fhO (vw I) lcn t u (chs (vw I) cn i) with
      | none => rw [hq] at c_37; exact absurd rfl c_37
      | some h9 => exact ⟨h9, rfl⟩
    obtain ⟨h9, hh9⟩ := hq9
    have hh9l := fhO_lt hh9
    rw [hh9] at hl
    have hg9 : (fhO (vw I) lcn t u (chs (vw I) cn i)).getD 0 = h9 := by rw [hh9]; rfl
    refine lv_iload hx hb dX3_chain_44 (lv_at hl 0 rfl) ?_
    refine lv_iload hx hb dX3_chain_46 (lv_at hl 5 rfl) ?_
    refine r_cVNI C0 h hl.1 _ (by omega) (ce3 k _) rfl (ct_X1_member l k M _ hJ _ h9 _ (by omega) hB) gX3_chain_X1_member_n174 rfl (by decide +kernel) (by decide +kernel) (by decide +kernel) (by decide +kernel) (by decide +kernel) (n := 2) ⟨Nat.le_of_ble_eq_true rfl, Nat.le_of_ble_eq_true rfl⟩ ⟨Nat.zero_le _, Nat.zero_le _⟩ (Nat.le_of_ble_eq_true rfl) rfl rfl dX3_chain_48 (fun r48 I48 H locs hp h => ?_)
    obtain ⟨rfl, hI48⟩ := hp
    rw [hI48] at h
    exact r_iret C0 h hr dX3_chain_51 ⟨by rw [hg9], hQ.2.2⟩
  · have hno := (fhO_none hB60).mp c_37
    have hg9 : (fhO (vw I) lcn t u (chs (vw I) cn i)).getD 0 = 0 := by rw [hno]; rfl
    refine lv_iconst (v := nI 0) hx hb dX3_chain_40 (by decide) ?_
    refine lv_goto (tgt := 46) hx hb dX3_chain_41 (by decide) ?_
    refine lv_iload hx hb dX3_chain_46 (lv_at hl 5 rfl) ?_
    refine r_cVNI C0 h hl.1 _ (by omega) (ce3 k _) rfl (ct_X1_member l k M _ hJ _ 0 _ (by omega) hB) gX3_chain_X1_member_n174 rfl (by decide +kernel) (by decide +kernel) (by decide +kernel) (by decide +kernel) (by decide +kernel) (n := 2) ⟨Nat.le_of_ble_eq_true rfl, Nat.le_of_ble_eq_true rfl⟩ ⟨Nat.zero_le _, Nat.zero_le _⟩ (Nat.le_of_ble_eq_true rfl) rfl rfl dX3_chain_48 (fun r48 I48 H locs hp h => ?_)
    obtain ⟨rfl, hI48⟩ := hp
    rw [hI48] at h
    exact r_iret C0 h hr dX3_chain_51 ⟨by rw [hg9], hQ.2.2⟩
set_option maxHeartbeats 4000000 in
set_option maxRecDepth 100000 in
theorem ct_X3_isOf (l : Launch) (k : Sk) (M : Nat) (I : IS) (hJ : Ij k M) (cn : Nat) (hc20 : cn ≤ 20) (hcn : I 0 4 = nI cn) (lcn : Nat) (hl8 : lcn ≤ 8) (hlcn : I 0 5 = nI lcn) (hst : ∃ b, I 0 6 = bI b) (a key t u : Int32) (h1 : isNm a = true) (h2 : isW key (nI 15) = true) (ht : isW t (nI 999) = true) (hu : isW u (nI 3) = true) : MtI l yX3_isOf wsX3_isOf 12 [.ref (k.2.1 0), .int a, .int key, .int t, .int u] k M I (fun r I' => r = bI (ioO (vw I) cn lcn a key t u).isSome ∧ vw I' = vw I) := by
  refine mtIz_of (cc := cX3_isOf) (maxL := 7) hJ (by decide) rfl (Nat.le_of_ble_eq_true rfl) ?_
  intro p e s m args below meth c A ls C0 h hr hl
  have hx := C0.1.1
  have hb := C0.1.2.1
  have hown := C0.1.2.2.2.1
  have hts := C0.1.2.2.2.2
  have hM := hJ.1
  have hl : lv_has ls 7 [(0, _), (1, _), (2, _), (3, _), (4, _)] := hl
  have hinX2 : ∀ w ∈ u_ws RX2 TX2 12, w ∈ wsX3_isOf := by decide +kernel
  have hinX3 : ∀ w ∈ u_ws RX3 TX3 7, w ∈ wsX3_isOf := by decide +kernel
  refine lv_iload_n hx hb dX3_isOf_0 rfl (lv_at hl 1 rfl) ?_
  refine r_cSI C0 h hl.1 (ct_X3_isName l k M _ hJ _) gX3_isOf_X3_isName rfl (by decide +kernel) (n := 1) ⟨Nat.le_of_ble_eq_true rfl, Nat.le_of_ble_eq_true rfl⟩ ⟨Nat.zero_le _, Nat.zero_le _⟩ (Nat.le_of_ble_eq_true rfl) rfl rfl dX3_isOf_1 (fun r1 I1 H locs hp h => ?_)
  obtain ⟨rfl, hI1⟩ := hp
  rw [hI1] at h
  refine lv_if_eq (tgt := 18) hx hb dX3_isOf_4 (by decide) (fun c_4 => ?_) (fun c_4 => ?_)
  · exact absurd (show ¬ bI (isNm a) = 0 by rw [h1]; decide) (fun z => z c_4)
  · refine lv_iload_n hx hb dX3_isOf_7 rfl (lv_at hl 2 rfl) ?_
    refine r_cSI C0 h hl.1 (ct_X3_isKey l k M _ hJ _) gX3_isOf_X3_isKey rfl (by decide +kernel) (n := 1) ⟨Nat.le_of_ble_eq_true rfl, Nat.le_of_ble_eq_true rfl⟩ ⟨Nat.zero_le _, Nat.zero_le _⟩ (Nat.le_of_ble_eq_true rfl) rfl rfl dX3_isOf_8 (fun r8 I8 H locs hp h => ?_)
    obtain ⟨rfl, hI8⟩ := hp
    rw [hI8] at h
    refine lv_if_eq (tgt := 18) hx hb dX3_isOf_11 (by decide) (fun c_11 => ?_) (fun c_11 => ?_)
    · exact absurd (show ¬ bI (isW key (nI 15)) = 0 by rw [h2]; decide) (fun z => z c_11)
    · refine lv_iconst (v := nI 1) hx hb dX3_isOf_14 (by decide) ?_
      refine lv_goto (tgt := 19) hx hb dX3_isOf_15 (by decide) ?_
      refine r_cSV C0 h hl.1 (ok_X3_refuseUnless l k M _ hJ _ (by decide)) gX3_isOf_X3_refuseUnless rfl (by decide +kernel) (n := 1) ⟨Nat.le_of_ble_eq_true rfl, Nat.le_of_ble_eq_true rfl⟩ ⟨Nat.zero_le _, Nat.zero_le _⟩ (Nat.le_of_ble_eq_true rfl) rfl rfl dX3_isOf_19 (fun I19 H locs hp h => ?_)
      rw [hp] at h
      refine lv_iload_n hx hb dX3_isOf_22 rfl (lv_at hl 3 rfl) ?_
      refine lv_iload hx hb dX3_isOf_23 (lv_at hl 4 rfl) ?_
      refine r_cSV C0 h hl.1 (ok_X3_refuseUnlessMoment l k M _ hJ t u ht hu) gX3_isOf_X3_refuseUnlessMoment rfl (by decide +kernel) (n := 2) ⟨Nat.le_of_ble_eq_true rfl, Nat.le_of_ble_eq_true rfl⟩ ⟨Nat.zero_le _, Nat.zero_le _⟩ (Nat.le_of_ble_eq_true rfl) rfl rfl dX3_isOf_25 (fun I25 H locs hp h => ?_)
      rw [hp] at h
      refine lv_aload_n hx hb dX3_isOf_28 rfl (lv_at hl 0 rfl) ?_
      refine r_cVV C0 h hl.1 _ (by omega) (ce0 k _) rfl (ct_X3_survey l k M _ hJ cn hc20 hcn lcn hl8 hlcn) gX3_isOf_X3_survey rfl (by decide +kernel) (n := 0) ⟨Nat.le_of_ble_eq_true rfl, Nat.le_of_ble_eq_true rfl⟩ ⟨Nat.zero_le _, Nat.zero_le _⟩ (Nat.le_of_ble_eq_true rfl) rfl rfl dX3_isOf_29 (fun I29 H locs hp h => ?_)
      obtain ⟨hS1, hsg1, hv1, hv41⟩ := hp
      have hQ1 : QH (vw I) cn lcn I29 := ⟨hS1, hsg1, hv1⟩
      refine lv_iconst (v := nI 0) hx hb dX3_isOf_32 (by decide) ?_
      refine lv_istore hx hb dX3_isOf_33 hl (by decide) rfl (fun ls hl => ?_)
      have hl : lv_has ls 7 [(5, _), (0, _), (1, _), (2, _), (3, _), (4, _)] := hl
      have key35 : ∀ (n : Nat) (j : Nat) (I1 : IS), 21 - j < n → j ≤ cn → QH (vw I) cn lcn I1 → (∀ r, r < j → (decide (vw I (10 + r) 0 = a) && (decide (vw I (10 + r) 2 = key) && (fhO (vw I) lcn t u (chs (vw I) cn r)).isSome)) = false) → ∀ (H : Heap) (locs : List Loc) (ls : Array Slot), HX k M A s I1 H locs → lv_has ls 7 [(5, .int (nI j)), (0, .ref (k.2.1 0)), (1, .int a), (2, .int key), (3, .int t), (4, .int u)] → W p l e (Rm 12) s m args below meth c H locs 0 0 (MQ below (va_Qi (fun r I' => r = bI (ioO (vw I) cn lcn a key t u).isSome ∧ vw I' = vw I) (EnX k M) A) args s 0 0 A) (F0 m 35 ls []) := by
        intro n
        induction n with
        | zero =>
          intro j I1 hn hj hQ1 hall H locs ls h hl
          exact absurd hn (Nat.not_lt_zero _)
        | succ n ih35 =>
          intro j I1 hn hj hQ1 hall H locs ls h hl
          have hcn1 : I1 0 4 = nI cn := by rw [vw_use0 hQ1.2.2]; exact hcn
          have hlcn1 : I1 0 5 = nI lcn := by rw [vw_use0 hQ1.2.2]; exact hlcn
          refine lv_iload hx hb dX3_isOf_35 (lv_at hl 0 rfl) ?_
          refine lv_aload_n hx hb dX3_isOf_37 rfl (lv_at hl 1 rfl) ?_
          refine r_get (T := TX3) (N := 7) C0 h _ (by omega) (ce0 k _) hinX3 rfl 4 (by decide) (by decide +kernel) rfl rfl dX3_isOf_38 ?_
          rw [hcn1]
          refine lv_icmp_ge (tgt := 99) hx hb dX3_isOf_41 (by decide) (fun c_41 => ?_) (fun c_41 => ?_)
          · have hjc : j = cn := by have := (nI_leI (by omega) (by omega)).mp c_41; omega
            refine lv_iconst (v := nI 0) hx hb dX3_isOf_99 (by decide) ?_
            exact r_zret C0 h hr dX3_isOf_100 (by first | exact zb1 | exact zb0 | exact ⟨_, rfl⟩) ⟨by rw [ioO, fdF_no (fun r hr => hall r (by omega))]; rfl, hQ1.2.2⟩
          · have hjc : j < cn := Nat.lt_of_not_le (fun q => c_41 (nI_le q (by omega)))
            refine lv_aload_n hx hb dX3_isOf_44 rfl (lv_at hl 1 rfl) ?_
            refine r_get (T := TX3) (N := 7) C0 h _ (by omega) (ce0 k _) hinX3 rfl 0 (by decide) (by decide +kernel) rfl rfl dX3_isOf_45 ?_
            refine lv_iload hx hb dX3_isOf_48 (lv_at hl 0 rfl) ?_
            refine r_aaldL C0 h _ (by omega) dX3_isOf_50 ?_
            refine lv_astore hx hb dX3_isOf_51 hl (by decide) rfl (fun ls hl => ?_)
            have hl : lv_has ls 7 [(6, _), (5, _), (0, _), (1, _), (2, _), (3, _), (4, _)] := hl
            refine lv_aload hx hb dX3_isOf_53 (lv_at hl 0 rfl) ?_
            refine r_getN (T := TX2) (N := 12) C0 h _ (by omega) (ceL k _ (by omega)) hinX2 rfl 0 (by decide) (by decide +kernel) rfl rfl dX3_isOf_55 ?_
            refine lv_iload_n hx hb dX3_isOf_58 rfl (lv_at hl 3 rfl) ?_
            refine lv_icmp_ne (tgt := 93) hx hb dX3_isOf_59 (by decide) (fun c_59 => ?_) (fun c_59 => ?_)
            · have hno : (decide (vw I (10 + j) 0 = a) && (decide (vw I (10 + j) 2 = key) && (fhO (vw I) lcn t u (chs (vw I) cn j)).isSome)) = false := by rw [← hQ1.2.2, vw_L I1 (by omega), decide_eq_false c_59]; rfl
              have hQ := hQ1
              refine lv_iinc (v := nI (j + 1)) hx hb dX3_isOf_93 hl (k := 1) rfl (nI_1 _) (by decide) rfl (fun ls hl => ?_)
              have hl : lv_has ls 7 [(5, _), (6, _), (0, _), (1, _), (2, _), (3, _), (4, _)] := hl
              refine lv_goto (tgt := 35) hx hb dX3_isOf_96 (by decide) ?_
              exact ih35 (j + 1) _ (by omega) (by omega) hQ (fun r hr => by rcases Nat.lt_or_ge r j with z | z; (exact hall r z); (obtain rfl : r = j := (by omega)); exact hno) _ _ _ h (lv_sub hl [0, 2, 3, 4, 5, 6] rfl)
            · refine lv_aload hx hb dX3_isOf_62 (lv_at hl 0 rfl) ?_
              refine r_getN (T := TX2) (N := 12) C0 h _ (by omega) (ceL k _ (by omega)) hinX2 rfl 2 (by decide) (by decide +kernel) rfl rfl dX3_isOf_64 ?_
              refine lv_iload_n hx hb dX3_isOf_67 rfl (lv_at hl 4 rfl) ?_
              refine lv_icmp_ne (tgt := 93) hx hb dX3_isOf_68 (by decide) (fun c_68 => ?_) (fun c_68 => ?_)
              · have hno : (decide (vw I (10 + j) 0 = a) && (decide (vw I (10 + j) 2 = key) && (fhO (vw I) lcn t u (chs (vw I) cn j)).isSome)) = false := by rw [show decide (vw I (10 + j) 2 = key) = false by rw [← hQ1.2.2, vw_L I1 (by omega)]; exact decide_eq_false c_68]; cases decide (vw I (10 + j) 0 = a) <;> rfl
                have hQ := hQ1
                refine lv_iinc (v := nI (j + 1)) hx hb dX3_isOf_93 hl (k := 1) rfl (nI_1 _) (by decide) rfl (fun ls hl => ?_)
                have hl : lv_has ls 7 [(5, _), (6, _), (0, _), (1, _), (2, _), (3, _), (4, _)] := hl
                refine lv_goto (tgt := 35) hx hb dX3_isOf_96 (by decide) ?_
                exact ih35 (j + 1) _ (by omega) (by omega) hQ (fun r hr => by rcases Nat.lt_or_ge r j with z | z; (exact hall r z); (obtain rfl : r = j := (by omega)); exact hno) _ _ _ h (lv_sub hl [0, 2, 3, 4, 5, 6] rfl)
              · refine lv_aload_n hx hb dX3_isOf_71 rfl (lv_at hl 2 rfl) ?_
                refine r_get (T := TX3) (N := 7) C0 h _ (by omega) (ce0 k _) hinX3 rfl 2 (by decide) (by decide +kernel) rfl rfl dX3_isOf_72 ?_
                refine lv_iload hx hb dX3_isOf_75 (lv_at hl 1 rfl) ?_
                refine r_cVNV C0 h hl.1 _ (by omega) (ce3 k _) rfl (ct_X1_findChainsOf l k M _ hJ cn j (by omega) hc20 hQ1.1) gX3_isOf_X1_findChainsOf_n158 rfl (by decide +kernel) (by decide +kernel) (by decide +kernel) (by decide +kernel) (by decide +kernel) (n := 1) ⟨Nat.le_of_ble_eq_true rfl, Nat.le_of_ble_eq_true rfl⟩ ⟨Nat.zero_le _, Nat.zero_le _⟩ (Nat.le_of_ble_eq_true rfl) rfl rfl dX3_isOf_77 (fun I77 H locs hp h => ?_)
                obtain ⟨hB, hE⟩ := hp
                rw [hQ1.2.2] at hB
                have hQ := hQ1.ex hl8 hE
                have hO : AcO (chs (vw I) cn j) cn := chs_O _ (by omega)
                have hcn9 : I77 0 4 = nI cn := by rw [vw_use0 hQ.2.2]; exact hcn
                have hlcn9 : I77 0 5 = nI lcn := by rw [vw_use0 hQ.2.2]; exact hlcn
                have hst9 : ∃ b, I77 0 6 = bI b := by rw [vw_use0 hQ.2.2]; exact hst
                have hB60 := hB.2.1
                refine lv_aload_n hx hb dX3_isOf_80 rfl (lv_at hl 2 rfl) ?_
                refine lv_iload_n hx hb dX3_isOf_81 rfl (lv_at hl 5 rfl) ?_
                refine lv_iload hx hb dX3_isOf_82 (lv_at hl 6 rfl) ?_
                refine r_cVI C0 h hl.1 _ (by omega) (ce0 k _) rfl (ct_X3_firstHolding l k M _ hJ cn hc20 hcn9 lcn hl8 hlcn9 hQ.2.1 hst9 _ hB hO t u) gX3_isOf_X3_firstHolding rfl (by decide +kernel) (n := 2) ⟨Nat.le_of_ble_eq_true rfl, Nat.le_of_ble_eq_true rfl⟩ ⟨Nat.zero_le _, Nat.zero_le _⟩ (Nat.le_of_ble_eq_true rfl) rfl rfl dX3_isOf_84 (fun r84 I84 H locs hp h => ?_)
                obtain ⟨rfl, hI84⟩ := hp
                rw [hI84] at h
                rw [hQ.2.2]
                refine lv_iconst (v := (-1)) hx hb dX3_isOf_87 (by decide) ?_
                refine lv_icmp_eq (tgt := 93) hx hb dX3_isOf_88 (by decide) (fun c_88 => ?_) (fun c_88 => ?_)
                · have hno : (decide (vw I (10 + j) 0 = a) && (decide (vw I (10 + j) 2 = key) && (fhO (vw I) lcn t u (chs (vw I) cn j)).isSome)) = false := by rw [(fhO_none hB60).mp c_88]; cases decide (vw I (10 + j) 0 = a) <;> cases decide (vw I (10 + j) 2 = key) <;> rfl
                  refine lv_iinc (v := nI (j + 1)) hx hb dX3_isOf_93 hl (k := 1) rfl (nI_1 _) (by decide) rfl (fun ls hl => ?_)
                  have hl : lv_has ls 7 [(5, _), (6, _), (0, _), (1, _), (2, _), (3, _), (4, _)] := hl
                  refine lv_goto (tgt := 35) hx hb dX3_isOf_96 (by decide) ?_
                  exact ih35 (j + 1) _ (by omega) (by omega) hQ (fun r hr => by rcases Nat.lt_or_ge r j with z | z; (exact hall r z); (obtain rfl : r = j := (by omega)); exact hno) _ _ _ h (lv_sub hl [0, 2, 3, 4, 5, 6] rfl)
                · have hq9 : ∃ h9, fhO (vw I) lcn t u (chs (vw I) cn j) = some h9 := by
                    cases hq : fhO (vw I) lcn t u (chs (vw I) cn j) with
                    | none => rw [hq] at c_88; exact absurd rfl c_88
                    | some h9 => exact ⟨h9, rfl⟩
                  obtain ⟨h9, hh9⟩ := hq9
                  have hh9l := fhO_lt hh9
                  have hyes : (decide (vw I (10 + j) 0 = a) && (decide (vw I (10 + j) 2 = key) && (fhO (vw I) lcn t u (chs (vw I) cn j)).isSome)) = true := by rw [hh9, ← hQ1.2.2, vw_L I1 (by omega), decide_eq_true c_59, decide_eq_true c_68]; rfl
                  refine lv_iconst (v := nI 1) hx hb dX3_isOf_91 (by decide) ?_
                  exact r_zret C0 h hr dX3_isOf_92 (by first | exact zb1 | exact zb0 | exact ⟨_, rfl⟩) ⟨by rw [ioO, fdF_is (j := j) hjc hyes hall]; rfl, hQ.2.2⟩
      exact key35 100 0 _ (by omega) (by omega) hQ1 (fun r hr => absurd hr (Nat.not_lt_zero _)) _ _ _ h (lv_sub hl [0, 1, 2, 3, 4, 5] rfl)
set_option maxHeartbeats 4000000 in
set_option maxRecDepth 100000 in
theorem ct_X3_stolen (l : Launch) (k : Sk) (M : Nat) (I : IS) (hJ : Ij k M) (cn : Nat) (hc20 : cn ≤ 20) (hcn : I 0 4 = nI cn) (lcn : Nat) (hl8 : lcn ≤ 8) (hlcn : I 0 5 = nI lcn) (hst : ∃ b, I 0 6 = bI b) (key : Int32) (h1 : isW key (nI 15) = true) (t u : Int32) (ht : isW t (nI 999) = true) (hu : isW u (nI 3) = true) : MtI l yX3_stolen wsX3_stolen 12 [.ref (k.2.1 0), .int key, .int t, .int u] k M I (fun r I' => r = nI (stN (vw I) cn lcn key t u cn) ∧ vw I' = vw I) := by
  refine mtI_of (cc := cX3_stolen) (maxL := 6) hJ (by decide) rfl (Nat.le_of_ble_eq_true rfl) ?_
  intro p e s m args below meth c A ls C0 h hr hl
  have hx := C0.1.1
  have hb := C0.1.2.1
  have hown := C0.1.2.2.2.1
  have hts := C0.1.2.2.2.2
  have hM := hJ.1
  have hl : lv_has ls 6 [(0, _), (1, _), (2, _), (3, _)] := hl
  have hinX3 : ∀ w ∈ u_ws RX3 TX3 7, w ∈ wsX3_stolen := by decide +kernel
  refine lv_iload_n hx hb dX3_stolen_0 rfl (lv_at hl 1 rfl) ?_
  refine r_cSI C0 h hl.1 (ct_X3_isKey l k M _ hJ _) gX3_stolen_X3_isKey rfl (by decide +kernel) (n := 1) ⟨Nat.le_of_ble_eq_true rfl, Nat.le_of_ble_eq_true rfl⟩ ⟨Nat.zero_le _, Nat.zero_le _⟩ (Nat.le_of_ble_eq_true rfl) rfl rfl dX3_stolen_1 (fun r1 I1 H locs hp h => ?_)
  obtain ⟨rfl, hI1⟩ := hp
  rw [hI1] at h
  refine r_cSV C0 h hl.1 (ok_X3_refuseUnless l k M _ hJ _ (show ¬ bI (isW key (nI 15)) = 0 by rw [h1]; decide)) gX3_stolen_X3_refuseUnless rfl (by decide +kernel) (n := 1) ⟨Nat.le_of_ble_eq_true rfl, Nat.le_of_ble_eq_true rfl⟩ ⟨Nat.zero_le _, Nat.zero_le _⟩ (Nat.le_of_ble_eq_true rfl) rfl rfl dX3_stolen_4 (fun I4 H locs hp h => ?_)
  rw [hp] at h
  refine lv_iload_n hx hb dX3_stolen_7 rfl (lv_at hl 2 rfl) ?_
  refine lv_iload_n hx hb dX3_stolen_8 rfl (lv_at hl 3 rfl) ?_
  refine r_cSV C0 h hl.1 (ok_X3_refuseUnlessMoment l k M _ hJ t u ht hu) gX3_stolen_X3_refuseUnlessMoment rfl (by decide +kernel) (n := 2) ⟨Nat.le_of_ble_eq_true rfl, Nat.le_of_ble_eq_true rfl⟩ ⟨Nat.zero_le _, Nat.zero_le _⟩ (Nat.le_of_ble_eq_true rfl) rfl rfl dX3_stolen_9 (fun I9 H locs hp h => ?_)
  rw [hp] at h
  refine lv_aload_n hx hb dX3_stolen_12 rfl (lv_at hl 0 rfl) ?_
  refine r_cVV C0 h hl.1 _ (by omega) (ce0 k _) rfl (ct_X3_survey l k M _ hJ cn hc20 hcn lcn hl8 hlcn) gX3_stolen_X3_survey rfl (by decide +kernel) (n := 0) ⟨Nat.le_of_ble_eq_true rfl, Nat.le_of_ble_eq_true rfl⟩ ⟨Nat.zero_le _, Nat.zero_le _⟩ (Nat.le_of_ble_eq_true rfl) rfl rfl dX3_stolen_13 (fun I13 H locs hp h => ?_)
  obtain ⟨hS1, hsg1, hv1, hv41⟩ := hp
  have hQ1 : QH (vw I) cn lcn I13 := ⟨hS1, hsg1, hv1⟩
  refine lv_iconst (v := nI 0) hx hb dX3_stolen_16 (by decide) ?_
  refine lv_istore hx hb dX3_stolen_17 hl (by decide) rfl (fun ls hl => ?_)
  have hl : lv_has ls 6 [(4, _), (0, _), (1, _), (2, _), (3, _)] := hl
  refine lv_iconst (v := nI 0) hx hb dX3_stolen_19 (by decide) ?_
  refine lv_istore hx hb dX3_stolen_20 hl (by decide) rfl (fun ls hl => ?_)
  have hl : lv_has ls 6 [(5, _), (4, _), (0, _), (1, _), (2, _), (3, _)] := hl
  have key22 : ∀ (n : Nat) (j : Nat) (I1 : IS), 21 - j < n → j ≤ cn → QH (vw I) cn lcn I1 → ∀ (H : Heap) (locs : List Loc) (ls : Array Slot), HX k M A s I1 H locs → lv_has ls 6 [(5, .int (nI j)), (4, .int (nI (stN (vw I) cn lcn key t u j))), (0, .ref (k.2.1 0)), (1, .int key), (2, .int t), (3, .int u)] → W p l e (Rm 12) s m args below meth c H locs 0 0 (MQ below (va_Qi (fun r I' => r = nI (stN (vw I) cn lcn key t u cn) ∧ vw I' = vw I) (EnX k M) A) args s 0 0 A) (F0 m 22 ls []) := by
    intro n
    induction n with
    | zero =>
      intro j I1 hn hj hQ1  H locs ls h hl
      exact absurd hn (Nat.not_lt_zero _)
    | succ n ih22 =>
      intro j I1 hn hj hQ1  H locs ls h hl
      have hcn1 : I1 0 4 = nI cn := by rw [vw_use0 hQ1.2.2]; exact hcn
      have hlcn1 : I1 0 5 = nI lcn := by rw [vw_use0 hQ1.2.2]; exact hlcn
      refine lv_iload hx hb dX3_stolen_22 (lv_at hl 0 rfl) ?_
      refine lv_aload_n hx hb dX3_stolen_24 rfl (lv_at hl 2 rfl) ?_
      refine r_get (T := TX3) (N := 7) C0 h _ (by omega) (ce0 k _) hinX3 rfl 4 (by decide) (by decide +kernel) rfl rfl dX3_stolen_25 ?_
      rw [hcn1]
      refine lv_icmp_ge (tgt := 63) hx hb dX3_stolen_28 (by decide) (fun c_28 => ?_) (fun c_28 => ?_)
      · have hjc : j = cn := by have := (nI_leI (by omega) (by omega)).mp c_28; omega
        refine lv_iload hx hb dX3_stolen_63 (lv_at hl 1 rfl) ?_
        exact r_iret C0 h hr dX3_stolen_65 ⟨by rw [hjc], hQ1.2.2⟩
      · have hjc : j < cn := Nat.lt_of_not_le (fun q => c_28 (nI_le q (by omega)))
        refine lv_aload_n hx hb dX3_stolen_31 rfl (lv_at hl 2 rfl) ?_
        refine r_get (T := TX3) (N := 7) C0 h _ (by omega) (ce0 k _) hinX3 rfl 2 (by decide) (by decide +kernel) rfl rfl dX3_stolen_32 ?_
        refine lv_iload hx hb dX3_stolen_35 (lv_at hl 0 rfl) ?_
        refine r_cVNV C0 h hl.1 _ (by omega) (ce3 k _) rfl (ct_X1_findChainsOf l k M _ hJ cn j (by omega) hc20 hQ1.1) gX3_stolen_X1_findChainsOf_n158 rfl (by decide +kernel) (by decide +kernel) (by decide +kernel) (by decide +kernel) (by decide +kernel) (n := 1) ⟨Nat.le_of_ble_eq_true rfl, Nat.le_of_ble_eq_true rfl⟩ ⟨Nat.zero_le _, Nat.zero_le _⟩ (Nat.le_of_ble_eq_true rfl) rfl rfl dX3_stolen_37 (fun I37 H locs hp h => ?_)
        obtain ⟨hB, hE⟩ := hp
        rw [hQ1.2.2] at hB
        have hQ := hQ1.ex hl8 hE
        have hO : AcO (chs (vw I) cn j) cn := chs_O _ (by omega)
        have hcn9 : I37 0 4 = nI cn := by rw [vw_use0 hQ.2.2]; exact hcn
        have hlcn9 : I37 0 5 = nI lcn := by rw [vw_use0 hQ.2.2]; exact hlcn
        have hst9 : ∃ b, I37 0 6 = bI b := by rw [vw_use0 hQ.2.2]; exact hst
        have hB60 := hB.2.1
        refine lv_aload_n hx hb dX3_stolen_40 rfl (lv_at hl 2 rfl) ?_
        refine lv_aload_n hx hb dX3_stolen_41 rfl (lv_at hl 2 rfl) ?_
        refine lv_iload_n hx hb dX3_stolen_42 rfl (lv_at hl 4 rfl) ?_
        refine lv_iload_n hx hb dX3_stolen_43 rfl (lv_at hl 5 rfl) ?_
        refine r_cVI C0 h hl.1 _ (by omega) (ce0 k _) rfl (ct_X3_firstHolding l k M _ hJ cn hc20 hcn9 lcn hl8 hlcn9 hQ.2.1 hst9 _ hB hO t u) gX3_stolen_X3_firstHolding rfl (by decide +kernel) (n := 2) ⟨Nat.le_of_ble_eq_true rfl, Nat.le_of_ble_eq_true rfl⟩ ⟨Nat.zero_le _, Nat.zero_le _⟩ (Nat.le_of_ble_eq_true rfl) rfl rfl dX3_stolen_44 (fun r44 I44 H locs hp h => ?_)
        obtain ⟨rfl, hI44⟩ := hp
        rw [hI44] at h
        rw [hQ.2.2]
        refine lv_iload_n hx hb dX3_stolen_47 rfl (lv_at hl 3 rfl) ?_
        refine r_cVI C0 h hl.1 _ (by omega) (ce0 k _) rfl (ct_X3_hasKey l k M _ hJ cn hc20 hcn9 _ hB hO (fhO (vw I) lcn t u (chs (vw I) cn j)) (fun c9 h9 => fhO_lt h9) key) gX3_stolen_X3_hasKey rfl (by decide +kernel) (n := 2) ⟨Nat.le_of_ble_eq_true rfl, Nat.le_of_ble_eq_true rfl⟩ ⟨Nat.zero_le _, Nat.zero_le _⟩ (Nat.le_of_ble_eq_true rfl) rfl rfl dX3_stolen_48 (fun r48 I48 H locs hp h => ?_)
        obtain ⟨rfl, hI48⟩ := hp
        rw [hI48] at h
        rw [hQ.2.2]
        refine lv_if_eq (tgt := 57) hx hb dX3_stolen_51 (by decide) (fun c_51 => ?_) (fun c_51 => ?_)
        · rw [show stN (vw I) cn lcn key t u j = stN (vw I) cn lcn key t u (j + 1) by rw [stN, if_neg (by rw [bI_z c_51]; decide), Nat.add_zero]] at hl
          refine lv_iinc (v := nI (j + 1)) hx hb dX3_stolen_57 hl (k := 0) rfl (nI_1 _) (by decide) rfl (fun ls hl => ?_)
          have hl : lv_has ls 6 [(5, _), (4, _), (0, _), (1, _), (2, _), (3, _)] := hl
          refine lv_goto (tgt := 22) hx hb dX3_stolen_60 (by decide) ?_
          exact ih22 (j + 1) _ (by omega) (by omega) hQ _ _ _ h (lv_sub hl [0, 1, 2, 3, 4, 5] rfl)
        · refine lv_iinc (v := nI (stN (vw I) cn lcn key t u (j + 1))) hx hb dX3_stolen_54 hl (k := 1) rfl (by rw [stN, if_pos (bI_nz c_51)]; exact nI_1 _) (by decide) rfl (fun ls hl => ?_)
          have hl : lv_has ls 6 [(4, _), (5, _), (0, _), (1, _), (2, _), (3, _)] := hl
          refine lv_iinc (v := nI (j + 1)) hx hb dX3_stolen_57 hl (k := 1) rfl (nI_1 _) (by decide) rfl (fun ls hl => ?_)
          have hl : lv_has ls 6 [(5, _), (4, _), (0, _), (1, _), (2, _), (3, _)] := hl
          refine lv_goto (tgt := 22) hx hb dX3_stolen_60 (by decide) ?_
          exact ih22 (j + 1) _ (by omega) (by omega) hQ _ _ _ h (lv_sub hl [0, 1, 2, 3, 4, 5] rfl)
  exact key22 100 0 _ (by omega) (by omega) hQ1 _ _ _ h (lv_sub hl [0, 1, 2, 3, 4, 5] rfl)
set_option maxHeartbeats 4000000 in
set_option maxRecDepth 100000 in
theorem ct_X3_meanChain (l : Launch) (k : Sk) (M : Nat) (I : IS) (hJ : Ij k M) (cn : Nat) (hc20 : cn ≤ 20) (hcn : I 0 4 = nI cn) (lcn : Nat) (hl8 : lcn ≤ 8) (hlcn : I 0 5 = nI lcn) (hst : ∃ b, I 0 6 = bI b) (t u : Int32) (ht : isW t (nI 999) = true) (hu : isW u (nI 3) = true) : MtD l yX3_meanChain wsX3_meanChain 12 [.ref (k.2.1 0), .int t, .int u] k M I (fun r I' => r = mcF (vw I) cn lcn t u ∧ vw I' = vw I) := by
  refine mtD_of (cc := cX3_meanChain) (maxL := 7) hJ (by decide) rfl (Nat.le_of_ble_eq_true rfl) ?_
  intro p e s m args below meth c A ls C0 h hr hl
  have hx := C0.1.1
  have hb := C0.1.2.1
  have hown := C0.1.2.2.2.1
  have hts := C0.1.2.2.2.2
  have hM := hJ.1
  have hl : lv_has ls 7 [(0, _), (1, _), (2, _)] := hl
  have hinX3 : ∀ w ∈ u_ws RX3 TX3 7, w ∈ wsX3_meanChain := by decide +kernel
  refine lv_iload_n hx hb dX3_meanChain_0 rfl (lv_at hl 1 rfl) ?_
  refine lv_iload_n hx hb dX3_meanChain_1 rfl (lv_at hl 2 rfl) ?_
  refine r_cSV C0 h hl.1 (ok_X3_refuseUnlessMoment l k M _ hJ t u ht hu) gX3_meanChain_X3_refuseUnlessMoment rfl (by decide +kernel) (n := 2) ⟨Nat.le_of_ble_eq_true rfl, Nat.le_of_ble_eq_true rfl⟩ ⟨Nat.zero_le _, Nat.zero_le _⟩ (Nat.le_of_ble_eq_true rfl) rfl rfl dX3_meanChain_2 (fun I2 H locs hp h => ?_)
  rw [hp] at h
  refine lv_aload_n hx hb dX3_meanChain_5 rfl (lv_at hl 0 rfl) ?_
  refine r_cVV C0 h hl.1 _ (by omega) (ce0 k _) rfl (ct_X3_survey l k M _ hJ cn hc20 hcn lcn hl8 hlcn) gX3_meanChain_X3_survey rfl (by decide +kernel) (n := 0) ⟨Nat.le_of_ble_eq_true rfl, Nat.le_of_ble_eq_true rfl⟩ ⟨Nat.zero_le _, Nat.zero_le _⟩ (Nat.le_of_ble_eq_true rfl) rfl rfl dX3_meanChain_6 (fun I6 H locs hp h => ?_)
  obtain ⟨hS1, hsg1, hv1, hv41⟩ := hp
  have hQ1 : QH (vw I) cn lcn I6 := ⟨hS1, hsg1, hv1⟩
  refine lv_iconst (v := nI 0) hx hb dX3_meanChain_9 (by decide) ?_
  refine lv_istore_n hx hb dX3_meanChain_10 rfl hl (by decide) rfl (fun ls hl => ?_)
  have hl : lv_has ls 7 [(3, _), (0, _), (1, _), (2, _)] := hl
  refine lv_iconst (v := nI 0) hx hb dX3_meanChain_11 (by decide) ?_
  refine lv_istore hx hb dX3_meanChain_12 hl (by decide) rfl (fun ls hl => ?_)
  have hl : lv_has ls 7 [(4, _), (3, _), (0, _), (1, _), (2, _)] := hl
  refine lv_iconst (v := nI 0) hx hb dX3_meanChain_14 (by decide) ?_
  refine lv_istore hx hb dX3_meanChain_15 hl (by decide) rfl (fun ls hl => ?_)
  have hl : lv_has ls 7 [(5, _), (4, _), (3, _), (0, _), (1, _), (2, _)] := hl
  have key17 : ∀ (n : Nat) (j : Nat) (I1 : IS), 21 - j < n → j ≤ cn → QH (vw I) cn lcn I1 → ∀ (H : Heap) (locs : List Loc) (ls : Array Slot), HX k M A s I1 H locs → lv_has ls 7 [(5, .int (nI j)), (4, .int (nI (toN (vw I) cn lcn t u j))), (3, .int (nI (hoN (vw I) cn lcn t u j))), (0, .ref (k.2.1 0)), (1, .int t), (2, .int u)] → W p l e (Rm 12) s m args below meth c H locs 0 0 (MQ below (va_Qd (fun r I' => r = mcF (vw I) cn lcn t u ∧ vw I' = vw I) (EnX k M) A) args s 0 0 A) (F0 m 17 ls []) := by
    intro n
    induction n with
    | zero =>
      intro j I1 hn hj hQ1  H locs ls h hl
      exact absurd hn (Nat.not_lt_zero _)
    | succ n ih17 =>
      intro j I1 hn hj hQ1  H locs ls h hl
      have hcn1 : I1 0 4 = nI cn := by rw [vw_use0 hQ1.2.2]; exact hcn
      have hlcn1 : I1 0 5 = nI lcn := by rw [vw_use0 hQ1.2.2]; exact hlcn
      refine lv_iload hx hb dX3_meanChain_17 (lv_at hl 0 rfl) ?_
      refine lv_aload_n hx hb dX3_meanChain_19 rfl (lv_at hl 3 rfl) ?_
      refine r_get (T := TX3) (N := 7) C0 h _ (by omega) (ce0 k _) hinX3 rfl 4 (by decide) (by decide +kernel) rfl rfl dX3_meanChain_20 ?_
      rw [hcn1]
      refine lv_icmp_ge (tgt := 72) hx hb dX3_meanChain_23 (by decide) (fun c_23 => ?_) (fun c_23 => ?_)
      · have hjc : j = cn := by have := (nI_leI (by omega) (by omega)).mp c_23; omega
        refine lv_iload_n hx hb dX3_meanChain_72 rfl (lv_at hl 2 rfl) ?_
        have hjj : hoN (vw I) cn lcn t u j = hoN (vw I) cn lcn t u cn := by rw [hjc]
        have hjt : toN (vw I) cn lcn t u j = toN (vw I) cn lcn t u cn := by rw [hjc]
        have hnz9 := hoN_le (vw I) cn lcn t u j
        have hto9 := toN_le (vw I) cn lcn t u j
        refine lv_if_ne (tgt := 80) hx hb dX3_meanChain_73 (by decide) (fun c_73 => ?_) (fun c_73 => ?_)
        · refine lv_iload hx hb dX3_meanChain_80 (lv_at hl 1 rfl) ?_
          refine lv_i2d hx hb dX3_meanChain_82 ?_
          refine lv_iload_n hx hb dX3_meanChain_83 rfl (lv_at hl 2 rfl) ?_
          refine lv_i2d hx hb dX3_meanChain_84 ?_
          refine lv_ddiv hx hb dX3_meanChain_85 (dv_ok hto9.1 hto9.2 (nz1 c_73) (by omega)) ?_
          exact r_dret C0 h hr dX3_meanChain_86 ⟨by first | (rw [mcF, if_pos hz]) | (rw [mcF, if_neg (by rw [← hjj]; exact nz1 c_73), hjj, hjt]), hQ1.2.2⟩
        · have hz : hoN (vw I) cn lcn t u cn = 0 := by rw [← hjj]; exact nz0 (by have := hoN_le (vw I) cn lcn t u j; omega) c_73
          refine lv_dconst0 hx hb dX3_meanChain_76 ?_
          refine lv_goto (tgt := 86) hx hb dX3_meanChain_77 (by decide) ?_
          exact r_dret C0 h hr dX3_meanChain_86 ⟨by first | (rw [mcF, if_pos hz]) | (rw [mcF, if_neg (by rw [← hjj]; exact nz1 c_73), hjj, hjt]), hQ1.2.2⟩
      · have hjc : j < cn := Nat.lt_of_not_le (fun q => c_23 (nI_le q (by omega)))
        refine lv_aload_n hx hb dX3_meanChain_26 rfl (lv_at hl 3 rfl) ?_
        refine r_get (T := TX3) (N := 7) C0 h _ (by omega) (ce0 k _) hinX3 rfl 2 (by decide) (by decide +kernel) rfl rfl dX3_meanChain_27 ?_
        refine lv_iload hx hb dX3_meanChain_30 (lv_at hl 0 rfl) ?_
        refine r_cVNV C0 h hl.1 _ (by omega) (ce3 k _) rfl (ct_X1_findChainsOf l k M _ hJ cn j (by omega) hc20 hQ1.1) gX3_meanChain_X1_findChainsOf_n158 rfl (by decide +kernel) (by decide +kernel) (by decide +kernel) (by decide +kernel) (by decide +kernel) (n := 1) ⟨Nat.le_of_ble_eq_true rfl, Nat.le_of_ble_eq_true rfl⟩ ⟨Nat.zero_le _, Nat.zero_le _⟩ (Nat.le_of_ble_eq_true rfl) rfl rfl dX3_meanChain_32 (fun I32 H locs hp h => ?_)
        obtain ⟨hB, hE⟩ := hp
        rw [hQ1.2.2] at hB
        have hQ := hQ1.ex hl8 hE
        have hO : AcO (chs (vw I) cn j) cn := chs_O _ (by omega)
        have hcn9 : I32 0 4 = nI cn := by rw [vw_use0 hQ.2.2]; exact hcn
        have hlcn9 : I32 0 5 = nI lcn := by rw [vw_use0 hQ.2.2]; exact hlcn
        have hst9 : ∃ b, I32 0 6 = bI b := by rw [vw_use0 hQ.2.2]; exact hst
        have hB60 := hB.2.1
        refine lv_aload_n hx hb dX3_meanChain_35 rfl (lv_at hl 3 rfl) ?_
        refine lv_iload_n hx hb dX3_meanChain_36 rfl (lv_at hl 4 rfl) ?_
        refine lv_iload_n hx hb dX3_meanChain_37 rfl (lv_at hl 5 rfl) ?_
        refine r_cVI C0 h hl.1 _ (by omega) (ce0 k _) rfl (ct_X3_firstHolding l k M _ hJ cn hc20 hcn9 lcn hl8 hlcn9 hQ.2.1 hst9 _ hB hO t u) gX3_meanChain_X3_firstHolding rfl (by decide +kernel) (n := 2) ⟨Nat.le_of_ble_eq_true rfl, Nat.le_of_ble_eq_true rfl⟩ ⟨Nat.zero_le _, Nat.zero_le _⟩ (Nat.le_of_ble_eq_true rfl) rfl rfl dX3_meanChain_38 (fun r38 I38 H locs hp h => ?_)
        obtain ⟨rfl, hI38⟩ := hp
        rw [hI38] at h
        rw [hQ.2.2]
        refine lv_istore hx hb dX3_meanChain_41 hl (by decide) rfl (fun ls hl => ?_)
        have hl : lv_has ls 7 [(6, _), (5, _), (4, _), (3, _), (0, _), (1, _), (2, _)] := hl
        refine lv_iload hx hb dX3_meanChain_43 (lv_at hl 0 rfl) ?_
        refine lv_iconst (v := (-1)) hx hb dX3_meanChain_45 (by decide) ?_
        refine lv_icmp_eq (tgt := 66) hx hb dX3_meanChain_46 (by decide) (fun c_46 => ?_) (fun c_46 => ?_)
        · have hno := (fhO_none hB60).mp c_46
          rw [show toN (vw I) cn lcn t u j = toN (vw I) cn lcn t u (j + 1) by rw [toN, hno]; rfl, show hoN (vw I) cn lcn t u j = hoN (vw I) cn lcn t u (j + 1) by rw [hoN, if_neg (isS_no hno), Nat.add_zero]] at hl
          refine lv_iinc (v := nI (j + 1)) hx hb dX3_meanChain_66 hl (k := 1) rfl (nI_1 _) (by decide) rfl (fun ls hl => ?_)
          have hl : lv_has ls 7 [(5, _), (6, _), (4, _), (3, _), (0, _), (1, _), (2, _)] := hl
          refine lv_goto (tgt := 17) hx hb dX3_meanChain_69 (by decide) ?_
          exact ih17 (j + 1) _ (by omega) (by omega) hQ _ _ _ h (lv_sub hl [0, 2, 3, 4, 5, 6] rfl)
        · have hy : (fhO (vw I) lcn t u (chs (vw I) cn j)).isSome = true := isS_of (fun z => c_46 (by rw [z]; rfl))
          refine lv_iinc (v := nI (hoN (vw I) cn lcn t u (j + 1))) hx hb dX3_meanChain_49 hl (k := 3) rfl (by rw [hoN, if_pos hy]; exact nI_1 _) (by decide) rfl (fun ls hl => ?_)
          have hl : lv_has ls 7 [(3, _), (6, _), (5, _), (4, _), (0, _), (1, _), (2, _)] := hl
          refine lv_iload hx hb dX3_meanChain_52 (lv_at hl 3 rfl) ?_
          refine lv_aload_n hx hb dX3_meanChain_54 rfl (lv_at hl 4 rfl) ?_
          refine r_get (T := TX3) (N := 7) C0 h _ (by omega) (ce0 k _) hinX3 rfl 2 (by decide) (by decide +kernel) rfl rfl dX3_meanChain_55 ?_
          refine lv_iload hx hb dX3_meanChain_58 (lv_at hl 1 rfl) ?_
          refine r_cVNI C0 h hl.1 _ (by omega) (ce3 k _) rfl (ct_X1_lengthOf l k M _ hJ _ _ hB) gX3_meanChain_X1_lengthOf_n186 rfl (by decide +kernel) (by decide +kernel) (by decide +kernel) (by decide +kernel) (by decide +kernel) (n := 1) ⟨Nat.le_of_ble_eq_true rfl, Nat.le_of_ble_eq_true rfl⟩ ⟨Nat.zero_le _, Nat.zero_le _⟩ (Nat.le_of_ble_eq_true rfl) rfl rfl dX3_meanChain_60 (fun r60 I60 H locs hp h => ?_)
          obtain ⟨rfl, hI60⟩ := hp
          rw [hI60] at h
          rw [leI_oc (fun c9 h9 => by have := fhO_lt h9; omega)]
          refine lv_iadd hx hb dX3_meanChain_63 ?_
          rw [nI_add, show toN (vw I) cn lcn t u j + (gcO (chs (vw I) cn j) (fhO (vw I) lcn t u (chs (vw I) cn j))).length = toN (vw I) cn lcn t u (j + 1) from rfl]
          refine lv_istore hx hb dX3_meanChain_64 hl (by decide) rfl (fun ls hl => ?_)
          have hl : lv_has ls 7 [(4, _), (3, _), (6, _), (5, _), (0, _), (1, _), (2, _)] := hl
          refine lv_iinc (v := nI (j + 1)) hx hb dX3_meanChain_66 hl (k := 3) rfl (nI_1 _) (by decide) rfl (fun ls hl => ?_)
          have hl : lv_has ls 7 [(5, _), (4, _), (3, _), (6, _), (0, _), (1, _), (2, _)] := hl
          refine lv_goto (tgt := 17) hx hb dX3_meanChain_69 (by decide) ?_
          exact ih17 (j + 1) _ (by omega) (by omega) hQ _ _ _ h (lv_sub hl [0, 1, 2, 4, 5, 6] rfl)
  exact key17 100 0 _ (by omega) (by omega) hQ1 _ _ _ h (lv_sub hl [0, 1, 2, 3, 4, 5] rfl)
