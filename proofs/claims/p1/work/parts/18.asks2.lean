/-! 18: holdsTo, otherwise, digest -/
set_option maxHeartbeats 4000000 in
set_option maxRecDepth 100000 in
theorem ct_X3_holdsTo (l : Launch) (k : Sk) (M : Nat) (I : IS) (hJ : Ij k M) (cn : Nat) (hc20 : cn ≤ 20) (hcn : I 0 4 = nI cn) (lcn : Nat) (hl8 : lcn ≤ 8) (hlcn : I 0 5 = nI lcn) (hst : ∃ b, I 0 6 = bI b) (i : Nat) (hi : i < cn) (t0 : Nat) (ht0 : t0 ≤ 999) (u : Int32) (hu : isW u (nI 3) = true) : MtI l yX3_holdsTo wsX3_holdsTo 12 [.ref (k.2.1 0), .int (nI i), .int (nI t0), .int u] k M I (fun r I' => r = htF (vw I) lcn t0 u (chs (vw I) cn i) ∧ vw I' = vw I) := by
  refine mtI_of (cc := cX3_holdsTo) (maxL := 6) hJ (by decide) rfl (Nat.le_of_ble_eq_true rfl) ?_
  intro p e s m args below meth c A ls C0 h hr hl
  have hx := C0.1.1
  have hb := C0.1.2.1
  have hown := C0.1.2.2.2.1
  have hts := C0.1.2.2.2.2
  have hM := hJ.1
  have hl : lv_has ls 6 [(0, _), (1, _), (2, _), (3, _)] := hl
  have hinX3 : ∀ w ∈ u_ws RX3 TX3 7, w ∈ wsX3_holdsTo := by decide +kernel
  refine lv_aload_n hx hb dX3_holdsTo_0 rfl (lv_at hl 0 rfl) ?_
  refine lv_iload_n hx hb dX3_holdsTo_1 rfl (lv_at hl 1 rfl) ?_
  refine r_cVV C0 h hl.1 _ (by omega) (ce0 k _) rfl (ok_X3_refuseUnlessLetter l k M _ hJ cn hcn _ (isLt_at hi (by omega))) gX3_holdsTo_X3_refuseUnlessLetter rfl (by decide +kernel) (n := 1) ⟨Nat.le_of_ble_eq_true rfl, Nat.le_of_ble_eq_true rfl⟩ ⟨Nat.zero_le _, Nat.zero_le _⟩ (Nat.le_of_ble_eq_true rfl) rfl rfl dX3_holdsTo_2 (fun I2 H locs hp h => ?_)
  rw [hp] at h
  refine lv_iload_n hx hb dX3_holdsTo_5 rfl (lv_at hl 2 rfl) ?_
  refine lv_iload_n hx hb dX3_holdsTo_6 rfl (lv_at hl 3 rfl) ?_
  refine r_cSV C0 h hl.1 (ok_X3_refuseUnlessMoment l k M _ hJ (nI t0) u (isW_n ht0 (by omega)) hu) gX3_holdsTo_X3_refuseUnlessMoment rfl (by decide +kernel) (n := 2) ⟨Nat.le_of_ble_eq_true rfl, Nat.le_of_ble_eq_true rfl⟩ ⟨Nat.zero_le _, Nat.zero_le _⟩ (Nat.le_of_ble_eq_true rfl) rfl rfl dX3_holdsTo_7 (fun I7 H locs hp h => ?_)
  rw [hp] at h
  refine lv_aload_n hx hb dX3_holdsTo_10 rfl (lv_at hl 0 rfl) ?_
  refine r_cVV C0 h hl.1 _ (by omega) (ce0 k _) rfl (ct_X3_survey l k M _ hJ cn hc20 hcn lcn hl8 hlcn) gX3_holdsTo_X3_survey rfl (by decide +kernel) (n := 0) ⟨Nat.le_of_ble_eq_true rfl, Nat.le_of_ble_eq_true rfl⟩ ⟨Nat.zero_le _, Nat.zero_le _⟩ (Nat.le_of_ble_eq_true rfl) rfl rfl dX3_holdsTo_11 (fun I11 H locs hp h => ?_)
  obtain ⟨hS1, hsg1, hv1, hv41⟩ := hp
  have hQ1 : QH (vw I) cn lcn I11 := ⟨hS1, hsg1, hv1⟩
  refine lv_aload_n hx hb dX3_holdsTo_14 rfl (lv_at hl 0 rfl) ?_
  refine r_get (T := TX3) (N := 7) C0 h _ (by omega) (ce0 k _) hinX3 rfl 2 (by decide) (by decide +kernel) rfl rfl dX3_holdsTo_15 ?_
  refine lv_iload_n hx hb dX3_holdsTo_18 rfl (lv_at hl 1 rfl) ?_
  refine r_cVNV C0 h hl.1 _ (by omega) (ce3 k _) rfl (ct_X1_findChainsOf l k M _ hJ cn i (by omega) hc20 hQ1.1) gX3_holdsTo_X1_findChainsOf_n158 rfl (by decide +kernel) (by decide +kernel) (by decide +kernel) (by decide +kernel) (by decide +kernel) (n := 1) ⟨Nat.le_of_ble_eq_true rfl, Nat.le_of_ble_eq_true rfl⟩ ⟨Nat.zero_le _, Nat.zero_le _⟩ (Nat.le_of_ble_eq_true rfl) rfl rfl dX3_holdsTo_19 (fun I19 H locs hp h => ?_)
  obtain ⟨hB, hE⟩ := hp
  rw [hQ1.2.2] at hB
  have hQ := hQ1.ex hl8 hE
  have hO : AcO (chs (vw I) cn i) cn := chs_O _ (by omega)
  have hcn9 : I19 0 4 = nI cn := by rw [vw_use0 hQ.2.2]; exact hcn
  have hlcn9 : I19 0 5 = nI lcn := by rw [vw_use0 hQ.2.2]; exact hlcn
  have hst9 : ∃ b, I19 0 6 = bI b := by rw [vw_use0 hQ.2.2]; exact hst
  have hB60 := hB.2.1
  refine lv_aload_n hx hb dX3_holdsTo_22 rfl (lv_at hl 0 rfl) ?_
  refine lv_iload_n hx hb dX3_holdsTo_23 rfl (lv_at hl 2 rfl) ?_
  refine lv_iload_n hx hb dX3_holdsTo_24 rfl (lv_at hl 3 rfl) ?_
  refine r_cVI C0 h hl.1 _ (by omega) (ce0 k _) rfl (ct_X3_firstHolding l k M _ hJ cn hc20 hcn9 lcn hl8 hlcn9 hQ.2.1 hst9 _ hB hO (nI t0) u) gX3_holdsTo_X3_firstHolding rfl (by decide +kernel) (n := 2) ⟨Nat.le_of_ble_eq_true rfl, Nat.le_of_ble_eq_true rfl⟩ ⟨Nat.zero_le _, Nat.zero_le _⟩ (Nat.le_of_ble_eq_true rfl) rfl rfl dX3_holdsTo_25 (fun r25 I25 H locs hp h => ?_)
  obtain ⟨rfl, hI25⟩ := hp
  rw [hI25] at h
  rw [hQ.2.2]
  refine lv_istore hx hb dX3_holdsTo_28 hl (by decide) rfl (fun ls hl => ?_)
  have hl : lv_has ls 6 [(4, _), (0, _), (1, _), (2, _), (3, _)] := hl
  refine lv_iload hx hb dX3_holdsTo_30 (lv_at hl 0 rfl) ?_
  refine lv_iconst (v := (-1)) hx hb dX3_holdsTo_32 (by decide) ?_
  refine lv_icmp_ne (tgt := 38) hx hb dX3_holdsTo_33 (by decide) (fun c_33 => ?_) (fun c_33 => ?_)
  · have hq9 : ∃ h9, fhO (vw I) lcn (nI t0) u (chs (vw I) cn i) = some h9 := by
      cases hq : fhO (vw I) lcn (nI t0) u (chs (vw I) cn i) with
      | none => rw [hq] at c_33; exact absurd rfl c_33
      | some h9 => exact ⟨h9, rfl⟩
    obtain ⟨h9, hh9⟩ := hq9
    have hh9l := fhO_lt hh9
    rw [hh9] at hl
    have hff := (fhO_ff hh9).2
    have h0s : (fhO (vw I) lcn (nI t0) u (chs (vw I) cn i)).isSome = true := by rw [hh9]; rfl
    refine lv_iload_n hx hb dX3_holdsTo_38 rfl (lv_at hl 3 rfl) ?_
    refine lv_iconst (v := nI 1) hx hb dX3_holdsTo_39 (by decide) ?_
    refine lv_iadd hx hb dX3_holdsTo_40 ?_
    rw [nI_add]
    refine lv_istore hx hb dX3_holdsTo_41 hl (by decide) rfl (fun ls hl => ?_)
    have hl : lv_has ls 6 [(5, _), (4, _), (0, _), (1, _), (2, _), (3, _)] := hl
    have key43 : ∀ (n : Nat) (tau hx9 : Nat), 1000 - tau < n → tau ≤ 999 → hx9 < (chs (vw I) cn i).length → ffO (vw I) lcn (nI tau) u (gtC (chs (vw I) cn i) hx9) = none → htN (fun tau => (fhO (vw I) lcn (nI tau) u (chs (vw I) cn i)).isSome) (999 - tau) tau = htN (fun tau => (fhO (vw I) lcn (nI tau) u (chs (vw I) cn i)).isSome) (999 - t0) t0 → ∀ (H : Heap) (locs : List Loc) (ls : Array Slot), HX k M A s I19 H locs → lv_has ls 6 [(5, .int (nI (tau + 1))), (4, .int (nI hx9)), (0, .ref (k.2.1 0)), (1, .int (nI i)), (2, .int (nI t0)), (3, .int u)] → W p l e (Rm 12) s m args below meth c H locs 0 0 (MQ below (va_Qi (fun r I' => r = htF (vw I) lcn t0 u (chs (vw I) cn i) ∧ vw I' = vw I) (EnX k M) A) args s 0 0 A) (F0 m 43 ls []) := by
      intro n
      induction n with
      | zero =>
        intro tau hx9 hn ht9 hxl hff0 hht H locs ls h hl
        exact absurd hn (Nat.not_lt_zero _)
      | succ n ih43 =>
        intro tau hx9 hn ht9 hxl hff0 hht H locs ls h hl
        refine lv_iload hx hb dX3_holdsTo_43 (lv_at hl 0 rfl) ?_
        refine lv_sipush (v := nI 999) hx hb dX3_holdsTo_45 (by decide) ?_
        refine lv_icmp_gt (tgt := 90) hx hb dX3_holdsTo_48 (by decide) (fun c_48 => ?_) (fun c_48 => ?_)
        · have htau : tau = 999 := by have := (nI_ltI (by omega) (by omega)).mp c_48; omega
          refine lv_sipush (v := nI 999) hx hb dX3_holdsTo_90 (by decide) ?_
          exact r_iret C0 h hr dX3_holdsTo_93 ⟨by rw [htF, if_pos h0s, ← hht, htau]; rfl, hQ.2.2⟩
        · have htau : tau < 999 := by have h9 : ¬ 999 < tau + 1 := fun q => c_48 (nI_lt q (by omega)); omega
          refine lv_aload_n hx hb dX3_holdsTo_51 rfl (lv_at hl 2 rfl) ?_
          refine lv_iload hx hb dX3_holdsTo_52 (lv_at hl 1 rfl) ?_
          refine lv_iload hx hb dX3_holdsTo_54 (lv_at hl 0 rfl) ?_
          refine lv_iload_n hx hb dX3_holdsTo_56 rfl (lv_at hl 5 rfl) ?_
          refine r_cVI C0 h hl.1 _ (by omega) (ce0 k _) rfl (ct_X3_firstFlawedPlace l k M _ hJ cn hc20 hcn9 lcn hl8 hlcn9 hQ.2.1 hst9 _ hB hO hx9 (by omega) (nI (tau + 1)) u) gX3_holdsTo_X3_firstFlawedPlace rfl (by decide +kernel) (n := 3) ⟨Nat.le_of_ble_eq_true rfl, Nat.le_of_ble_eq_true rfl⟩ ⟨Nat.zero_le _, Nat.zero_le _⟩ (Nat.le_of_ble_eq_true rfl) rfl rfl dX3_holdsTo_57 (fun r57 I57 H locs hp h => ?_)
          obtain ⟨rfl, hI57⟩ := hp
          rw [hI57] at h
          rw [hQ.2.2]
          refine lv_iconst (v := (-1)) hx hb dX3_holdsTo_60 (by decide) ?_
          refine lv_icmp_eq (tgt := 73) hx hb dX3_holdsTo_61 (by decide) (fun c_61 => ?_) (fun c_61 => ?_)
          · have hff := (ffO_none (hB.2.2 hx9 hxl).2.1).mp c_61
            have hpt : (fhO (vw I) lcn (nI (tau + 1)) u (chs (vw I) cn i)).isSome = true := fhO_yes hxl hff
            refine lv_iload hx hb dX3_holdsTo_73 (lv_at hl 1 rfl) ?_
            refine lv_iconst (v := (-1)) hx hb dX3_holdsTo_75 (by decide) ?_
            refine lv_icmp_ne (tgt := 84) hx hb dX3_holdsTo_76 (by decide) (fun c_76 => ?_) (fun c_76 => ?_)
            · refine lv_iinc (v := nI (tau + 1 + 1)) hx hb dX3_holdsTo_84 hl (k := 0) rfl (nI_1 _) (by decide) rfl (fun ls hl => ?_)
              have hl : lv_has ls 6 [(5, _), (4, _), (0, _), (1, _), (2, _), (3, _)] := hl
              refine lv_goto (tgt := 43) hx hb dX3_holdsTo_87 (by decide) ?_
              exact ih43 (tau + 1) _ (by omega) (by omega) (by first | exact hh9l | exact hxl) hff ((htN_s htau hpt).trans hht) _ _ _ h (lv_sub hl [0, 1, 2, 3, 4, 5] rfl)
            · exact absurd c_76 (nI_nm1 (by omega))
          · refine lv_aload_n hx hb dX3_holdsTo_64 rfl (lv_at hl 2 rfl) ?_
            refine lv_iload hx hb dX3_holdsTo_65 (lv_at hl 0 rfl) ?_
            refine lv_iload_n hx hb dX3_holdsTo_67 rfl (lv_at hl 5 rfl) ?_
            refine r_cVI C0 h hl.1 _ (by omega) (ce0 k _) rfl (ct_X3_firstHolding l k M _ hJ cn hc20 hcn9 lcn hl8 hlcn9 hQ.2.1 hst9 _ hB hO (nI (tau + 1)) u) gX3_holdsTo_X3_firstHolding rfl (by decide +kernel) (n := 2) ⟨Nat.le_of_ble_eq_true rfl, Nat.le_of_ble_eq_true rfl⟩ ⟨Nat.zero_le _, Nat.zero_le _⟩ (Nat.le_of_ble_eq_true rfl) rfl rfl dX3_holdsTo_68 (fun r68 I68 H locs hp h => ?_)
            obtain ⟨rfl, hI68⟩ := hp
            rw [hI68] at h
            rw [hQ.2.2]
            refine lv_istore hx hb dX3_holdsTo_71 hl (by decide) rfl (fun ls hl => ?_)
            have hl : lv_has ls 6 [(4, _), (5, _), (0, _), (1, _), (2, _), (3, _)] := hl
            refine lv_iload hx hb dX3_holdsTo_73 (lv_at hl 0 rfl) ?_
            refine lv_iconst (v := (-1)) hx hb dX3_holdsTo_75 (by decide) ?_
            refine lv_icmp_ne (tgt := 84) hx hb dX3_holdsTo_76 (by decide) (fun c_76 => ?_) (fun c_76 => ?_)
            · have hq9 : ∃ h9, fhO (vw I) lcn (nI (tau + 1)) u (chs (vw I) cn i) = some h9 := by
                cases hq : fhO (vw I) lcn (nI (tau + 1)) u (chs (vw I) cn i) with
                | none => rw [hq] at c_76; exact absurd rfl c_76
                | some h9 => exact ⟨h9, rfl⟩
              obtain ⟨h9, hh9⟩ := hq9
              have hh9l := fhO_lt hh9
              rw [hh9] at hl
              have hff := (fhO_ff hh9).2
              have hpt : (fhO (vw I) lcn (nI (tau + 1)) u (chs (vw I) cn i)).isSome = true := by rw [hh9]; rfl
              refine lv_iinc (v := nI (tau + 1 + 1)) hx hb dX3_holdsTo_84 hl (k := 1) rfl (nI_1 _) (by decide) rfl (fun ls hl => ?_)
              have hl : lv_has ls 6 [(5, _), (4, _), (0, _), (1, _), (2, _), (3, _)] := hl
              refine lv_goto (tgt := 43) hx hb dX3_holdsTo_87 (by decide) ?_
              exact ih43 (tau + 1) _ (by omega) (by omega) (by first | exact hh9l | exact hxl) hff ((htN_s htau hpt).trans hht) _ _ _ h (lv_sub hl [0, 1, 2, 3, 4, 5] rfl)
            · have hno := (fhO_none hB60).mp c_76
              have hpf : (fhO (vw I) lcn (nI (tau + 1)) u (chs (vw I) cn i)).isSome = false := by rw [hno]; rfl
              refine lv_iload hx hb dX3_holdsTo_79 (lv_at hl 1 rfl) ?_
              refine lv_iconst (v := nI 1) hx hb dX3_holdsTo_81 (by decide) ?_
              refine lv_isub hx hb dX3_holdsTo_82 ?_
              rw [pk_sub (by omega), Nat.add_sub_cancel]
              exact r_iret C0 h hr dX3_holdsTo_83 ⟨by rw [htF, if_pos h0s, ← hht, htN_e htau hpf], hQ.2.2⟩
    exact key43 2000 t0 h9 (by omega) (by omega) hh9l hff rfl _ _ _ h (lv_sub hl [0, 1, 2, 3, 4, 5] rfl)
  · have hno := (fhO_none hB60).mp c_33
    refine lv_iconst (v := (-1)) hx hb dX3_holdsTo_36 (by decide) ?_
    exact r_iret C0 h hr dX3_holdsTo_37 ⟨by rw [htF, if_neg (isS_no hno)], hQ.2.2⟩
set_option maxHeartbeats 4000000 in
set_option maxRecDepth 100000 in
theorem ct_X3_otherwise (l : Launch) (k : Sk) (M : Nat) (I : IS) (hJ : Ij k M) (cn : Nat) (hc20 : cn ≤ 20) (hcn : I 0 4 = nI cn) (lcn : Nat) (hl8 : lcn ≤ 8) (hlcn : I 0 5 = nI lcn) (hst : ∃ b, I 0 6 = bI b) (i : Nat) (hi : i < cn) (t u : Int32) (ht : isW t (nI 999) = true) (hu : isW u (nI 3) = true) (han : ∃ b, I (10 + i) 11 = bI b) : MtI l yX3_otherwise wsX3_otherwise 12 [.ref (k.2.1 0), .int (nI i), .int t, .int u] k M I (fun r I' => r = nI (owN (vw I) (trX (vw I) i) cn lcn t u cn) ∧ vw I' = vw I) := by
  refine mtI_of (cc := cX3_otherwise) (maxL := 6) hJ (by decide) rfl (Nat.le_of_ble_eq_true rfl) ?_
  intro p e s m args below meth c A ls C0 h hr hl
  have hx := C0.1.1
  have hb := C0.1.2.1
  have hown := C0.1.2.2.2.1
  have hts := C0.1.2.2.2.2
  have hM := hJ.1
  have hl : lv_has ls 6 [(0, _), (1, _), (2, _), (3, _)] := hl
  have hinX3 : ∀ w ∈ u_ws RX3 TX3 7, w ∈ wsX3_otherwise := by decide +kernel
  have hX4 : trX (vw I) i 0 4 = nI cn := by rw [trX_0]; exact hcn
  have hX5 : trX (vw I) i 0 5 = nI lcn := by rw [trX_0]; exact hlcn
  have hX6 : ∃ b, trX (vw I) i 0 6 = bI b := by rw [trX_0]; exact hst
  refine lv_aload_n hx hb dX3_otherwise_0 rfl (lv_at hl 0 rfl) ?_
  refine lv_iload_n hx hb dX3_otherwise_1 rfl (lv_at hl 1 rfl) ?_
  refine r_cVV C0 h hl.1 _ (by omega) (ce0 k _) rfl (ok_X3_refuseUnlessLetter l k M _ hJ cn hcn _ (isLt_at hi (by omega))) gX3_otherwise_X3_refuseUnlessLetter rfl (by decide +kernel) (n := 1) ⟨Nat.le_of_ble_eq_true rfl, Nat.le_of_ble_eq_true rfl⟩ ⟨Nat.zero_le _, Nat.zero_le _⟩ (Nat.le_of_ble_eq_true rfl) rfl rfl dX3_otherwise_2 (fun I2 H locs hp h => ?_)
  rw [hp] at h
  refine lv_iload_n hx hb dX3_otherwise_5 rfl (lv_at hl 2 rfl) ?_
  refine lv_iload_n hx hb dX3_otherwise_6 rfl (lv_at hl 3 rfl) ?_
  refine r_cSV C0 h hl.1 (ok_X3_refuseUnlessMoment l k M _ hJ t u ht hu) gX3_otherwise_X3_refuseUnlessMoment rfl (by decide +kernel) (n := 2) ⟨Nat.le_of_ble_eq_true rfl, Nat.le_of_ble_eq_true rfl⟩ ⟨Nat.zero_le _, Nat.zero_le _⟩ (Nat.le_of_ble_eq_true rfl) rfl rfl dX3_otherwise_7 (fun I7 H locs hp h => ?_)
  rw [hp] at h
  refine lv_aload_n hx hb dX3_otherwise_10 rfl (lv_at hl 0 rfl) ?_
  refine r_cVV C0 h hl.1 _ (by omega) (ce0 k _) rfl (ct_X3_survey l k M _ hJ cn hc20 hcn lcn hl8 hlcn) gX3_otherwise_X3_survey rfl (by decide +kernel) (n := 0) ⟨Nat.le_of_ble_eq_true rfl, Nat.le_of_ble_eq_true rfl⟩ ⟨Nat.zero_le _, Nat.zero_le _⟩ (Nat.le_of_ble_eq_true rfl) rfl rfl dX3_otherwise_11 (fun I11 H locs hp h => ?_)
  obtain ⟨hS1, hsg1, hv1, hv41⟩ := hp
  have hQ1 : QH (vw I) cn lcn I11 := ⟨hS1, hsg1, hv1⟩
  refine lv_iconst (v := nI 0) hx hb dX3_otherwise_14 (by decide) ?_
  refine lv_istore hx hb dX3_otherwise_15 hl (by decide) rfl (fun ls hl => ?_)
  have hl : lv_has ls 6 [(4, _), (0, _), (1, _), (2, _), (3, _)] := hl
  have key17 : ∀ (n : Nat) (j : Nat) (I1 : IS), 21 - j < n → j ≤ cn → QH (vw I) cn lcn I1 → (∀ a, a < j → I1 4 a = dcF (vw I) lcn t u (chs (vw I) cn a)) → ∀ (H : Heap) (locs : List Loc) (ls : Array Slot), HX k M A s I1 H locs → lv_has ls 6 [(4, .int (nI j)), (0, .ref (k.2.1 0)), (1, .int (nI i)), (2, .int t), (3, .int u)] → W p l e (Rm 12) s m args below meth c H locs 0 0 (MQ below (va_Qi (fun r I' => r = nI (owN (vw I) (trX (vw I) i) cn lcn t u cn) ∧ vw I' = vw I) (EnX k M) A) args s 0 0 A) (F0 m 17 ls []) := by
    intro n
    induction n with
    | zero =>
      intro j I1 hn hj hQ1 hall H locs ls h hl
      exact absurd hn (Nat.not_lt_zero _)
    | succ n ih17 =>
      intro j I1 hn hj hQ1 hall H locs ls h hl
      have hcn1 : I1 0 4 = nI cn := by rw [vw_use0 hQ1.2.2]; exact hcn
      have hlcn1 : I1 0 5 = nI lcn := by rw [vw_use0 hQ1.2.2]; exact hlcn
      refine lv_iload hx hb dX3_otherwise_17 (lv_at hl 0 rfl) ?_
      refine lv_aload_n hx hb dX3_otherwise_19 rfl (lv_at hl 1 rfl) ?_
      refine r_get (T := TX3) (N := 7) C0 h _ (by omega) (ce0 k _) hinX3 rfl 4 (by decide) (by decide +kernel) rfl rfl dX3_otherwise_20 ?_
      rw [hcn1]
      refine lv_icmp_ge (tgt := 54) hx hb dX3_otherwise_23 (by decide) (fun c_23 => ?_) (fun c_23 => ?_)
      · have hjc : j = cn := by have := (nI_leI (by omega) (by omega)).mp c_23; omega
        refine lv_aload_n hx hb dX3_otherwise_54 rfl (lv_at hl 1 rfl) ?_
        refine r_get (T := TX3) (N := 7) C0 h _ (by omega) (ce0 k _) hinX3 rfl 0 (by decide) (by decide +kernel) rfl rfl dX3_otherwise_55 ?_
        refine lv_iload_n hx hb dX3_otherwise_58 rfl (lv_at hl 2 rfl) ?_
        refine r_aaldL C0 h _ (by omega) dX3_otherwise_59 ?_
        refine r_cSV C0 h hl.1 (ct_X3_turnAnchor l k M _ hJ i (by omega)) gX3_otherwise_X3_turnAnchor rfl (by decide +kernel) (n := 1) ⟨Nat.le_of_ble_eq_true rfl, Nat.le_of_ble_eq_true rfl⟩ ⟨Nat.zero_le _, Nat.zero_le _⟩ (Nat.le_of_ble_eq_true rfl) rfl rfl dX3_otherwise_60 (fun I60 H locs hp h => ?_)
        rw [hp] at h
        refine lv_aload_n hx hb dX3_otherwise_63 rfl (lv_at hl 1 rfl) ?_
        refine r_cVV C0 h hl.1 _ (by omega) (ce0 k _) rfl (ct_X3_survey l k M _ hJ cn hc20 (by rw [up2_n _ _ _ _ (by omega)]; exact hcn1) lcn hl8 (by rw [up2_n _ _ _ _ (by omega)]; exact hlcn1)) gX3_otherwise_X3_survey rfl (by decide +kernel) (n := 0) ⟨Nat.le_of_ble_eq_true rfl, Nat.le_of_ble_eq_true rfl⟩ ⟨Nat.zero_le _, Nat.zero_le _⟩ (Nat.le_of_ble_eq_true rfl) rfl rfl dX3_otherwise_64 (fun I64 H locs hp h => ?_)
        obtain ⟨hS2, hsg2, hv2, hv42⟩ := hp
        have hQ2 : QH (trX (vw I) i) cn lcn I64 := ⟨hS2, hsg2, by rw [hv2, vw_trX I1 (by omega), hQ1.2.2]⟩
        have hall2 : ∀ a, a < cn → I64 4 a = dcF (vw I) lcn t u (chs (vw I) cn a) := fun a ha => by rw [hv42, up2_n _ _ _ _ (by omega)]; exact hall a (by omega)
        refine lv_iconst (v := nI 0) hx hb dX3_otherwise_67 (by decide) ?_
        refine lv_istore hx hb dX3_otherwise_68 hl (by decide) rfl (fun ls hl => ?_)
        have hl : lv_has ls 6 [(4, _), (0, _), (1, _), (2, _), (3, _)] := hl
        refine lv_iconst (v := nI 0) hx hb dX3_otherwise_70 (by decide) ?_
        refine lv_istore hx hb dX3_otherwise_71 hl (by decide) rfl (fun ls hl => ?_)
        have hl : lv_has ls 6 [(5, _), (4, _), (0, _), (1, _), (2, _), (3, _)] := hl
        have key73 : ∀ (n : Nat) (j2 : Nat) (I2 : IS), 21 - j2 < n → j2 ≤ cn → QH (trX (vw I) i) cn lcn I2 → (∀ a, a < cn → I2 4 a = dcF (vw I) lcn t u (chs (vw I) cn a)) → ∀ (H : Heap) (locs : List Loc) (ls : Array Slot), HX k M A s I2 H locs → lv_has ls 6 [(5, .int (nI j2)), (4, .int (nI (owN (vw I) (trX (vw I) i) cn lcn t u j2))), (0, .ref (k.2.1 0)), (1, .int (nI i)), (2, .int t), (3, .int u)] → W p l e (Rm 12) s m args below meth c H locs 0 0 (MQ below (va_Qi (fun r I' => r = nI (owN (vw I) (trX (vw I) i) cn lcn t u cn) ∧ vw I' = vw I) (EnX k M) A) args s 0 0 A) (F0 m 73 ls []) := by
          intro n
          induction n with
          | zero =>
            intro j2 I2 hn73 hj2 hQ3 hall3 H locs ls h hl
            exact absurd hn73 (Nat.not_lt_zero _)
          | succ n ih73 =>
            intro j2 I2 hn73 hj2 hQ3 hall3 H locs ls h hl
            have hcn3 : I2 0 4 = nI cn := by rw [hQ3.at0]; exact hX4
            refine lv_iload hx hb dX3_otherwise_73 (lv_at hl 0 rfl) ?_
            refine lv_aload_n hx hb dX3_otherwise_75 rfl (lv_at hl 2 rfl) ?_
            refine r_get (T := TX3) (N := 7) C0 h _ (by omega) (ce0 k _) hinX3 rfl 4 (by decide) (by decide +kernel) rfl rfl dX3_otherwise_76 ?_
            rw [hcn3]
            refine lv_icmp_ge (tgt := 116) hx hb dX3_otherwise_79 (by decide) (fun c_79 => ?_) (fun c_79 => ?_)
            · have hj2c : j2 = cn := by have := (nI_leI (by omega) (by omega)).mp c_79; omega
              refine lv_aload_n hx hb dX3_otherwise_116 rfl (lv_at hl 2 rfl) ?_
              refine r_get (T := TX3) (N := 7) C0 h _ (by omega) (ce0 k _) hinX3 rfl 0 (by decide) (by decide +kernel) rfl rfl dX3_otherwise_117 ?_
              refine lv_iload_n hx hb dX3_otherwise_120 rfl (lv_at hl 3 rfl) ?_
              refine r_aaldL C0 h _ (by omega) dX3_otherwise_121 ?_
              refine r_cSV C0 h hl.1 (ct_X3_turnAnchor l k M _ hJ i (by omega)) gX3_otherwise_X3_turnAnchor rfl (by decide +kernel) (n := 1) ⟨Nat.le_of_ble_eq_true rfl, Nat.le_of_ble_eq_true rfl⟩ ⟨Nat.zero_le _, Nat.zero_le _⟩ (Nat.le_of_ble_eq_true rfl) rfl rfl dX3_otherwise_122 (fun I122 H locs hp h => ?_)
              rw [hp] at h
              refine lv_iload hx hb dX3_otherwise_125 (lv_at hl 1 rfl) ?_
              exact r_iret C0 h hr dX3_otherwise_127 ⟨by rw [hj2c], by rw [vw_trX I2 (by omega), hQ3.2.2, trX_trX (by rw [vw_L I (by omega)]; exact han)]⟩
            · have hj2c : j2 < cn := Nat.lt_of_not_le (fun q => c_79 (nI_le q (by omega)))
              refine lv_aload_n hx hb dX3_otherwise_82 rfl (lv_at hl 2 rfl) ?_
              refine r_get (T := TX3) (N := 7) C0 h _ (by omega) (ce0 k _) hinX3 rfl 2 (by decide) (by decide +kernel) rfl rfl dX3_otherwise_83 ?_
              refine lv_iload hx hb dX3_otherwise_86 (lv_at hl 0 rfl) ?_
              refine r_cVNV C0 h hl.1 _ (by omega) (ce3 k _) rfl (ct_X1_findChainsOf l k M _ hJ cn j2 (by omega) hc20 hQ3.1) gX3_otherwise_X1_findChainsOf_n158 rfl (by decide +kernel) (by decide +kernel) (by decide +kernel) (by decide +kernel) (by decide +kernel) (n := 1) ⟨Nat.le_of_ble_eq_true rfl, Nat.le_of_ble_eq_true rfl⟩ ⟨Nat.zero_le _, Nat.zero_le _⟩ (Nat.le_of_ble_eq_true rfl) rfl rfl dX3_otherwise_88 (fun I88 H locs hp h => ?_)
              obtain ⟨hB, hE⟩ := hp
              rw [hQ3.2.2] at hB
              have hQ := hQ3.ex hl8 hE
              have hO : AcO (chs (trX (vw I) i) cn j2) cn := chs_O _ (by omega)
              have hcn9 : I88 0 4 = nI cn := by rw [hQ.at0]; exact hX4
              have hlcn9 : I88 0 5 = nI lcn := by rw [hQ.at0]; exact hX5
              have hst9 : ∃ b, I88 0 6 = bI b := by rw [hQ.at0]; exact hX6
              have hB60 := hB.2.1
              refine lv_aload_n hx hb dX3_otherwise_91 rfl (lv_at hl 2 rfl) ?_
              refine lv_iload_n hx hb dX3_otherwise_92 rfl (lv_at hl 4 rfl) ?_
              refine lv_iload_n hx hb dX3_otherwise_93 rfl (lv_at hl 5 rfl) ?_
              refine r_cVI C0 h hl.1 _ (by omega) (ce0 k _) rfl (ct_X3_decision l k M _ hJ cn hc20 hcn9 lcn hl8 hlcn9 hQ.2.1 hst9 _ hB hO t u) gX3_otherwise_X3_decision rfl (by decide +kernel) (n := 2) ⟨Nat.le_of_ble_eq_true rfl, Nat.le_of_ble_eq_true rfl⟩ ⟨Nat.zero_le _, Nat.zero_le _⟩ (Nat.le_of_ble_eq_true rfl) rfl rfl dX3_otherwise_94 (fun r94 I94 H locs hp h => ?_)
              obtain ⟨rfl, hI94⟩ := hp
              rw [hI94] at h
              rw [hQ.2.2]
              refine lv_aload_n hx hb dX3_otherwise_97 rfl (lv_at hl 2 rfl) ?_
              refine r_get (T := TX3) (N := 7) C0 h _ (by omega) (ce0 k _) hinX3 rfl 3 (by decide) (by decide +kernel) rfl rfl dX3_otherwise_98 ?_
              refine lv_iload hx hb dX3_otherwise_101 (lv_at hl 0 rfl) ?_
              refine r_iald C0 h 4 (by omega) isA_4 _ (by show _ < 20; omega) dX3_otherwise_103 ?_
              rw [hE.at4, hall3 j2 hj2c]
              refine lv_icmp_eq (tgt := 110) hx hb dX3_otherwise_104 (by decide) (fun c_104 => ?_) (fun c_104 => ?_)
              · rw [show owN (vw I) (trX (vw I) i) cn lcn t u j2 = owN (vw I) (trX (vw I) i) cn lcn t u (j2 + 1) by rw [owN, if_pos c_104, Nat.add_zero]] at hl
                refine lv_iinc (v := nI (j2 + 1)) hx hb dX3_otherwise_110 hl (k := 0) rfl (nI_1 _) (by decide) rfl (fun ls hl => ?_)
                have hl : lv_has ls 6 [(5, _), (4, _), (0, _), (1, _), (2, _), (3, _)] := hl
                refine lv_goto (tgt := 73) hx hb dX3_otherwise_113 (by decide) ?_
                exact ih73 (j2 + 1) _ (by omega) (by omega) hQ (fun a ha => by rw [hE.at4]; exact hall3 a ha) _ _ _ h (lv_sub hl [0, 1, 2, 3, 4, 5] rfl)
              · refine lv_iinc (v := nI (owN (vw I) (trX (vw I) i) cn lcn t u (j2 + 1))) hx hb dX3_otherwise_107 hl (k := 1) rfl (by rw [owN, if_neg c_104]; exact nI_1 _) (by decide) rfl (fun ls hl => ?_)
                have hl : lv_has ls 6 [(4, _), (5, _), (0, _), (1, _), (2, _), (3, _)] := hl
                refine lv_iinc (v := nI (j2 + 1)) hx hb dX3_otherwise_110 hl (k := 1) rfl (nI_1 _) (by decide) rfl (fun ls hl => ?_)
                have hl : lv_has ls 6 [(5, _), (4, _), (0, _), (1, _), (2, _), (3, _)] := hl
                refine lv_goto (tgt := 73) hx hb dX3_otherwise_113 (by decide) ?_
                exact ih73 (j2 + 1) _ (by omega) (by omega) hQ (fun a ha => by rw [hE.at4]; exact hall3 a ha) _ _ _ h (lv_sub hl [0, 1, 2, 3, 4, 5] rfl)
        exact key73 100 0 _ (by omega) (by omega) hQ2 hall2 _ _ _ h (lv_sub hl [0, 1, 2, 3, 4, 5] rfl)
      · have hjc : j < cn := Nat.lt_of_not_le (fun q => c_23 (nI_le q (by omega)))
        refine lv_aload_n hx hb dX3_otherwise_26 rfl (lv_at hl 1 rfl) ?_
        refine r_get (T := TX3) (N := 7) C0 h _ (by omega) (ce0 k _) hinX3 rfl 2 (by decide) (by decide +kernel) rfl rfl dX3_otherwise_27 ?_
        refine lv_iload hx hb dX3_otherwise_30 (lv_at hl 0 rfl) ?_
        refine r_cVNV C0 h hl.1 _ (by omega) (ce3 k _) rfl (ct_X1_findChainsOf l k M _ hJ cn j (by omega) hc20 hQ1.1) gX3_otherwise_X1_findChainsOf_n158 rfl (by decide +kernel) (by decide +kernel) (by decide +kernel) (by decide +kernel) (by decide +kernel) (n := 1) ⟨Nat.le_of_ble_eq_true rfl, Nat.le_of_ble_eq_true rfl⟩ ⟨Nat.zero_le _, Nat.zero_le _⟩ (Nat.le_of_ble_eq_true rfl) rfl rfl dX3_otherwise_32 (fun I32 H locs hp h => ?_)
        obtain ⟨hB, hE⟩ := hp
        rw [hQ1.2.2] at hB
        have hQ := hQ1.ex hl8 hE
        have hO : AcO (chs (vw I) cn j) cn := chs_O _ (by omega)
        have hcn9 : I32 0 4 = nI cn := by rw [vw_use0 hQ.2.2]; exact hcn
        have hlcn9 : I32 0 5 = nI lcn := by rw [vw_use0 hQ.2.2]; exact hlcn
        have hst9 : ∃ b, I32 0 6 = bI b := by rw [vw_use0 hQ.2.2]; exact hst
        have hB60 := hB.2.1
        refine lv_aload_n hx hb dX3_otherwise_35 rfl (lv_at hl 1 rfl) ?_
        refine r_get (T := TX3) (N := 7) C0 h _ (by omega) (ce0 k _) hinX3 rfl 3 (by decide) (by decide +kernel) rfl rfl dX3_otherwise_36 ?_
        refine lv_iload hx hb dX3_otherwise_39 (lv_at hl 0 rfl) ?_
        refine lv_aload_n hx hb dX3_otherwise_41 rfl (lv_at hl 1 rfl) ?_
        refine lv_iload_n hx hb dX3_otherwise_42 rfl (lv_at hl 3 rfl) ?_
        refine lv_iload_n hx hb dX3_otherwise_43 rfl (lv_at hl 4 rfl) ?_
        refine r_cVI C0 h hl.1 _ (by omega) (ce0 k _) rfl (ct_X3_decision l k M _ hJ cn hc20 hcn9 lcn hl8 hlcn9 hQ.2.1 hst9 _ hB hO t u) gX3_otherwise_X3_decision rfl (by decide +kernel) (n := 2) ⟨Nat.le_of_ble_eq_true rfl, Nat.le_of_ble_eq_true rfl⟩ ⟨Nat.zero_le _, Nat.zero_le _⟩ (Nat.le_of_ble_eq_true rfl) rfl rfl dX3_otherwise_44 (fun r44 I44 H locs hp h => ?_)
        obtain ⟨rfl, hI44⟩ := hp
        rw [hI44] at h
        rw [hQ.2.2]
        refine r_iast C0 h 4 (by omega) isA_4 _ (by show _ < 20; omega) dX3_otherwise_47 (fun H locs h => ?_)
        refine lv_iinc (v := nI (j + 1)) hx hb dX3_otherwise_48 hl (k := 0) rfl (nI_1 _) (by decide) rfl (fun ls hl => ?_)
        have hl : lv_has ls 6 [(4, _), (0, _), (1, _), (2, _), (3, _)] := hl
        refine lv_goto (tgt := 17) hx hb dX3_otherwise_51 (by decide) ?_
        exact ih17 (j + 1) _ (by omega) (by omega) (hQ.up4 hl8 _ _) (fun a ha => by rcases Nat.lt_or_ge a j with q | q; (rw [up2_f _ _ _ _ (by omega), hE.at4]; exact hall a q); (obtain rfl : a = j := (by omega)); rw [up2_s]) _ _ _ h (lv_sub hl [0, 1, 2, 3, 4] rfl)
  exact key17 100 0 _ (by omega) (by omega) hQ1 (fun a ha => absurd ha (Nat.not_lt_zero _)) _ _ _ h (lv_sub hl [0, 1, 2, 3, 4] rfl)
set_option maxHeartbeats 4000000 in
set_option maxRecDepth 100000 in
theorem ct_X3_digest (l : Launch) (k : Sk) (M : Nat) (I : IS) (hJ : Ij k M) (cn : Nat) (hc20 : cn ≤ 20) (hcn : I 0 4 = nI cn) (lcn : Nat) (hl8 : lcn ≤ 8) (hlcn : I 0 5 = nI lcn) (hst : ∃ b, I 0 6 = bI b) : MtL l yX3_digest wsX3_digest 12 [.ref (k.2.1 0)] k M I (fun r I' => r = dgF (vw I) cn lcn ∧ vw I' = vw I) := by
  refine mtL_of (cc := cX3_digest) (maxL := 6) hJ (by decide) rfl (Nat.le_of_ble_eq_true rfl) ?_
  intro p e s m args below meth c A ls C0 h hr hl
  have hx := C0.1.1
  have hb := C0.1.2.1
  have hown := C0.1.2.2.2.1
  have hts := C0.1.2.2.2.2
  have hM := hJ.1
  have hl : lv_has ls 6 [(0, _)] := hl
  have hinX1 : ∀ w ∈ u_ws RX1 TX1 7, w ∈ wsX3_digest := by decide +kernel
  have hinX3 : ∀ w ∈ u_ws RX3 TX3 7, w ∈ wsX3_digest := by decide +kernel
  refine lv_aload_n hx hb dX3_digest_0 rfl (lv_at hl 0 rfl) ?_
  refine r_cVV C0 h hl.1 _ (by omega) (ce0 k _) rfl (ct_X3_survey l k M _ hJ cn hc20 hcn lcn hl8 hlcn) gX3_digest_X3_survey rfl (by decide +kernel) (n := 0) ⟨Nat.le_of_ble_eq_true rfl, Nat.le_of_ble_eq_true rfl⟩ ⟨Nat.zero_le _, Nat.zero_le _⟩ (Nat.le_of_ble_eq_true rfl) rfl rfl dX3_digest_1 (fun I1 H locs hp h => ?_)
  obtain ⟨hS1, hsg1, hv1, hv41⟩ := hp
  have hQ1 : QH (vw I) cn lcn I1 := ⟨hS1, hsg1, hv1⟩
  refine lv_ldc2 (v := 58102) hx hb hown (hts (.constantLong RX3 200 58102) (by decide +kernel)) dX3_digest_4 ?_
  refine lv_lstore_n hx hb dX3_digest_7 rfl hl (by decide) rfl (fun ls hl => ?_)
  have hl : lv_has ls 6 [(1, _), (0, _)] := hl
  refine lv_iconst (v := nI 0) hx hb dX3_digest_8 (by decide) ?_
  refine lv_istore_n hx hb dX3_digest_9 rfl hl (by decide) rfl (fun ls hl => ?_)
  have hl : lv_has ls 6 [(3, _), (1, _), (0, _)] := hl
  have key10 : ∀ (n : Nat) (w : Nat), 5 - w < n → w ≤ 4 → ∀ (H : Heap) (locs : List Loc) (ls : Array Slot), HX k M A s I1 H locs → lv_has ls 6 [(3, .int (nI w)), (1, .long (dgC (vw I) cn lcn w)), (0, .ref (k.2.1 0))] → W p l e (Rm 12) s m args below meth c H locs 0 0 (MQ below (va_Ql (fun r I' => r = dgF (vw I) cn lcn ∧ vw I' = vw I) (EnX k M) A) args s 0 0 A) (F0 m 10 ls []) := by
    intro n
    induction n with
    | zero =>
      intro w hn10 hw H locs ls h hl
      exact absurd hn10 (Nat.not_lt_zero _)
    | succ n ih10 =>
      intro w hn10 hw H locs ls h hl
      refine lv_iload_n hx hb dX3_digest_10 rfl (lv_at hl 0 rfl) ?_
      refine lv_iconst (v := nI 3) hx hb dX3_digest_11 (by decide) ?_
      refine lv_icmp_gt (tgt := 34) hx hb dX3_digest_12 (by decide) (fun c_12 => ?_) (fun c_12 => ?_)
      · have hw4 : w = 4 := by have := (nI_ltI (by omega) (by omega)).mp c_12; omega
        refine lv_iconst (v := nI 0) hx hb dX3_digest_34 (by decide) ?_
        refine lv_istore_n hx hb dX3_digest_35 rfl hl (by decide) rfl (fun ls hl => ?_)
        have hl : lv_has ls 6 [(3, _), (1, _), (0, _)] := hl
        have hl := hl
        rw [hw4] at hl
        have key36 : ∀ (n : Nat) (i9 : Nat) (I1 : IS), 21 - i9 < n → i9 ≤ cn → QH (vw I) cn lcn I1 → ∀ (H : Heap) (locs : List Loc) (ls : Array Slot), HX k M A s I1 H locs → lv_has ls 6 [(3, .int (nI i9)), (1, .long (dgL (vw I) cn lcn (dgC (vw I) cn lcn 4) i9)), (0, .ref (k.2.1 0))] → W p l e (Rm 12) s m args below meth c H locs 0 0 (MQ below (va_Ql (fun r I' => r = dgF (vw I) cn lcn ∧ vw I' = vw I) (EnX k M) A) args s 0 0 A) (F0 m 36 ls []) := by
          intro n
          induction n with
          | zero =>
            intro i9 I1 hn36 hi9 hQ1 H locs ls h hl
            exact absurd hn36 (Nat.not_lt_zero _)
          | succ n ih36 =>
            intro i9 I1 hn36 hi9 hQ1 H locs ls h hl
            have hcn1 : I1 0 4 = nI cn := by rw [vw_use0 hQ1.2.2]; exact hcn
            have hlcn1 : I1 0 5 = nI lcn := by rw [vw_use0 hQ1.2.2]; exact hlcn
            refine lv_iload_n hx hb dX3_digest_36 rfl (lv_at hl 0 rfl) ?_
            refine lv_aload_n hx hb dX3_digest_37 rfl (lv_at hl 2 rfl) ?_
            refine r_get (T := TX3) (N := 7) C0 h _ (by omega) (ce0 k _) hinX3 rfl 4 (by decide) (by decide +kernel) rfl rfl dX3_digest_38 ?_
            rw [hcn1]
            refine lv_icmp_ge (tgt := 152) hx hb dX3_digest_41 (by decide) (fun c_41 => ?_) (fun c_41 => ?_)
            · have hic : i9 = cn := by have := (nI_leI (by omega) (by omega)).mp c_41; omega
              refine lv_iconst (v := nI 0) hx hb dX3_digest_152 (by decide) ?_
              refine lv_istore_n hx hb dX3_digest_153 rfl hl (by decide) rfl (fun ls hl => ?_)
              have hl : lv_has ls 6 [(3, _), (1, _), (0, _)] := hl
              rw [hic] at hl
              have key154 : ∀ (n : Nat) (q9 : Nat), 9 - q9 < n → q9 ≤ lcn → ∀ (H : Heap) (locs : List Loc) (ls : Array Slot), HX k M A s I1 H locs → lv_has ls 6 [(3, .int (nI q9)), (1, .long (dgS (vw I) (dgL (vw I) cn lcn (dgC (vw I) cn lcn 4) cn) q9)), (0, .ref (k.2.1 0))] → W p l e (Rm 12) s m args below meth c H locs 0 0 (MQ below (va_Ql (fun r I' => r = dgF (vw I) cn lcn ∧ vw I' = vw I) (EnX k M) A) args s 0 0 A) (F0 m 154 ls []) := by
                intro n
                induction n with
                | zero =>
                  intro q9 hn154 hq9 H locs ls h hl
                  exact absurd hn154 (Nat.not_lt_zero _)
                | succ n ih154 =>
                  intro q9 hn154 hq9 H locs ls h hl
                  refine lv_iload_n hx hb dX3_digest_154 rfl (lv_at hl 0 rfl) ?_
                  refine lv_aload_n hx hb dX3_digest_155 rfl (lv_at hl 2 rfl) ?_
                  refine r_get (T := TX3) (N := 7) C0 h _ (by omega) (ce0 k _) hinX3 rfl 5 (by decide) (by decide +kernel) rfl rfl dX3_digest_156 ?_
                  rw [hlcn1]
                  refine lv_icmp_ge (tgt := 202) hx hb dX3_digest_159 (by decide) (fun c_159 => ?_) (fun c_159 => ?_)
                  · have hqc : q9 = lcn := by have := (nI_leI (by omega) (by omega)).mp c_159; omega
                    refine lv_lload_n hx hb dX3_digest_202 rfl (lv_at hl 1 rfl) ?_
                    exact r_lret C0 h hr dX3_digest_203 ⟨by rw [hqc]; rfl, hQ1.2.2⟩
                  · have hqc : q9 < lcn := Nat.lt_of_not_le (fun q => c_159 (nI_le q (by omega)))
                    refine lv_iconst (v := nI 0) hx hb dX3_digest_162 (by decide) ?_
                    refine lv_istore hx hb dX3_digest_163 hl (by decide) rfl (fun ls hl => ?_)
                    have hl : lv_has ls 6 [(4, _), (3, _), (1, _), (0, _)] := hl
                    have key165 : ∀ (n : Nat) (w2 : Nat), 7 - w2 < n → w2 ≤ 6 → ∀ (H : Heap) (locs : List Loc) (ls : Array Slot), HX k M A s I1 H locs → lv_has ls 6 [(4, .int (nI w2)), (1, .long (dgP (vw I (30 + q9)) (dgS (vw I) (dgL (vw I) cn lcn (dgC (vw I) cn lcn 4) cn) q9) w2)), (3, .int (nI q9)), (0, .ref (k.2.1 0))] → W p l e (Rm 12) s m args below meth c H locs 0 0 (MQ below (va_Ql (fun r I' => r = dgF (vw I) cn lcn ∧ vw I' = vw I) (EnX k M) A) args s 0 0 A) (F0 m 165 ls []) := by
                      intro n
                      induction n with
                      | zero =>
                        intro w2 hn165 hw2 H locs ls h hl
                        exact absurd hn165 (Nat.not_lt_zero _)
                      | succ n ih165 =>
                        intro w2 hn165 hw2 H locs ls h hl
                        refine lv_iload hx hb dX3_digest_165 (lv_at hl 0 rfl) ?_
                        refine lv_iconst (v := nI 5) hx hb dX3_digest_167 (by decide) ?_
                        refine lv_icmp_gt (tgt := 196) hx hb dX3_digest_168 (by decide) (fun c_168 => ?_) (fun c_168 => ?_)
                        · have hw26 : w2 = 6 := by have := (nI_ltI (by omega) (by omega)).mp c_168; omega
                          rw [hw26] at hl
                          refine lv_iinc (v := nI (q9 + 1)) hx hb dX3_digest_196 hl (k := 2) rfl (nI_1 _) (by decide) rfl (fun ls hl => ?_)
                          have hl : lv_has ls 6 [(3, _), (4, _), (1, _), (0, _)] := hl
                          refine lv_goto (tgt := 154) hx hb dX3_digest_199 (by decide) ?_
                          exact ih154 (q9 + 1) (by omega) (by omega) _ _ _ h (lv_sub hl [0, 2, 3] rfl)
                        · have hw26 : w2 < 6 := by have h9 : ¬ 5 < w2 := fun q => c_168 (nI_lt q (by omega)); omega
                          refine lv_lload_n hx hb dX3_digest_171 rfl (lv_at hl 1 rfl) ?_
                          refine lv_ldc2 (v := 31) hx hb hown (hts (.constantLong RX3 202 31) (by decide +kernel)) dX3_digest_172 ?_
                          refine lv_lmul hx hb dX3_digest_175 ?_
                          refine lv_aload_n hx hb dX3_digest_176 rfl (lv_at hl 3 rfl) ?_
                          refine r_get (T := TX3) (N := 7) C0 h _ (by omega) (ce0 k _) hinX3 rfl 1 (by decide) (by decide +kernel) rfl rfl dX3_digest_177 ?_
                          refine lv_iload_n hx hb dX3_digest_180 rfl (lv_at hl 2 rfl) ?_
                          refine r_aaldC C0 h _ (by omega) dX3_digest_181 ?_
                          refine lv_iload hx hb dX3_digest_182 (lv_at hl 0 rfl) ?_
                          refine r_cVNI C0 h hl.1 _ (by omega) (ceC k _ (by omega)) rfl (ct_X0_property l k M _ hJ q9 (by omega) w2 (by omega)) gX3_digest_X0_property_n147 rfl (by decide +kernel) (by decide +kernel) (by decide +kernel) (by decide +kernel) (by decide +kernel) (n := 1) ⟨Nat.le_of_ble_eq_true rfl, Nat.le_of_ble_eq_true rfl⟩ ⟨Nat.zero_le _, Nat.zero_le _⟩ (Nat.le_of_ble_eq_true rfl) rfl rfl dX3_digest_184 (fun r184 I184 H locs hp h => ?_)
                          obtain ⟨rfl, hI184⟩ := hp
                          rw [hI184] at h
                          rw [pyC_vw I1 (by omega) (by omega), hQ1.2.2]
                          refine lv_i2l hx hb dX3_digest_187 rfl ?_
                          refine lv_ladd hx hb dX3_digest_188 ?_
                          refine lv_lstore_n hx hb dX3_digest_189 rfl hl (by decide) rfl (fun ls hl => ?_)
                          have hl : lv_has ls 6 [(1, _), (4, _), (3, _), (0, _)] := hl
                          refine lv_iinc (v := nI (w2 + 1)) hx hb dX3_digest_190 hl (k := 1) rfl (nI_1 _) (by decide) rfl (fun ls hl => ?_)
                          have hl : lv_has ls 6 [(4, _), (1, _), (3, _), (0, _)] := hl
                          refine lv_goto (tgt := 165) hx hb dX3_digest_193 (by decide) ?_
                          exact ih165 (w2 + 1) (by omega) (by omega) _ _ _ h (lv_sub hl [0, 1, 2, 3] rfl)
                    exact key165 100 0 (by omega) (by omega) _ _ _ h (lv_sub hl [0, 2, 1, 3] rfl)
              exact key154 100 0 (by omega) (by omega) _ _ _ h (lv_sub hl [0, 1, 2] rfl)
            · have hic : i9 < cn := Nat.lt_of_not_le (fun q => c_41 (nI_le q (by omega)))
              refine lv_aload_n hx hb dX3_digest_44 rfl (lv_at hl 2 rfl) ?_
              refine r_get (T := TX3) (N := 7) C0 h _ (by omega) (ce0 k _) hinX3 rfl 0 (by decide) (by decide +kernel) rfl rfl dX3_digest_45 ?_
              refine lv_iload_n hx hb dX3_digest_48 rfl (lv_at hl 0 rfl) ?_
              refine r_aaldL C0 h _ (by omega) dX3_digest_49 ?_
              refine lv_lload_n hx hb dX3_digest_50 rfl (lv_at hl 1 rfl) ?_
              refine r_cSL C0 h hl.1 (ct_X3_withPropertiesOf l k M _ hJ i9 (by omega) _) gX3_digest_X3_withPropertiesOf rfl (by decide +kernel) (n := 2) ⟨Nat.le_of_ble_eq_true rfl, Nat.le_of_ble_eq_true rfl⟩ ⟨Nat.zero_le _, Nat.zero_le _⟩ (Nat.le_of_ble_eq_true rfl) rfl rfl dX3_digest_51 (fun r51 I51 H locs hp h => ?_)
              obtain ⟨rfl, hI51⟩ := hp
              rw [hI51] at h
              rw [← vw_L I1 (i := i9) (by omega), hQ1.2.2]
              refine lv_lstore_n hx hb dX3_digest_54 rfl hl (by decide) rfl (fun ls hl => ?_)
              have hl : lv_has ls 6 [(1, _), (3, _), (0, _)] := hl
              refine lv_aload_n hx hb dX3_digest_55 rfl (lv_at hl 2 rfl) ?_
              refine r_get (T := TX3) (N := 7) C0 h _ (by omega) (ce0 k _) hinX3 rfl 2 (by decide) (by decide +kernel) rfl rfl dX3_digest_56 ?_
              refine lv_iload_n hx hb dX3_digest_59 rfl (lv_at hl 1 rfl) ?_
              refine r_cVNV C0 h hl.1 _ (by omega) (ce3 k _) rfl (ct_X1_findChainsOf l k M _ hJ cn i9 (by omega) hc20 hQ1.1) gX3_digest_X1_findChainsOf_n158 rfl (by decide +kernel) (by decide +kernel) (by decide +kernel) (by decide +kernel) (by decide +kernel) (n := 1) ⟨Nat.le_of_ble_eq_true rfl, Nat.le_of_ble_eq_true rfl⟩ ⟨Nat.zero_le _, Nat.zero_le _⟩ (Nat.le_of_ble_eq_true rfl) rfl rfl dX3_digest_60 (fun I60 H locs hp h => ?_)
              obtain ⟨hB, hE⟩ := hp
              rw [hQ1.2.2] at hB
              have hQ := hQ1.ex hl8 hE
              have hO : AcO (chs (vw I) cn i9) cn := chs_O _ (by omega)
              have hcn9 : I60 0 4 = nI cn := by rw [vw_use0 hQ.2.2]; exact hcn
              have hlcn9 : I60 0 5 = nI lcn := by rw [vw_use0 hQ.2.2]; exact hlcn
              have hst9 : ∃ b, I60 0 6 = bI b := by rw [vw_use0 hQ.2.2]; exact hst
              have hB60 := hB.2.1
              refine lv_lload_n hx hb dX3_digest_63 rfl (lv_at hl 0 rfl) ?_
              refine lv_ldc2 (v := 31) hx hb hown (hts (.constantLong RX3 202 31) (by decide +kernel)) dX3_digest_64 ?_
              refine lv_lmul hx hb dX3_digest_67 ?_
              refine lv_aload_n hx hb dX3_digest_68 rfl (lv_at hl 2 rfl) ?_
              refine r_get (T := TX3) (N := 7) C0 h _ (by omega) (ce0 k _) hinX3 rfl 2 (by decide) (by decide +kernel) rfl rfl dX3_digest_69 ?_
              refine r_getN (T := TX1) (N := 7) C0 h _ (by omega) (ce3 k _) hinX1 rfl 6 (by decide) (by decide +kernel) rfl rfl dX3_digest_72 ?_
              rw [hB.1]
              refine lv_i2l hx hb dX3_digest_75 rfl ?_
              refine lv_ladd hx hb dX3_digest_76 ?_
              refine lv_lstore_n hx hb dX3_digest_77 rfl hl (by decide) rfl (fun ls hl => ?_)
              have hl : lv_has ls 6 [(1, _), (3, _), (0, _)] := hl
              refine lv_bipush (v := (nI (100 + 400 * 0))) hx hb dX3_digest_78 (by decide) ?_
              refine lv_istore hx hb dX3_digest_80 hl (by decide) rfl (fun ls hl => ?_)
              have hl : lv_has ls 6 [(4, _), (1, _), (3, _), (0, _)] := hl
              have key82 : ∀ (n : Nat) (j4 : Nat), 3 - j4 < n → j4 ≤ 2 → ∀ (H : Heap) (locs : List Loc) (ls : Array Slot), HX k M A s I60 H locs → lv_has ls 6 [(4, .int (nI (100 + 400 * j4))), (1, .long (dgT (vw I) lcn (chs (vw I) cn i9) (wpF (vw I (10 + i9)) (dgL (vw I) cn lcn (dgC (vw I) cn lcn 4) i9) 13 * 31 + (nI (chs (vw I) cn i9).length).toInt64) j4)), (3, .int (nI i9)), (0, .ref (k.2.1 0))] → W p l e (Rm 12) s m args below meth c H locs 0 0 (MQ below (va_Ql (fun r I' => r = dgF (vw I) cn lcn ∧ vw I' = vw I) (EnX k M) A) args s 0 0 A) (F0 m 82 ls []) := by
                intro n
                induction n with
                | zero =>
                  intro j4 hn82 hj4 H locs ls h hl
                  exact absurd hn82 (Nat.not_lt_zero _)
                | succ n ih82 =>
                  intro j4 hn82 hj4 H locs ls h hl
                  refine lv_iload hx hb dX3_digest_82 (lv_at hl 0 rfl) ?_
                  refine lv_sipush (v := nI 500) hx hb dX3_digest_84 (by decide) ?_
                  refine lv_icmp_gt (tgt := 146) hx hb dX3_digest_87 (by decide) (fun c_87 => ?_) (fun c_87 => ?_)
                  · have hj42 : j4 = 2 := by have := (nI_ltI (by omega) (by omega)).mp c_87; omega
                    rw [hj42] at hl
                    refine lv_iinc (v := nI (i9 + 1)) hx hb dX3_digest_146 hl (k := 2) rfl (nI_1 _) (by decide) rfl (fun ls hl => ?_)
                    have hl : lv_has ls 6 [(3, _), (4, _), (1, _), (0, _)] := hl
                    refine lv_goto (tgt := 36) hx hb dX3_digest_149 (by decide) ?_
                    exact ih36 (i9 + 1) _ (by omega) (by omega) hQ _ _ _ h (lv_sub hl [0, 2, 3] rfl)
                  · have hj42 : j4 < 2 := by have h9 : ¬ 500 < 100 + 400 * j4 := fun q => c_87 (nI_lt q (by omega)); omega
                    refine lv_iconst (v := nI 0) hx hb dX3_digest_90 (by decide) ?_
                    refine lv_istore hx hb dX3_digest_91 hl (by decide) rfl (fun ls hl => ?_)
                    have hl : lv_has ls 6 [(5, _), (4, _), (1, _), (3, _), (0, _)] := hl
                    have key93 : ∀ (n : Nat) (m9 : Nat), 3 - m9 < n → m9 ≤ 2 → ∀ (H : Heap) (locs : List Loc) (ls : Array Slot), HX k M A s I60 H locs → lv_has ls 6 [(5, .int (nI (2 * m9))), (1, .long (dgU (vw I) lcn (chs (vw I) cn i9) (nI (100 + 400 * j4)) (dgT (vw I) lcn (chs (vw I) cn i9) (wpF (vw I (10 + i9)) (dgL (vw I) cn lcn (dgC (vw I) cn lcn 4) i9) 13 * 31 + (nI (chs (vw I) cn i9).length).toInt64) j4) m9)), (4, .int (nI (100 + 400 * j4))), (3, .int (nI i9)), (0, .ref (k.2.1 0))] → W p l e (Rm 12) s m args below meth c H locs 0 0 (MQ below (va_Ql (fun r I' => r = dgF (vw I) cn lcn ∧ vw I' = vw I) (EnX k M) A) args s 0 0 A) (F0 m 93 ls []) := by
                      intro n
                      induction n with
                      | zero =>
                        intro m9 hn93 hm9 H locs ls h hl
                        exact absurd hn93 (Nat.not_lt_zero _)
                      | succ n ih93 =>
                        intro m9 hn93 hm9 H locs ls h hl
                        refine lv_iload hx hb dX3_digest_93 (lv_at hl 0 rfl) ?_
                        refine lv_iconst (v := nI 2) hx hb dX3_digest_95 (by decide) ?_
                        refine lv_icmp_gt (tgt := 137) hx hb dX3_digest_96 (by decide) (fun c_96 => ?_) (fun c_96 => ?_)
                        · have hm92 : m9 = 2 := by have := (nI_ltI (by omega) (by omega)).mp c_96; omega
                          rw [hm92] at hl
                          refine lv_iincW (v := nI (100 + 400 * (j4 + 1))) hx hb dX3_digest_137 hl (k := 2) rfl (by rw [show 100 + 400 * (j4 + 1) = 100 + 400 * j4 + 400 by omega]; exact nI_add _ 400) (by decide) rfl (fun ls hl => ?_)
                          have hl : lv_has ls 6 [(4, _), (5, _), (1, _), (3, _), (0, _)] := hl
                          refine lv_goto (tgt := 82) hx hb dX3_digest_143 (by decide) ?_
                          exact ih82 (j4 + 1) (by omega) (by omega) _ _ _ h (lv_sub hl [0, 2, 3, 4] rfl)
                        · have hm92 : m9 < 2 := by have h9 : ¬ 2 < 2 * m9 := fun q => c_96 (nI_lt q (by omega)); omega
                          refine lv_lload_n hx hb dX3_digest_99 rfl (lv_at hl 1 rfl) ?_
                          refine lv_ldc2 (v := 31) hx hb hown (hts (.constantLong RX3 202 31) (by decide +kernel)) dX3_digest_100 ?_
                          refine lv_lmul hx hb dX3_digest_103 ?_
                          refine lv_aload_n hx hb dX3_digest_104 rfl (lv_at hl 4 rfl) ?_
                          refine lv_iload hx hb dX3_digest_105 (lv_at hl 2 rfl) ?_
                          refine lv_iload hx hb dX3_digest_107 (lv_at hl 0 rfl) ?_
                          refine r_cVI C0 h hl.1 _ (by omega) (ce0 k _) rfl (ct_X3_decision l k M _ hJ cn hc20 hcn9 lcn hl8 hlcn9 hQ.2.1 hst9 _ hB hO (nI (100 + 400 * j4)) (nI (2 * m9))) gX3_digest_X3_decision rfl (by decide +kernel) (n := 2) ⟨Nat.le_of_ble_eq_true rfl, Nat.le_of_ble_eq_true rfl⟩ ⟨Nat.zero_le _, Nat.zero_le _⟩ (Nat.le_of_ble_eq_true rfl) rfl rfl dX3_digest_109 (fun r109 I109 H locs hp h => ?_)
                          obtain ⟨rfl, hI109⟩ := hp
                          rw [hI109] at h
                          rw [hQ.2.2]
                          refine lv_i2l hx hb dX3_digest_112 rfl ?_
                          refine lv_ladd hx hb dX3_digest_113 ?_
                          refine lv_lstore_n hx hb dX3_digest_114 rfl hl (by decide) rfl (fun ls hl => ?_)
                          have hl : lv_has ls 6 [(1, _), (5, _), (4, _), (3, _), (0, _)] := hl
                          refine lv_lload_n hx hb dX3_digest_115 rfl (lv_at hl 0 rfl) ?_
                          refine lv_ldc2 (v := 31) hx hb hown (hts (.constantLong RX3 202 31) (by decide +kernel)) dX3_digest_116 ?_
                          refine lv_lmul hx hb dX3_digest_119 ?_
                          refine lv_aload_n hx hb dX3_digest_120 rfl (lv_at hl 4 rfl) ?_
                          refine lv_iload hx hb dX3_digest_121 (lv_at hl 2 rfl) ?_
                          refine lv_iload hx hb dX3_digest_123 (lv_at hl 1 rfl) ?_
                          refine r_cVI C0 h hl.1 _ (by omega) (ce0 k _) rfl (ct_X3_decidingPlace l k M _ hJ cn hc20 hcn9 lcn hl8 hlcn9 hQ.2.1 hst9 _ hB hO (nI (100 + 400 * j4)) (nI (2 * m9))) gX3_digest_X3_decidingPlace rfl (by decide +kernel) (n := 2) ⟨Nat.le_of_ble_eq_true rfl, Nat.le_of_ble_eq_true rfl⟩ ⟨Nat.zero_le _, Nat.zero_le _⟩ (Nat.le_of_ble_eq_true rfl) rfl rfl dX3_digest_125 (fun r125 I125 H locs hp h => ?_)
                          obtain ⟨rfl, hI125⟩ := hp
                          rw [hI125] at h
                          rw [hQ.2.2]
                          refine lv_i2l hx hb dX3_digest_128 rfl ?_
                          refine lv_ladd hx hb dX3_digest_129 ?_
                          refine lv_lstore_n hx hb dX3_digest_130 rfl hl (by decide) rfl (fun ls hl => ?_)
                          have hl : lv_has ls 6 [(1, _), (5, _), (4, _), (3, _), (0, _)] := hl
                          refine lv_iinc (v := nI (2 * (m9 + 1))) hx hb dX3_digest_131 hl (k := 1) rfl (nI_add (2 * m9) 2) (by decide) rfl (fun ls hl => ?_)
                          have hl : lv_has ls 6 [(5, _), (1, _), (4, _), (3, _), (0, _)] := hl
                          refine lv_goto (tgt := 93) hx hb dX3_digest_134 (by decide) ?_
                          exact ih93 (m9 + 1) (by omega) (by omega) _ _ _ h (lv_sub hl [0, 1, 2, 3, 4] rfl)
                    exact key93 100 0 (by omega) (by omega) _ _ _ h (lv_sub hl [0, 2, 1, 3, 4] rfl)
              exact key82 100 0 (by omega) (by omega) _ _ _ h (lv_sub hl [0, 1, 2, 3] rfl)
        exact key36 100 0 _ (by omega) (by omega) hQ1 _ _ _ h (lv_sub hl [0, 1, 2] rfl)
      · have hw4 : w < 4 := by have h9 : ¬ 3 < w := fun q => c_12 (nI_lt q (by omega)); omega
        refine lv_lload_n hx hb dX3_digest_15 rfl (lv_at hl 1 rfl) ?_
        refine lv_ldc2 (v := 31) hx hb hown (hts (.constantLong RX3 202 31) (by decide +kernel)) dX3_digest_16 ?_
        refine lv_lmul hx hb dX3_digest_19 ?_
        refine lv_aload_n hx hb dX3_digest_20 rfl (lv_at hl 2 rfl) ?_
        refine lv_iload_n hx hb dX3_digest_21 rfl (lv_at hl 0 rfl) ?_
        refine r_cVI C0 h hl.1 _ (by omega) (ce0 k _) rfl (ct_X3_countOf l k M _ hJ cn hc20 (by rw [vw_use0 hv1]; exact hcn) lcn hl8 (by rw [vw_use0 hv1]; exact hlcn) hS1 w (by omega)) gX3_digest_X3_countOf rfl (by decide +kernel) (n := 1) ⟨Nat.le_of_ble_eq_true rfl, Nat.le_of_ble_eq_true rfl⟩ ⟨Nat.zero_le _, Nat.zero_le _⟩ (Nat.le_of_ble_eq_true rfl) rfl rfl dX3_digest_22 (fun r22 I22 H locs hp h => ?_)
        obtain ⟨rfl, hI22⟩ := hp
        rw [hI22] at h
        rw [hv1]
        refine lv_i2l hx hb dX3_digest_25 rfl ?_
        refine lv_ladd hx hb dX3_digest_26 ?_
        refine lv_lstore_n hx hb dX3_digest_27 rfl hl (by decide) rfl (fun ls hl => ?_)
        have hl : lv_has ls 6 [(1, _), (3, _), (0, _)] := hl
        refine lv_iinc (v := nI (w + 1)) hx hb dX3_digest_28 hl (k := 1) rfl (nI_1 _) (by decide) rfl (fun ls hl => ?_)
        have hl : lv_has ls 6 [(3, _), (1, _), (0, _)] := hl
        refine lv_goto (tgt := 10) hx hb dX3_digest_31 (by decide) ?_
        exact ih10 (w + 1) (by omega) (by omega) _ _ _ h (lv_sub hl [0, 1, 2] rfl)
  exact key10 100 0 (by omega) (by omega) _ _ _ h (lv_sub hl [0, 1, 2] rfl)
