/-! 09: the book of chains -/
set_option maxHeartbeats 4000000 in
set_option maxRecDepth 100000 in
theorem ct_X1_lengthOf (l : Launch) (k : Sk) (M : Nat) (I : IS) (hJ : Ij k M) (acc : List (List Nat)) (x : Int32) (hB : BkH I acc) : MtI l yX1_lengthOf wsX1_lengthOf 1 [.ref (k.2.1 3), .int x] k M I (fun r I' => r = nI (leI acc x) ∧ I' = I) := by
  refine mtI_of (cc := cX1_lengthOf) (maxL := 2) hJ (by decide) rfl (Nat.le_of_ble_eq_true rfl) ?_
  intro p e s m args below meth c A ls C0 h hr hl
  have hx := C0.1.1
  have hb := C0.1.2.1
  have hown := C0.1.2.2.2.1
  have hts := C0.1.2.2.2.2
  have hM := hJ.1
  have hl : lv_has ls 2 [(0, _), (1, _)] := hl
  have hinX1 : ∀ w ∈ u_ws RX1 TX1 7, w ∈ wsX1_lengthOf := by decide +kernel
  have hB6 := hB.2.1
  refine lv_iload_n hx hb dX1_lengthOf_0 rfl (lv_at hl 1 rfl) ?_
  refine lv_if_lt (tgt := 12) hx hb dX1_lengthOf_1 (by decide) (fun c_1 => ?_) (fun c_1 => ?_)
  · refine lv_iconst (v := nI 0) hx hb dX1_lengthOf_12 (by decide) ?_
    refine lv_goto (tgt := 22) hx hb dX1_lengthOf_13 (by decide) ?_
    exact r_iret C0 h hr dX1_lengthOf_22 ⟨by first | rw [leI_no (Or.inl c_1)] | rw [leI_no (Or.inr (by rw [nI_clamp hj]; exact Nat.le_of_not_lt (fun q => c_9 (nI_lt q (by omega)))))] | rw [leI_at hj], rfl⟩
  · obtain ⟨j, hj, rfl⟩ := nI_of c_1
    refine lv_iload_n hx hb dX1_lengthOf_4 rfl (lv_at hl 1 rfl) ?_
    refine lv_aload_n hx hb dX1_lengthOf_5 rfl (lv_at hl 0 rfl) ?_
    refine r_get (T := TX1) (N := 7) C0 h _ (by omega) (ce3 k _) hinX1 rfl 6 (by decide) (by decide +kernel) rfl rfl dX1_lengthOf_6 ?_
    rw [hB.1]
    refine lv_icmp_lt (tgt := 16) hx hb dX1_lengthOf_9 (by decide) (fun c_9 => ?_) (fun c_9 => ?_)
    · have hjl : j < acc.length := (nI_ltI hj (by omega)).mp c_9
      refine lv_aload_n hx hb dX1_lengthOf_16 rfl (lv_at hl 0 rfl) ?_
      refine r_get (T := TX1) (N := 7) C0 h _ (by omega) (ce3 k _) hinX1 rfl 3 (by decide) (by decide +kernel) rfl rfl dX1_lengthOf_17 ?_
      refine lv_iload_n hx hb dX1_lengthOf_20 rfl (lv_at hl 1 rfl) ?_
      refine r_iald C0 h 8 (by omega) isA_8 _ (by show _ < 60; omega) dX1_lengthOf_21 ?_
      rw [(hB.2.2 _ hjl).1]
      exact r_iret C0 h hr dX1_lengthOf_22 ⟨by first | rw [leI_no (Or.inl c_1)] | rw [leI_no (Or.inr (by rw [nI_clamp hj]; exact Nat.le_of_not_lt (fun q => c_9 (nI_lt q (by omega)))))] | rw [leI_at hj], rfl⟩
    · refine lv_iconst (v := nI 0) hx hb dX1_lengthOf_12 (by decide) ?_
      refine lv_goto (tgt := 22) hx hb dX1_lengthOf_13 (by decide) ?_
      exact r_iret C0 h hr dX1_lengthOf_22 ⟨by first | rw [leI_no (Or.inl c_1)] | rw [leI_no (Or.inr (by rw [nI_clamp hj]; exact Nat.le_of_not_lt (fun q => c_9 (nI_lt q (by omega)))))] | rw [leI_at hj], rfl⟩
set_option maxHeartbeats 4000000 in
set_option maxRecDepth 100000 in
theorem ct_X1_member (l : Launch) (k : Sk) (M : Nat) (I : IS) (hJ : Ij k M) (acc : List (List Nat)) (cx : Nat) (y : Int32) (hcx : cx ≤ 60) (hB : BkH I acc) : MtI l yX1_member wsX1_member 1 [.ref (k.2.1 3), .int (nI cx), .int y] k M I (fun r I' => r = mbI acc cx y ∧ I' = I) := by
  refine mtI_of (cc := cX1_member) (maxL := 3) hJ (by decide) rfl (Nat.le_of_ble_eq_true rfl) ?_
  intro p e s m args below meth c A ls C0 h hr hl
  have hx := C0.1.1
  have hb := C0.1.2.1
  have hown := C0.1.2.2.2.1
  have hts := C0.1.2.2.2.2
  have hM := hJ.1
  have hl : lv_has ls 3 [(0, _), (1, _), (2, _)] := hl
  have hinX1 : ∀ w ∈ u_ws RX1 TX1 7, w ∈ wsX1_member := by decide +kernel
  have hB6 := hB.2.1
  refine lv_iload_n hx hb dX1_member_0 rfl (lv_at hl 1 rfl) ?_
  refine lv_if_lt (tgt := 26) hx hb dX1_member_1 (by decide) (fun c_1 => ?_) (fun c_1 => ?_)
  · exact absurd c_1 (nI_pos (by omega))
  · refine lv_iload_n hx hb dX1_member_4 rfl (lv_at hl 1 rfl) ?_
    refine lv_aload_n hx hb dX1_member_5 rfl (lv_at hl 0 rfl) ?_
    refine r_get (T := TX1) (N := 7) C0 h _ (by omega) (ce3 k _) hinX1 rfl 6 (by decide) (by decide +kernel) rfl rfl dX1_member_6 ?_
    rw [hB.1]
    refine lv_icmp_ge (tgt := 26) hx hb dX1_member_9 (by decide) (fun c_9 => ?_) (fun c_9 => ?_)
    · have hcl : acc.length ≤ cx := (nI_leI (by omega) (by omega)).mp c_9
      refine lv_iconst (v := (-1)) hx hb dX1_member_26 (by decide) ?_
      exact r_iret C0 h hr dX1_member_27 ⟨by first | rw [mbI, if_pos c_13] | rw [mbI, if_neg (nI_pos hj), if_pos (by rw [nI_clamp hj]; exact hjl)] | (rw [mbI, gtC_out hcl, if_pos (show ([] : List Nat).length ≤ _ from Nat.zero_le _)]; split <;> rfl), rfl⟩
    · have hcl : cx < acc.length := Nat.lt_of_not_le (fun q => c_9 (nI_le q (by omega)))
      have hc6 := (hB.2.2 _ hcl).2.1
      refine lv_iload_n hx hb dX1_member_12 rfl (lv_at hl 2 rfl) ?_
      refine lv_if_lt (tgt := 26) hx hb dX1_member_13 (by decide) (fun c_13 => ?_) (fun c_13 => ?_)
      · refine lv_iconst (v := (-1)) hx hb dX1_member_26 (by decide) ?_
        exact r_iret C0 h hr dX1_member_27 ⟨by first | rw [mbI, if_pos c_13] | rw [mbI, if_neg (nI_pos hj), if_pos (by rw [nI_clamp hj]; exact hjl)] | (rw [mbI, gtC_out hcl, if_pos (show ([] : List Nat).length ≤ _ from Nat.zero_le _)]; split <;> rfl), rfl⟩
      · obtain ⟨j, hj, rfl⟩ := nI_of c_13
        refine lv_iload_n hx hb dX1_member_16 rfl (lv_at hl 2 rfl) ?_
        refine lv_aload_n hx hb dX1_member_17 rfl (lv_at hl 0 rfl) ?_
        refine r_get (T := TX1) (N := 7) C0 h _ (by omega) (ce3 k _) hinX1 rfl 3 (by decide) (by decide +kernel) rfl rfl dX1_member_18 ?_
        refine lv_iload_n hx hb dX1_member_21 rfl (lv_at hl 1 rfl) ?_
        refine r_iald C0 h 8 (by omega) isA_8 _ (by show _ < 60; omega) dX1_member_22 ?_
        rw [(hB.2.2 _ hcl).1]
        refine lv_icmp_lt (tgt := 28) hx hb dX1_member_23 (by decide) (fun c_23 => ?_) (fun c_23 => ?_)
        · have hjl : j < (gtC acc cx).length := (nI_ltI hj (by omega)).mp c_23
          refine lv_aload_n hx hb dX1_member_28 rfl (lv_at hl 0 rfl) ?_
          refine r_get (T := TX1) (N := 7) C0 h _ (by omega) (ce3 k _) hinX1 rfl 2 (by decide) (by decide +kernel) rfl rfl dX1_member_29 ?_
          refine lv_iload_n hx hb dX1_member_32 rfl (lv_at hl 1 rfl) ?_
          refine r_aaldR C0 h _ (by omega) dX1_member_33 ?_
          refine lv_iload_n hx hb dX1_member_34 rfl (lv_at hl 2 rfl) ?_
          refine r_iald C0 h (38 + cx) (by omega) isA_R _ (by rw [lnR]; omega) dX1_member_35 ?_
          rw [(hB.2.2 _ hcl).2.2 _ hjl]
          exact r_iret C0 h hr dX1_member_36 ⟨by rw [mbI, if_neg (nI_pos hj), nI_clamp hj, if_neg (Nat.not_le.mpr hjl)], rfl⟩
        · have hjl : (gtC acc cx).length ≤ j := Nat.le_of_not_lt (fun q => c_23 (nI_lt q (by omega)))
          refine lv_iconst (v := (-1)) hx hb dX1_member_26 (by decide) ?_
          exact r_iret C0 h hr dX1_member_27 ⟨by first | rw [mbI, if_pos c_13] | rw [mbI, if_neg (nI_pos hj), if_pos (by rw [nI_clamp hj]; exact hjl)] | (rw [mbI, gtC_out hcl, if_pos (show ([] : List Nat).length ≤ _ from Nat.zero_le _)]; split <;> rfl), rfl⟩
set_option maxHeartbeats 4000000 in
set_option maxRecDepth 100000 in
theorem ct_X1_keep (l : Launch) (k : Sk) (M : Nat) (I : IS) (hJ : Ij k M) (ln : Nat) (pf : List Nat) (acc : List (List Nat)) (hln : pf.length = ln) (hl6 : ln ≤ 6) (hB : BkH I acc) (hG : BgH I pf) : MtV l yX1_keep wsX1_keep 2 [.ref (k.2.1 3), .int (nI ln)] k M I (fun I' => BkH I' (kpF pf acc) ∧ (∀ q, I' 9 q = I 9 q) ∧ ExP I I') := by
  refine mtV_of (cc := cX1_keep) (maxL := 2) hJ (by decide) rfl (Nat.le_of_ble_eq_true rfl) ?_
  intro p e s m args below meth c A ls C0 h hr hl
  have hx := C0.1.1
  have hb := C0.1.2.1
  have hown := C0.1.2.2.2.1
  have hts := C0.1.2.2.2.2
  have hM := hJ.1
  have hl : lv_has ls 2 [(0, _), (1, _)] := hl
  have hinX1 : ∀ w ∈ u_ws RX1 TX1 7, w ∈ wsX1_keep := by decide +kernel
  have hB6 := hB.2.1
  refine lv_aload_n hx hb dX1_keep_0 rfl (lv_at hl 0 rfl) ?_
  refine r_get (T := TX1) (N := 7) C0 h _ (by omega) (ce3 k _) hinX1 rfl 6 (by decide) (by decide +kernel) rfl rfl dX1_keep_1 ?_
  rw [hB.1]
  refine lv_bipush (v := nI 60) hx hb dX1_keep_4 (by decide) ?_
  refine lv_icmp_ge (tgt := 49) hx hb dX1_keep_6 (by decide) (fun c_6 => ?_) (fun c_6 => ?_)
  · have hfull : ¬ acc.length < 60 := fun q => absurd c_6 (nI_ge q (by omega))
    exact r_vret C0 h hr dX1_keep_49 (by first | exact keep_ok hln hl6 hB hG hlt | exact ⟨by rw [kpF, if_neg hfull]; exact hB, fun _ => rfl, ExP.rf⟩)
  · have hlt : acc.length < 60 := Nat.lt_of_not_le (fun q => c_6 (nI_le q (by omega)))
    refine lv_aload_n hx hb dX1_keep_9 rfl (lv_at hl 0 rfl) ?_
    refine r_get (T := TX1) (N := 7) C0 h _ (by omega) (ce3 k _) hinX1 rfl 4 (by decide) (by decide +kernel) rfl rfl dX1_keep_10 ?_
    refine lv_iconst (v := nI 0) hx hb dX1_keep_13 (by decide) ?_
    refine lv_aload_n hx hb dX1_keep_14 rfl (lv_at hl 0 rfl) ?_
    refine r_get (T := TX1) (N := 7) C0 h _ (by omega) (ce3 k _) hinX1 rfl 2 (by decide) (by decide +kernel) rfl rfl dX1_keep_15 ?_
    refine lv_aload_n hx hb dX1_keep_18 rfl (lv_at hl 0 rfl) ?_
    refine r_get (T := TX1) (N := 7) C0 h _ (by omega) (ce3 k _) hinX1 rfl 6 (by decide) (by decide +kernel) rfl rfl dX1_keep_19 ?_
    rw [hB.1]
    refine r_aaldR C0 h _ (by omega) dX1_keep_22 ?_
    refine lv_iconst (v := nI 0) hx hb dX1_keep_23 (by decide) ?_
    refine lv_bipush (v := nI 6) hx hb dX1_keep_24 (by decide) ?_
    refine r_copy C0 h hl.1 _ (by omega) (by decide +kernel) (by decide +kernel) (by decide +kernel) (by decide +kernel) (Nat.le_of_ble_eq_true rfl) (Nat.le_of_ble_eq_true rfl) dX1_keep_26 (fun H locs h => ?_)
    refine lv_aload_n hx hb dX1_keep_29 rfl (lv_at hl 0 rfl) ?_
    refine r_get (T := TX1) (N := 7) C0 h _ (by omega) (ce3 k _) hinX1 rfl 3 (by decide) (by decide +kernel) rfl rfl dX1_keep_30 ?_
    refine lv_aload_n hx hb dX1_keep_33 rfl (lv_at hl 0 rfl) ?_
    refine r_get (T := TX1) (N := 7) C0 h _ (by omega) (ce3 k _) hinX1 rfl 6 (by decide) (by decide +kernel) rfl rfl dX1_keep_34 ?_
    rw [upR_n _ _ (by omega), hB.1]
    refine lv_iload_n hx hb dX1_keep_37 rfl (lv_at hl 1 rfl) ?_
    refine r_iast C0 h 8 (by omega) isA_8 _ (by show _ < 60; omega) dX1_keep_38 (fun H locs h => ?_)
    refine lv_aload_n hx hb dX1_keep_39 rfl (lv_at hl 0 rfl) ?_
    refine lv_dup hx hb dX1_keep_40 rfl ?_
    refine r_get (T := TX1) (N := 7) C0 h _ (by omega) (ce3 k _) hinX1 rfl 6 (by decide) (by decide +kernel) rfl rfl dX1_keep_41 ?_
    rw [up2_n _ _ _ _ (by decide), upR_n _ _ (by omega), hB.1]
    refine lv_iconst (v := nI 1) hx hb dX1_keep_44 (by decide) ?_
    refine lv_iadd hx hb dX1_keep_45 ?_
    rw [nI_add]
    refine r_put (T := TX1) (N := 7) (ty0 := tyX1) C0 h _ (by omega) (ce3 k _) hinX1 tyX1_ok nmX1 rfl 6 (by decide) (by decide +kernel) rfl rfl rfl rfl (Nat.le_of_ble_eq_true rfl) (ce3 k _) dX1_keep_46 (fun H locs h => ?_)
    exact r_vret C0 h hr dX1_keep_49 (by first | exact keep_ok hln hl6 hB hG hlt | exact ⟨by rw [kpF, if_neg hfull]; exact hB, fun _ => rfl, ExP.rf⟩)
set_option maxHeartbeats 4000000 in
set_option maxRecDepth 100000 in
theorem ct_X1_markWays (l : Launch) (k : Sk) (M : Nat) (I : IS) (hJ : Ij k M) (cn : Nat) (hc20 : cn ≤ 20) (hbk : ∀ a, a < cn → I 5 a = nI (bkN (vw I) cn a)) : MtV l yX1_markWays wsX1_markWays 1 [.ref (k.2.1 3), .int (nI cn), .int (nI (anN (vw I) cn))] k M I (fun I' => SvH I' cn ∧ MwP I I') := by
  refine mtV_of (cc := cX1_markWays) (maxL := 6) hJ (by decide) rfl (Nat.le_of_ble_eq_true rfl) ?_
  intro p e s m args below meth c A ls C0 h hr hl
  have hx := C0.1.1
  have hb := C0.1.2.1
  have hown := C0.1.2.2.2.1
  have hts := C0.1.2.2.2.2
  have hM := hJ.1
  have hl : lv_has ls 6 [(0, _), (1, _), (2, _)] := hl
  have hinX1 : ∀ w ∈ u_ws RX1 TX1 7, w ∈ wsX1_markWays := by decide +kernel
  refine lv_aload_n hx hb dX1_markWays_0 rfl (lv_at hl 0 rfl) ?_
  refine lv_iload_n hx hb dX1_markWays_1 rfl (lv_at hl 1 rfl) ?_
  refine r_put (T := TX1) (N := 7) (ty0 := tyX1) C0 h _ (by omega) (ce3 k _) hinX1 tyX1_ok nmX1 rfl 5 (by decide) (by decide +kernel) rfl rfl rfl rfl (Nat.le_of_ble_eq_true rfl) (ce3 k _) dX1_markWays_2 (fun H locs h => ?_)
  refine lv_aload_n hx hb dX1_markWays_5 rfl (lv_at hl 0 rfl) ?_
  refine r_get (T := TX1) (N := 7) C0 h _ (by omega) (ce3 k _) hinX1 rfl 1 (by decide) (by decide +kernel) rfl rfl dX1_markWays_6 ?_
  refine lv_iconst (v := nI 0) hx hb dX1_markWays_9 (by decide) ?_
  refine lv_iload_n hx hb dX1_markWays_10 rfl (lv_at hl 2 rfl) ?_
  refine r_iast C0 h 6 (by omega) isA_6 _ (by decide) dX1_markWays_11 (fun H locs h => ?_)
  refine lv_iconst (v := nI 1) hx hb dX1_markWays_12 (by decide) ?_
  refine lv_istore_n hx hb dX1_markWays_13 rfl hl (by decide) rfl (fun ls hl => ?_)
  have hl : lv_has ls 6 [(3, _), (0, _), (1, _), (2, _)] := hl
  have key14 : ∀ (n : Nat) (sn : Nat) (I1 : IS), 7 - sn < n → 1 ≤ sn → sn ≤ 6 → I1 3 5 = nI cn → (∀ t, t < sn → I1 6 t = nI (wyN (vw I) cn t)) → MwP I I1 → ∀ (H : Heap) (locs : List Loc) (ls : Array Slot), HX k M A s I1 H locs → lv_has ls 6 [(3, .int (nI sn)), (0, .ref (k.2.1 3)), (1, .int (nI cn)), (2, .int (nI (anN (vw I) cn)))] → W p l e (Rm 1) s m args below meth c H locs 0 0 (MQ below (va_Qv (fun I' => SvH I' cn ∧ MwP I I') (EnX k M) A) args s 0 0 A) (F0 m 14 ls []) := by
    intro n
    induction n with
    | zero =>
      intro sn I1 hn14 hs1 hs6 hcn hw hP H locs ls h hl
      exact absurd hn14 (Nat.not_lt_zero _)
    | succ n ih14 =>
      intro sn I1 hn14 hs1 hs6 hcn hw hP H locs ls h hl
      refine lv_iload_n hx hb dX1_markWays_14 rfl (lv_at hl 0 rfl) ?_
      refine lv_bipush (v := nI 6) hx hb dX1_markWays_15 (by decide) ?_
      refine lv_icmp_ge (tgt := 83) hx hb dX1_markWays_17 (by decide) (fun c_17 => ?_) (fun c_17 => ?_)
      · have hs : sn = 6 := by have := (nI_leI (by omega) (by omega)).mp c_17; omega
        exact r_vret C0 h hr dX1_markWays_83 ⟨⟨hcn, fun a ha => by rw [hP 5 a (by decide) (by decide), hP.vw]; exact hbk a ha, fun t ht => by rw [hP.vw]; exact hw t (by omega)⟩, hP⟩
      · have hs : sn < 6 := Nat.lt_of_not_le (fun q => c_17 (nI_le q (by omega)))
        have hsn1 : sn - 1 + 1 = sn := by omega
        refine lv_iconst (v := nI 0) hx hb dX1_markWays_20 (by decide) ?_
        refine lv_istore hx hb dX1_markWays_21 hl (by decide) rfl (fun ls hl => ?_)
        have hl : lv_has ls 6 [(4, _), (3, _), (0, _), (1, _), (2, _)] := hl
        refine lv_iconst (v := nI 0) hx hb dX1_markWays_23 (by decide) ?_
        refine lv_istore hx hb dX1_markWays_24 hl (by decide) rfl (fun ls hl => ?_)
        have hl : lv_has ls 6 [(5, _), (4, _), (3, _), (0, _), (1, _), (2, _)] := hl
        have key26 : ∀ (n : Nat) (j : Nat), 21 - j < n → j ≤ cn → ∀ (H : Heap) (locs : List Loc) (ls : Array Slot), HX k M A s I1 H locs → lv_has ls 6 [(5, .int (nI j)), (4, .int (nI (bsN (wyS (vw I) cn (sn - 1)) j))), (3, .int (nI sn)), (0, .ref (k.2.1 3)), (1, .int (nI cn)), (2, .int (nI (anN (vw I) cn)))] → W p l e (Rm 1) s m args below meth c H locs 0 0 (MQ below (va_Qv (fun I' => SvH I' cn ∧ MwP I I') (EnX k M) A) args s 0 0 A) (F0 m 26 ls []) := by
          intro n
          induction n with
          | zero =>
            intro j hn26 hj H locs ls h hl
            exact absurd hn26 (Nat.not_lt_zero _)
          | succ n ih26 =>
            intro j hn26 hj H locs ls h hl
            refine lv_iload hx hb dX1_markWays_26 (lv_at hl 0 rfl) ?_
            refine lv_aload_n hx hb dX1_markWays_28 rfl (lv_at hl 3 rfl) ?_
            refine r_get (T := TX1) (N := 7) C0 h _ (by omega) (ce3 k _) hinX1 rfl 5 (by decide) (by decide +kernel) rfl rfl dX1_markWays_29 ?_
            rw [hcn]
            refine lv_icmp_ge (tgt := 69) hx hb dX1_markWays_32 (by decide) (fun c_32 => ?_) (fun c_32 => ?_)
            · have hjc : j = cn := by have := (nI_leI (by omega) (by omega)).mp c_32; omega
              have hwy : bsN (wyS (vw I) cn (sn - 1)) j = wyN (vw I) cn sn := by rw [hjc, ← wyN_S, hsn1]
              refine lv_aload_n hx hb dX1_markWays_69 rfl (lv_at hl 3 rfl) ?_
              refine r_get (T := TX1) (N := 7) C0 h _ (by omega) (ce3 k _) hinX1 rfl 1 (by decide) (by decide +kernel) rfl rfl dX1_markWays_70 ?_
              refine lv_iload_n hx hb dX1_markWays_73 rfl (lv_at hl 2 rfl) ?_
              refine lv_iload hx hb dX1_markWays_74 (lv_at hl 1 rfl) ?_
              refine r_iast C0 h 6 (by omega) isA_6 _ (by show _ < 6; omega) dX1_markWays_76 (fun H locs h => ?_)
              refine lv_iinc (v := nI (sn + 1)) hx hb dX1_markWays_77 hl (k := 2) rfl (nI_1 _) (by decide) rfl (fun ls hl => ?_)
              have hl : lv_has ls 6 [(3, _), (5, _), (4, _), (0, _), (1, _), (2, _)] := hl
              refine lv_goto (tgt := 14) hx hb dX1_markWays_80 (by decide) ?_
              exact ih14 (sn + 1) _ (by omega) (by omega) (by omega) (by rw [up2_n _ _ _ _ (by decide)]; exact hcn) (fun t ht => by rcases Nat.lt_or_ge t sn with q | q; (rw [up2_f _ _ _ _ (by omega)]; exact hw t q); (obtain rfl : t = sn := (by omega)); rw [up2_s, hwy]) (fun n q a b => by rw [up2_n _ _ _ _ a]; exact hP n q a b) _ _ _ h (lv_sub hl [0, 3, 4, 5] rfl)
            · have hjc : j < cn := Nat.lt_of_not_le (fun q => c_32 (nI_le q (by omega)))
              refine lv_aload_n hx hb dX1_markWays_35 rfl (lv_at hl 3 rfl) ?_
              refine r_get (T := TX1) (N := 7) C0 h _ (by omega) (ce3 k _) hinX1 rfl 0 (by decide) (by decide +kernel) rfl rfl dX1_markWays_36 ?_
              refine lv_iload hx hb dX1_markWays_39 (lv_at hl 0 rfl) ?_
              refine r_iald C0 h 5 (by omega) isA_5 _ (by show _ < 20; omega) dX1_markWays_41 ?_
              rw [hP 5 j (by decide) (by decide), hbk j hjc]
              refine lv_aload_n hx hb dX1_markWays_42 rfl (lv_at hl 3 rfl) ?_
              refine r_get (T := TX1) (N := 7) C0 h _ (by omega) (ce3 k _) hinX1 rfl 1 (by decide) (by decide +kernel) rfl rfl dX1_markWays_43 ?_
              refine lv_iload_n hx hb dX1_markWays_46 rfl (lv_at hl 2 rfl) ?_
              refine lv_iconst (v := nI 1) hx hb dX1_markWays_47 (by decide) ?_
              refine lv_isub hx hb dX1_markWays_48 ?_
              rw [pk_sub (by omega)]
              refine r_iald C0 h 6 (by omega) isA_6 _ (by show _ < 6; omega) dX1_markWays_49 ?_
              rw [hw (sn - 1) (by omega)]
              refine lv_iand hx hb dX1_markWays_50 ?_
              rw [fa_and]
              refine lv_if_eq (tgt := 63) hx hb dX1_markWays_51 (by decide) (fun c_51 => ?_) (fun c_51 => ?_)
              · rw [bs_no (p := wyS (vw I) cn (sn - 1)) (j := j) (decide_eq_false (fun q => q (nz0 (and_lt (bkN_s _ hc20 _)) c_51)))] at hl
                refine lv_iinc (v := nI (j + 1)) hx hb dX1_markWays_63 hl (k := 0) rfl (nI_1 _) (by decide) rfl (fun ls hl => ?_)
                have hl : lv_has ls 6 [(5, _), (4, _), (3, _), (0, _), (1, _), (2, _)] := hl
                refine lv_goto (tgt := 26) hx hb dX1_markWays_66 (by decide) ?_
                exact ih26 (j + 1) (by omega) (by omega) _ _ _ h (lv_sub hl [0, 1, 2, 3, 4, 5] rfl)
              · have hpj : wyS (vw I) cn (sn - 1) j = true := decide_eq_true (nz1 c_51)
                refine lv_iload hx hb dX1_markWays_54 (lv_at hl 1 rfl) ?_
                refine lv_iconst (v := nI 1) hx hb dX1_markWays_56 (by decide) ?_
                refine lv_iload hx hb dX1_markWays_57 (lv_at hl 0 rfl) ?_
                refine lv_ishl hx hb dX1_markWays_59 ?_
                refine lv_ior hx hb dX1_markWays_60 ?_
                rw [bs_up (by omega) hpj]
                refine lv_istore hx hb dX1_markWays_61 hl (by decide) rfl (fun ls hl => ?_)
                have hl : lv_has ls 6 [(4, _), (5, _), (3, _), (0, _), (1, _), (2, _)] := hl
                refine lv_iinc (v := nI (j + 1)) hx hb dX1_markWays_63 hl (k := 1) rfl (nI_1 _) (by decide) rfl (fun ls hl => ?_)
                have hl : lv_has ls 6 [(5, _), (4, _), (3, _), (0, _), (1, _), (2, _)] := hl
                refine lv_goto (tgt := 26) hx hb dX1_markWays_66 (by decide) ?_
                exact ih26 (j + 1) (by omega) (by omega) _ _ _ h (lv_sub hl [0, 1, 2, 3, 4, 5] rfl)
        exact key26 100 0 (by omega) (by omega) _ _ _ h (lv_sub hl [0, 1, 2, 3, 4, 5] rfl)
  exact key14 100 1 _ (by omega) (by omega) (by omega) (by rw [up2_n _ _ _ _ (by decide), up2_s]) (fun t ht => by (obtain rfl : t = 0 := (by omega)); rw [up2_s]; rfl) (fun n q a b => by rw [up2_n _ _ _ _ a, up2_n _ _ _ _ b]) _ _ _ h (lv_sub hl [0, 1, 2, 3] rfl)
set_option maxHeartbeats 4000000 in
set_option maxRecDepth 100000 in
theorem ct_X1_extend0 (l : Launch) (k : Sk) (M : Nat) (I : IS) (hJ : Ij k M) (d : Nat) (hd : 3 ≤ d) (cn ln : Nat) (pf : List Nat) (acc : List (List Nat)) (hc20 : cn ≤ 20) (hpl : pf.length + 0 = ln) (hp1 : 1 ≤ pf.length) (hl6 : ln ≤ 6) (hpf : ∀ b, b ∈ pf → b < cn) (hS : SvH I cn) (hB : BkH I acc) (hG : BgH I pf) : MtV l yX1_extend wsX1_extend d [.ref (k.2.1 3), .int (nI pf.length), .int (nI ln), .int (nI (usN pf))] k M I (fun I' => BkH I' (exF (vw I) cn 0 pf acc) ∧ BgH I' pf ∧ ExP I I') := by
  refine mtV_of (cc := cX1_extend) (maxL := 7) hJ (by decide) rfl (Nat.le_of_ble_eq_true rfl) ?_
  intro p e s m args below meth c A ls C0 h hr hl
  have hx := C0.1.1
  have hb := C0.1.2.1
  have hown := C0.1.2.2.2.1
  have hts := C0.1.2.2.2.2
  have hM := hJ.1
  have hl : lv_has ls 7 [(0, _), (1, _), (2, _), (3, _)] := hl
  refine lv_iload_n hx hb dX1_extend_0 rfl (lv_at hl 1 rfl) ?_
  refine lv_iload_n hx hb dX1_extend_1 rfl (lv_at hl 2 rfl) ?_
  refine lv_icmp_ge (tgt := 11) hx hb dX1_extend_2 (by decide) (fun c_2 => ?_) (fun c_2 => ?_)
  · refine lv_aload_n hx hb dX1_extend_11 rfl (lv_at hl 0 rfl) ?_
    refine lv_iload_n hx hb dX1_extend_12 rfl (lv_at hl 2 rfl) ?_
    refine r_cVV C0 h hl.1 _ (by omega) (ce3 k _) rfl (ct_X1_keep l k M _ hJ ln pf acc hpl hl6 hB hG) gX1_extend_X1_keep rfl (by decide +kernel) (n := 1) ⟨by show 3 ≤ d; omega, by show _ ≤ 64 * d; omega⟩ ⟨Nat.zero_le _, Nat.zero_le _⟩ (Nat.le_of_ble_eq_true rfl) rfl rfl dX1_extend_13 (fun I13 H locs hp h => ?_)
    -- kept
    exact r_vret C0 h hr dX1_extend_16 ⟨hp.1, bg_keep hG hp.2.1, hp.2.2⟩
  · exact absurd (nI_le (by omega) (by omega) : nI ln ≤ nI pf.length) c_2
set_option maxHeartbeats 4000000 in
set_option maxRecDepth 100000 in
theorem ct_X1_extendS (l : Launch) (k : Sk) (M : Nat) (I : IS) (hJ : Ij k M) (r d : Nat) (cn ln : Nat) (pf : List Nat) (acc : List (List Nat)) (hc20 : cn ≤ 20) (hpl : pf.length + (r + 1) = ln) (hp1 : 1 ≤ pf.length) (hl6 : ln ≤ 6) (hpf : ∀ b, b ∈ pf → b < cn) (hS : SvH I cn) (hB : BkH I acc) (hG : BgH I pf) (ihr : ∀ (I1 : IS) (pf1 : List Nat) (acc1 : List (List Nat)), pf1.length + r = ln → 1 ≤ pf1.length → (∀ b, b ∈ pf1 → b < cn) → SvH I1 cn → BkH I1 acc1 → BgH I1 pf1 → MtV l yX1_extend wsX1_extend d [.ref (k.2.1 3), .int (nI pf1.length), .int (nI ln), .int (nI (usN pf1))] k M I1 (fun I' => BkH I' (exF (vw I1) cn r pf1 acc1) ∧ BgH I' pf1 ∧ ExP I1 I')) : MtV l yX1_extend wsX1_extend (d + 1) [.ref (k.2.1 3), .int (nI pf.length), .int (nI ln), .int (nI (usN pf))] k M I (fun I' => BkH I' (exF (vw I) cn (r + 1) pf acc) ∧ BgH I' pf ∧ ExP I I') := by
  refine mtV_of (cc := cX1_extend) (maxL := 7) hJ (by decide) rfl (Nat.le_of_ble_eq_true rfl) ?_
  intro p e s m args below meth c A ls C0 h hr hl
  have hx := C0.1.1
  have hb := C0.1.2.1
  have hown := C0.1.2.2.2.1
  have hts := C0.1.2.2.2.2
  have hM := hJ.1
  have hl : lv_has ls 7 [(0, _), (1, _), (2, _), (3, _)] := hl
  have hinX1 : ∀ w ∈ u_ws RX1 TX1 7, w ∈ wsX1_extend := by decide +kernel
  have hhd : pf.headD 0 < cn := by
    cases pf with
    | nil => exact absurd hp1 (by decide)
    | cons b q => exact hpf b (List.mem_cons_self)
  refine lv_iload_n hx hb dX1_extend_0 rfl (lv_at hl 1 rfl) ?_
  refine lv_iload_n hx hb dX1_extend_1 rfl (lv_at hl 2 rfl) ?_
  refine lv_icmp_ge (tgt := 11) hx hb dX1_extend_2 (by decide) (fun c_2 => ?_) (fun c_2 => ?_)
  · exact absurd c_2 (nI_ge (by omega) (by omega))
  · refine lv_iload_n hx hb dX1_extend_5 rfl (lv_at hl 1 rfl) ?_
    refine lv_bipush (v := nI 6) hx hb dX1_extend_6 (by decide) ?_
    refine lv_icmp_lt (tgt := 17) hx hb dX1_extend_8 (by decide) (fun c_8 => ?_) (fun c_8 => ?_)
    · refine lv_aload_n hx hb dX1_extend_17 rfl (lv_at hl 0 rfl) ?_
      refine r_get (T := TX1) (N := 7) C0 h _ (by omega) (ce3 k _) hinX1 rfl 1 (by decide) (by decide +kernel) rfl rfl dX1_extend_18 ?_
      refine lv_iload_n hx hb dX1_extend_21 rfl (lv_at hl 2 rfl) ?_
      refine lv_iconst (v := nI 1) hx hb dX1_extend_22 (by decide) ?_
      refine lv_isub hx hb dX1_extend_23 ?_
      rw [pk_sub (by omega)]
      refine lv_iload_n hx hb dX1_extend_24 rfl (lv_at hl 1 rfl) ?_
      refine lv_isub hx hb dX1_extend_25 ?_
      rw [pk_sub (by omega), show ln - 1 - pf.length = r by omega]
      refine r_iald C0 h 6 (by omega) isA_6 _ (by show _ < 6; omega) dX1_extend_26 ?_
      rw [hS.2.2 r (by omega)]
      refine lv_istore hx hb dX1_extend_27 hl (by decide) rfl (fun ls hl => ?_)
      have hl : lv_has ls 7 [(4, _), (0, _), (1, _), (2, _), (3, _)] := hl
      refine lv_aload_n hx hb dX1_extend_29 rfl (lv_at hl 1 rfl) ?_
      refine r_get (T := TX1) (N := 7) C0 h _ (by omega) (ce3 k _) hinX1 rfl 0 (by decide) (by decide +kernel) rfl rfl dX1_extend_30 ?_
      refine lv_aload_n hx hb dX1_extend_33 rfl (lv_at hl 1 rfl) ?_
      refine r_get (T := TX1) (N := 7) C0 h _ (by omega) (ce3 k _) hinX1 rfl 4 (by decide) (by decide +kernel) rfl rfl dX1_extend_34 ?_
      refine lv_iload_n hx hb dX1_extend_37 rfl (lv_at hl 2 rfl) ?_
      refine lv_iconst (v := nI 1) hx hb dX1_extend_38 (by decide) ?_
      refine lv_isub hx hb dX1_extend_39 ?_
      rw [pk_sub hp1]
      refine r_iald C0 h 9 (by omega) isA_9 _ (by show _ < 6; omega) dX1_extend_40 ?_
      rw [hG _ (by omega), gt_last hp1]
      refine r_iald C0 h 5 (by omega) isA_5 _ (by show _ < 20; omega) dX1_extend_41 ?_
      rw [hS.2.1 _ hhd]
      refine lv_iload hx hb dX1_extend_42 (lv_at hl 0 rfl) ?_
      refine lv_iand hx hb dX1_extend_44 ?_
      rw [fa_and]
      refine lv_iload_n hx hb dX1_extend_45 rfl (lv_at hl 4 rfl) ?_
      refine lv_iconst (v := (-1)) hx hb dX1_extend_46 (by decide) ?_
      refine lv_ixor hx hb dX1_extend_47 ?_
      refine lv_iand hx hb dX1_extend_48 ?_
      rw [fa_not]
      refine lv_istore hx hb dX1_extend_49 hl (by decide) rfl (fun ls hl => ?_)
      have hl : lv_has ls 7 [(5, _), (4, _), (0, _), (1, _), (2, _), (3, _)] := hl
      refine lv_iconst (v := nI 0) hx hb dX1_extend_51 (by decide) ?_
      refine lv_istore hx hb dX1_extend_52 hl (by decide) rfl (fun ls hl => ?_)
      have hl : lv_has ls 7 [(6, _), (5, _), (4, _), (0, _), (1, _), (2, _), (3, _)] := hl
      have key54 : ∀ (n : Nat) (j : Nat) (I1 : IS), 21 - j < n → j ≤ cn → BkH I1 (exJ (vw I) cn r pf acc j) → BgH I1 pf → ExP I I1 → ∀ (H : Heap) (locs : List Loc) (ls : Array Slot), HX k M A s I1 H locs → lv_has ls 7 [(6, .int (nI j)), (5, .int (nI (opN (vw I) cn r pf))), (0, .ref (k.2.1 3)), (1, .int (nI pf.length)), (2, .int (nI ln)), (3, .int (nI (usN pf)))] → W p l e (Rm (d + 1)) s m args below meth c H locs 0 0 (MQ below (va_Qv (fun I' => BkH I' (exF (vw I) cn (r + 1) pf acc) ∧ BgH I' pf ∧ ExP I I') (EnX k M) A) args s 0 0 A) (F0 m 54 ls []) := by
        intro n
        induction n with
        | zero =>
          intro j I1 hn54 hj hB1 hG1 hE1 H locs ls h hl
          exact absurd hn54 (Nat.not_lt_zero _)
        | succ n ih54 =>
          intro j I1 hn54 hj hB1 hG1 hE1 H locs ls h hl
          have hS1 := hS.ex hE1
          have hB160 := hB1.2.1
          refine lv_iload hx hb dX1_extend_54 (lv_at hl 0 rfl) ?_
          refine lv_aload_n hx hb dX1_extend_56 rfl (lv_at hl 2 rfl) ?_
          refine r_get (T := TX1) (N := 7) C0 h _ (by omega) (ce3 k _) hinX1 rfl 5 (by decide) (by decide +kernel) rfl rfl dX1_extend_57 ?_
          rw [hS1.1]
          refine lv_icmp_ge (tgt := 110) hx hb dX1_extend_60 (by decide) (fun c_60 => ?_) (fun c_60 => ?_)
          · have hjc : j = cn := by have := (nI_leI (by omega) (by omega)).mp c_60; omega
            exact r_vret C0 h hr dX1_extend_110 ⟨by rw [exF_J]; rw [hjc] at hB1; exact hB1, hG1, hE1⟩
          · have hjc : j < cn := Nat.lt_of_not_le (fun q => c_60 (nI_le q (by omega)))
            refine lv_iload hx hb dX1_extend_63 (lv_at hl 1 rfl) ?_
            refine lv_iload hx hb dX1_extend_65 (lv_at hl 0 rfl) ?_
            refine lv_ishr hx hb dX1_extend_67 ?_
            refine lv_iconst (v := nI 1) hx hb dX1_extend_68 (by decide) ?_
            refine lv_iand hx hb dX1_extend_69 ?_
            refine lv_if_eq (tgt := 104) hx hb dX1_extend_70 (by decide) (fun c_70 => ?_) (fun c_70 => ?_)
            · have hno : exJ (vw I) cn r pf acc (j + 1) = exJ (vw I) cn r pf acc j := by rw [exJ_s, exS_no ((fa_bt0 (opN_s _ hc20 _ _) (by omega)).mp c_70)]
              refine lv_iinc (v := nI (j + 1)) hx hb dX1_extend_104 hl (k := 0) rfl (nI_1 _) (by decide) rfl (fun ls hl => ?_)
              have hl : lv_has ls 7 [(6, _), (5, _), (0, _), (1, _), (2, _), (3, _)] := hl
              refine lv_goto (tgt := 54) hx hb dX1_extend_107 (by decide) ?_
              exact ih54 (j + 1) _ (by omega) (by omega) (by first | (rw [hyes]; have h9 := hp.1; rw [(ex_9 I1 pf.length (nI j)).vw, hE1.vw] at h9; exact h9) | (rw [hno]; exact hB1)) (by first | exact bg_pop hp.2.1 | exact hG1) (by first | exact (hE1.tr (ex_9 _ _ _)).tr hp.2.2 | exact hE1) _ _ _ h (lv_sub hl [0, 1, 2, 3, 4, 5] rfl)
            · have hbit := bt_nz (opN_s _ hc20 _ _) (by omega) c_70
              refine lv_aload_n hx hb dX1_extend_73 rfl (lv_at hl 2 rfl) ?_
              refine r_get (T := TX1) (N := 7) C0 h _ (by omega) (ce3 k _) hinX1 rfl 6 (by decide) (by decide +kernel) rfl rfl dX1_extend_74 ?_
              rw [hB1.1]
              refine lv_bipush (v := nI 60) hx hb dX1_extend_77 (by decide) ?_
              refine lv_icmp_ge (tgt := 104) hx hb dX1_extend_79 (by decide) (fun c_79 => ?_) (fun c_79 => ?_)
              · have hno : exJ (vw I) cn r pf acc (j + 1) = exJ (vw I) cn r pf acc j := exJ_full (vw I) cn r pf acc (fun q => absurd c_79 (nI_ge q (by omega))) 1
                refine lv_iinc (v := nI (j + 1)) hx hb dX1_extend_104 hl (k := 0) rfl (nI_1 _) (by decide) rfl (fun ls hl => ?_)
                have hl : lv_has ls 7 [(6, _), (5, _), (0, _), (1, _), (2, _), (3, _)] := hl
                refine lv_goto (tgt := 54) hx hb dX1_extend_107 (by decide) ?_
                exact ih54 (j + 1) _ (by omega) (by omega) (by first | (rw [hyes]; have h9 := hp.1; rw [(ex_9 I1 pf.length (nI j)).vw, hE1.vw] at h9; exact h9) | (rw [hno]; exact hB1)) (by first | exact bg_pop hp.2.1 | exact hG1) (by first | exact (hE1.tr (ex_9 _ _ _)).tr hp.2.2 | exact hE1) _ _ _ h (lv_sub hl [0, 1, 2, 3, 4, 5] rfl)
              · have hlt : (exJ (vw I) cn r pf acc j).length < 60 := Nat.lt_of_not_le (fun q => c_79 (nI_le q (by have := hB1.2.1; omega)))
                have hyes : exJ (vw I) cn r pf acc (j + 1) = exF (vw I) cn r (j :: pf) (exJ (vw I) cn r pf acc j) := by rw [exJ_s, exS_yes hlt hbit]
                refine lv_aload_n hx hb dX1_extend_82 rfl (lv_at hl 2 rfl) ?_
                refine r_get (T := TX1) (N := 7) C0 h _ (by omega) (ce3 k _) hinX1 rfl 4 (by decide) (by decide +kernel) rfl rfl dX1_extend_83 ?_
                refine lv_iload_n hx hb dX1_extend_86 rfl (lv_at hl 3 rfl) ?_
                refine lv_iload hx hb dX1_extend_87 (lv_at hl 0 rfl) ?_
                refine r_iast C0 h 9 (by omega) isA_9 _ (by show _ < 6; omega) dX1_extend_89 (fun H locs h => ?_)
                refine lv_aload_n hx hb dX1_extend_90 rfl (lv_at hl 2 rfl) ?_
                refine lv_iload_n hx hb dX1_extend_91 rfl (lv_at hl 3 rfl) ?_
                refine lv_iconst (v := nI 1) hx hb dX1_extend_92 (by decide) ?_
                refine lv_iadd hx hb dX1_extend_93 ?_
                rw [nI_add]
                refine lv_iload_n hx hb dX1_extend_94 rfl (lv_at hl 4 rfl) ?_
                refine lv_iload_n hx hb dX1_extend_95 rfl (lv_at hl 5 rfl) ?_
                refine lv_iconst (v := nI 1) hx hb dX1_extend_96 (by decide) ?_
                refine lv_iload hx hb dX1_extend_97 (lv_at hl 0 rfl) ?_
                refine lv_ishl hx hb dX1_extend_99 ?_
                refine lv_ior hx hb dX1_extend_100 ?_
                rw [us_push pf j (by omega)]
                refine r_cSV C0 h hl.1 (ihr _ (j :: pf) (exJ (vw I) cn r pf acc j) (by simp; omega) (by simp) (fun b hb => by rcases List.mem_cons.mp hb with q | q; (rw [q]; exact hjc); exact hpf b q) (hS1.ex (ex_9 _ _ _)) (bk_9 hB1 _ _) (bg_push hG1)) gX1_extend_X1_extend rfl (by decide +kernel) (n := 4) ⟨Nat.le_refl _, by show _ ≤ 64 * (d + 1); omega⟩ ⟨Nat.zero_le _, Nat.zero_le _⟩ (Nat.le_of_ble_eq_true rfl) rfl rfl dX1_extend_101 (fun I101 H locs hp h => ?_)
                -- extended
                refine lv_iinc (v := nI (j + 1)) hx hb dX1_extend_104 hl (k := 0) rfl (nI_1 _) (by decide) rfl (fun ls hl => ?_)
                have hl : lv_has ls 7 [(6, _), (5, _), (0, _), (1, _), (2, _), (3, _)] := hl
                refine lv_goto (tgt := 54) hx hb dX1_extend_107 (by decide) ?_
                exact ih54 (j + 1) _ (by omega) (by omega) (by first | (rw [hyes]; have h9 := hp.1; rw [(ex_9 I1 pf.length (nI j)).vw, hE1.vw] at h9; exact h9) | (rw [hno]; exact hB1)) (by first | exact bg_pop hp.2.1 | exact hG1) (by first | exact (hE1.tr (ex_9 _ _ _)).tr hp.2.2 | exact hE1) _ _ _ h (lv_sub hl [0, 1, 2, 3, 4, 5] rfl)
      exact key54 100 0 _ (by omega) (by omega) (by rw [exJ_0]; exact hB) hG ExP.rf _ _ _ h (lv_sub hl [0, 1, 3, 4, 5, 6] rfl)
    · exact absurd (nI_lt (by omega) (by omega) : nI pf.length < nI 6) c_8
theorem ct_X1_extend (l : Launch) (k : Sk) (M : Nat) (hJ : Ij k M) (cn ln : Nat) (hc20 : cn ≤ 20) (hl6 : ln ≤ 6) : ∀ (r d : Nat) (I : IS) (pf : List Nat) (acc : List (List Nat)), r + 3 ≤ d → pf.length + r = ln → 1 ≤ pf.length → (∀ b, b ∈ pf → b < cn) → SvH I cn → BkH I acc → BgH I pf → MtV l yX1_extend wsX1_extend d [.ref (k.2.1 3), .int (nI pf.length), .int (nI ln), .int (nI (usN pf))] k M I (fun I' => BkH I' (exF (vw I) cn r pf acc) ∧ BgH I' pf ∧ ExP I I') := by
  intro r
  induction r with
  | zero =>
    intro d I pf acc hd hpl hp1 hpf hS hB hG
    exact ct_X1_extend0 l k M I hJ d hd cn ln pf acc hc20 hpl hp1 hl6 hpf hS hB hG
  | succ r ih =>
    intro d I pf acc hd hpl hp1 hpf hS hB hG
    obtain ⟨d, rfl⟩ : ∃ d', d = d' + 1 := ⟨d - 1, by omega⟩
    exact ct_X1_extendS l k M I hJ r d cn ln pf acc hc20 hpl hp1 hl6 hpf hS hB hG (fun I1 pf1 acc1 h1 h2 h3 h4 h5 h6 => ih d I1 pf1 acc1 (by omega) h1 h2 h3 h4 h5 h6)
set_option maxHeartbeats 4000000 in
set_option maxRecDepth 100000 in
theorem ct_X1_findChainsOf (l : Launch) (k : Sk) (M : Nat) (I : IS) (hJ : Ij k M) (cn a : Nat) (ha : a < cn) (hc20 : cn ≤ 20) (hS : SvH I cn) : MtV l yX1_findChainsOf wsX1_findChainsOf 10 [.ref (k.2.1 3), .int (nI a)] k M I (fun I' => BkH I' (chs (vw I) cn a) ∧ ExP I I') := by
  refine mtV_of (cc := cX1_findChainsOf) (maxL := 3) hJ (by decide) rfl (Nat.le_of_ble_eq_true rfl) ?_
  intro p e s m args below meth c A ls C0 h hr hl
  have hx := C0.1.1
  have hb := C0.1.2.1
  have hown := C0.1.2.2.2.1
  have hts := C0.1.2.2.2.2
  have hM := hJ.1
  have hl : lv_has ls 3 [(0, _), (1, _)] := hl
  have hinX1 : ∀ w ∈ u_ws RX1 TX1 7, w ∈ wsX1_findChainsOf := by decide +kernel
  refine lv_aload_n hx hb dX1_findChainsOf_0 rfl (lv_at hl 0 rfl) ?_
  refine lv_iconst (v := nI 0) hx hb dX1_findChainsOf_1 (by decide) ?_
  refine r_put (T := TX1) (N := 7) (ty0 := tyX1) C0 h _ (by omega) (ce3 k _) hinX1 tyX1_ok nmX1 rfl 6 (by decide) (by decide +kernel) rfl rfl rfl rfl (Nat.le_of_ble_eq_true rfl) (ce3 k _) dX1_findChainsOf_2 (fun H locs h => ?_)
  refine lv_aload_n hx hb dX1_findChainsOf_5 rfl (lv_at hl 0 rfl) ?_
  refine r_get (T := TX1) (N := 7) C0 h _ (by omega) (ce3 k _) hinX1 rfl 4 (by decide) (by decide +kernel) rfl rfl dX1_findChainsOf_6 ?_
  refine lv_iconst (v := nI 0) hx hb dX1_findChainsOf_9 (by decide) ?_
  refine lv_iload_n hx hb dX1_findChainsOf_10 rfl (lv_at hl 1 rfl) ?_
  refine r_iast C0 h 9 (by omega) isA_9 _ (by decide) dX1_findChainsOf_11 (fun H locs h => ?_)
  refine lv_iconst (v := nI 1) hx hb dX1_findChainsOf_12 (by decide) ?_
  refine lv_istore_n hx hb dX1_findChainsOf_13 rfl hl (by decide) rfl (fun ls hl => ?_)
  have hl : lv_has ls 3 [(2, _), (0, _), (1, _)] := hl
  have key14 : ∀ (n : Nat) (sn : Nat) (I1 : IS), 7 - sn < n → sn ≤ 6 → BkH I1 (chJ (vw I) cn a sn) → BgH I1 [a] → ExP I I1 → ∀ (H : Heap) (locs : List Loc) (ls : Array Slot), HX k M A s I1 H locs → lv_has ls 3 [(2, .int (nI (sn + 1))), (0, .ref (k.2.1 3)), (1, .int (nI a))] → W p l e (Rm 10) s m args below meth c H locs 0 0 (MQ below (va_Qv (fun I' => BkH I' (chs (vw I) cn a) ∧ ExP I I') (EnX k M) A) args s 0 0 A) (F0 m 14 ls []) := by
    intro n
    induction n with
    | zero =>
      intro sn I1 hn14 hs6 hB1 hG1 hE1 H locs ls h hl
      exact absurd hn14 (Nat.not_lt_zero _)
    | succ n ih14 =>
      intro sn I1 hn14 hs6 hB1 hG1 hE1 H locs ls h hl
      have hS1 := hS.ex hE1
      refine lv_iload_n hx hb dX1_findChainsOf_14 rfl (lv_at hl 0 rfl) ?_
      refine lv_bipush (v := nI 6) hx hb dX1_findChainsOf_15 (by decide) ?_
      refine lv_icmp_gt (tgt := 50) hx hb dX1_findChainsOf_17 (by decide) (fun c_17 => ?_) (fun c_17 => ?_)
      · have hs : sn = 6 := by have := (nI_ltI (by omega) (by omega)).mp c_17; omega
        exact r_vret C0 h hr dX1_findChainsOf_50 ⟨by rw [hs] at hB1; exact hB1, hE1⟩
      · have hs : sn < 6 := by have h9 : ¬ 6 < sn + 1 := fun q => c_17 (nI_lt q (by omega)); omega
        refine lv_aload_n hx hb dX1_findChainsOf_20 rfl (lv_at hl 1 rfl) ?_
        refine r_get (T := TX1) (N := 7) C0 h _ (by omega) (ce3 k _) hinX1 rfl 1 (by decide) (by decide +kernel) rfl rfl dX1_findChainsOf_21 ?_
        refine lv_iload_n hx hb dX1_findChainsOf_24 rfl (lv_at hl 0 rfl) ?_
        refine lv_iconst (v := nI 1) hx hb dX1_findChainsOf_25 (by decide) ?_
        refine lv_isub hx hb dX1_findChainsOf_26 ?_
        rw [pk_sub (by omega), Nat.add_sub_cancel]
        refine r_iald C0 h 6 (by omega) isA_6 _ (by show _ < 6; omega) dX1_findChainsOf_27 ?_
        rw [hS1.2.2 sn hs, hE1.vw]
        refine lv_iload_n hx hb dX1_findChainsOf_28 rfl (lv_at hl 2 rfl) ?_
        refine lv_ishr hx hb dX1_findChainsOf_29 ?_
        refine lv_iconst (v := nI 1) hx hb dX1_findChainsOf_30 (by decide) ?_
        refine lv_iand hx hb dX1_findChainsOf_31 ?_
        refine lv_if_eq (tgt := 44) hx hb dX1_findChainsOf_32 (by decide) (fun c_32 => ?_) (fun c_32 => ?_)
        · have hbit : (wyN (vw I) cn sn).testBit a = false := (fa_bt0 (wyN_s _ hc20 _) (by omega)).mp c_32
          refine lv_iinc (v := nI (sn + 1 + 1)) hx hb dX1_findChainsOf_44 hl (k := 0) rfl (nI_1 _) (by decide) rfl (fun ls hl => ?_)
          have hl : lv_has ls 3 [(2, _), (0, _), (1, _)] := hl
          refine lv_goto (tgt := 14) hx hb dX1_findChainsOf_47 (by decide) ?_
          exact ih14 (sn + 1) _ (by omega) (by omega) (by first | (rw [chJ_yes hbit]; have h9 := hp.1; rw [hE1.vw] at h9; exact h9) | (rw [chJ_no hbit]; exact hB1)) (by first | exact hp.2.1 | exact hG1) (by first | exact hE1.tr hp.2.2 | exact hE1) _ _ _ h (lv_sub hl [0, 1, 2] rfl)
        · have hbit : (wyN (vw I) cn sn).testBit a = true := bt_nz (wyN_s _ hc20 _) (by omega) c_32
          refine lv_aload_n hx hb dX1_findChainsOf_35 rfl (lv_at hl 1 rfl) ?_
          refine lv_iconst (v := nI 1) hx hb dX1_findChainsOf_36 (by decide) ?_
          refine lv_iload_n hx hb dX1_findChainsOf_37 rfl (lv_at hl 0 rfl) ?_
          refine lv_iconst (v := nI 1) hx hb dX1_findChainsOf_38 (by decide) ?_
          refine lv_iload_n hx hb dX1_findChainsOf_39 rfl (lv_at hl 2 rfl) ?_
          refine lv_ishl hx hb dX1_findChainsOf_40 ?_
          rw [fa_1s (by omega), us1]
          refine r_cSV C0 h hl.1 (ct_X1_extend l k M hJ cn (sn + 1) hc20 (by omega) sn 9 _ [a] (chJ (vw I) cn a sn) (by omega) (by simp; omega) (by simp) (fun b hb => by rw [List.mem_singleton.mp hb]; exact ha) hS1 hB1 hG1) gX1_findChainsOf_X1_extend rfl (by decide +kernel) (n := 4) ⟨Nat.le_of_ble_eq_true rfl, Nat.le_of_ble_eq_true rfl⟩ ⟨Nat.zero_le _, Nat.zero_le _⟩ (Nat.le_of_ble_eq_true rfl) rfl rfl dX1_findChainsOf_41 (fun I41 H locs hp h => ?_)
          -- extended
          refine lv_iinc (v := nI (sn + 1 + 1)) hx hb dX1_findChainsOf_44 hl (k := 0) rfl (nI_1 _) (by decide) rfl (fun ls hl => ?_)
          have hl : lv_has ls 3 [(2, _), (0, _), (1, _)] := hl
          refine lv_goto (tgt := 14) hx hb dX1_findChainsOf_47 (by decide) ?_
          exact ih14 (sn + 1) _ (by omega) (by omega) (by first | (rw [chJ_yes hbit]; have h9 := hp.1; rw [hE1.vw] at h9; exact h9) | (rw [chJ_no hbit]; exact hB1)) (by first | exact hp.2.1 | exact hG1) (by first | exact hE1.tr hp.2.2 | exact hE1) _ _ _ h (lv_sub hl [0, 1, 2] rfl)
  exact key14 100 0 _ (by omega) (by omega) (by refine ⟨?_, Nat.zero_le _, fun c hc => absurd hc (Nat.not_lt_zero _)⟩; rw [up2_n _ _ _ _ (by decide), up2_s]; rfl) (fun q hq => by (obtain rfl : q = 0 := (by simp at hq; exact hq)); rw [up2_s]; rfl) (fun n q a b c d => by rw [up2_n _ _ _ _ c]; by_cases h9 : n = 3; (subst h9; rw [up2_f _ _ _ _ (fun z => a ⟨rfl, z⟩)]); rw [up2_n _ _ _ _ h9]) _ _ _ h (lv_sub hl [0, 1, 2] rfl)
