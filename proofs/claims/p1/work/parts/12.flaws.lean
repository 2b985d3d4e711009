/-! 12: flaws and verdicts -/
set_option maxHeartbeats 4000000 in
set_option maxRecDepth 100000 in
theorem ct_X3_isCalledBack (l : Launch) (k : Sk) (M : Nat) (I : IS) (hJ : Ij k M) (cn : Nat) (hc20 : cn ≤ 20) (hcn : I 0 4 = nI cn) (lcn : Nat) (hl8 : lcn ≤ 8) (hlcn : I 0 5 = nI lcn) (hsg : SgH I lcn) (hst : ∃ b, I 0 6 = bI b) (a : Nat) (ha : a < 20) (ob : Option Nat) (hob : ∀ b, ob = some b → b < cn) (t : Int32) : MtI l yX3_isCalledBack wsX3_isCalledBack 2 [.ref (k.2.1 0), .ref (k.2.1 (10 + a)), .int (opI ob), .int t] k M I (fun r I' => r = bI (cbB (vw I) lcn a ob t) ∧ I' = I) := by
  refine mtIz_of (cc := cX3_isCalledBack) (maxL := 6) hJ (by decide) rfl (Nat.le_of_ble_eq_true rfl) ?_
  intro p e s m args below meth c A ls C0 h hr hl
  have hx := C0.1.1
  have hb := C0.1.2.1
  have hown := C0.1.2.2.2.1
  have hts := C0.1.2.2.2.2
  have hM := hJ.1
  have hl : lv_has ls 6 [(0, _), (1, _), (2, _), (3, _)] := hl
  have hinX0 : ∀ w ∈ u_ws RX0 TX0 6, w ∈ wsX3_isCalledBack := by decide +kernel
  have hinX2 : ∀ w ∈ u_ws RX2 TX2 12, w ∈ wsX3_isCalledBack := by decide +kernel
  have hinX3 : ∀ w ∈ u_ws RX3 TX3 7, w ∈ wsX3_isCalledBack := by decide +kernel
  have hvL : vw I (10 + a) = I (10 + a) := vw_L I ha
  refine lv_aload_n hx hb dX3_isCalledBack_0 rfl (lv_at hl 1 rfl) ?_
  refine r_getN (T := TX2) (N := 12) C0 h _ (by omega) (ceL k _ (by omega)) hinX2 rfl 11 (by decide) (by decide +kernel) rfl rfl dX3_isCalledBack_1 ?_
  refine lv_if_ne (tgt := 15) hx hb dX3_isCalledBack_4 (by decide) (fun c_4 => ?_) (fun c_4 => ?_)
  · have hanc : ¬ vw I (10 + a) 11 = 0 := by rw [hvL]; exact c_4
    refine lv_iconst (v := nI 0) hx hb dX3_isCalledBack_15 (by decide) ?_
    exact r_zret C0 h hr dX3_isCalledBack_16 (by first | exact zb1 | exact zb0 | exact hst) ⟨by first | rw [cb_anc _ _ hanc]; rfl | rw [hnone, cb_none]; rfl, rfl⟩
  · have hanc : vw I (10 + a) 11 = 0 := by rw [hvL]; exact c_4
    refine lv_aload_n hx hb dX3_isCalledBack_7 rfl (lv_at hl 0 rfl) ?_
    refine lv_iload_n hx hb dX3_isCalledBack_8 rfl (lv_at hl 2 rfl) ?_
    refine r_cVI C0 h hl.1 _ (by omega) (ce0 k _) rfl (ct_X3_isLetter l k M _ hJ cn hcn _) gX3_isCalledBack_X3_isLetter rfl (by decide +kernel) (n := 1) ⟨Nat.le_of_ble_eq_true rfl, Nat.le_of_ble_eq_true rfl⟩ ⟨Nat.zero_le _, Nat.zero_le _⟩ (Nat.le_of_ble_eq_true rfl) rfl rfl dX3_isCalledBack_9 (fun r9 I9 H locs hp h => ?_)
    obtain ⟨rfl, hI9⟩ := hp
    rw [hI9] at h
    refine lv_if_ne (tgt := 17) hx hb dX3_isCalledBack_12 (by decide) (fun c_12 => ?_) (fun c_12 => ?_)
    · have hb9 : ∃ b9, ob = some b9 := by
        cases ob with
        | none => exact absurd (show bI (isLt cn (-1)) = 0 by rw [isLt_m1]; rfl) c_12
        | some b9 => exact ⟨b9, rfl⟩
      obtain ⟨b9, hob9⟩ := hb9
      have hb9c := hob b9 hob9
      have hvb : vw I (10 + b9) = I (10 + b9) := vw_L I (by omega)
      rw [hob9] at hl
      refine lv_aload_n hx hb dX3_isCalledBack_17 rfl (lv_at hl 0 rfl) ?_
      refine lv_aload_n hx hb dX3_isCalledBack_18 rfl (lv_at hl 1 rfl) ?_
      refine r_getN (T := TX2) (N := 12) C0 h _ (by omega) (ceL k _ (by omega)) hinX2 rfl 1 (by decide) (by decide +kernel) rfl rfl dX3_isCalledBack_19 ?_
      refine lv_aload_n hx hb dX3_isCalledBack_22 rfl (lv_at hl 0 rfl) ?_
      refine r_get (T := TX3) (N := 7) C0 h _ (by omega) (ce0 k _) hinX3 rfl 0 (by decide) (by decide +kernel) rfl rfl dX3_isCalledBack_23 ?_
      refine lv_iload_n hx hb dX3_isCalledBack_26 rfl (lv_at hl 2 rfl) ?_
      refine r_aaldL C0 h _ (by omega) dX3_isCalledBack_27 ?_
      refine r_getN (T := TX2) (N := 12) C0 h _ (by omega) (ceL k _ (by omega)) hinX2 rfl 2 (by decide) (by decide +kernel) rfl rfl dX3_isCalledBack_28 ?_
      refine lv_iload_n hx hb dX3_isCalledBack_31 rfl (lv_at hl 3 rfl) ?_
      refine r_cVI C0 h hl.1 _ (by omega) (ce0 k _) rfl (ct_X3_latestList l k M _ hJ lcn hl8 hlcn hsg _ _ _) gX3_isCalledBack_X3_latestList rfl (by decide +kernel) (n := 3) ⟨Nat.le_of_ble_eq_true rfl, Nat.le_of_ble_eq_true rfl⟩ ⟨Nat.zero_le _, Nat.zero_le _⟩ (Nat.le_of_ble_eq_true rfl) rfl rfl dX3_isCalledBack_32 (fun r32 I32 H locs hp h => ?_)
      obtain ⟨rfl, hI32⟩ := hp
      rw [hI32] at h
      refine lv_istore hx hb dX3_isCalledBack_35 hl (by decide) rfl (fun ls hl => ?_)
      have hl : lv_has ls 6 [(4, _), (0, _), (1, _), (2, _), (3, _)] := hl
      refine lv_iload hx hb dX3_isCalledBack_37 (lv_at hl 0 rfl) ?_
      refine lv_iconst (v := (-1)) hx hb dX3_isCalledBack_39 (by decide) ?_
      refine lv_icmp_ne (tgt := 48) hx hb dX3_isCalledBack_40 (by decide) (fun c_40 => ?_) (fun c_40 => ?_)
      · have hj9 : ∃ j9, (ltF (vw I) (I (10 + a) 1) (I (10 + b9) 2) t lcn).1 = some j9 := by
          cases hq : (ltF (vw I) (I (10 + a) 1) (I (10 + b9) 2) t lcn).1 with
          | none => rw [hq] at c_40; exact absurd rfl c_40
          | some j9 => exact ⟨j9, rfl⟩
        obtain ⟨j9, hj9⟩ := hj9
        have hj9l := ltF_lt _ _ _ _ _ _ hj9
        rw [hj9] at hl
        rw [← hvL, ← hvb] at hj9
        refine lv_aload_n hx hb dX3_isCalledBack_48 rfl (lv_at hl 1 rfl) ?_
        refine r_get (T := TX3) (N := 7) C0 h _ (by omega) (ce0 k _) hinX3 rfl 1 (by decide) (by decide +kernel) rfl rfl dX3_isCalledBack_49 ?_
        refine lv_iload hx hb dX3_isCalledBack_52 (lv_at hl 0 rfl) ?_
        refine r_aaldC C0 h _ (by omega) dX3_isCalledBack_54 ?_
        refine lv_astore hx hb dX3_isCalledBack_55 hl (by decide) rfl (fun ls hl => ?_)
        have hl : lv_has ls 6 [(5, _), (4, _), (0, _), (1, _), (2, _), (3, _)] := hl
        refine lv_aload hx hb dX3_isCalledBack_57 (lv_at hl 0 rfl) ?_
        refine lv_aload_n hx hb dX3_isCalledBack_59 rfl (lv_at hl 3 rfl) ?_
        refine r_getN (T := TX2) (N := 12) C0 h _ (by omega) (ceL k _ (by omega)) hinX2 rfl 3 (by decide) (by decide +kernel) rfl rfl dX3_isCalledBack_60 ?_
        refine r_cVNI C0 h hl.1 _ (by omega) (ceC k _ (by omega)) rfl (ct_X0_hasSerial l k M _ hJ _ (by omega) _) gX3_isCalledBack_X0_hasSerial_n266 rfl (by decide +kernel) (by decide +kernel) (by decide +kernel) (by decide +kernel) (by decide +kernel) (n := 1) ⟨Nat.le_of_ble_eq_true rfl, Nat.le_of_ble_eq_true rfl⟩ ⟨Nat.zero_le _, Nat.zero_le _⟩ (Nat.le_of_ble_eq_true rfl) rfl rfl dX3_isCalledBack_63 (fun r63 I63 H locs hp h => ?_)
        obtain ⟨rfl, hI63⟩ := hp
        rw [hI63] at h
        refine lv_if_ne (tgt := 85) hx hb dX3_isCalledBack_66 (by decide) (fun c_66 => ?_) (fun c_66 => ?_)
        · have hs : ¬ (I (30 + j9) 3 >>> (I (10 + a) 3 &&& 31)) &&& nI 1 = 0 := of_decide_eq_true (bI_nz c_66)
          refine lv_iconst (v := nI 1) hx hb dX3_isCalledBack_85 (by decide) ?_
          refine lv_goto (tgt := 90) hx hb dX3_isCalledBack_86 (by decide) ?_
          exact r_zret C0 h hr dX3_isCalledBack_90 (by first | exact zb1 | exact zb0 | exact hst) ⟨by rw [hob9, cb_at hanc hj9, vw_0, vwC_ I (j := j9) (q := 3) (by omega) (by decide), vwC_ I (j := j9) (q := 2) (by omega) (by decide), hvL]; first | (rw [if_neg hs]; rfl) | (rw [if_pos hs, c_73]; rfl) | (rw [if_pos hs, decide_eq_true c_73, decide_eq_true (fa_nle c_82)]; rfl) | (rw [if_pos hs, decide_eq_true c_73, decide_eq_false (fa_ge c_82)]; rfl), rfl⟩
        · have hs : (I (30 + j9) 3 >>> (I (10 + a) 3 &&& 31)) &&& nI 1 = 0 := Classical.not_not.mp (of_decide_eq_false (bI_z c_66))
          refine lv_aload_n hx hb dX3_isCalledBack_69 rfl (lv_at hl 2 rfl) ?_
          refine r_get (T := TX3) (N := 7) C0 h _ (by omega) (ce0 k _) hinX3 rfl 6 (by decide) (by decide +kernel) rfl rfl dX3_isCalledBack_70 ?_
          refine lv_if_eq (tgt := 89) hx hb dX3_isCalledBack_73 (by decide) (fun c_73 => ?_) (fun c_73 => ?_)
          · refine lv_iconst (v := nI 0) hx hb dX3_isCalledBack_89 (by decide) ?_
            exact r_zret C0 h hr dX3_isCalledBack_90 (by first | exact zb1 | exact zb0 | exact hst) ⟨by rw [hob9, cb_at hanc hj9, vw_0, vwC_ I (j := j9) (q := 3) (by omega) (by decide), vwC_ I (j := j9) (q := 2) (by omega) (by decide), hvL]; first | (rw [if_neg hs]; rfl) | (rw [if_pos hs, c_73]; rfl) | (rw [if_pos hs, decide_eq_true c_73, decide_eq_true (fa_nle c_82)]; rfl) | (rw [if_pos hs, decide_eq_true c_73, decide_eq_false (fa_ge c_82)]; rfl), rfl⟩
          · refine lv_iload_n hx hb dX3_isCalledBack_76 rfl (lv_at hl 5 rfl) ?_
            refine lv_aload hx hb dX3_isCalledBack_77 (lv_at hl 0 rfl) ?_
            refine r_getN (T := TX0) (N := 6) C0 h _ (by omega) (ceC k _ (by omega)) hinX0 rfl 2 (by decide) (by decide +kernel) rfl rfl dX3_isCalledBack_79 ?_
            refine lv_icmp_le (tgt := 89) hx hb dX3_isCalledBack_82 (by decide) (fun c_82 => ?_) (fun c_82 => ?_)
            · refine lv_iconst (v := nI 0) hx hb dX3_isCalledBack_89 (by decide) ?_
              exact r_zret C0 h hr dX3_isCalledBack_90 (by first | exact zb1 | exact zb0 | exact hst) ⟨by rw [hob9, cb_at hanc hj9, vw_0, vwC_ I (j := j9) (q := 3) (by omega) (by decide), vwC_ I (j := j9) (q := 2) (by omega) (by decide), hvL]; first | (rw [if_neg hs]; rfl) | (rw [if_pos hs, c_73]; rfl) | (rw [if_pos hs, decide_eq_true c_73, decide_eq_true (fa_nle c_82)]; rfl) | (rw [if_pos hs, decide_eq_true c_73, decide_eq_false (fa_ge c_82)]; rfl), rfl⟩
            · refine lv_iconst (v := nI 1) hx hb dX3_isCalledBack_85 (by decide) ?_
              refine lv_goto (tgt := 90) hx hb dX3_isCalledBack_86 (by decide) ?_
              exact r_zret C0 h hr dX3_isCalledBack_90 (by first | exact zb1 | exact zb0 | exact hst) ⟨by rw [hob9, cb_at hanc hj9, vw_0, vwC_ I (j := j9) (q := 3) (by omega) (by decide), vwC_ I (j := j9) (q := 2) (by omega) (by decide), hvL]; first | (rw [if_neg hs]; rfl) | (rw [if_pos hs, c_73]; rfl) | (rw [if_pos hs, decide_eq_true c_73, decide_eq_true (fa_nle c_82)]; rfl) | (rw [if_pos hs, decide_eq_true c_73, decide_eq_false (fa_ge c_82)]; rfl), rfl⟩
      · have hno : (ltF (vw I) (I (10 + a) 1) (I (10 + b9) 2) t lcn).1 = none := (opI_m1 (fun j9 h9 => by have := ltF_lt _ _ _ _ _ _ h9; omega)).mp c_40
        rw [← hvL, ← hvb] at hno
        refine lv_aload_n hx hb dX3_isCalledBack_43 rfl (lv_at hl 1 rfl) ?_
        refine r_get (T := TX3) (N := 7) C0 h _ (by omega) (ce0 k _) hinX3 rfl 6 (by decide) (by decide +kernel) rfl rfl dX3_isCalledBack_44 ?_
        exact r_zret C0 h hr dX3_isCalledBack_47 (by first | exact zb1 | exact zb0 | exact hst) ⟨by obtain ⟨b0, hb0⟩ := hst; rw [hob9, cb_no hanc hno, vw_0, hb0]; cases b0 <;> rfl, rfl⟩
    · have hnone : ob = none := by
        cases ob with
        | none => rfl
        | some b9 => rw [show opI (some b9) = nI b9 from rfl, isLt_at (hob b9 rfl) (by omega)] at c_12; exact absurd c_12 (by decide)
      refine lv_iconst (v := nI 0) hx hb dX3_isCalledBack_15 (by decide) ?_
      exact r_zret C0 h hr dX3_isCalledBack_16 (by first | exact zb1 | exact zb0 | exact hst) ⟨by first | rw [cb_anc _ _ hanc]; rfl | rw [hnone, cb_none]; rfl, rfl⟩
set_option maxHeartbeats 4000000 in
set_option maxRecDepth 100000 in
theorem ct_X3_flawAsBacker (l : Launch) (k : Sk) (M : Nat) (I : IS) (hJ : Ij k M) (cn : Nat) (hc20 : cn ≤ 20) (hcn : I 0 4 = nI cn) (acc : List (List Nat)) (hB : BkH I acc) (hO : AcO acc cn) (a : Nat) (ha : a < 20) (cx q : Nat) (hq : q < (gtC acc cx).length) : MtI l yX3_flawAsBacker wsX3_flawAsBacker 2 [.ref (k.2.1 0), .ref (k.2.1 (10 + a)), .int (nI cx), .int (nI q)] k M I (fun r I' => r = fbF (vw I) (gtC acc cx) a q ∧ I' = I) := by
  refine mtI_of (cc := cX3_flawAsBacker) (maxL := 6) hJ (by decide) rfl (Nat.le_of_ble_eq_true rfl) ?_
  intro p e s m args below meth c A ls C0 h hr hl
  have hx := C0.1.1
  have hb := C0.1.2.1
  have hown := C0.1.2.2.2.1
  have hts := C0.1.2.2.2.2
  have hM := hJ.1
  have hl : lv_has ls 6 [(0, _), (1, _), (2, _), (3, _)] := hl
  have hinX2 : ∀ w ∈ u_ws RX2 TX2 12, w ∈ wsX3_flawAsBacker := by decide +kernel
  have hinX3 : ∀ w ∈ u_ws RX3 TX3 7, w ∈ wsX3_flawAsBacker := by decide +kernel
  have hvL : vw I (10 + a) = I (10 + a) := vw_L I ha
  have hcx := gt_in hq
  have hB6 := hB.2.1
  have hq6 := (hB.2.2 cx hcx).2.1
  have hmem : ∀ r, r < (gtC acc cx).length → gtN (gtC acc cx) r < cn := fun r hr => hO cx hcx _ (gtN_mem hr)
  refine lv_aload_n hx hb dX3_flawAsBacker_0 rfl (lv_at hl 1 rfl) ?_
  refine r_getN (T := TX2) (N := 12) C0 h _ (by omega) (ceL k _ (by omega)) hinX2 rfl 6 (by decide) (by decide +kernel) rfl rfl dX3_flawAsBacker_1 ?_
  refine lv_if_ne (tgt := 9) hx hb dX3_flawAsBacker_4 (by decide) (fun c_4 => ?_) (fun c_4 => ?_)
  · refine lv_aload_n hx hb dX3_flawAsBacker_9 rfl (lv_at hl 1 rfl) ?_
    refine r_getN (T := TX2) (N := 12) C0 h _ (by omega) (ceL k _ (by omega)) hinX2 rfl 7 (by decide) (by decide +kernel) rfl rfl dX3_flawAsBacker_10 ?_
    refine lv_iload_n hx hb dX3_flawAsBacker_13 rfl (lv_at hl 3 rfl) ?_
    refine lv_iconst (v := nI 1) hx hb dX3_flawAsBacker_14 (by decide) ?_
    refine lv_isub hx hb dX3_flawAsBacker_15 ?_
    refine lv_icmp_ge (tgt := 21) hx hb dX3_flawAsBacker_16 (by decide) (fun c_16 => ?_) (fun c_16 => ?_)
    · refine lv_iconst (v := nI 0) hx hb dX3_flawAsBacker_21 (by decide) ?_
      refine lv_istore hx hb dX3_flawAsBacker_22 hl (by decide) rfl (fun ls hl => ?_)
      have hl : lv_has ls 6 [(4, _), (0, _), (1, _), (2, _), (3, _)] := hl
      have key24 : ∀ (n : Nat) (j : Nat), 7 - j < n → j ≤ q → (∀ r, r < j → (!isUn (vw I (10 + gtN (gtC acc cx) r) 0) (vw I (10 + a) 9)) = false) → ∀ (H : Heap) (locs : List Loc) (ls : Array Slot), HX k M A s I H locs → lv_has ls 6 [(4, .int (nI j)), (0, .ref (k.2.1 0)), (1, .ref (k.2.1 (10 + a))), (2, .int (nI cx)), (3, .int (nI q))] → W p l e (Rm 2) s m args below meth c H locs 0 0 (MQ below (va_Qi (fun r I' => r = fbF (vw I) (gtC acc cx) a q ∧ I' = I) (EnX k M) A) args s 0 0 A) (F0 m 24 ls []) := by
        intro n
        induction n with
        | zero =>
          intro j hn hj hall H locs ls h hl
          exact absurd hn (Nat.not_lt_zero _)
        | succ n ih24 =>
          intro j hn hj hall H locs ls h hl
          refine lv_iload hx hb dX3_flawAsBacker_24 (lv_at hl 0 rfl) ?_
          refine lv_iload_n hx hb dX3_flawAsBacker_26 rfl (lv_at hl 4 rfl) ?_
          refine lv_icmp_ge (tgt := 80) hx hb dX3_flawAsBacker_27 (by decide) (fun c_27 => ?_) (fun c_27 => ?_)
          · have hjq : j = q := by have := (nI_leI (by omega) (by omega)).mp c_27; omega
            refine lv_iconst (v := nI 0) hx hb dX3_flawAsBacker_80 (by decide) ?_
            exact r_iret C0 h hr dX3_flawAsBacker_81 ⟨by rw [fbF, hvL, if_neg c_4, if_neg (fa_ge c_16), obF, fdF_no (by rw [← hjq]; exact hall)]; rfl, rfl⟩
          · have hjq : j < q := Nat.lt_of_not_le (fun z => c_27 (nI_le z (by omega)))
            have hml := hmem j (by omega)
            have hm20 : gtN (gtC acc cx) j < 20 := by omega
            refine lv_aload_n hx hb dX3_flawAsBacker_30 rfl (lv_at hl 1 rfl) ?_
            refine r_get (T := TX3) (N := 7) C0 h _ (by omega) (ce0 k _) hinX3 rfl 2 (by decide) (by decide +kernel) rfl rfl dX3_flawAsBacker_31 ?_
            refine lv_iload_n hx hb dX3_flawAsBacker_34 rfl (lv_at hl 3 rfl) ?_
            refine lv_iload hx hb dX3_flawAsBacker_35 (lv_at hl 0 rfl) ?_
            refine r_cVNI C0 h hl.1 _ (by omega) (ce3 k _) rfl (ct_X1_member l k M _ hJ acc cx (nI j) (by omega) hB) gX3_flawAsBacker_X1_member_n174 rfl (by decide +kernel) (by decide +kernel) (by decide +kernel) (by decide +kernel) (by decide +kernel) (n := 2) ⟨Nat.le_of_ble_eq_true rfl, Nat.le_of_ble_eq_true rfl⟩ ⟨Nat.zero_le _, Nat.zero_le _⟩ (Nat.le_of_ble_eq_true rfl) rfl rfl dX3_flawAsBacker_37 (fun r37 I37 H locs hp h => ?_)
            obtain ⟨rfl, hI37⟩ := hp
            rw [hI37] at h
            rw [mbI_at (by omega) (by omega)]
            refine lv_istore hx hb dX3_flawAsBacker_40 hl (by decide) rfl (fun ls hl => ?_)
            have hl : lv_has ls 6 [(5, _), (4, _), (0, _), (1, _), (2, _), (3, _)] := hl
            refine lv_aload_n hx hb dX3_flawAsBacker_42 rfl (lv_at hl 2 rfl) ?_
            refine lv_iload hx hb dX3_flawAsBacker_43 (lv_at hl 0 rfl) ?_
            refine r_cVI C0 h hl.1 _ (by omega) (ce0 k _) rfl (ct_X3_isLetter l k M _ hJ cn hcn _) gX3_flawAsBacker_X3_isLetter rfl (by decide +kernel) (n := 1) ⟨Nat.le_of_ble_eq_true rfl, Nat.le_of_ble_eq_true rfl⟩ ⟨Nat.zero_le _, Nat.zero_le _⟩ (Nat.le_of_ble_eq_true rfl) rfl rfl dX3_flawAsBacker_45 (fun r45 I45 H locs hp h => ?_)
            obtain ⟨rfl, hI45⟩ := hp
            rw [hI45] at h
            refine lv_if_eq (tgt := 74) hx hb dX3_flawAsBacker_48 (by decide) (fun c_48 => ?_) (fun c_48 => ?_)
            · exact absurd (show ¬ bI (isLt cn (nI (gtN (gtC acc cx) j))) = 0 by rw [isLt_at hml (by omega)]; decide) (fun z => z c_48)
            · refine lv_aload_n hx hb dX3_flawAsBacker_51 rfl (lv_at hl 2 rfl) ?_
              refine r_get (T := TX3) (N := 7) C0 h _ (by omega) (ce0 k _) hinX3 rfl 0 (by decide) (by decide +kernel) rfl rfl dX3_flawAsBacker_52 ?_
              refine lv_iload hx hb dX3_flawAsBacker_55 (lv_at hl 0 rfl) ?_
              refine r_aaldL C0 h _ (by omega) dX3_flawAsBacker_57 ?_
              refine r_getN (T := TX2) (N := 12) C0 h _ (by omega) (ceL k _ (by omega)) hinX2 rfl 0 (by decide) (by decide +kernel) rfl rfl dX3_flawAsBacker_58 ?_
              refine lv_aload_n hx hb dX3_flawAsBacker_61 rfl (lv_at hl 3 rfl) ?_
              refine r_getN (T := TX2) (N := 12) C0 h _ (by omega) (ceL k _ (by omega)) hinX2 rfl 9 (by decide) (by decide +kernel) rfl rfl dX3_flawAsBacker_62 ?_
              refine r_cSI C0 h hl.1 (ct_X3_isBelow l k M _ hJ _ _) gX3_flawAsBacker_X3_isBelow rfl (by decide +kernel) (n := 2) ⟨Nat.le_of_ble_eq_true rfl, Nat.le_of_ble_eq_true rfl⟩ ⟨Nat.zero_le _, Nat.zero_le _⟩ (Nat.le_of_ble_eq_true rfl) rfl rfl dX3_flawAsBacker_65 (fun r65 I65 H locs hp h => ?_)
              obtain ⟨rfl, hI65⟩ := hp
              rw [hI65] at h
              refine lv_if_ne (tgt := 74) hx hb dX3_flawAsBacker_68 (by decide) (fun c_68 => ?_) (fun c_68 => ?_)
              · refine lv_iinc (v := nI (j + 1)) hx hb dX3_flawAsBacker_74 hl (k := 1) rfl (nI_1 _) (by decide) rfl (fun ls hl => ?_)
                have hl : lv_has ls 6 [(4, _), (5, _), (0, _), (1, _), (2, _), (3, _)] := hl
                refine lv_goto (tgt := 24) hx hb dX3_flawAsBacker_77 (by decide) ?_
                exact ih24 (j + 1) (by omega) (by omega) (fun r hr => by rcases Nat.lt_or_ge r j with z | z; (exact hall r z); (obtain rfl : r = j := (by omega)); rw [vw_L I hm20, hvL, bI_nz c_68]; rfl) _ _ _ h (lv_sub hl [0, 2, 3, 4, 5] rfl)
              · refine lv_bipush (v := nI 6) hx hb dX3_flawAsBacker_71 (by decide) ?_
                exact r_iret C0 h hr dX3_flawAsBacker_73 ⟨by rw [fbF, hvL, if_neg c_4, if_neg (fa_ge c_16), obF, hvL, fdF_is (j := j) hjq (by rw [vw_L I hm20, bI_z c_68]; rfl) (by rw [hvL] at hall; exact hall)]; rfl, rfl⟩
      exact key24 100 0 (by omega) (by omega) (fun r hr => absurd hr (Nat.not_lt_zero _)) _ _ _ h (lv_sub hl [0, 1, 2, 3, 4] rfl)
    · refine lv_iconst (v := nI 5) hx hb dX3_flawAsBacker_19 (by decide) ?_
      exact r_iret C0 h hr dX3_flawAsBacker_20 ⟨by rw [fbF, hvL, if_neg c_4, if_pos (fa_nle c_16)], rfl⟩
  · refine lv_iconst (v := nI 4) hx hb dX3_flawAsBacker_7 (by decide) ?_
    exact r_iret C0 h hr dX3_flawAsBacker_8 ⟨by rw [fbF, hvL, if_pos c_4], rfl⟩
set_option maxHeartbeats 4000000 in
set_option maxRecDepth 100000 in
theorem ct_X3_flawOf (l : Launch) (k : Sk) (M : Nat) (I : IS) (hJ : Ij k M) (cn : Nat) (hc20 : cn ≤ 20) (hcn : I 0 4 = nI cn) (lcn : Nat) (hl8 : lcn ≤ 8) (hlcn : I 0 5 = nI lcn) (hsg : SgH I lcn) (hst : ∃ b, I 0 6 = bI b) (acc : List (List Nat)) (hB : BkH I acc) (hO : AcO acc cn) (cx q : Nat) (hq : q < (gtC acc cx).length) (t u : Int32) : MtI l yX3_flawOf wsX3_flawOf 3 [.ref (k.2.1 0), .int (nI cx), .int (nI q), .int t, .int u] k M I (fun r I' => r = flF (vw I) lcn (gtC acc cx) q t u ∧ I' = I) := by
  refine mtI_of (cc := cX3_flawOf) (maxL := 8) hJ (by decide) rfl (Nat.le_of_ble_eq_true rfl) ?_
  intro p e s m args below meth c A ls C0 h hr hl
  have hx := C0.1.1
  have hb := C0.1.2.1
  have hown := C0.1.2.2.2.1
  have hts := C0.1.2.2.2.2
  have hM := hJ.1
  have hl : lv_has ls 8 [(0, _), (1, _), (2, _), (3, _), (4, _)] := hl
  have hinX3 : ∀ w ∈ u_ws RX3 TX3 7, w ∈ wsX3_flawOf := by decide +kernel
  have hcx := gt_in hq
  have hB6 := hB.2.1
  have hq6 := (hB.2.2 cx hcx).2.1
  have hml := hO cx hcx _ (gtN_mem hq)
  have hm20 : gtN (gtC acc cx) q < 20 := by omega
  have hvL : vw I (10 + gtN (gtC acc cx) q) = I (10 + gtN (gtC acc cx) q) := vw_L I hm20
  refine lv_aload_n hx hb dX3_flawOf_0 rfl (lv_at hl 0 rfl) ?_
  refine r_get (T := TX3) (N := 7) C0 h _ (by omega) (ce0 k _) hinX3 rfl 2 (by decide) (by decide +kernel) rfl rfl dX3_flawOf_1 ?_
  refine lv_iload_n hx hb dX3_flawOf_4 rfl (lv_at hl 1 rfl) ?_
  refine lv_iload_n hx hb dX3_flawOf_5 rfl (lv_at hl 2 rfl) ?_
  refine r_cVNI C0 h hl.1 _ (by omega) (ce3 k _) rfl (ct_X1_member l k M _ hJ acc cx (nI q) (by omega) hB) gX3_flawOf_X1_member_n174 rfl (by decide +kernel) (by decide +kernel) (by decide +kernel) (by decide +kernel) (by decide +kernel) (n := 2) ⟨Nat.le_of_ble_eq_true rfl, Nat.le_of_ble_eq_true rfl⟩ ⟨Nat.zero_le _, Nat.zero_le _⟩ (Nat.le_of_ble_eq_true rfl) rfl rfl dX3_flawOf_6 (fun r6 I6 H locs hp h => ?_)
  obtain ⟨rfl, hI6⟩ := hp
  rw [hI6] at h
  rw [mbI_at hq (by omega)]
  refine lv_istore hx hb dX3_flawOf_9 hl (by decide) rfl (fun ls hl => ?_)
  have hl : lv_has ls 8 [(5, _), (0, _), (1, _), (2, _), (3, _), (4, _)] := hl
  refine lv_aload_n hx hb dX3_flawOf_11 rfl (lv_at hl 1 rfl) ?_
  refine lv_iload hx hb dX3_flawOf_12 (lv_at hl 0 rfl) ?_
  refine r_cVI C0 h hl.1 _ (by omega) (ce0 k _) rfl (ct_X3_isLetter l k M _ hJ cn hcn _) gX3_flawOf_X3_isLetter rfl (by decide +kernel) (n := 1) ⟨Nat.le_of_ble_eq_true rfl, Nat.le_of_ble_eq_true rfl⟩ ⟨Nat.zero_le _, Nat.zero_le _⟩ (Nat.le_of_ble_eq_true rfl) rfl rfl dX3_flawOf_14 (fun r14 I14 H locs hp h => ?_)
  obtain ⟨rfl, hI14⟩ := hp
  rw [hI14] at h
  refine lv_if_ne (tgt := 22) hx hb dX3_flawOf_17 (by decide) (fun c_17 => ?_) (fun c_17 => ?_)
  · refine lv_aload_n hx hb dX3_flawOf_22 rfl (lv_at hl 1 rfl) ?_
    refine r_get (T := TX3) (N := 7) C0 h _ (by omega) (ce0 k _) hinX3 rfl 0 (by decide) (by decide +kernel) rfl rfl dX3_flawOf_23 ?_
    refine lv_iload hx hb dX3_flawOf_26 (lv_at hl 0 rfl) ?_
    refine r_aaldL C0 h _ (by omega) dX3_flawOf_28 ?_
    refine lv_astore hx hb dX3_flawOf_29 hl (by decide) rfl (fun ls hl => ?_)
    have hl : lv_has ls 8 [(6, _), (5, _), (0, _), (1, _), (2, _), (3, _), (4, _)] := hl
    refine lv_aload hx hb dX3_flawOf_31 (lv_at hl 0 rfl) ?_
    refine lv_iload_n hx hb dX3_flawOf_33 rfl (lv_at hl 5 rfl) ?_
    refine lv_iload hx hb dX3_flawOf_34 (lv_at hl 6 rfl) ?_
    refine r_cVNI C0 h hl.1 _ (by omega) (ceL k _ (by omega)) rfl (ct_X2_flawAlone l k M _ hJ _ (by omega) _ _) gX3_flawOf_X2_flawAlone_n249 rfl (by decide +kernel) (by decide +kernel) (by decide +kernel) (by decide +kernel) (by decide +kernel) (n := 2) ⟨Nat.le_of_ble_eq_true rfl, Nat.le_of_ble_eq_true rfl⟩ ⟨Nat.zero_le _, Nat.zero_le _⟩ (Nat.le_of_ble_eq_true rfl) rfl rfl dX3_flawOf_36 (fun r36 I36 H locs hp h => ?_)
    obtain ⟨rfl, hI36⟩ := hp
    rw [hI36] at h
    refine lv_istore hx hb dX3_flawOf_39 hl (by decide) rfl (fun ls hl => ?_)
    have hl : lv_has ls 8 [(7, _), (6, _), (5, _), (0, _), (1, _), (2, _), (3, _), (4, _)] := hl
    refine lv_iload hx hb dX3_flawOf_41 (lv_at hl 0 rfl) ?_
    refine lv_if_ne (tgt := 60) hx hb dX3_flawOf_43 (by decide) (fun c_43 => ?_) (fun c_43 => ?_)
    · have h6 : f6F (vw I) (gtC acc cx) q t u = flA (I (10 + gtN (gtC acc cx) q)) t u := by rw [f6F, hvL, if_neg (fun z => c_43 z.1)]
      refine lv_iload hx hb dX3_flawOf_60 (lv_at hl 0 rfl) ?_
      refine lv_if_ne (tgt := 90) hx hb dX3_flawOf_62 (by decide) (fun c_62 => ?_) (fun c_62 => ?_)
      · have hfl : flF (vw I) lcn (gtC acc cx) q t u = f6F (vw I) (gtC acc cx) q t u := if_neg (fun z => by rw [h6] at z; exact c_62 z.1)
        refine lv_iload hx hb dX3_flawOf_90 (lv_at hl 0 rfl) ?_
        exact r_iret C0 h hr dX3_flawOf_92 ⟨by first | rw [hfl, h6] | rw [hfl], rfl⟩
      · refine lv_aload_n hx hb dX3_flawOf_65 rfl (lv_at hl 3 rfl) ?_
        refine lv_aload hx hb dX3_flawOf_66 (lv_at hl 1 rfl) ?_
        refine lv_aload_n hx hb dX3_flawOf_68 rfl (lv_at hl 3 rfl) ?_
        refine r_get (T := TX3) (N := 7) C0 h _ (by omega) (ce0 k _) hinX3 rfl 2 (by decide) (by decide +kernel) rfl rfl dX3_flawOf_69 ?_
        refine lv_iload_n hx hb dX3_flawOf_72 rfl (lv_at hl 4 rfl) ?_
        refine lv_iload_n hx hb dX3_flawOf_73 rfl (lv_at hl 5 rfl) ?_
        refine lv_iconst (v := nI 1) hx hb dX3_flawOf_74 (by decide) ?_
        refine lv_iadd hx hb dX3_flawOf_75 ?_
        rw [nI_add]
        refine r_cVNI C0 h hl.1 _ (by omega) (ce3 k _) rfl (ct_X1_member l k M _ hJ acc cx (nI (q + 1)) (by omega) hB) gX3_flawOf_X1_member_n174 rfl (by decide +kernel) (by decide +kernel) (by decide +kernel) (by decide +kernel) (by decide +kernel) (n := 2) ⟨Nat.le_of_ble_eq_true rfl, Nat.le_of_ble_eq_true rfl⟩ ⟨Nat.zero_le _, Nat.zero_le _⟩ (Nat.le_of_ble_eq_true rfl) rfl rfl dX3_flawOf_76 (fun r76 I76 H locs hp h => ?_)
        obtain ⟨rfl, hI76⟩ := hp
        rw [hI76] at h
        rw [mbI_o (by omega)]
        refine lv_iload_n hx hb dX3_flawOf_79 rfl (lv_at hl 6 rfl) ?_
        refine r_cVI C0 h hl.1 _ (by omega) (ce0 k _) rfl (ct_X3_isCalledBack l k M _ hJ cn hc20 hcn lcn hl8 hlcn hsg hst _ hm20 (gtC acc cx)[q + 1]? (fun b9 h9 => hO cx hcx _ (List.mem_of_getElem? h9)) t) gX3_flawOf_X3_isCalledBack rfl (by decide +kernel) (n := 3) ⟨Nat.le_of_ble_eq_true rfl, Nat.le_of_ble_eq_true rfl⟩ ⟨Nat.zero_le _, Nat.zero_le _⟩ (Nat.le_of_ble_eq_true rfl) rfl rfl dX3_flawOf_80 (fun r80 I80 H locs hp h => ?_)
        obtain ⟨rfl, hI80⟩ := hp
        rw [hI80] at h
        refine lv_if_eq (tgt := 90) hx hb dX3_flawOf_83 (by decide) (fun c_83 => ?_) (fun c_83 => ?_)
        · have hfl : flF (vw I) lcn (gtC acc cx) q t u = f6F (vw I) (gtC acc cx) q t u := if_neg (fun z => by rw [bI_z c_83] at z; exact absurd z.2 (by decide))
          refine lv_iload hx hb dX3_flawOf_90 (lv_at hl 0 rfl) ?_
          exact r_iret C0 h hr dX3_flawOf_92 ⟨by first | rw [hfl, h6] | rw [hfl], rfl⟩
        · have hfl : flF (vw I) lcn (gtC acc cx) q t u = nI 7 := if_pos ⟨by rw [h6]; exact c_62, bI_nz c_83⟩
          refine lv_bipush (v := nI 7) hx hb dX3_flawOf_86 (by decide) ?_
          refine lv_istore hx hb dX3_flawOf_88 hl (by decide) rfl (fun ls hl => ?_)
          have hl : lv_has ls 8 [(7, _), (6, _), (5, _), (0, _), (1, _), (2, _), (3, _), (4, _)] := hl
          refine lv_iload hx hb dX3_flawOf_90 (lv_at hl 0 rfl) ?_
          exact r_iret C0 h hr dX3_flawOf_92 ⟨by first | rw [hfl, h6] | rw [hfl], rfl⟩
    · refine lv_iload_n hx hb dX3_flawOf_46 rfl (lv_at hl 5 rfl) ?_
      refine lv_if_le (tgt := 60) hx hb dX3_flawOf_47 (by decide) (fun c_47 => ?_) (fun c_47 => ?_)
      · have hq0 : q = 0 := nn0 (by omega) c_47
        have h6 : f6F (vw I) (gtC acc cx) q t u = flA (I (10 + gtN (gtC acc cx) q)) t u := by rw [f6F, hvL, if_neg (fun z => absurd z.2 (by omega))]
        refine lv_iload hx hb dX3_flawOf_60 (lv_at hl 0 rfl) ?_
        refine lv_if_ne (tgt := 90) hx hb dX3_flawOf_62 (by decide) (fun c_62 => ?_) (fun c_62 => ?_)
        · have hfl : flF (vw I) lcn (gtC acc cx) q t u = f6F (vw I) (gtC acc cx) q t u := if_neg (fun z => by rw [h6] at z; exact c_62 z.1)
          refine lv_iload hx hb dX3_flawOf_90 (lv_at hl 0 rfl) ?_
          exact r_iret C0 h hr dX3_flawOf_92 ⟨by first | rw [hfl, h6] | rw [hfl], rfl⟩
        · refine lv_aload_n hx hb dX3_flawOf_65 rfl (lv_at hl 3 rfl) ?_
          refine lv_aload hx hb dX3_flawOf_66 (lv_at hl 1 rfl) ?_
          refine lv_aload_n hx hb dX3_flawOf_68 rfl (lv_at hl 3 rfl) ?_
          refine r_get (T := TX3) (N := 7) C0 h _ (by omega) (ce0 k _) hinX3 rfl 2 (by decide) (by decide +kernel) rfl rfl dX3_flawOf_69 ?_
          refine lv_iload_n hx hb dX3_flawOf_72 rfl (lv_at hl 4 rfl) ?_
          refine lv_iload_n hx hb dX3_flawOf_73 rfl (lv_at hl 5 rfl) ?_
          refine lv_iconst (v := nI 1) hx hb dX3_flawOf_74 (by decide) ?_
          refine lv_iadd hx hb dX3_flawOf_75 ?_
          rw [nI_add]
          refine r_cVNI C0 h hl.1 _ (by omega) (ce3 k _) rfl (ct_X1_member l k M _ hJ acc cx (nI (q + 1)) (by omega) hB) gX3_flawOf_X1_member_n174 rfl (by decide +kernel) (by decide +kernel) (by decide +kernel) (by decide +kernel) (by decide +kernel) (n := 2) ⟨Nat.le_of_ble_eq_true rfl, Nat.le_of_ble_eq_true rfl⟩ ⟨Nat.zero_le _, Nat.zero_le _⟩ (Nat.le_of_ble_eq_true rfl) rfl rfl dX3_flawOf_76 (fun r76 I76 H locs hp h => ?_)
          obtain ⟨rfl, hI76⟩ := hp
          rw [hI76] at h
          rw [mbI_o (by omega)]
          refine lv_iload_n hx hb dX3_flawOf_79 rfl (lv_at hl 6 rfl) ?_
          refine r_cVI C0 h hl.1 _ (by omega) (ce0 k _) rfl (ct_X3_isCalledBack l k M _ hJ cn hc20 hcn lcn hl8 hlcn hsg hst _ hm20 (gtC acc cx)[q + 1]? (fun b9 h9 => hO cx hcx _ (List.mem_of_getElem? h9)) t) gX3_flawOf_X3_isCalledBack rfl (by decide +kernel) (n := 3) ⟨Nat.le_of_ble_eq_true rfl, Nat.le_of_ble_eq_true rfl⟩ ⟨Nat.zero_le _, Nat.zero_le _⟩ (Nat.le_of_ble_eq_true rfl) rfl rfl dX3_flawOf_80 (fun r80 I80 H locs hp h => ?_)
          obtain ⟨rfl, hI80⟩ := hp
          rw [hI80] at h
          refine lv_if_eq (tgt := 90) hx hb dX3_flawOf_83 (by decide) (fun c_83 => ?_) (fun c_83 => ?_)
          · have hfl : flF (vw I) lcn (gtC acc cx) q t u = f6F (vw I) (gtC acc cx) q t u := if_neg (fun z => by rw [bI_z c_83] at z; exact absurd z.2 (by decide))
            refine lv_iload hx hb dX3_flawOf_90 (lv_at hl 0 rfl) ?_
            exact r_iret C0 h hr dX3_flawOf_92 ⟨by first | rw [hfl, h6] | rw [hfl], rfl⟩
          · have hfl : flF (vw I) lcn (gtC acc cx) q t u = nI 7 := if_pos ⟨by rw [h6]; exact c_62, bI_nz c_83⟩
            refine lv_bipush (v := nI 7) hx hb dX3_flawOf_86 (by decide) ?_
            refine lv_istore hx hb dX3_flawOf_88 hl (by decide) rfl (fun ls hl => ?_)
            have hl : lv_has ls 8 [(7, _), (6, _), (5, _), (0, _), (1, _), (2, _), (3, _), (4, _)] := hl
            refine lv_iload hx hb dX3_flawOf_90 (lv_at hl 0 rfl) ?_
            exact r_iret C0 h hr dX3_flawOf_92 ⟨by first | rw [hfl, h6] | rw [hfl], rfl⟩
      · have hq0 : 0 < q := Nat.pos_of_ne_zero (nn1 c_47)
        refine lv_aload_n hx hb dX3_flawOf_50 rfl (lv_at hl 3 rfl) ?_
        refine lv_aload hx hb dX3_flawOf_51 (lv_at hl 1 rfl) ?_
        refine lv_iload_n hx hb dX3_flawOf_53 rfl (lv_at hl 4 rfl) ?_
        refine lv_iload_n hx hb dX3_flawOf_54 rfl (lv_at hl 5 rfl) ?_
        refine r_cVI C0 h hl.1 _ (by omega) (ce0 k _) rfl (ct_X3_flawAsBacker l k M _ hJ cn hc20 hcn acc hB hO _ hm20 cx q hq) gX3_flawOf_X3_flawAsBacker rfl (by decide +kernel) (n := 3) ⟨Nat.le_of_ble_eq_true rfl, Nat.le_of_ble_eq_true rfl⟩ ⟨Nat.zero_le _, Nat.zero_le _⟩ (Nat.le_of_ble_eq_true rfl) rfl rfl dX3_flawOf_55 (fun r55 I55 H locs hp h => ?_)
        obtain ⟨rfl, hI55⟩ := hp
        rw [hI55] at h
        have h6 : f6F (vw I) (gtC acc cx) q t u = fbF (vw I) (gtC acc cx) (gtN (gtC acc cx) q) q := by rw [f6F, hvL, if_pos ⟨c_43, hq0⟩]
        refine lv_istore hx hb dX3_flawOf_58 hl (by decide) rfl (fun ls hl => ?_)
        have hl : lv_has ls 8 [(7, _), (6, _), (5, _), (0, _), (1, _), (2, _), (3, _), (4, _)] := hl
        refine lv_iload hx hb dX3_flawOf_60 (lv_at hl 0 rfl) ?_
        refine lv_if_ne (tgt := 90) hx hb dX3_flawOf_62 (by decide) (fun c_62 => ?_) (fun c_62 => ?_)
        · have hfl : flF (vw I) lcn (gtC acc cx) q t u = f6F (vw I) (gtC acc cx) q t u := if_neg (fun z => by rw [h6] at z; exact c_62 z.1)
          refine lv_iload hx hb dX3_flawOf_90 (lv_at hl 0 rfl) ?_
          exact r_iret C0 h hr dX3_flawOf_92 ⟨by first | rw [hfl, h6] | rw [hfl], rfl⟩
        · refine lv_aload_n hx hb dX3_flawOf_65 rfl (lv_at hl 3 rfl) ?_
          refine lv_aload hx hb dX3_flawOf_66 (lv_at hl 1 rfl) ?_
          refine lv_aload_n hx hb dX3_flawOf_68 rfl (lv_at hl 3 rfl) ?_
          refine r_get (T := TX3) (N := 7) C0 h _ (by omega) (ce0 k _) hinX3 rfl 2 (by decide) (by decide +kernel) rfl rfl dX3_flawOf_69 ?_
          refine lv_iload_n hx hb dX3_flawOf_72 rfl (lv_at hl 4 rfl) ?_
          refine lv_iload_n hx hb dX3_flawOf_73 rfl (lv_at hl 5 rfl) ?_
          refine lv_iconst (v := nI 1) hx hb dX3_flawOf_74 (by decide) ?_
          refine lv_iadd hx hb dX3_flawOf_75 ?_
          rw [nI_add]
          refine r_cVNI C0 h hl.1 _ (by omega) (ce3 k _) rfl (ct_X1_member l k M _ hJ acc cx (nI (q + 1)) (by omega) hB) gX3_flawOf_X1_member_n174 rfl (by decide +kernel) (by decide +kernel) (by decide +kernel) (by decide +kernel) (by decide +kernel) (n := 2) ⟨Nat.le_of_ble_eq_true rfl, Nat.le_of_ble_eq_true rfl⟩ ⟨Nat.zero_le _, Nat.zero_le _⟩ (Nat.le_of_ble_eq_true rfl) rfl rfl dX3_flawOf_76 (fun r76 I76 H locs hp h => ?_)
          obtain ⟨rfl, hI76⟩ := hp
          rw [hI76] at h
          rw [mbI_o (by omega)]
          refine lv_iload_n hx hb dX3_flawOf_79 rfl (lv_at hl 6 rfl) ?_
          refine r_cVI C0 h hl.1 _ (by omega) (ce0 k _) rfl (ct_X3_isCalledBack l k M _ hJ cn hc20 hcn lcn hl8 hlcn hsg hst _ hm20 (gtC acc cx)[q + 1]? (fun b9 h9 => hO cx hcx _ (List.mem_of_getElem? h9)) t) gX3_flawOf_X3_isCalledBack rfl (by decide +kernel) (n := 3) ⟨Nat.le_of_ble_eq_true rfl, Nat.le_of_ble_eq_true rfl⟩ ⟨Nat.zero_le _, Nat.zero_le _⟩ (Nat.le_of_ble_eq_true rfl) rfl rfl dX3_flawOf_80 (fun r80 I80 H locs hp h => ?_)
          obtain ⟨rfl, hI80⟩ := hp
          rw [hI80] at h
          refine lv_if_eq (tgt := 90) hx hb dX3_flawOf_83 (by decide) (fun c_83 => ?_) (fun c_83 => ?_)
          · have hfl : flF (vw I) lcn (gtC acc cx) q t u = f6F (vw I) (gtC acc cx) q t u := if_neg (fun z => by rw [bI_z c_83] at z; exact absurd z.2 (by decide))
            refine lv_iload hx hb dX3_flawOf_90 (lv_at hl 0 rfl) ?_
            exact r_iret C0 h hr dX3_flawOf_92 ⟨by first | rw [hfl, h6] | rw [hfl], rfl⟩
          · have hfl : flF (vw I) lcn (gtC acc cx) q t u = nI 7 := if_pos ⟨by rw [h6]; exact c_62, bI_nz c_83⟩
            refine lv_bipush (v := nI 7) hx hb dX3_flawOf_86 (by decide) ?_
            refine lv_istore hx hb dX3_flawOf_88 hl (by decide) rfl (fun ls hl => ?_)
            have hl : lv_has ls 8 [(7, _), (6, _), (5, _), (0, _), (1, _), (2, _), (3, _), (4, _)] := hl
            refine lv_iload hx hb dX3_flawOf_90 (lv_at hl 0 rfl) ?_
            exact r_iret C0 h hr dX3_flawOf_92 ⟨by first | rw [hfl, h6] | rw [hfl], rfl⟩
  · exact absurd c_17 (show ¬ bI (isLt cn (nI (gtN (gtC acc cx) q))) = 0 by rw [isLt_at hml (by omega)]; decide)
set_option maxHeartbeats 4000000 in
set_option maxRecDepth 100000 in
theorem ct_X3_firstFlawedPlace (l : Launch) (k : Sk) (M : Nat) (I : IS) (hJ : Ij k M) (cn : Nat) (hc20 : cn ≤ 20) (hcn : I 0 4 = nI cn) (lcn : Nat) (hl8 : lcn ≤ 8) (hlcn : I 0 5 = nI lcn) (hsg : SgH I lcn) (hst : ∃ b, I 0 6 = bI b) (acc : List (List Nat)) (hB : BkH I acc) (hO : AcO acc cn) (cx : Nat) (hcx : cx ≤ 60) (t u : Int32) : MtI l yX3_firstFlawedPlace wsX3_firstFlawedPlace 4 [.ref (k.2.1 0), .int (nI cx), .int t, .int u] k M I (fun r I' => r = opI (ffO (vw I) lcn t u (gtC acc cx)) ∧ I' = I) := by
  refine mtI_of (cc := cX3_firstFlawedPlace) (maxL := 6) hJ (by decide) rfl (Nat.le_of_ble_eq_true rfl) ?_
  intro p e s m args below meth c A ls C0 h hr hl
  have hx := C0.1.1
  have hb := C0.1.2.1
  have hown := C0.1.2.2.2.1
  have hts := C0.1.2.2.2.2
  have hM := hJ.1
  have hl : lv_has ls 6 [(0, _), (1, _), (2, _), (3, _)] := hl
  have hinX3 : ∀ w ∈ u_ws RX3 TX3 7, w ∈ wsX3_firstFlawedPlace := by decide +kernel
  have hB6 := hB.2.1
  have hq6 : (gtC acc cx).length ≤ 6 := by
    rcases Nat.lt_or_ge cx acc.length with z | z
    · exact (hB.2.2 cx z).2.1
    · rw [gtC_out z]; decide
  refine lv_aload_n hx hb dX3_firstFlawedPlace_0 rfl (lv_at hl 0 rfl) ?_
  refine r_get (T := TX3) (N := 7) C0 h _ (by omega) (ce0 k _) hinX3 rfl 2 (by decide) (by decide +kernel) rfl rfl dX3_firstFlawedPlace_1 ?_
  refine lv_iload_n hx hb dX3_firstFlawedPlace_4 rfl (lv_at hl 1 rfl) ?_
  refine r_cVNI C0 h hl.1 _ (by omega) (ce3 k _) rfl (ct_X1_lengthOf l k M _ hJ acc _ hB) gX3_firstFlawedPlace_X1_lengthOf_n186 rfl (by decide +kernel) (by decide +kernel) (by decide +kernel) (by decide +kernel) (by decide +kernel) (n := 1) ⟨Nat.le_of_ble_eq_true rfl, Nat.le_of_ble_eq_true rfl⟩ ⟨Nat.zero_le _, Nat.zero_le _⟩ (Nat.le_of_ble_eq_true rfl) rfl rfl dX3_firstFlawedPlace_5 (fun r5 I5 H locs hp h => ?_)
  obtain ⟨rfl, hI5⟩ := hp
  rw [hI5] at h
  rw [leI_at (by omega)]
  refine lv_istore hx hb dX3_firstFlawedPlace_8 hl (by decide) rfl (fun ls hl => ?_)
  have hl : lv_has ls 6 [(4, _), (0, _), (1, _), (2, _), (3, _)] := hl
  refine lv_iconst (v := nI 0) hx hb dX3_firstFlawedPlace_10 (by decide) ?_
  refine lv_istore hx hb dX3_firstFlawedPlace_11 hl (by decide) rfl (fun ls hl => ?_)
  have hl : lv_has ls 6 [(5, _), (4, _), (0, _), (1, _), (2, _), (3, _)] := hl
  have key13 : ∀ (n : Nat) (j : Nat), 7 - j < n → j ≤ (gtC acc cx).length → (∀ r, r < j → (decide (¬ flF (vw I) lcn (gtC acc cx) r t u = 0)) = false) → ∀ (H : Heap) (locs : List Loc) (ls : Array Slot), HX k M A s I H locs → lv_has ls 6 [(5, .int (nI j)), (4, .int (nI (gtC acc cx).length)), (0, .ref (k.2.1 0)), (1, .int (nI cx)), (2, .int t), (3, .int u)] → W p l e (Rm 4) s m args below meth c H locs 0 0 (MQ below (va_Qi (fun r I' => r = opI (ffO (vw I) lcn t u (gtC acc cx)) ∧ I' = I) (EnX k M) A) args s 0 0 A) (F0 m 13 ls []) := by
    intro n
    induction n with
    | zero =>
      intro j hn hj hall H locs ls h hl
      exact absurd hn (Nat.not_lt_zero _)
    | succ n ih13 =>
      intro j hn hj hall H locs ls h hl
      refine lv_iload hx hb dX3_firstFlawedPlace_13 (lv_at hl 0 rfl) ?_
      refine lv_iload hx hb dX3_firstFlawedPlace_15 (lv_at hl 1 rfl) ?_
      refine lv_icmp_ge (tgt := 41) hx hb dX3_firstFlawedPlace_17 (by decide) (fun c_17 => ?_) (fun c_17 => ?_)
      · have hjq : j = (gtC acc cx).length := by have := (nI_leI (by omega) (by omega)).mp c_17; omega
        refine lv_iconst (v := (-1)) hx hb dX3_firstFlawedPlace_41 (by decide) ?_
        exact r_iret C0 h hr dX3_firstFlawedPlace_42 ⟨by rw [ffO, fdF_no (by rw [← hjq]; exact hall)]; rfl, rfl⟩
      · have hjq : j < (gtC acc cx).length := Nat.lt_of_not_le (fun z => c_17 (nI_le z (by omega)))
        refine lv_aload_n hx hb dX3_firstFlawedPlace_20 rfl (lv_at hl 2 rfl) ?_
        refine lv_iload_n hx hb dX3_firstFlawedPlace_21 rfl (lv_at hl 3 rfl) ?_
        refine lv_iload hx hb dX3_firstFlawedPlace_22 (lv_at hl 0 rfl) ?_
        refine lv_iload_n hx hb dX3_firstFlawedPlace_24 rfl (lv_at hl 4 rfl) ?_
        refine lv_iload_n hx hb dX3_firstFlawedPlace_25 rfl (lv_at hl 5 rfl) ?_
        refine r_cVI C0 h hl.1 _ (by omega) (ce0 k _) rfl (ct_X3_flawOf l k M _ hJ cn hc20 hcn lcn hl8 hlcn hsg hst acc hB hO cx j hjq t u) gX3_firstFlawedPlace_X3_flawOf rfl (by decide +kernel) (n := 4) ⟨Nat.le_of_ble_eq_true rfl, Nat.le_of_ble_eq_true rfl⟩ ⟨Nat.zero_le _, Nat.zero_le _⟩ (Nat.le_of_ble_eq_true rfl) rfl rfl dX3_firstFlawedPlace_26 (fun r26 I26 H locs hp h => ?_)
        obtain ⟨rfl, hI26⟩ := hp
        rw [hI26] at h
        refine lv_if_eq (tgt := 35) hx hb dX3_firstFlawedPlace_29 (by decide) (fun c_29 => ?_) (fun c_29 => ?_)
        · refine lv_iinc (v := nI (j + 1)) hx hb dX3_firstFlawedPlace_35 hl (k := 0) rfl (nI_1 _) (by decide) rfl (fun ls hl => ?_)
          have hl : lv_has ls 6 [(5, _), (4, _), (0, _), (1, _), (2, _), (3, _)] := hl
          refine lv_goto (tgt := 13) hx hb dX3_firstFlawedPlace_38 (by decide) ?_
          exact ih13 (j + 1) (by omega) (by omega) (fun r hr => by rcases Nat.lt_or_ge r j with z | z; (exact hall r z); (obtain rfl : r = j := (by omega)); exact decide_eq_false (fun z => z c_29)) _ _ _ h (lv_sub hl [0, 1, 2, 3, 4, 5] rfl)
        · refine lv_iload hx hb dX3_firstFlawedPlace_32 (lv_at hl 0 rfl) ?_
          exact r_iret C0 h hr dX3_firstFlawedPlace_34 ⟨by rw [ffO, fdF_is (j := j) hjq (decide_eq_true c_29) hall]; rfl, rfl⟩
  exact key13 100 0 (by omega) (by omega) (fun r hr => absurd hr (Nat.not_lt_zero _)) _ _ _ h (lv_sub hl [0, 1, 2, 3, 4, 5] rfl)
set_option maxHeartbeats 4000000 in
set_option maxRecDepth 100000 in
theorem ct_X3_firstHolding (l : Launch) (k : Sk) (M : Nat) (I : IS) (hJ : Ij k M) (cn : Nat) (hc20 : cn ≤ 20) (hcn : I 0 4 = nI cn) (lcn : Nat) (hl8 : lcn ≤ 8) (hlcn : I 0 5 = nI lcn) (hsg : SgH I lcn) (hst : ∃ b, I 0 6 = bI b) (acc : List (List Nat)) (hB : BkH I acc) (hO : AcO acc cn) (t u : Int32) : MtI l yX3_firstHolding wsX3_firstHolding 5 [.ref (k.2.1 0), .int t, .int u] k M I (fun r I' => r = opI (fhO (vw I) lcn t u acc) ∧ I' = I) := by
  refine mtI_of (cc := cX3_firstHolding) (maxL := 4) hJ (by decide) rfl (Nat.le_of_ble_eq_true rfl) ?_
  intro p e s m args below meth c A ls C0 h hr hl
  have hx := C0.1.1
  have hb := C0.1.2.1
  have hown := C0.1.2.2.2.1
  have hts := C0.1.2.2.2.2
  have hM := hJ.1
  have hl : lv_has ls 4 [(0, _), (1, _), (2, _)] := hl
  have hinX1 : ∀ w ∈ u_ws RX1 TX1 7, w ∈ wsX3_firstHolding := by decide +kernel
  have hinX3 : ∀ w ∈ u_ws RX3 TX3 7, w ∈ wsX3_firstHolding := by decide +kernel
  have hB6 := hB.2.1
  refine lv_iconst (v := nI 0) hx hb dX3_firstHolding_0 (by decide) ?_
  refine lv_istore_n hx hb dX3_firstHolding_1 rfl hl (by decide) rfl (fun ls hl => ?_)
  have hl : lv_has ls 4 [(3, _), (0, _), (1, _), (2, _)] := hl
  have key2 : ∀ (n : Nat) (j : Nat), 61 - j < n → j ≤ acc.length → (∀ r, r < j → (ffO (vw I) lcn t u (gtC acc r)).isNone = false) → ∀ (H : Heap) (locs : List Loc) (ls : Array Slot), HX k M A s I H locs → lv_has ls 4 [(3, .int (nI j)), (0, .ref (k.2.1 0)), (1, .int t), (2, .int u)] → W p l e (Rm 5) s m args below meth c H locs 0 0 (MQ below (va_Qi (fun r I' => r = opI (fhO (vw I) lcn t u acc) ∧ I' = I) (EnX k M) A) args s 0 0 A) (F0 m 2 ls []) := by
    intro n
    induction n with
    | zero =>
      intro j hn hj hall H locs ls h hl
      exact absurd hn (Nat.not_lt_zero _)
    | succ n ih2 =>
      intro j hn hj hall H locs ls h hl
      refine lv_iload_n hx hb dX3_firstHolding_2 rfl (lv_at hl 0 rfl) ?_
      refine lv_aload_n hx hb dX3_firstHolding_3 rfl (lv_at hl 1 rfl) ?_
      refine r_get (T := TX3) (N := 7) C0 h _ (by omega) (ce0 k _) hinX3 rfl 2 (by decide) (by decide +kernel) rfl rfl dX3_firstHolding_4 ?_
      refine r_getN (T := TX1) (N := 7) C0 h _ (by omega) (ce3 k _) hinX1 rfl 6 (by decide) (by decide +kernel) rfl rfl dX3_firstHolding_7 ?_
      rw [hB.1]
      refine lv_icmp_ge (tgt := 32) hx hb dX3_firstHolding_10 (by decide) (fun c_10 => ?_) (fun c_10 => ?_)
      · have hjq : j = acc.length := by have := (nI_leI (by omega) (by omega)).mp c_10; omega
        refine lv_iconst (v := (-1)) hx hb dX3_firstHolding_32 (by decide) ?_
        exact r_iret C0 h hr dX3_firstHolding_33 ⟨by rw [fhO, fdF_no (by rw [← hjq]; exact hall)]; rfl, rfl⟩
      · have hjq : j < acc.length := Nat.lt_of_not_le (fun z => c_10 (nI_le z (by omega)))
        have hj6 := (hB.2.2 j hjq).2.1
        refine lv_aload_n hx hb dX3_firstHolding_13 rfl (lv_at hl 1 rfl) ?_
        refine lv_iload_n hx hb dX3_firstHolding_14 rfl (lv_at hl 0 rfl) ?_
        refine lv_iload_n hx hb dX3_firstHolding_15 rfl (lv_at hl 2 rfl) ?_
        refine lv_iload_n hx hb dX3_firstHolding_16 rfl (lv_at hl 3 rfl) ?_
        refine r_cVI C0 h hl.1 _ (by omega) (ce0 k _) rfl (ct_X3_firstFlawedPlace l k M _ hJ cn hc20 hcn lcn hl8 hlcn hsg hst acc hB hO j (by omega) t u) gX3_firstHolding_X3_firstFlawedPlace rfl (by decide +kernel) (n := 3) ⟨Nat.le_of_ble_eq_true rfl, Nat.le_of_ble_eq_true rfl⟩ ⟨Nat.zero_le _, Nat.zero_le _⟩ (Nat.le_of_ble_eq_true rfl) rfl rfl dX3_firstHolding_17 (fun r17 I17 H locs hp h => ?_)
        obtain ⟨rfl, hI17⟩ := hp
        rw [hI17] at h
        refine lv_iconst (v := (-1)) hx hb dX3_firstHolding_20 (by decide) ?_
        refine lv_icmp_ne (tgt := 26) hx hb dX3_firstHolding_21 (by decide) (fun c_21 => ?_) (fun c_21 => ?_)
        · refine lv_iinc (v := nI (j + 1)) hx hb dX3_firstHolding_26 hl (k := 0) rfl (nI_1 _) (by decide) rfl (fun ls hl => ?_)
          have hl : lv_has ls 4 [(3, _), (0, _), (1, _), (2, _)] := hl
          refine lv_goto (tgt := 2) hx hb dX3_firstHolding_29 (by decide) ?_
          exact ih2 (j + 1) (by omega) (by omega) (fun r hr => by rcases Nat.lt_or_ge r j with z | z; (exact hall r z); (obtain rfl : r = j := (by omega)); cases hq : ffO (vw I) lcn t u (gtC acc r) with | none => (rw [hq] at c_21; exact absurd rfl c_21) | some v => rfl) _ _ _ h (lv_sub hl [0, 1, 2, 3] rfl)
        · refine lv_iload_n hx hb dX3_firstHolding_24 rfl (lv_at hl 0 rfl) ?_
          exact r_iret C0 h hr dX3_firstHolding_25 ⟨by rw [fhO, fdF_is (j := j) hjq (by rw [(opI_m1 (fun v hv => by have := ffO_lt hv; omega)).mp c_21]; rfl) hall]; rfl, rfl⟩
  exact key2 100 0 (by omega) (by omega) (fun r hr => absurd hr (Nat.not_lt_zero _)) _ _ _ h (lv_sub hl [0, 1, 2, 3] rfl)
set_option maxHeartbeats 4000000 in
set_option maxRecDepth 100000 in
theorem ct_X3_decision (l : Launch) (k : Sk) (M : Nat) (I : IS) (hJ : Ij k M) (cn : Nat) (hc20 : cn ≤ 20) (hcn : I 0 4 = nI cn) (lcn : Nat) (hl8 : lcn ≤ 8) (hlcn : I 0 5 = nI lcn) (hsg : SgH I lcn) (hst : ∃ b, I 0 6 = bI b) (acc : List (List Nat)) (hB : BkH I acc) (hO : AcO acc cn) (t u : Int32) : MtI l yX3_decision wsX3_decision 6 [.ref (k.2.1 0), .int t, .int u] k M I (fun r I' => r = dcF (vw I) lcn t u acc ∧ I' = I) := by
  refine mtI_of (cc := cX3_decision) (maxL := 3) hJ (by decide) rfl (Nat.le_of_ble_eq_true rfl) ?_
  intro p e s m args below meth c A ls C0 h hr hl
  have hx := C0.1.1
  have hb := C0.1.2.1
  have hown := C0.1.2.2.2.1
  have hts := C0.1.2.2.2.2
  have hM := hJ.1
  have hl : lv_has ls 3 [(0, _), (1, _), (2, _)] := hl
  have hinX1 : ∀ w ∈ u_ws RX1 TX1 7, w ∈ wsX3_decision := by decide +kernel
  have hinX3 : ∀ w ∈ u_ws RX3 TX3 7, w ∈ wsX3_decision := by decide +kernel
  have hB6 := hB.2.1
  refine lv_aload_n hx hb dX3_decision_0 rfl (lv_at hl 0 rfl) ?_
  refine r_get (T := TX3) (N := 7) C0 h _ (by omega) (ce0 k _) hinX3 rfl 2 (by decide) (by decide +kernel) rfl rfl dX3_decision_1 ?_
  refine r_getN (T := TX1) (N := 7) C0 h _ (by omega) (ce3 k _) hinX1 rfl 6 (by decide) (by decide +kernel) rfl rfl dX3_decision_4 ?_
  rw [hB.1]
  refine lv_if_ne (tgt := 13) hx hb dX3_decision_7 (by decide) (fun c_7 => ?_) (fun c_7 => ?_)
  · have hac : ¬ acc.length = 0 := nz1 c_7
    refine lv_aload_n hx hb dX3_decision_13 rfl (lv_at hl 0 rfl) ?_
    refine lv_iload_n hx hb dX3_decision_14 rfl (lv_at hl 1 rfl) ?_
    refine lv_iload_n hx hb dX3_decision_15 rfl (lv_at hl 2 rfl) ?_
    refine r_cVI C0 h hl.1 _ (by omega) (ce0 k _) rfl (ct_X3_firstHolding l k M _ hJ cn hc20 hcn lcn hl8 hlcn hsg hst acc hB hO t u) gX3_decision_X3_firstHolding rfl (by decide +kernel) (n := 2) ⟨Nat.le_of_ble_eq_true rfl, Nat.le_of_ble_eq_true rfl⟩ ⟨Nat.zero_le _, Nat.zero_le _⟩ (Nat.le_of_ble_eq_true rfl) rfl rfl dX3_decision_16 (fun r16 I16 H locs hp h => ?_)
    obtain ⟨rfl, hI16⟩ := hp
    rw [hI16] at h
    refine lv_iconst (v := (-1)) hx hb dX3_decision_19 (by decide) ?_
    refine lv_icmp_eq (tgt := 25) hx hb dX3_decision_20 (by decide) (fun c_20 => ?_) (fun c_20 => ?_)
    · have hnh : fhO (vw I) lcn t u acc = none := (opI_m1 (fun v hv => by have := fhO_lt hv; omega)).mp c_20
      refine lv_aload_n hx hb dX3_decision_25 rfl (lv_at hl 0 rfl) ?_
      refine lv_iconst (v := nI 0) hx hb dX3_decision_26 (by decide) ?_
      refine lv_aload_n hx hb dX3_decision_27 rfl (lv_at hl 0 rfl) ?_
      refine lv_iconst (v := nI 0) hx hb dX3_decision_28 (by decide) ?_
      refine lv_iload_n hx hb dX3_decision_29 rfl (lv_at hl 1 rfl) ?_
      refine lv_iload_n hx hb dX3_decision_30 rfl (lv_at hl 2 rfl) ?_
      refine r_cVI C0 h hl.1 _ (by omega) (ce0 k _) rfl (ct_X3_firstFlawedPlace l k M _ hJ cn hc20 hcn lcn hl8 hlcn hsg hst acc hB hO 0 (by omega) t u) gX3_decision_X3_firstFlawedPlace rfl (by decide +kernel) (n := 3) ⟨Nat.le_of_ble_eq_true rfl, Nat.le_of_ble_eq_true rfl⟩ ⟨Nat.zero_le _, Nat.zero_le _⟩ (Nat.le_of_ble_eq_true rfl) rfl rfl dX3_decision_31 (fun r31 I31 H locs hp h => ?_)
      obtain ⟨rfl, hI31⟩ := hp
      rw [hI31] at h
      have hq9 : ∃ q9, ffO (vw I) lcn t u (gtC acc 0) = some q9 := by
        cases hq : ffO (vw I) lcn t u (gtC acc 0) with
        | some q9 => exact ⟨q9, rfl⟩
        | none =>
          have h9 := fdF_none.mp hnh 0 (Nat.zero_le _) (by omega)
          rw [hq] at h9; cases h9
      obtain ⟨q9, hq9⟩ := hq9
      rw [hq9]
      refine lv_iload_n hx hb dX3_decision_34 rfl (lv_at hl 1 rfl) ?_
      refine lv_iload_n hx hb dX3_decision_35 rfl (lv_at hl 2 rfl) ?_
      refine r_cVI C0 h hl.1 _ (by omega) (ce0 k _) rfl (ct_X3_flawOf l k M _ hJ cn hc20 hcn lcn hl8 hlcn hsg hst acc hB hO 0 q9 (ffO_lt hq9) t u) gX3_decision_X3_flawOf rfl (by decide +kernel) (n := 4) ⟨Nat.le_of_ble_eq_true rfl, Nat.le_of_ble_eq_true rfl⟩ ⟨Nat.zero_le _, Nat.zero_le _⟩ (Nat.le_of_ble_eq_true rfl) rfl rfl dX3_decision_36 (fun r36 I36 H locs hp h => ?_)
      obtain ⟨rfl, hI36⟩ := hp
      rw [hI36] at h
      exact r_iret C0 h hr dX3_decision_39 ⟨by rw [dcF_at hac hnh hq9], rfl⟩
    · have hnh : (fhO (vw I) lcn t u acc).isSome = true := by
        cases hq : fhO (vw I) lcn t u acc with
        | none => rw [hq] at c_20; exact absurd rfl c_20
        | some v => rfl
      refine lv_iconst (v := nI 0) hx hb dX3_decision_23 (by decide) ?_
      exact r_iret C0 h hr dX3_decision_24 ⟨by rw [dcF, if_neg hac, if_pos hnh], rfl⟩
  · have hac : acc.length = 0 := nz0 (by omega) c_7
    refine lv_bipush (v := nI 10) hx hb dX3_decision_10 (by decide) ?_
    exact r_iret C0 h hr dX3_decision_12 ⟨by rw [dcF, if_pos hac], rfl⟩
set_option maxHeartbeats 4000000 in
set_option maxRecDepth 100000 in
theorem ct_X3_decidingPlace (l : Launch) (k : Sk) (M : Nat) (I : IS) (hJ : Ij k M) (cn : Nat) (hc20 : cn ≤ 20) (hcn : I 0 4 = nI cn) (lcn : Nat) (hl8 : lcn ≤ 8) (hlcn : I 0 5 = nI lcn) (hsg : SgH I lcn) (hst : ∃ b, I 0 6 = bI b) (acc : List (List Nat)) (hB : BkH I acc) (hO : AcO acc cn) (t u : Int32) : MtI l yX3_decidingPlace wsX3_decidingPlace 6 [.ref (k.2.1 0), .int t, .int u] k M I (fun r I' => r = dpF (vw I) lcn t u acc ∧ I' = I) := by
  refine mtI_of (cc := cX3_decidingPlace) (maxL := 3) hJ (by decide) rfl (Nat.le_of_ble_eq_true rfl) ?_
  intro p e s m args below meth c A ls C0 h hr hl
  have hx := C0.1.1
  have hb := C0.1.2.1
  have hown := C0.1.2.2.2.1
  have hts := C0.1.2.2.2.2
  have hM := hJ.1
  have hl : lv_has ls 3 [(0, _), (1, _), (2, _)] := hl
  have hB6 := hB.2.1
  refine lv_aload_n hx hb dX3_decidingPlace_0 rfl (lv_at hl 0 rfl) ?_
  refine lv_iload_n hx hb dX3_decidingPlace_1 rfl (lv_at hl 1 rfl) ?_
  refine lv_iload_n hx hb dX3_decidingPlace_2 rfl (lv_at hl 2 rfl) ?_
  refine r_cVI C0 h hl.1 _ (by omega) (ce0 k _) rfl (ct_X3_firstHolding l k M _ hJ cn hc20 hcn lcn hl8 hlcn hsg hst acc hB hO t u) gX3_decidingPlace_X3_firstHolding rfl (by decide +kernel) (n := 2) ⟨Nat.le_of_ble_eq_true rfl, Nat.le_of_ble_eq_true rfl⟩ ⟨Nat.zero_le _, Nat.zero_le _⟩ (Nat.le_of_ble_eq_true rfl) rfl rfl dX3_decidingPlace_3 (fun r3 I3 H locs hp h => ?_)
  obtain ⟨rfl, hI3⟩ := hp
  rw [hI3] at h
  refine lv_iconst (v := (-1)) hx hb dX3_decidingPlace_6 (by decide) ?_
  refine lv_icmp_ne (tgt := 20) hx hb dX3_decidingPlace_7 (by decide) (fun c_7 => ?_) (fun c_7 => ?_)
  · have hnh : (fhO (vw I) lcn t u acc).isSome = true := by
      cases hq : fhO (vw I) lcn t u acc with
      | none => rw [hq] at c_7; exact absurd rfl c_7
      | some v => rfl
    refine lv_iconst (v := (-1)) hx hb dX3_decidingPlace_20 (by decide) ?_
    exact r_iret C0 h hr dX3_decidingPlace_21 ⟨by first | rw [dpF, if_pos hnh] | rw [dpF_no hnh], rfl⟩
  · have hnh : fhO (vw I) lcn t u acc = none := (opI_m1 (fun v hv => by have := fhO_lt hv; omega)).mp c_7
    refine lv_aload_n hx hb dX3_decidingPlace_10 rfl (lv_at hl 0 rfl) ?_
    refine lv_iconst (v := nI 0) hx hb dX3_decidingPlace_11 (by decide) ?_
    refine lv_iload_n hx hb dX3_decidingPlace_12 rfl (lv_at hl 1 rfl) ?_
    refine lv_iload_n hx hb dX3_decidingPlace_13 rfl (lv_at hl 2 rfl) ?_
    refine r_cVI C0 h hl.1 _ (by omega) (ce0 k _) rfl (ct_X3_firstFlawedPlace l k M _ hJ cn hc20 hcn lcn hl8 hlcn hsg hst acc hB hO 0 (by omega) t u) gX3_decidingPlace_X3_firstFlawedPlace rfl (by decide +kernel) (n := 3) ⟨Nat.le_of_ble_eq_true rfl, Nat.le_of_ble_eq_true rfl⟩ ⟨Nat.zero_le _, Nat.zero_le _⟩ (Nat.le_of_ble_eq_true rfl) rfl rfl dX3_decidingPlace_14 (fun r14 I14 H locs hp h => ?_)
    obtain ⟨rfl, hI14⟩ := hp
    rw [hI14] at h
    refine lv_goto (tgt := 21) hx hb dX3_decidingPlace_17 (by decide) ?_
    exact r_iret C0 h hr dX3_decidingPlace_21 ⟨by first | rw [dpF, if_pos hnh] | rw [dpF_no hnh], rfl⟩
set_option maxHeartbeats 4000000 in
set_option maxRecDepth 100000 in
theorem ct_X3_hasKey (l : Launch) (k : Sk) (M : Nat) (I : IS) (hJ : Ij k M) (cn : Nat) (hc20 : cn ≤ 20) (hcn : I 0 4 = nI cn) (acc : List (List Nat)) (hB : BkH I acc) (hO : AcO acc cn) (oc : Option Nat) (hoc : ∀ c9, oc = some c9 → c9 < acc.length) (key : Int32) : MtI l yX3_hasKey wsX3_hasKey 2 [.ref (k.2.1 0), .int (opI oc), .int key] k M I (fun r I' => r = bI (hkO (vw I) (gcO acc oc) key).isSome ∧ I' = I) := by
  refine mtIz_of (cc := cX3_hasKey) (maxL := 6) hJ (by decide) rfl (Nat.le_of_ble_eq_true rfl) ?_
  intro p e s m args below meth c A ls C0 h hr hl
  have hx := C0.1.1
  have hb := C0.1.2.1
  have hown := C0.1.2.2.2.1
  have hts := C0.1.2.2.2.2
  have hM := hJ.1
  have hl : lv_has ls 6 [(0, _), (1, _), (2, _)] := hl
  have hinX2 : ∀ w ∈ u_ws RX2 TX2 12, w ∈ wsX3_hasKey := by decide +kernel
  have hinX3 : ∀ w ∈ u_ws RX3 TX3 7, w ∈ wsX3_hasKey := by decide +kernel
  have hB6 := hB.2.1
  have hq6 : (gcO acc oc).length ≤ 6 := by
    cases oc with
    | none => exact Nat.zero_le _
    | some c9 => exact (hB.2.2 c9 (hoc c9 rfl)).2.1
  refine lv_aload_n hx hb dX3_hasKey_0 rfl (lv_at hl 0 rfl) ?_
  refine r_get (T := TX3) (N := 7) C0 h _ (by omega) (ce0 k _) hinX3 rfl 2 (by decide) (by decide +kernel) rfl rfl dX3_hasKey_1 ?_
  refine lv_iload_n hx hb dX3_hasKey_4 rfl (lv_at hl 1 rfl) ?_
  refine r_cVNI C0 h hl.1 _ (by omega) (ce3 k _) rfl (ct_X1_lengthOf l k M _ hJ acc _ hB) gX3_hasKey_X1_lengthOf_n186 rfl (by decide +kernel) (by decide +kernel) (by decide +kernel) (by decide +kernel) (by decide +kernel) (n := 1) ⟨Nat.le_of_ble_eq_true rfl, Nat.le_of_ble_eq_true rfl⟩ ⟨Nat.zero_le _, Nat.zero_le _⟩ (Nat.le_of_ble_eq_true rfl) rfl rfl dX3_hasKey_5 (fun r5 I5 H locs hp h => ?_)
  obtain ⟨rfl, hI5⟩ := hp
  rw [hI5] at h
  rw [leI_oc (fun c9 h9 => by have := hoc c9 h9; omega)]
  refine lv_istore_n hx hb dX3_hasKey_8 rfl hl (by decide) rfl (fun ls hl => ?_)
  have hl : lv_has ls 6 [(3, _), (0, _), (1, _), (2, _)] := hl
  refine lv_iconst (v := nI 0) hx hb dX3_hasKey_9 (by decide) ?_
  refine lv_istore hx hb dX3_hasKey_10 hl (by decide) rfl (fun ls hl => ?_)
  have hl : lv_has ls 6 [(4, _), (3, _), (0, _), (1, _), (2, _)] := hl
  have key12 : ∀ (n : Nat) (j : Nat), 7 - j < n → j ≤ (gcO acc oc).length → (∀ r, r < j → (decide (vw I (10 + gtN (gcO acc oc) r) 2 = key)) = false) → ∀ (H : Heap) (locs : List Loc) (ls : Array Slot), HX k M A s I H locs → lv_has ls 6 [(4, .int (nI j)), (3, .int (nI (gcO acc oc).length)), (0, .ref (k.2.1 0)), (1, .int (opI oc)), (2, .int key)] → W p l e (Rm 2) s m args below meth c H locs 0 0 (MQ below (va_Qi (fun r I' => r = bI (hkO (vw I) (gcO acc oc) key).isSome ∧ I' = I) (EnX k M) A) args s 0 0 A) (F0 m 12 ls []) := by
    intro n
    induction n with
    | zero =>
      intro j hn hj hall H locs ls h hl
      exact absurd hn (Nat.not_lt_zero _)
    | succ n ih12 =>
      intro j hn hj hall H locs ls h hl
      refine lv_iload hx hb dX3_hasKey_12 (lv_at hl 0 rfl) ?_
      refine lv_iload_n hx hb dX3_hasKey_14 rfl (lv_at hl 1 rfl) ?_
      refine lv_icmp_ge (tgt := 61) hx hb dX3_hasKey_15 (by decide) (fun c_15 => ?_) (fun c_15 => ?_)
      · have hjq : j = (gcO acc oc).length := by have := (nI_leI (by omega) (by omega)).mp c_15; omega
        refine lv_iconst (v := nI 0) hx hb dX3_hasKey_61 (by decide) ?_
        exact r_zret C0 h hr dX3_hasKey_62 (by first | exact zb1 | exact zb0 | exact ⟨_, rfl⟩) ⟨by rw [hkO, fdF_no (by rw [← hjq]; exact hall)]; rfl, rfl⟩
      · have hjq : j < (gcO acc oc).length := Nat.lt_of_not_le (fun z => c_15 (nI_le z (by omega)))
        have hc9 : ∃ c9, oc = some c9 := by
          cases oc with
          | none => exact absurd hjq (Nat.not_lt_zero _)
          | some c9 => exact ⟨c9, rfl⟩
        obtain ⟨c9, hoc9⟩ := hc9
        have hc9l := hoc c9 hoc9
        have hgc : gcO acc oc = gtC acc c9 := by rw [hoc9]; rfl
        have hml : gtN (gcO acc oc) j < cn := by rw [hgc] at hjq ⊢; exact hO c9 hc9l _ (gtN_mem hjq)
        have hm20 : gtN (gcO acc oc) j < 20 := by omega
        rw [show opI oc = nI c9 by rw [hoc9]; rfl] at hl
        refine lv_aload_n hx hb dX3_hasKey_18 rfl (lv_at hl 2 rfl) ?_
        refine r_get (T := TX3) (N := 7) C0 h _ (by omega) (ce0 k _) hinX3 rfl 2 (by decide) (by decide +kernel) rfl rfl dX3_hasKey_19 ?_
        refine lv_iload_n hx hb dX3_hasKey_22 rfl (lv_at hl 3 rfl) ?_
        refine lv_iload hx hb dX3_hasKey_23 (lv_at hl 0 rfl) ?_
        refine r_cVNI C0 h hl.1 _ (by omega) (ce3 k _) rfl (ct_X1_member l k M _ hJ acc c9 (nI j) (by omega) hB) gX3_hasKey_X1_member_n174 rfl (by decide +kernel) (by decide +kernel) (by decide +kernel) (by decide +kernel) (by decide +kernel) (n := 2) ⟨Nat.le_of_ble_eq_true rfl, Nat.le_of_ble_eq_true rfl⟩ ⟨Nat.zero_le _, Nat.zero_le _⟩ (Nat.le_of_ble_eq_true rfl) rfl rfl dX3_hasKey_25 (fun r25 I25 H locs hp h => ?_)
        obtain ⟨rfl, hI25⟩ := hp
        rw [hI25] at h
        rw [mbI_at (by rw [← hgc]; exact hjq) (by omega), ← hgc]
        refine lv_istore hx hb dX3_hasKey_28 hl (by decide) rfl (fun ls hl => ?_)
        have hl : lv_has ls 6 [(5, _), (4, _), (3, _), (0, _), (1, _), (2, _)] := hl
        refine lv_aload_n hx hb dX3_hasKey_30 rfl (lv_at hl 3 rfl) ?_
        refine lv_iload hx hb dX3_hasKey_31 (lv_at hl 0 rfl) ?_
        refine r_cVI C0 h hl.1 _ (by omega) (ce0 k _) rfl (ct_X3_isLetter l k M _ hJ cn hcn _) gX3_hasKey_X3_isLetter rfl (by decide +kernel) (n := 1) ⟨Nat.le_of_ble_eq_true rfl, Nat.le_of_ble_eq_true rfl⟩ ⟨Nat.zero_le _, Nat.zero_le _⟩ (Nat.le_of_ble_eq_true rfl) rfl rfl dX3_hasKey_33 (fun r33 I33 H locs hp h => ?_)
        obtain ⟨rfl, hI33⟩ := hp
        rw [hI33] at h
        refine lv_if_eq (tgt := 55) hx hb dX3_hasKey_36 (by decide) (fun c_36 => ?_) (fun c_36 => ?_)
        · exact absurd (show ¬ bI (isLt cn (nI (gtN (gcO acc oc) j))) = 0 by rw [isLt_at hml (by omega)]; decide) (fun z => z c_36)
        · refine lv_aload_n hx hb dX3_hasKey_39 rfl (lv_at hl 3 rfl) ?_
          refine r_get (T := TX3) (N := 7) C0 h _ (by omega) (ce0 k _) hinX3 rfl 0 (by decide) (by decide +kernel) rfl rfl dX3_hasKey_40 ?_
          refine lv_iload hx hb dX3_hasKey_43 (lv_at hl 0 rfl) ?_
          refine r_aaldL C0 h _ (by omega) dX3_hasKey_45 ?_
          refine r_getN (T := TX2) (N := 12) C0 h _ (by omega) (ceL k _ (by omega)) hinX2 rfl 2 (by decide) (by decide +kernel) rfl rfl dX3_hasKey_46 ?_
          refine lv_iload_n hx hb dX3_hasKey_49 rfl (lv_at hl 5 rfl) ?_
          refine lv_icmp_ne (tgt := 55) hx hb dX3_hasKey_50 (by decide) (fun c_50 => ?_) (fun c_50 => ?_)
          · refine lv_iinc (v := nI (j + 1)) hx hb dX3_hasKey_55 hl (k := 1) rfl (nI_1 _) (by decide) rfl (fun ls hl => ?_)
            have hl : lv_has ls 6 [(4, _), (5, _), (3, _), (0, _), (1, _), (2, _)] := hl
            refine lv_goto (tgt := 12) hx hb dX3_hasKey_58 (by decide) ?_
            rw [show nI c9 = opI oc by rw [hoc9]; rfl] at hl
            exact ih12 (j + 1) (by omega) (by omega) (fun r hr => by rcases Nat.lt_or_ge r j with z | z; (exact hall r z); (obtain rfl : r = j := (by omega)); exact decide_eq_false (by rw [vw_L I hm20]; exact c_50)) _ _ _ h (lv_sub hl [0, 2, 3, 4, 5] rfl)
          · refine lv_iconst (v := nI 1) hx hb dX3_hasKey_53 (by decide) ?_
            exact r_zret C0 h hr dX3_hasKey_54 (by first | exact zb1 | exact zb0 | exact ⟨_, rfl⟩) ⟨by rw [hkO, fdF_is (j := j) hjq (decide_eq_true (by rw [vw_L I hm20]; exact c_50)) hall]; rfl, rfl⟩
  exact key12 100 0 (by omega) (by omega) (fun r hr => absurd hr (Nat.not_lt_zero _)) _ _ _ h (lv_sub hl [0, 1, 2, 3, 4] rfl)
set_option maxHeartbeats 4000000 in
set_option maxRecDepth 100000 in
theorem ct_X3_turnAnchor (l : Launch) (k : Sk) (M : Nat) (I : IS) (hJ : Ij k M) (a : Nat) (ha : a < 20) : MtV l yX3_turnAnchor wsX3_turnAnchor 1 [.ref (k.2.1 (10 + a))] k M I (fun I' => I' = up2 I (10 + a) 11 (bI (decide (I (10 + a) 11 = 0)))) := by
  refine mtV_of (cc := cX3_turnAnchor) (maxL := 1) hJ (by decide) rfl (Nat.le_of_ble_eq_true rfl) ?_
  intro p e s m args below meth c A ls C0 h hr hl
  have hx := C0.1.1
  have hb := C0.1.2.1
  have hown := C0.1.2.2.2.1
  have hts := C0.1.2.2.2.2
  have hM := hJ.1
  have hl : lv_has ls 1 [(0, _)] := hl
  have hinX2 : ∀ w ∈ u_ws RX2 TX2 12, w ∈ wsX3_turnAnchor := by decide +kernel
  refine lv_aload_n hx hb dX3_turnAnchor_0 rfl (lv_at hl 0 rfl) ?_
  refine lv_aload_n hx hb dX3_turnAnchor_1 rfl (lv_at hl 0 rfl) ?_
  refine r_getN (T := TX2) (N := 12) C0 h _ (by omega) (ceL k _ (by omega)) hinX2 rfl 11 (by decide) (by decide +kernel) rfl rfl dX3_turnAnchor_2 ?_
  refine lv_if_ne (tgt := 12) hx hb dX3_turnAnchor_5 (by decide) (fun c_5 => ?_) (fun c_5 => ?_)
  · refine lv_iconst (v := nI 0) hx hb dX3_turnAnchor_12 (by decide) ?_
    refine r_putN (T := TX2) (N := 12) (ty0 := tyX2) C0 h _ (by omega) (ceL k _ (by omega)) hinX2 tyX2_ok nmX2 rfl 11 (by decide) (by decide +kernel) rfl rfl (by first | exact nar_bI true | exact nar_bI false) (by first | exact fit_bI true | exact fit_bI false) (Nat.le_of_ble_eq_true rfl) (ceL k _ (by omega)) dX3_turnAnchor_13 (fun H locs h => ?_)
    exact r_vret C0 h hr dX3_turnAnchor_16 (by first | rw [decide_eq_true c_5]; rfl | rw [decide_eq_false c_5]; rfl)
  · refine lv_iconst (v := nI 1) hx hb dX3_turnAnchor_8 (by decide) ?_
    refine lv_goto (tgt := 13) hx hb dX3_turnAnchor_9 (by decide) ?_
    refine r_putN (T := TX2) (N := 12) (ty0 := tyX2) C0 h _ (by omega) (ceL k _ (by omega)) hinX2 tyX2_ok nmX2 rfl 11 (by decide) (by decide +kernel) rfl rfl (by first | exact nar_bI true | exact nar_bI false) (by first | exact fit_bI true | exact fit_bI false) (Nat.le_of_ble_eq_true rfl) (ceL k _ (by omega)) dX3_turnAnchor_13 (fun H locs h => ?_)
    exact r_vret C0 h hr dX3_turnAnchor_16 (by first | rw [decide_eq_true c_5]; rfl | rw [decide_eq_false c_5]; rfl)
set_option maxHeartbeats 4000000 in
set_option maxRecDepth 100000 in
theorem ct_X3_withPropertiesOf (l : Launch) (k : Sk) (M : Nat) (I : IS) (hJ : Ij k M) (a : Nat) (ha : a < 20) (b9 : Int64) : MtL l yX3_withPropertiesOf wsX3_withPropertiesOf 4 [.ref (k.2.1 (10 + a)), .long b9] k M I (fun r I' => r = wpF (I (10 + a)) b9 13 ∧ I' = I) := by
  refine mtL_of (cc := cX3_withPropertiesOf) (maxL := 6) hJ (by decide) rfl (Nat.le_of_ble_eq_true rfl) ?_
  intro p e s m args below meth c A ls C0 h hr hl
  have hx := C0.1.1
  have hb := C0.1.2.1
  have hown := C0.1.2.2.2.1
  have hts := C0.1.2.2.2.2
  have hM := hJ.1
  have hl : lv_has ls 6 [(0, _), (1, _)] := hl
  refine lv_lload_n hx hb dX3_withPropertiesOf_0 rfl (lv_at hl 1 rfl) ?_
  refine lv_lstore_n hx hb dX3_withPropertiesOf_1 rfl hl (by decide) rfl (fun ls hl => ?_)
  have hl : lv_has ls 6 [(3, _), (0, _), (1, _)] := hl
  refine lv_iconst (v := nI 0) hx hb dX3_withPropertiesOf_2 (by decide) ?_
  refine lv_istore hx hb dX3_withPropertiesOf_3 hl (by decide) rfl (fun ls hl => ?_)
  have hl : lv_has ls 6 [(5, _), (3, _), (0, _), (1, _)] := hl
  have key5 : ∀ (n : Nat) (j : Nat), 14 - j < n → j ≤ 13 → ∀ (H : Heap) (locs : List Loc) (ls : Array Slot), HX k M A s I H locs → lv_has ls 6 [(5, .int (nI j)), (3, .long (wpF (I (10 + a)) b9 j)), (0, .ref (k.2.1 (10 + a)))] → W p l e (Rm 4) s m args below meth c H locs 0 0 (MQ below (va_Ql (fun r I' => r = wpF (I (10 + a)) b9 13 ∧ I' = I) (EnX k M) A) args s 0 0 A) (F0 m 5 ls []) := by
    intro n
    induction n with
    | zero =>
      intro j hn hj H locs ls h hl
      exact absurd hn (Nat.not_lt_zero _)
    | succ n ih5 =>
      intro j hn hj H locs ls h hl
      refine lv_iload hx hb dX3_withPropertiesOf_5 (lv_at hl 0 rfl) ?_
      refine lv_bipush (v := nI 12) hx hb dX3_withPropertiesOf_7 (by decide) ?_
      refine lv_icmp_gt (tgt := 32) hx hb dX3_withPropertiesOf_9 (by decide) (fun c_9 => ?_) (fun c_9 => ?_)
      · have hjc : j = 13 := by have := (nI_ltI (by omega) (by omega)).mp c_9; omega
        refine lv_lload_n hx hb dX3_withPropertiesOf_32 rfl (lv_at hl 1 rfl) ?_
        exact r_lret C0 h hr dX3_withPropertiesOf_33 ⟨by rw [hjc], rfl⟩
      · have hjc : j < 13 := by have h9 : ¬ 12 < j := fun q => c_9 (nI_lt q (by omega)); omega
        refine lv_lload_n hx hb dX3_withPropertiesOf_12 rfl (lv_at hl 1 rfl) ?_
        refine lv_ldc2 (v := 31) hx hb hown (hts (.constantLong RX3 202 31) (by decide +kernel)) dX3_withPropertiesOf_13 ?_
        refine lv_lmul hx hb dX3_withPropertiesOf_16 ?_
        refine lv_aload_n hx hb dX3_withPropertiesOf_17 rfl (lv_at hl 2 rfl) ?_
        refine lv_iload hx hb dX3_withPropertiesOf_18 (lv_at hl 0 rfl) ?_
        refine r_cVNI C0 h hl.1 _ (by omega) (ceL k _ (by omega)) rfl (ct_X2_property l k M _ hJ a ha j (by omega)) gX3_withPropertiesOf_X2_property_n144 rfl (by decide +kernel) (by decide +kernel) (by decide +kernel) (by decide +kernel) (by decide +kernel) (n := 1) ⟨Nat.le_of_ble_eq_true rfl, Nat.le_of_ble_eq_true rfl⟩ ⟨Nat.zero_le _, Nat.zero_le _⟩ (Nat.le_of_ble_eq_true rfl) rfl rfl dX3_withPropertiesOf_20 (fun r20 I20 H locs hp h => ?_)
        obtain ⟨rfl, hI20⟩ := hp
        rw [hI20] at h
        refine lv_i2l hx hb dX3_withPropertiesOf_23 rfl ?_
        refine lv_ladd hx hb dX3_withPropertiesOf_24 ?_
        refine lv_lstore_n hx hb dX3_withPropertiesOf_25 rfl hl (by decide) rfl (fun ls hl => ?_)
        have hl : lv_has ls 6 [(3, _), (5, _), (0, _)] := hl
        refine lv_iinc (v := nI (j + 1)) hx hb dX3_withPropertiesOf_26 hl (k := 1) rfl (nI_1 _) (by decide) rfl (fun ls hl => ?_)
        have hl : lv_has ls 6 [(5, _), (3, _), (0, _)] := hl
        refine lv_goto (tgt := 5) hx hb dX3_withPropertiesOf_29 (by decide) ?_
        exact ih5 (j + 1) (by omega) (by omega) _ _ _ h (lv_sub hl [0, 1, 2] rfl)
  exact key5 100 0 (by omega) (by omega) _ _ _ h (lv_sub hl [0, 1, 2] rfl)
set_option maxHeartbeats 4000000 in
set_option maxRecDepth 100000 in
theorem ok_X3_refuseUnless (l : Launch) (k : Sk) (M : Nat) (I : IS) (hJ : Ij k M) (x : Int32) (hx0 : ¬ x = 0) : MtV l yX3_refuseUnless wsX3_refuseUnless 1 [.int x] k M I (fun I' => I' = I) := by
  refine mtV_of (cc := cX3_refuseUnless) (maxL := 1) hJ (by decide) rfl (Nat.le_of_ble_eq_true rfl) ?_
  intro p e s m args below meth c A ls C0 h hr hl
  have hx := C0.1.1
  have hb := C0.1.2.1
  have hown := C0.1.2.2.2.1
  have hts := C0.1.2.2.2.2
  have hM := hJ.1
  have hl : lv_has ls 1 [(0, _)] := hl
  refine lv_iload_n hx hb dX3_refuseUnless_0 rfl (lv_at hl 0 rfl) ?_
  refine lv_if_ne (tgt := 14) hx hb dX3_refuseUnless_1 (by decide) (fun c_1 => ?_) (fun c_1 => ?_)
  · exact r_vret C0 h hr dX3_refuseUnless_14 rfl
  · exact absurd c_1 hx0
set_option maxHeartbeats 4000000 in
set_option maxRecDepth 100000 in
theorem ok_X3_refuseUnlessMoment (l : Launch) (k : Sk) (M : Nat) (I : IS) (hJ : Ij k M) (t u : Int32) (ht : isW t (nI 999) = true) (hu : isW u (nI 3) = true) : MtV l yX3_refuseUnlessMoment wsX3_refuseUnlessMoment 2 [.int t, .int u] k M I (fun I' => I' = I) := by
  refine mtV_of (cc := cX3_refuseUnlessMoment) (maxL := 2) hJ (by decide) rfl (Nat.le_of_ble_eq_true rfl) ?_
  intro p e s m args below meth c A ls C0 h hr hl
  have hx := C0.1.1
  have hb := C0.1.2.1
  have hown := C0.1.2.2.2.1
  have hts := C0.1.2.2.2.2
  have hM := hJ.1
  have hl : lv_has ls 2 [(0, _), (1, _)] := hl
  refine lv_iload_n hx hb dX3_refuseUnlessMoment_0 rfl (lv_at hl 0 rfl) ?_
  refine r_cSI C0 h hl.1 (ct_X3_isTime l k M _ hJ _) gX3_refuseUnlessMoment_X3_isTime rfl (by decide +kernel) (n := 1) ⟨Nat.le_of_ble_eq_true rfl, Nat.le_of_ble_eq_true rfl⟩ ⟨Nat.zero_le _, Nat.zero_le _⟩ (Nat.le_of_ble_eq_true rfl) rfl rfl dX3_refuseUnlessMoment_1 (fun r1 I1 H locs hp h => ?_)
  obtain ⟨rfl, hI1⟩ := hp
  rw [hI1] at h
  refine lv_if_eq (tgt := 19) hx hb dX3_refuseUnlessMoment_4 (by decide) (fun c_4 => ?_) (fun c_4 => ?_)
  · exact absurd (show ¬ bI (isW t (nI 999)) = 0 by rw [ht]; decide) (fun z => z c_4)
  · refine lv_iload_n hx hb dX3_refuseUnlessMoment_7 rfl (lv_at hl 1 rfl) ?_
    refine lv_iconst (v := nI 3) hx hb dX3_refuseUnlessMoment_8 (by decide) ?_
    refine r_cSI C0 h hl.1 (ct_X3_isWithin l k M _ hJ _ _) gX3_refuseUnlessMoment_X3_isWithin rfl (by decide +kernel) (n := 2) ⟨Nat.le_of_ble_eq_true rfl, Nat.le_of_ble_eq_true rfl⟩ ⟨Nat.zero_le _, Nat.zero_le _⟩ (Nat.le_of_ble_eq_true rfl) rfl rfl dX3_refuseUnlessMoment_9 (fun r9 I9 H locs hp h => ?_)
    obtain ⟨rfl, hI9⟩ := hp
    rw [hI9] at h
    refine lv_if_eq (tgt := 19) hx hb dX3_refuseUnlessMoment_12 (by decide) (fun c_12 => ?_) (fun c_12 => ?_)
    · exact absurd (show ¬ bI (isW u (nI 3)) = 0 by rw [hu]; decide) (fun z => z c_12)
    · refine lv_iconst (v := nI 1) hx hb dX3_refuseUnlessMoment_15 (by decide) ?_
      refine lv_goto (tgt := 20) hx hb dX3_refuseUnlessMoment_16 (by decide) ?_
      refine r_cSV C0 h hl.1 (ok_X3_refuseUnless l k M _ hJ _ (by decide)) gX3_refuseUnlessMoment_X3_refuseUnless rfl (by decide +kernel) (n := 1) ⟨Nat.le_of_ble_eq_true rfl, Nat.le_of_ble_eq_true rfl⟩ ⟨Nat.zero_le _, Nat.zero_le _⟩ (Nat.le_of_ble_eq_true rfl) rfl rfl dX3_refuseUnlessMoment_20 (fun I20 H locs hp h => ?_)
      rw [hp] at h
      exact r_vret C0 h hr dX3_refuseUnlessMoment_23 rfl
set_option maxHeartbeats 4000000 in
set_option maxRecDepth 100000 in
theorem ok_X3_refuseUnlessLetter (l : Launch) (k : Sk) (M : Nat) (I : IS) (hJ : Ij k M) (cn : Nat) (hcn : I 0 4 = nI cn) (x : Int32) (hx9 : isLt cn x = true) : MtV l yX3_refuseUnlessLetter wsX3_refuseUnlessLetter 2 [.ref (k.2.1 0), .int x] k M I (fun I' => I' = I) := by
  refine mtV_of (cc := cX3_refuseUnlessLetter) (maxL := 2) hJ (by decide) rfl (Nat.le_of_ble_eq_true rfl) ?_
  intro p e s m args below meth c A ls C0 h hr hl
  have hx := C0.1.1
  have hb := C0.1.2.1
  have hown := C0.1.2.2.2.1
  have hts := C0.1.2.2.2.2
  have hM := hJ.1
  have hl : lv_has ls 2 [(0, _), (1, _)] := hl
  refine lv_aload_n hx hb dX3_refuseUnlessLetter_0 rfl (lv_at hl 0 rfl) ?_
  refine lv_iload_n hx hb dX3_refuseUnlessLetter_1 rfl (lv_at hl 1 rfl) ?_
  refine r_cVI C0 h hl.1 _ (by omega) (ce0 k _) rfl (ct_X3_isLetter l k M _ hJ cn hcn _) gX3_refuseUnlessLetter_X3_isLetter rfl (by decide +kernel) (n := 1) ⟨Nat.le_of_ble_eq_true rfl, Nat.le_of_ble_eq_true rfl⟩ ⟨Nat.zero_le _, Nat.zero_le _⟩ (Nat.le_of_ble_eq_true rfl) rfl rfl dX3_refuseUnlessLetter_2 (fun r2 I2 H locs hp h => ?_)
  obtain ⟨rfl, hI2⟩ := hp
  rw [hI2] at h
  refine lv_if_ne (tgt := 18) hx hb dX3_refuseUnlessLetter_5 (by decide) (fun c_5 => ?_) (fun c_5 => ?_)
  · exact r_vret C0 h hr dX3_refuseUnlessLetter_18 rfl
  · exact absurd c_5 (show ¬ bI (isLt cn x) = 0 by rw [hx9]; decide)
set_option maxHeartbeats 4000000 in
set_option maxRecDepth 100000 in
theorem ok_X3_refuseUnlessList (l : Launch) (k : Sk) (M : Nat) (I : IS) (hJ : Ij k M) (lcn : Nat) (hlcn : I 0 5 = nI lcn) (hl8 : lcn ≤ 8) (x : Int32) (hx9 : isLt lcn x = true) : MtV l yX3_refuseUnlessList wsX3_refuseUnlessList 2 [.ref (k.2.1 0), .int x] k M I (fun I' => I' = I) := by
  refine mtV_of (cc := cX3_refuseUnlessList) (maxL := 2) hJ (by decide) rfl (Nat.le_of_ble_eq_true rfl) ?_
  intro p e s m args below meth c A ls C0 h hr hl
  have hx := C0.1.1
  have hb := C0.1.2.1
  have hown := C0.1.2.2.2.1
  have hts := C0.1.2.2.2.2
  have hM := hJ.1
  have hl : lv_has ls 2 [(0, _), (1, _)] := hl
  have hinX3 : ∀ w ∈ u_ws RX3 TX3 7, w ∈ wsX3_refuseUnlessList := by decide +kernel
  obtain ⟨j9, hj9, hxj⟩ := isLt_of (by omega) hx9
  refine lv_iload_n hx hb dX3_refuseUnlessList_0 rfl (lv_at hl 1 rfl) ?_
  refine lv_if_lt (tgt := 12) hx hb dX3_refuseUnlessList_1 (by decide) (fun c_1 => ?_) (fun c_1 => ?_)
  · exact absurd (by rw [hxj]; exact nI_pos (by omega)) (fun (z : ¬ x < 0) => z c_1)
  · refine lv_iload_n hx hb dX3_refuseUnlessList_4 rfl (lv_at hl 1 rfl) ?_
    refine lv_aload_n hx hb dX3_refuseUnlessList_5 rfl (lv_at hl 0 rfl) ?_
    refine r_get (T := TX3) (N := 7) C0 h _ (by omega) (ce0 k _) hinX3 rfl 5 (by decide) (by decide +kernel) rfl rfl dX3_refuseUnlessList_6 ?_
    rw [hlcn]
    refine lv_icmp_lt (tgt := 22) hx hb dX3_refuseUnlessList_9 (by decide) (fun c_9 => ?_) (fun c_9 => ?_)
    · exact r_vret C0 h hr dX3_refuseUnlessList_22 rfl
    · exact absurd (by rw [hxj]; exact nI_lt hj9 (by omega)) c_9
