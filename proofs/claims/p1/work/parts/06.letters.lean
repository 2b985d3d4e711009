/-! 06: the letter and the list -/
set_option maxHeartbeats 4000000 in
set_option maxRecDepth 100000 in
theorem ct_X2_print (l : Launch) (k : Sk) (M : Nat) (I : IS) (hJ : Ij k M) (i : Nat) (hi : i < 20) : MtI l yX2_print wsX2_print 2 [.ref (k.2.1 (10 + i))] k M I (fun r I' => r = prLf (I (10 + i)) ∧ I' = I) := by
  refine mtI_of (cc := cX2_print) (maxL := 2) hJ (by decide) rfl (Nat.le_of_ble_eq_true rfl) ?_
  intro p e s m args below meth c A ls C0 h hr hl
  have hx := C0.1.1
  have hb := C0.1.2.1
  have hown := C0.1.2.2.2.1
  have hts := C0.1.2.2.2.2
  have hM := hJ.1
  have hl : lv_has ls 2 [(0, _)] := hl
  have hinX2 : ∀ w ∈ u_ws RX2 TX2 12, w ∈ wsX2_print := by decide +kernel
  refine lv_bipush (v := nI 17) hx hb dX2_print_0 (by decide) ?_
  refine lv_aload_n hx hb dX2_print_2 rfl (lv_at hl 0 rfl) ?_
  refine r_get (T := TX2) (N := 12) C0 h _ (by omega) (ceL k _ (by omega)) hinX2 rfl 0 (by decide) (by decide +kernel) rfl rfl dX2_print_3 ?_
  refine r_cSNI C0 h hl.1 (ct_X3_mix l k M _ hJ _ _) gX2_print_X3_mix_n30 rfl (by decide +kernel) (by decide +kernel) (by decide +kernel) (by decide +kernel) (n := 2) ⟨Nat.le_of_ble_eq_true rfl, Nat.le_of_ble_eq_true rfl⟩ ⟨Nat.zero_le _, Nat.zero_le _⟩ (Nat.le_of_ble_eq_true rfl) rfl rfl dX2_print_6 (fun r6 I6 H locs hp h => ?_)
  obtain ⟨rfl, hI6⟩ := hp
  rw [hI6] at h
  refine lv_aload_n hx hb dX2_print_9 rfl (lv_at hl 0 rfl) ?_
  refine r_get (T := TX2) (N := 12) C0 h _ (by omega) (ceL k _ (by omega)) hinX2 rfl 1 (by decide) (by decide +kernel) rfl rfl dX2_print_10 ?_
  refine r_cSNI C0 h hl.1 (ct_X3_mix l k M _ hJ _ _) gX2_print_X3_mix_n30 rfl (by decide +kernel) (by decide +kernel) (by decide +kernel) (by decide +kernel) (n := 2) ⟨Nat.le_of_ble_eq_true rfl, Nat.le_of_ble_eq_true rfl⟩ ⟨Nat.zero_le _, Nat.zero_le _⟩ (Nat.le_of_ble_eq_true rfl) rfl rfl dX2_print_13 (fun r13 I13 H locs hp h => ?_)
  obtain ⟨rfl, hI13⟩ := hp
  rw [hI13] at h
  refine lv_aload_n hx hb dX2_print_16 rfl (lv_at hl 0 rfl) ?_
  refine r_get (T := TX2) (N := 12) C0 h _ (by omega) (ceL k _ (by omega)) hinX2 rfl 2 (by decide) (by decide +kernel) rfl rfl dX2_print_17 ?_
  refine r_cSNI C0 h hl.1 (ct_X3_mix l k M _ hJ _ _) gX2_print_X3_mix_n30 rfl (by decide +kernel) (by decide +kernel) (by decide +kernel) (by decide +kernel) (n := 2) ⟨Nat.le_of_ble_eq_true rfl, Nat.le_of_ble_eq_true rfl⟩ ⟨Nat.zero_le _, Nat.zero_le _⟩ (Nat.le_of_ble_eq_true rfl) rfl rfl dX2_print_20 (fun r20 I20 H locs hp h => ?_)
  obtain ⟨rfl, hI20⟩ := hp
  rw [hI20] at h
  refine lv_aload_n hx hb dX2_print_23 rfl (lv_at hl 0 rfl) ?_
  refine r_get (T := TX2) (N := 12) C0 h _ (by omega) (ceL k _ (by omega)) hinX2 rfl 3 (by decide) (by decide +kernel) rfl rfl dX2_print_24 ?_
  refine r_cSNI C0 h hl.1 (ct_X3_mix l k M _ hJ _ _) gX2_print_X3_mix_n30 rfl (by decide +kernel) (by decide +kernel) (by decide +kernel) (by decide +kernel) (n := 2) ⟨Nat.le_of_ble_eq_true rfl, Nat.le_of_ble_eq_true rfl⟩ ⟨Nat.zero_le _, Nat.zero_le _⟩ (Nat.le_of_ble_eq_true rfl) rfl rfl dX2_print_27 (fun r27 I27 H locs hp h => ?_)
  obtain ⟨rfl, hI27⟩ := hp
  rw [hI27] at h
  refine lv_istore_n hx hb dX2_print_30 rfl hl (by decide) rfl (fun ls hl => ?_)
  have hl : lv_has ls 2 [(1, _), (0, _)] := hl
  refine lv_iload_n hx hb dX2_print_31 rfl (lv_at hl 0 rfl) ?_
  refine lv_aload_n hx hb dX2_print_32 rfl (lv_at hl 1 rfl) ?_
  refine r_get (T := TX2) (N := 12) C0 h _ (by omega) (ceL k _ (by omega)) hinX2 rfl 4 (by decide) (by decide +kernel) rfl rfl dX2_print_33 ?_
  refine r_cSNI C0 h hl.1 (ct_X3_mix l k M _ hJ _ _) gX2_print_X3_mix_n30 rfl (by decide +kernel) (by decide +kernel) (by decide +kernel) (by decide +kernel) (n := 2) ⟨Nat.le_of_ble_eq_true rfl, Nat.le_of_ble_eq_true rfl⟩ ⟨Nat.zero_le _, Nat.zero_le _⟩ (Nat.le_of_ble_eq_true rfl) rfl rfl dX2_print_36 (fun r36 I36 H locs hp h => ?_)
  obtain ⟨rfl, hI36⟩ := hp
  rw [hI36] at h
  refine lv_aload_n hx hb dX2_print_39 rfl (lv_at hl 1 rfl) ?_
  refine r_get (T := TX2) (N := 12) C0 h _ (by omega) (ceL k _ (by omega)) hinX2 rfl 5 (by decide) (by decide +kernel) rfl rfl dX2_print_40 ?_
  refine r_cSNI C0 h hl.1 (ct_X3_mix l k M _ hJ _ _) gX2_print_X3_mix_n30 rfl (by decide +kernel) (by decide +kernel) (by decide +kernel) (by decide +kernel) (n := 2) ⟨Nat.le_of_ble_eq_true rfl, Nat.le_of_ble_eq_true rfl⟩ ⟨Nat.zero_le _, Nat.zero_le _⟩ (Nat.le_of_ble_eq_true rfl) rfl rfl dX2_print_43 (fun r43 I43 H locs hp h => ?_)
  obtain ⟨rfl, hI43⟩ := hp
  rw [hI43] at h
  refine lv_istore_n hx hb dX2_print_46 rfl hl (by decide) rfl (fun ls hl => ?_)
  have hl : lv_has ls 2 [(1, _), (0, _)] := hl
  refine lv_iload_n hx hb dX2_print_47 rfl (lv_at hl 0 rfl) ?_
  refine lv_aload_n hx hb dX2_print_48 rfl (lv_at hl 1 rfl) ?_
  refine r_get (T := TX2) (N := 12) C0 h _ (by omega) (ceL k _ (by omega)) hinX2 rfl 6 (by decide) (by decide +kernel) rfl rfl dX2_print_49 ?_
  refine lv_if_eq (tgt := 59) hx hb dX2_print_52 (by decide) (fun c_52 => ?_) (fun c_52 => ?_)
  · refine lv_iconst (v := nI 0) hx hb dX2_print_59 (by decide) ?_
    refine r_cSNI C0 h hl.1 (ct_X3_mix l k M _ hJ _ _) gX2_print_X3_mix_n30 rfl (by decide +kernel) (by decide +kernel) (by decide +kernel) (by decide +kernel) (n := 2) ⟨Nat.le_of_ble_eq_true rfl, Nat.le_of_ble_eq_true rfl⟩ ⟨Nat.zero_le _, Nat.zero_le _⟩ (Nat.le_of_ble_eq_true rfl) rfl rfl dX2_print_60 (fun r60 I60 H locs hp h => ?_)
    obtain ⟨rfl, hI60⟩ := hp
    rw [hI60] at h
    refine lv_aload_n hx hb dX2_print_63 rfl (lv_at hl 1 rfl) ?_
    refine r_get (T := TX2) (N := 12) C0 h _ (by omega) (ceL k _ (by omega)) hinX2 rfl 7 (by decide) (by decide +kernel) rfl rfl dX2_print_64 ?_
    refine r_cSNI C0 h hl.1 (ct_X3_mix l k M _ hJ _ _) gX2_print_X3_mix_n30 rfl (by decide +kernel) (by decide +kernel) (by decide +kernel) (by decide +kernel) (n := 2) ⟨Nat.le_of_ble_eq_true rfl, Nat.le_of_ble_eq_true rfl⟩ ⟨Nat.zero_le _, Nat.zero_le _⟩ (Nat.le_of_ble_eq_true rfl) rfl rfl dX2_print_67 (fun r67 I67 H locs hp h => ?_)
    obtain ⟨rfl, hI67⟩ := hp
    rw [hI67] at h
    refine lv_istore_n hx hb dX2_print_70 rfl hl (by decide) rfl (fun ls hl => ?_)
    have hl : lv_has ls 2 [(1, _), (0, _)] := hl
    refine lv_iload_n hx hb dX2_print_71 rfl (lv_at hl 0 rfl) ?_
    refine lv_aload_n hx hb dX2_print_72 rfl (lv_at hl 1 rfl) ?_
    refine r_get (T := TX2) (N := 12) C0 h _ (by omega) (ceL k _ (by omega)) hinX2 rfl 8 (by decide) (by decide +kernel) rfl rfl dX2_print_73 ?_
    refine r_cSNI C0 h hl.1 (ct_X3_mix l k M _ hJ _ _) gX2_print_X3_mix_n30 rfl (by decide +kernel) (by decide +kernel) (by decide +kernel) (by decide +kernel) (n := 2) ⟨Nat.le_of_ble_eq_true rfl, Nat.le_of_ble_eq_true rfl⟩ ⟨Nat.zero_le _, Nat.zero_le _⟩ (Nat.le_of_ble_eq_true rfl) rfl rfl dX2_print_76 (fun r76 I76 H locs hp h => ?_)
    obtain ⟨rfl, hI76⟩ := hp
    rw [hI76] at h
    refine lv_aload_n hx hb dX2_print_79 rfl (lv_at hl 1 rfl) ?_
    refine r_get (T := TX2) (N := 12) C0 h _ (by omega) (ceL k _ (by omega)) hinX2 rfl 9 (by decide) (by decide +kernel) rfl rfl dX2_print_80 ?_
    refine r_cSNI C0 h hl.1 (ct_X3_mix l k M _ hJ _ _) gX2_print_X3_mix_n30 rfl (by decide +kernel) (by decide +kernel) (by decide +kernel) (by decide +kernel) (n := 2) ⟨Nat.le_of_ble_eq_true rfl, Nat.le_of_ble_eq_true rfl⟩ ⟨Nat.zero_le _, Nat.zero_le _⟩ (Nat.le_of_ble_eq_true rfl) rfl rfl dX2_print_83 (fun r83 I83 H locs hp h => ?_)
    obtain ⟨rfl, hI83⟩ := hp
    rw [hI83] at h
    exact r_iret C0 h hr dX2_print_86 ⟨by unfold prLf; first | rw [if_pos c_52] | rw [if_neg c_52], rfl⟩
  · refine lv_iconst (v := nI 1) hx hb dX2_print_55 (by decide) ?_
    refine lv_goto (tgt := 60) hx hb dX2_print_56 (by decide) ?_
    refine r_cSNI C0 h hl.1 (ct_X3_mix l k M _ hJ _ _) gX2_print_X3_mix_n30 rfl (by decide +kernel) (by decide +kernel) (by decide +kernel) (by decide +kernel) (n := 2) ⟨Nat.le_of_ble_eq_true rfl, Nat.le_of_ble_eq_true rfl⟩ ⟨Nat.zero_le _, Nat.zero_le _⟩ (Nat.le_of_ble_eq_true rfl) rfl rfl dX2_print_60 (fun r60 I60 H locs hp h => ?_)
    obtain ⟨rfl, hI60⟩ := hp
    rw [hI60] at h
    refine lv_aload_n hx hb dX2_print_63 rfl (lv_at hl 1 rfl) ?_
    refine r_get (T := TX2) (N := 12) C0 h _ (by omega) (ceL k _ (by omega)) hinX2 rfl 7 (by decide) (by decide +kernel) rfl rfl dX2_print_64 ?_
    refine r_cSNI C0 h hl.1 (ct_X3_mix l k M _ hJ _ _) gX2_print_X3_mix_n30 rfl (by decide +kernel) (by decide +kernel) (by decide +kernel) (by decide +kernel) (n := 2) ⟨Nat.le_of_ble_eq_true rfl, Nat.le_of_ble_eq_true rfl⟩ ⟨Nat.zero_le _, Nat.zero_le _⟩ (Nat.le_of_ble_eq_true rfl) rfl rfl dX2_print_67 (fun r67 I67 H locs hp h => ?_)
    obtain ⟨rfl, hI67⟩ := hp
    rw [hI67] at h
    refine lv_istore_n hx hb dX2_print_70 rfl hl (by decide) rfl (fun ls hl => ?_)
    have hl : lv_has ls 2 [(1, _), (0, _)] := hl
    refine lv_iload_n hx hb dX2_print_71 rfl (lv_at hl 0 rfl) ?_
    refine lv_aload_n hx hb dX2_print_72 rfl (lv_at hl 1 rfl) ?_
    refine r_get (T := TX2) (N := 12) C0 h _ (by omega) (ceL k _ (by omega)) hinX2 rfl 8 (by decide) (by decide +kernel) rfl rfl dX2_print_73 ?_
    refine r_cSNI C0 h hl.1 (ct_X3_mix l k M _ hJ _ _) gX2_print_X3_mix_n30 rfl (by decide +kernel) (by decide +kernel) (by decide +kernel) (by decide +kernel) (n := 2) ⟨Nat.le_of_ble_eq_true rfl, Nat.le_of_ble_eq_true rfl⟩ ⟨Nat.zero_le _, Nat.zero_le _⟩ (Nat.le_of_ble_eq_true rfl) rfl rfl dX2_print_76 (fun r76 I76 H locs hp h => ?_)
    obtain ⟨rfl, hI76⟩ := hp
    rw [hI76] at h
    refine lv_aload_n hx hb dX2_print_79 rfl (lv_at hl 1 rfl) ?_
    refine r_get (T := TX2) (N := 12) C0 h _ (by omega) (ceL k _ (by omega)) hinX2 rfl 9 (by decide) (by decide +kernel) rfl rfl dX2_print_80 ?_
    refine r_cSNI C0 h hl.1 (ct_X3_mix l k M _ hJ _ _) gX2_print_X3_mix_n30 rfl (by decide +kernel) (by decide +kernel) (by decide +kernel) (by decide +kernel) (n := 2) ⟨Nat.le_of_ble_eq_true rfl, Nat.le_of_ble_eq_true rfl⟩ ⟨Nat.zero_le _, Nat.zero_le _⟩ (Nat.le_of_ble_eq_true rfl) rfl rfl dX2_print_83 (fun r83 I83 H locs hp h => ?_)
    obtain ⟨rfl, hI83⟩ := hp
    rw [hI83] at h
    exact r_iret C0 h hr dX2_print_86 ⟨by unfold prLf; first | rw [if_pos c_52] | rw [if_neg c_52], rfl⟩
set_option maxHeartbeats 4000000 in
set_option maxRecDepth 100000 in
theorem ct_X2_isSealedBy (l : Launch) (k : Sk) (M : Nat) (I : IS) (hJ : Ij k M) (i : Nat) (hi : i < 20) (q : Int32) : MtI l yX2_isSealedBy wsX2_isSealedBy 3 [.ref (k.2.1 (10 + i)), .int q] k M I (fun r I' => r = bI (decide (I (10 + i) 10 = sealF (prLf (I (10 + i))) q)) ∧ I' = I) := by
  refine mtIz_of (cc := cX2_isSealedBy) (maxL := 2) hJ (by decide) rfl (Nat.le_of_ble_eq_true rfl) ?_
  intro p e s m args below meth c A ls C0 h hr hl
  have hx := C0.1.1
  have hb := C0.1.2.1
  have hown := C0.1.2.2.2.1
  have hts := C0.1.2.2.2.2
  have hM := hJ.1
  have hl : lv_has ls 2 [(0, _), (1, _)] := hl
  have hinX2 : ∀ w ∈ u_ws RX2 TX2 12, w ∈ wsX2_isSealedBy := by decide +kernel
  refine lv_aload_n hx hb dX2_isSealedBy_0 rfl (lv_at hl 0 rfl) ?_
  refine r_get (T := TX2) (N := 12) C0 h _ (by omega) (ceL k _ (by omega)) hinX2 rfl 10 (by decide) (by decide +kernel) rfl rfl dX2_isSealedBy_1 ?_
  refine lv_aload_n hx hb dX2_isSealedBy_4 rfl (lv_at hl 0 rfl) ?_
  refine r_cVI C0 h hl.1 _ (by omega) (ceL k _ (by omega)) rfl (ct_X2_print l k M _ hJ _ (by omega)) gX2_isSealedBy_X2_print rfl (by decide +kernel) (n := 0) ⟨Nat.le_of_ble_eq_true rfl, Nat.le_of_ble_eq_true rfl⟩ ⟨Nat.zero_le _, Nat.zero_le _⟩ (Nat.le_of_ble_eq_true rfl) rfl rfl dX2_isSealedBy_5 (fun r5 I5 H locs hp h => ?_)
  obtain ⟨rfl, hI5⟩ := hp
  rw [hI5] at h
  refine lv_iload_n hx hb dX2_isSealedBy_8 rfl (lv_at hl 1 rfl) ?_
  refine r_cSNI C0 h hl.1 (ct_X3_sealFor l k M _ hJ _ _) gX2_isSealedBy_X3_sealFor_n54 rfl (by decide +kernel) (by decide +kernel) (by decide +kernel) (by decide +kernel) (n := 2) ⟨Nat.le_of_ble_eq_true rfl, Nat.le_of_ble_eq_true rfl⟩ ⟨Nat.zero_le _, Nat.zero_le _⟩ (Nat.le_of_ble_eq_true rfl) rfl rfl dX2_isSealedBy_9 (fun r9 I9 H locs hp h => ?_)
  obtain ⟨rfl, hI9⟩ := hp
  rw [hI9] at h
  refine lv_icmp_ne (tgt := 19) hx hb dX2_isSealedBy_12 (by decide) (fun c_12 => ?_) (fun c_12 => ?_)
  · refine lv_iconst (v := nI 0) hx hb dX2_isSealedBy_19 (by decide) ?_
    exact r_zret C0 h hr dX2_isSealedBy_20 (by first | exact zb1 | exact zb0 | exact ⟨_, rfl⟩) ⟨by first | rw [decide_eq_true c_12]; rfl | rw [decide_eq_false c_12]; rfl, rfl⟩
  · refine lv_iconst (v := nI 1) hx hb dX2_isSealedBy_15 (by decide) ?_
    refine lv_goto (tgt := 20) hx hb dX2_isSealedBy_16 (by decide) ?_
    exact r_zret C0 h hr dX2_isSealedBy_20 (by first | exact zb1 | exact zb0 | exact ⟨_, rfl⟩) ⟨by first | rw [decide_eq_true c_12]; rfl | rw [decide_eq_false c_12]; rfl, rfl⟩
set_option maxHeartbeats 4000000 in
set_option maxRecDepth 100000 in
theorem ct_X2_flawAlone (l : Launch) (k : Sk) (M : Nat) (I : IS) (hJ : Ij k M) (i : Nat) (hi : i < 20) (t u : Int32) : MtI l yX2_flawAlone wsX2_flawAlone 1 [.ref (k.2.1 (10 + i)), .int t, .int u] k M I (fun r I' => r = flA (I (10 + i)) t u ∧ I' = I) := by
  refine mtI_of (cc := cX2_flawAlone) (maxL := 3) hJ (by decide) rfl (Nat.le_of_ble_eq_true rfl) ?_
  intro p e s m args below meth c A ls C0 h hr hl
  have hx := C0.1.1
  have hb := C0.1.2.1
  have hown := C0.1.2.2.2.1
  have hts := C0.1.2.2.2.2
  have hM := hJ.1
  have hl : lv_has ls 3 [(0, _), (1, _), (2, _)] := hl
  have hinX2 : ∀ w ∈ u_ws RX2 TX2 12, w ∈ wsX2_flawAlone := by decide +kernel
  refine lv_iload_n hx hb dX2_flawAlone_0 rfl (lv_at hl 1 rfl) ?_
  refine lv_aload_n hx hb dX2_flawAlone_1 rfl (lv_at hl 0 rfl) ?_
  refine r_get (T := TX2) (N := 12) C0 h _ (by omega) (ceL k _ (by omega)) hinX2 rfl 4 (by decide) (by decide +kernel) rfl rfl dX2_flawAlone_2 ?_
  refine lv_icmp_ge (tgt := 10) hx hb dX2_flawAlone_5 (by decide) (fun c_5 => ?_) (fun c_5 => ?_)
  · refine lv_iload_n hx hb dX2_flawAlone_10 rfl (lv_at hl 1 rfl) ?_
    refine lv_aload_n hx hb dX2_flawAlone_11 rfl (lv_at hl 0 rfl) ?_
    refine r_get (T := TX2) (N := 12) C0 h _ (by omega) (ceL k _ (by omega)) hinX2 rfl 5 (by decide) (by decide +kernel) rfl rfl dX2_flawAlone_12 ?_
    refine lv_icmp_le (tgt := 20) hx hb dX2_flawAlone_15 (by decide) (fun c_15 => ?_) (fun c_15 => ?_)
    · refine lv_aload_n hx hb dX2_flawAlone_20 rfl (lv_at hl 0 rfl) ?_
      refine r_get (T := TX2) (N := 12) C0 h _ (by omega) (ceL k _ (by omega)) hinX2 rfl 8 (by decide) (by decide +kernel) rfl rfl dX2_flawAlone_21 ?_
      refine lv_iload_n hx hb dX2_flawAlone_24 rfl (lv_at hl 2 rfl) ?_
      refine lv_ishr hx hb dX2_flawAlone_25 ?_
      refine lv_iconst (v := nI 1) hx hb dX2_flawAlone_26 (by decide) ?_
      refine lv_iand hx hb dX2_flawAlone_27 ?_
      refine lv_if_ne (tgt := 35) hx hb dX2_flawAlone_28 (by decide) (fun c_28 => ?_) (fun c_28 => ?_)
      · refine lv_iconst (v := nI 0) hx hb dX2_flawAlone_35 (by decide) ?_
        exact r_iret C0 h hr dX2_flawAlone_36 ⟨by rw [flA, if_neg (fa_ge c_5), if_neg (fa_ge c_15)]; first | rw [if_pos c_28] | rw [if_neg c_28], rfl⟩
      · refine lv_iconst (v := nI 3) hx hb dX2_flawAlone_31 (by decide) ?_
        refine lv_goto (tgt := 36) hx hb dX2_flawAlone_32 (by decide) ?_
        exact r_iret C0 h hr dX2_flawAlone_36 ⟨by rw [flA, if_neg (fa_ge c_5), if_neg (fa_ge c_15)]; first | rw [if_pos c_28] | rw [if_neg c_28], rfl⟩
    · refine lv_iconst (v := nI 2) hx hb dX2_flawAlone_18 (by decide) ?_
      exact r_iret C0 h hr dX2_flawAlone_19 ⟨by rw [flA, if_neg (fa_ge c_5), if_pos (fa_nle c_15)], rfl⟩
  · refine lv_iconst (v := nI 1) hx hb dX2_flawAlone_8 (by decide) ?_
    exact r_iret C0 h hr dX2_flawAlone_9 ⟨by rw [flA, if_pos (fa_nle c_5)], rfl⟩
set_option maxHeartbeats 4000000 in
set_option maxRecDepth 100000 in
theorem ct_X2_write (l : Launch) (k : Sk) (M : Nat) (I : IS) (hJ : Ij k M) (i : Nat) (hi : i < 20) (a b c9 d9 : Int32) : MtV l yX2_write wsX2_write 1 [.ref (k.2.1 (10 + i)), .int a, .int b, .int c9, .int d9] k M I (fun I' => I' = up2 (up2 (up2 (up2 I (10 + i) 0 a) (10 + i) 1 b) (10 + i) 2 c9) (10 + i) 3 d9) := by
  refine mtV_of (cc := cX2_write) (maxL := 5) hJ (by decide) rfl (Nat.le_of_ble_eq_true rfl) ?_
  intro p e s m args below meth c A ls C0 h hr hl
  have hx := C0.1.1
  have hb := C0.1.2.1
  have hown := C0.1.2.2.2.1
  have hts := C0.1.2.2.2.2
  have hM := hJ.1
  have hl : lv_has ls 5 [(0, _), (1, _), (2, _), (3, _), (4, _)] := hl
  have hinX2 : ∀ w ∈ u_ws RX2 TX2 12, w ∈ wsX2_write := by decide +kernel
  refine lv_aload_n hx hb dX2_write_0 rfl (lv_at hl 0 rfl) ?_
  refine lv_iload_n hx hb dX2_write_1 rfl (lv_at hl 1 rfl) ?_
  refine r_put (T := TX2) (N := 12) (ty0 := tyX2) C0 h _ (by omega) (ceL k _ (by omega)) hinX2 tyX2_ok nmX2 rfl 0 (by decide) (by decide +kernel) rfl rfl rfl rfl (Nat.le_of_ble_eq_true rfl) (ceL k _ (by omega)) dX2_write_2 (fun H locs h => ?_)
  refine lv_aload_n hx hb dX2_write_5 rfl (lv_at hl 0 rfl) ?_
  refine lv_iload_n hx hb dX2_write_6 rfl (lv_at hl 2 rfl) ?_
  refine r_put (T := TX2) (N := 12) (ty0 := tyX2) C0 h _ (by omega) (ceL k _ (by omega)) hinX2 tyX2_ok nmX2 rfl 1 (by decide) (by decide +kernel) rfl rfl rfl rfl (Nat.le_of_ble_eq_true rfl) (ceL k _ (by omega)) dX2_write_7 (fun H locs h => ?_)
  refine lv_aload_n hx hb dX2_write_10 rfl (lv_at hl 0 rfl) ?_
  refine lv_iload_n hx hb dX2_write_11 rfl (lv_at hl 3 rfl) ?_
  refine r_put (T := TX2) (N := 12) (ty0 := tyX2) C0 h _ (by omega) (ceL k _ (by omega)) hinX2 tyX2_ok nmX2 rfl 2 (by decide) (by decide +kernel) rfl rfl rfl rfl (Nat.le_of_ble_eq_true rfl) (ceL k _ (by omega)) dX2_write_12 (fun H locs h => ?_)
  refine lv_aload_n hx hb dX2_write_15 rfl (lv_at hl 0 rfl) ?_
  refine lv_iload hx hb dX2_write_16 (lv_at hl 4 rfl) ?_
  refine r_put (T := TX2) (N := 12) (ty0 := tyX2) C0 h _ (by omega) (ceL k _ (by omega)) hinX2 tyX2_ok nmX2 rfl 3 (by decide) (by decide +kernel) rfl rfl rfl rfl (Nat.le_of_ble_eq_true rfl) (ceL k _ (by omega)) dX2_write_18 (fun H locs h => ?_)
  exact r_vret C0 h hr dX2_write_21 rfl
set_option maxHeartbeats 4000000 in
set_option maxRecDepth 100000 in
theorem ct_X2_property (l : Launch) (k : Sk) (M : Nat) (I : IS) (hJ : Ij k M) (i : Nat) (hi : i < 20) (w : Nat) (hw : w ≤ 12) : MtI l yX2_property wsX2_property 3 [.ref (k.2.1 (10 + i)), .int (nI w)] k M I (fun r I' => r = pyL (I (10 + i)) w ∧ I' = I) := by
  refine mtI_of (cc := cX2_property) (maxL := 2) hJ (by decide) rfl (Nat.le_of_ble_eq_true rfl) ?_
  intro p e s m args below meth c A ls C0 h hr hl
  have hx := C0.1.1
  have hb := C0.1.2.1
  have hown := C0.1.2.2.2.1
  have hts := C0.1.2.2.2.2
  have hM := hJ.1
  have hl : lv_has ls 2 [(0, _), (1, _)] := hl
  have hinX2 : ∀ w ∈ u_ws RX2 TX2 12, w ∈ wsX2_property := by decide +kernel
  refine lv_iload_n hx hb dX2_property_0 rfl (lv_at hl 1 rfl) ?_
  rcases (show w = 0 ∨ w = 1 ∨ w = 2 ∨ w = 3 ∨ w = 4 ∨ w = 5 ∨ w = 6 ∨ w = 7 ∨ w = 8 ∨ w = 9 ∨ w = 10 ∨ w = 11 ∨ w = 12 by omega) with rfl | rfl | rfl | rfl | rfl | rfl | rfl | rfl | rfl | rfl | rfl | rfl | rfl
  · refine lv_tableIn (tgt := 64) hx hb dX2_property_1 (by decide) (by decide) rfl (by decide) ?_
    refine lv_aload_n hx hb dX2_property_64 rfl (lv_at hl 0 rfl) ?_
    refine r_get (T := TX2) (N := 12) C0 h _ (by omega) (ceL k _ (by omega)) hinX2 rfl 0 (by decide) (by decide +kernel) rfl rfl dX2_property_65 ?_
    exact r_iret C0 h hr dX2_property_68 ⟨rfl, rfl⟩
  · refine lv_tableIn (tgt := 69) hx hb dX2_property_1 (by decide) (by decide) rfl (by decide) ?_
    refine lv_aload_n hx hb dX2_property_69 rfl (lv_at hl 0 rfl) ?_
    refine r_get (T := TX2) (N := 12) C0 h _ (by omega) (ceL k _ (by omega)) hinX2 rfl 1 (by decide) (by decide +kernel) rfl rfl dX2_property_70 ?_
    exact r_iret C0 h hr dX2_property_73 ⟨rfl, rfl⟩
  · refine lv_tableIn (tgt := 74) hx hb dX2_property_1 (by decide) (by decide) rfl (by decide) ?_
    refine lv_aload_n hx hb dX2_property_74 rfl (lv_at hl 0 rfl) ?_
    refine r_get (T := TX2) (N := 12) C0 h _ (by omega) (ceL k _ (by omega)) hinX2 rfl 2 (by decide) (by decide +kernel) rfl rfl dX2_property_75 ?_
    exact r_iret C0 h hr dX2_property_78 ⟨rfl, rfl⟩
  · refine lv_tableIn (tgt := 79) hx hb dX2_property_1 (by decide) (by decide) rfl (by decide) ?_
    refine lv_aload_n hx hb dX2_property_79 rfl (lv_at hl 0 rfl) ?_
    refine r_get (T := TX2) (N := 12) C0 h _ (by omega) (ceL k _ (by omega)) hinX2 rfl 3 (by decide) (by decide +kernel) rfl rfl dX2_property_80 ?_
    exact r_iret C0 h hr dX2_property_83 ⟨rfl, rfl⟩
  · refine lv_tableIn (tgt := 84) hx hb dX2_property_1 (by decide) (by decide) rfl (by decide) ?_
    refine lv_aload_n hx hb dX2_property_84 rfl (lv_at hl 0 rfl) ?_
    refine r_get (T := TX2) (N := 12) C0 h _ (by omega) (ceL k _ (by omega)) hinX2 rfl 4 (by decide) (by decide +kernel) rfl rfl dX2_property_85 ?_
    exact r_iret C0 h hr dX2_property_88 ⟨rfl, rfl⟩
  · refine lv_tableIn (tgt := 89) hx hb dX2_property_1 (by decide) (by decide) rfl (by decide) ?_
    refine lv_aload_n hx hb dX2_property_89 rfl (lv_at hl 0 rfl) ?_
    refine r_get (T := TX2) (N := 12) C0 h _ (by omega) (ceL k _ (by omega)) hinX2 rfl 5 (by decide) (by decide +kernel) rfl rfl dX2_property_90 ?_
    exact r_iret C0 h hr dX2_property_93 ⟨rfl, rfl⟩
  · refine lv_tableIn (tgt := 94) hx hb dX2_property_1 (by decide) (by decide) rfl (by decide) ?_
    refine lv_aload_n hx hb dX2_property_94 rfl (lv_at hl 0 rfl) ?_
    refine r_get (T := TX2) (N := 12) C0 h _ (by omega) (ceL k _ (by omega)) hinX2 rfl 6 (by decide) (by decide +kernel) rfl rfl dX2_property_95 ?_
    refine lv_if_eq (tgt := 105) hx hb dX2_property_98 (by decide) (fun c_98 => ?_) (fun c_98 => ?_)
    · refine lv_iconst (v := nI 0) hx hb dX2_property_105 (by decide) ?_
      exact r_iret C0 h hr dX2_property_106 ⟨by first | exact (if_pos c_98).symm | exact (if_neg c_98).symm, rfl⟩
    · refine lv_iconst (v := nI 1) hx hb dX2_property_101 (by decide) ?_
      refine lv_goto (tgt := 106) hx hb dX2_property_102 (by decide) ?_
      exact r_iret C0 h hr dX2_property_106 ⟨by first | exact (if_pos c_98).symm | exact (if_neg c_98).symm, rfl⟩
  · refine lv_tableIn (tgt := 107) hx hb dX2_property_1 (by decide) (by decide) rfl (by decide) ?_
    refine lv_aload_n hx hb dX2_property_107 rfl (lv_at hl 0 rfl) ?_
    refine r_get (T := TX2) (N := 12) C0 h _ (by omega) (ceL k _ (by omega)) hinX2 rfl 7 (by decide) (by decide +kernel) rfl rfl dX2_property_108 ?_
    exact r_iret C0 h hr dX2_property_111 ⟨rfl, rfl⟩
  · refine lv_tableIn (tgt := 112) hx hb dX2_property_1 (by decide) (by decide) rfl (by decide) ?_
    refine lv_aload_n hx hb dX2_property_112 rfl (lv_at hl 0 rfl) ?_
    refine r_get (T := TX2) (N := 12) C0 h _ (by omega) (ceL k _ (by omega)) hinX2 rfl 8 (by decide) (by decide +kernel) rfl rfl dX2_property_113 ?_
    exact r_iret C0 h hr dX2_property_116 ⟨rfl, rfl⟩
  · refine lv_tableIn (tgt := 117) hx hb dX2_property_1 (by decide) (by decide) rfl (by decide) ?_
    refine lv_aload_n hx hb dX2_property_117 rfl (lv_at hl 0 rfl) ?_
    refine r_get (T := TX2) (N := 12) C0 h _ (by omega) (ceL k _ (by omega)) hinX2 rfl 9 (by decide) (by decide +kernel) rfl rfl dX2_property_118 ?_
    exact r_iret C0 h hr dX2_property_121 ⟨rfl, rfl⟩
  · refine lv_tableIn (tgt := 122) hx hb dX2_property_1 (by decide) (by decide) rfl (by decide) ?_
    refine lv_aload_n hx hb dX2_property_122 rfl (lv_at hl 0 rfl) ?_
    refine r_get (T := TX2) (N := 12) C0 h _ (by omega) (ceL k _ (by omega)) hinX2 rfl 10 (by decide) (by decide +kernel) rfl rfl dX2_property_123 ?_
    exact r_iret C0 h hr dX2_property_126 ⟨rfl, rfl⟩
  · refine lv_tableIn (tgt := 127) hx hb dX2_property_1 (by decide) (by decide) rfl (by decide) ?_
    refine lv_aload_n hx hb dX2_property_127 rfl (lv_at hl 0 rfl) ?_
    refine r_cVI C0 h hl.1 _ (by omega) (ceL k _ (by omega)) rfl (ct_X2_print l k M _ hJ _ (by omega)) gX2_property_X2_print rfl (by decide +kernel) (n := 0) ⟨Nat.le_of_ble_eq_true rfl, Nat.le_of_ble_eq_true rfl⟩ ⟨Nat.zero_le _, Nat.zero_le _⟩ (Nat.le_of_ble_eq_true rfl) rfl rfl dX2_property_128 (fun r128 I128 H locs hp h => ?_)
    obtain ⟨rfl, hI128⟩ := hp
    rw [hI128] at h
    exact r_iret C0 h hr dX2_property_131 ⟨rfl, rfl⟩
  · refine lv_tableOut (tgt := 132) hx hb dX2_property_1 (by decide) (by decide) ?_
    refine lv_aload_n hx hb dX2_property_132 rfl (lv_at hl 0 rfl) ?_
    refine r_get (T := TX2) (N := 12) C0 h _ (by omega) (ceL k _ (by omega)) hinX2 rfl 11 (by decide) (by decide +kernel) rfl rfl dX2_property_133 ?_
    refine lv_if_eq (tgt := 143) hx hb dX2_property_136 (by decide) (fun c_136 => ?_) (fun c_136 => ?_)
    · refine lv_iconst (v := nI 0) hx hb dX2_property_143 (by decide) ?_
      exact r_iret C0 h hr dX2_property_144 ⟨by first | exact (if_pos c_136).symm | exact (if_neg c_136).symm, rfl⟩
    · refine lv_iconst (v := nI 1) hx hb dX2_property_139 (by decide) ?_
      refine lv_goto (tgt := 144) hx hb dX2_property_140 (by decide) ?_
      exact r_iret C0 h hr dX2_property_144 ⟨by first | exact (if_pos c_136).symm | exact (if_neg c_136).symm, rfl⟩
set_option maxHeartbeats 4000000 in
set_option maxRecDepth 100000 in
theorem ct_X0_write (l : Launch) (k : Sk) (M : Nat) (I : IS) (hJ : Ij k M) (i : Nat) (hi : i < 8) (a b c9 : Int32) : MtV l yX0_write wsX0_write 1 [.ref (k.2.1 (30 + i)), .int a, .int b, .int c9] k M I (fun I' => I' = up2 (up2 (up2 I (30 + i) 0 a) (30 + i) 1 b) (30 + i) 2 c9) := by
  refine mtV_of (cc := cX0_write) (maxL := 4) hJ (by decide) rfl (Nat.le_of_ble_eq_true rfl) ?_
  intro p e s m args below meth c A ls C0 h hr hl
  have hx := C0.1.1
  have hb := C0.1.2.1
  have hown := C0.1.2.2.2.1
  have hts := C0.1.2.2.2.2
  have hM := hJ.1
  have hl : lv_has ls 4 [(0, _), (1, _), (2, _), (3, _)] := hl
  have hinX0 : ∀ w ∈ u_ws RX0 TX0 6, w ∈ wsX0_write := by decide +kernel
  refine lv_aload_n hx hb dX0_write_0 rfl (lv_at hl 0 rfl) ?_
  refine lv_iload_n hx hb dX0_write_1 rfl (lv_at hl 1 rfl) ?_
  refine r_put (T := TX0) (N := 6) (ty0 := tyX0) C0 h _ (by omega) (ceC k _ (by omega)) hinX0 tyX0_ok nmX0 rfl 0 (by decide) (by decide +kernel) rfl rfl rfl rfl (Nat.le_of_ble_eq_true rfl) (ceC k _ (by omega)) dX0_write_2 (fun H locs h => ?_)
  refine lv_aload_n hx hb dX0_write_5 rfl (lv_at hl 0 rfl) ?_
  refine lv_iload_n hx hb dX0_write_6 rfl (lv_at hl 2 rfl) ?_
  refine r_put (T := TX0) (N := 6) (ty0 := tyX0) C0 h _ (by omega) (ceC k _ (by omega)) hinX0 tyX0_ok nmX0 rfl 1 (by decide) (by decide +kernel) rfl rfl rfl rfl (Nat.le_of_ble_eq_true rfl) (ceC k _ (by omega)) dX0_write_7 (fun H locs h => ?_)
  refine lv_aload_n hx hb dX0_write_10 rfl (lv_at hl 0 rfl) ?_
  refine lv_iload_n hx hb dX0_write_11 rfl (lv_at hl 3 rfl) ?_
  refine r_put (T := TX0) (N := 6) (ty0 := tyX0) C0 h _ (by omega) (ceC k _ (by omega)) hinX0 tyX0_ok nmX0 rfl 2 (by decide) (by decide +kernel) rfl rfl rfl rfl (Nat.le_of_ble_eq_true rfl) (ceC k _ (by omega)) dX0_write_12 (fun H locs h => ?_)
  exact r_vret C0 h hr dX0_write_15 rfl
set_option maxHeartbeats 4000000 in
set_option maxRecDepth 100000 in
theorem ct_X0_print (l : Launch) (k : Sk) (M : Nat) (I : IS) (hJ : Ij k M) (i : Nat) (hi : i < 8) : MtI l yX0_print wsX0_print 2 [.ref (k.2.1 (30 + i))] k M I (fun r I' => r = prCf (I (30 + i)) ∧ I' = I) := by
  refine mtI_of (cc := cX0_print) (maxL := 1) hJ (by decide) rfl (Nat.le_of_ble_eq_true rfl) ?_
  intro p e s m args below meth c A ls C0 h hr hl
  have hx := C0.1.1
  have hb := C0.1.2.1
  have hown := C0.1.2.2.2.1
  have hts := C0.1.2.2.2.2
  have hM := hJ.1
  have hl : lv_has ls 1 [(0, _)] := hl
  have hinX0 : ∀ w ∈ u_ws RX0 TX0 6, w ∈ wsX0_print := by decide +kernel
  refine lv_bipush (v := nI 19) hx hb dX0_print_0 (by decide) ?_
  refine lv_aload_n hx hb dX0_print_2 rfl (lv_at hl 0 rfl) ?_
  refine r_get (T := TX0) (N := 6) C0 h _ (by omega) (ceC k _ (by omega)) hinX0 rfl 0 (by decide) (by decide +kernel) rfl rfl dX0_print_3 ?_
  refine r_cSNI C0 h hl.1 (ct_X3_mix l k M _ hJ _ _) gX0_print_X3_mix_n21 rfl (by decide +kernel) (by decide +kernel) (by decide +kernel) (by decide +kernel) (n := 2) ⟨Nat.le_of_ble_eq_true rfl, Nat.le_of_ble_eq_true rfl⟩ ⟨Nat.zero_le _, Nat.zero_le _⟩ (Nat.le_of_ble_eq_true rfl) rfl rfl dX0_print_6 (fun r6 I6 H locs hp h => ?_)
  obtain ⟨rfl, hI6⟩ := hp
  rw [hI6] at h
  refine lv_aload_n hx hb dX0_print_9 rfl (lv_at hl 0 rfl) ?_
  refine r_get (T := TX0) (N := 6) C0 h _ (by omega) (ceC k _ (by omega)) hinX0 rfl 1 (by decide) (by decide +kernel) rfl rfl dX0_print_10 ?_
  refine r_cSNI C0 h hl.1 (ct_X3_mix l k M _ hJ _ _) gX0_print_X3_mix_n21 rfl (by decide +kernel) (by decide +kernel) (by decide +kernel) (by decide +kernel) (n := 2) ⟨Nat.le_of_ble_eq_true rfl, Nat.le_of_ble_eq_true rfl⟩ ⟨Nat.zero_le _, Nat.zero_le _⟩ (Nat.le_of_ble_eq_true rfl) rfl rfl dX0_print_13 (fun r13 I13 H locs hp h => ?_)
  obtain ⟨rfl, hI13⟩ := hp
  rw [hI13] at h
  refine lv_aload_n hx hb dX0_print_16 rfl (lv_at hl 0 rfl) ?_
  refine r_get (T := TX0) (N := 6) C0 h _ (by omega) (ceC k _ (by omega)) hinX0 rfl 2 (by decide) (by decide +kernel) rfl rfl dX0_print_17 ?_
  refine r_cSNI C0 h hl.1 (ct_X3_mix l k M _ hJ _ _) gX0_print_X3_mix_n21 rfl (by decide +kernel) (by decide +kernel) (by decide +kernel) (by decide +kernel) (n := 2) ⟨Nat.le_of_ble_eq_true rfl, Nat.le_of_ble_eq_true rfl⟩ ⟨Nat.zero_le _, Nat.zero_le _⟩ (Nat.le_of_ble_eq_true rfl) rfl rfl dX0_print_20 (fun r20 I20 H locs hp h => ?_)
  obtain ⟨rfl, hI20⟩ := hp
  rw [hI20] at h
  refine lv_aload_n hx hb dX0_print_23 rfl (lv_at hl 0 rfl) ?_
  refine r_get (T := TX0) (N := 6) C0 h _ (by omega) (ceC k _ (by omega)) hinX0 rfl 3 (by decide) (by decide +kernel) rfl rfl dX0_print_24 ?_
  refine lv_sipush (v := nI 997) hx hb dX0_print_27 (by decide) ?_
  refine lv_irem hx hb dX0_print_30 (by decide) ?_
  refine r_cSNI C0 h hl.1 (ct_X3_mix l k M _ hJ _ _) gX0_print_X3_mix_n21 rfl (by decide +kernel) (by decide +kernel) (by decide +kernel) (by decide +kernel) (n := 2) ⟨Nat.le_of_ble_eq_true rfl, Nat.le_of_ble_eq_true rfl⟩ ⟨Nat.zero_le _, Nat.zero_le _⟩ (Nat.le_of_ble_eq_true rfl) rfl rfl dX0_print_31 (fun r31 I31 H locs hp h => ?_)
  obtain ⟨rfl, hI31⟩ := hp
  rw [hI31] at h
  exact r_iret C0 h hr dX0_print_34 ⟨rfl, rfl⟩
set_option maxHeartbeats 4000000 in
set_option maxRecDepth 100000 in
theorem ct_X0_hasSerial (l : Launch) (k : Sk) (M : Nat) (I : IS) (hJ : Ij k M) (i : Nat) (hi : i < 8) (q : Int32) : MtI l yX0_hasSerial wsX0_hasSerial 1 [.ref (k.2.1 (30 + i)), .int q] k M I (fun r I' => r = bI (decide (¬ (I (30 + i) 3 >>> (q &&& 31)) &&& nI 1 = 0)) ∧ I' = I) := by
  refine mtIz_of (cc := cX0_hasSerial) (maxL := 2) hJ (by decide) rfl (Nat.le_of_ble_eq_true rfl) ?_
  intro p e s m args below meth c A ls C0 h hr hl
  have hx := C0.1.1
  have hb := C0.1.2.1
  have hown := C0.1.2.2.2.1
  have hts := C0.1.2.2.2.2
  have hM := hJ.1
  have hl : lv_has ls 2 [(0, _), (1, _)] := hl
  have hinX0 : ∀ w ∈ u_ws RX0 TX0 6, w ∈ wsX0_hasSerial := by decide +kernel
  refine lv_aload_n hx hb dX0_hasSerial_0 rfl (lv_at hl 0 rfl) ?_
  refine r_get (T := TX0) (N := 6) C0 h _ (by omega) (ceC k _ (by omega)) hinX0 rfl 3 (by decide) (by decide +kernel) rfl rfl dX0_hasSerial_1 ?_
  refine lv_iload_n hx hb dX0_hasSerial_4 rfl (lv_at hl 1 rfl) ?_
  refine lv_ishr hx hb dX0_hasSerial_5 ?_
  refine lv_iconst (v := nI 1) hx hb dX0_hasSerial_6 (by decide) ?_
  refine lv_iand hx hb dX0_hasSerial_7 ?_
  refine lv_if_eq (tgt := 15) hx hb dX0_hasSerial_8 (by decide) (fun c_8 => ?_) (fun c_8 => ?_)
  · refine lv_iconst (v := nI 0) hx hb dX0_hasSerial_15 (by decide) ?_
    exact r_zret C0 h hr dX0_hasSerial_16 (by first | exact zb1 | exact zb0 | exact ⟨_, rfl⟩) ⟨by first | rw [decide_eq_true c_8]; rfl | rw [decide_eq_false (fun q9 => q9 c_8)]; rfl, rfl⟩
  · refine lv_iconst (v := nI 1) hx hb dX0_hasSerial_11 (by decide) ?_
    refine lv_goto (tgt := 16) hx hb dX0_hasSerial_12 (by decide) ?_
    exact r_zret C0 h hr dX0_hasSerial_16 (by first | exact zb1 | exact zb0 | exact ⟨_, rfl⟩) ⟨by first | rw [decide_eq_true c_8]; rfl | rw [decide_eq_false (fun q9 => q9 c_8)]; rfl, rfl⟩
set_option maxHeartbeats 4000000 in
set_option maxRecDepth 100000 in
theorem ct_X0_property (l : Launch) (k : Sk) (M : Nat) (I : IS) (hJ : Ij k M) (i : Nat) (hi : i < 8) (w : Nat) (hw : w ≤ 5) : MtI l yX0_property wsX0_property 3 [.ref (k.2.1 (30 + i)), .int (nI w)] k M I (fun r I' => r = pyC (I (30 + i)) w ∧ I' = I) := by
  refine mtI_of (cc := cX0_property) (maxL := 2) hJ (by decide) rfl (Nat.le_of_ble_eq_true rfl) ?_
  intro p e s m args below meth c A ls C0 h hr hl
  have hx := C0.1.1
  have hb := C0.1.2.1
  have hown := C0.1.2.2.2.1
  have hts := C0.1.2.2.2.2
  have hM := hJ.1
  have hl : lv_has ls 2 [(0, _), (1, _)] := hl
  have hinX0 : ∀ w ∈ u_ws RX0 TX0 6, w ∈ wsX0_property := by decide +kernel
  refine lv_iload_n hx hb dX0_property_0 rfl (lv_at hl 1 rfl) ?_
  rcases (show w = 0 ∨ w = 1 ∨ w = 2 ∨ w = 3 ∨ w = 4 ∨ w = 5 by omega) with rfl | rfl | rfl | rfl | rfl | rfl
  · refine lv_tableIn (tgt := 36) hx hb dX0_property_1 (by decide) (by decide) rfl (by decide) ?_
    refine lv_aload_n hx hb dX0_property_36 rfl (lv_at hl 0 rfl) ?_
    refine r_get (T := TX0) (N := 6) C0 h _ (by omega) (ceC k _ (by omega)) hinX0 rfl 0 (by decide) (by decide +kernel) rfl rfl dX0_property_37 ?_
    exact r_iret C0 h hr dX0_property_40 ⟨rfl, rfl⟩
  · refine lv_tableIn (tgt := 41) hx hb dX0_property_1 (by decide) (by decide) rfl (by decide) ?_
    refine lv_aload_n hx hb dX0_property_41 rfl (lv_at hl 0 rfl) ?_
    refine r_get (T := TX0) (N := 6) C0 h _ (by omega) (ceC k _ (by omega)) hinX0 rfl 1 (by decide) (by decide +kernel) rfl rfl dX0_property_42 ?_
    exact r_iret C0 h hr dX0_property_45 ⟨rfl, rfl⟩
  · refine lv_tableIn (tgt := 46) hx hb dX0_property_1 (by decide) (by decide) rfl (by decide) ?_
    refine lv_aload_n hx hb dX0_property_46 rfl (lv_at hl 0 rfl) ?_
    refine r_get (T := TX0) (N := 6) C0 h _ (by omega) (ceC k _ (by omega)) hinX0 rfl 2 (by decide) (by decide +kernel) rfl rfl dX0_property_47 ?_
    exact r_iret C0 h hr dX0_property_50 ⟨rfl, rfl⟩
  · refine lv_tableIn (tgt := 51) hx hb dX0_property_1 (by decide) (by decide) rfl (by decide) ?_
    refine lv_aload_n hx hb dX0_property_51 rfl (lv_at hl 0 rfl) ?_
    refine r_get (T := TX0) (N := 6) C0 h _ (by omega) (ceC k _ (by omega)) hinX0 rfl 3 (by decide) (by decide +kernel) rfl rfl dX0_property_52 ?_
    exact r_iret C0 h hr dX0_property_55 ⟨rfl, rfl⟩
  · refine lv_tableIn (tgt := 56) hx hb dX0_property_1 (by decide) (by decide) rfl (by decide) ?_
    refine lv_aload_n hx hb dX0_property_56 rfl (lv_at hl 0 rfl) ?_
    refine r_get (T := TX0) (N := 6) C0 h _ (by omega) (ceC k _ (by omega)) hinX0 rfl 4 (by decide) (by decide +kernel) rfl rfl dX0_property_57 ?_
    exact r_iret C0 h hr dX0_property_60 ⟨rfl, rfl⟩
  · refine lv_tableOut (tgt := 61) hx hb dX0_property_1 (by decide) (by decide) ?_
    refine lv_aload_n hx hb dX0_property_61 rfl (lv_at hl 0 rfl) ?_
    refine r_cVI C0 h hl.1 _ (by omega) (ceC k _ (by omega)) rfl (ct_X0_print l k M _ hJ _ (by omega)) gX0_property_X0_print rfl (by decide +kernel) (n := 0) ⟨Nat.le_of_ble_eq_true rfl, Nat.le_of_ble_eq_true rfl⟩ ⟨Nat.zero_le _, Nat.zero_le _⟩ (Nat.le_of_ble_eq_true rfl) rfl rfl dX0_property_62 (fun r62 I62 H locs hp h => ?_)
    obtain ⟨rfl, hI62⟩ := hp
    rw [hI62] at h
    exact r_iret C0 h hr dX0_property_65 ⟨rfl, rfl⟩
set_option maxHeartbeats 4000000 in
set_option maxRecDepth 100000 in
theorem ct_X0_markSigners (l : Launch) (k : Sk) (M : Nat) (I : IS) (hJ : Ij k M) (i : Nat) (hi : i < 8) : MtV l yX0_markSigners wsX0_markSigners 3 [.ref (k.2.1 (30 + i))] k M I (fun I' => I' = up2 I (30 + i) 5 (sgF (prCf (I (30 + i))) (I (30 + i) 4) 16)) := by
  refine mtV_of (cc := cX0_markSigners) (maxL := 3) hJ (by decide) rfl (Nat.le_of_ble_eq_true rfl) ?_
  intro p e s m args below meth c A ls C0 h hr hl
  have hx := C0.1.1
  have hb := C0.1.2.1
  have hown := C0.1.2.2.2.1
  have hts := C0.1.2.2.2.2
  have hM := hJ.1
  have hl : lv_has ls 3 [(0, _)] := hl
  have hinX0 : ∀ w ∈ u_ws RX0 TX0 6, w ∈ wsX0_markSigners := by decide +kernel
  refine lv_aload_n hx hb dX0_markSigners_0 rfl (lv_at hl 0 rfl) ?_
  refine r_cVI C0 h hl.1 _ (by omega) (ceC k _ (by omega)) rfl (ct_X0_print l k M _ hJ _ (by omega)) gX0_markSigners_X0_print rfl (by decide +kernel) (n := 0) ⟨Nat.le_of_ble_eq_true rfl, Nat.le_of_ble_eq_true rfl⟩ ⟨Nat.zero_le _, Nat.zero_le _⟩ (Nat.le_of_ble_eq_true rfl) rfl rfl dX0_markSigners_1 (fun r1 I1 H locs hp h => ?_)
  obtain ⟨rfl, hI1⟩ := hp
  rw [hI1] at h
  refine lv_istore_n hx hb dX0_markSigners_4 rfl hl (by decide) rfl (fun ls hl => ?_)
  have hl : lv_has ls 3 [(1, _), (0, _)] := hl
  refine lv_aload_n hx hb dX0_markSigners_5 rfl (lv_at hl 1 rfl) ?_
  refine lv_iconst (v := nI 0) hx hb dX0_markSigners_6 (by decide) ?_
  refine r_put (T := TX0) (N := 6) (ty0 := tyX0) C0 h _ (by omega) (ceC k _ (by omega)) hinX0 tyX0_ok nmX0 rfl 5 (by decide) (by decide +kernel) rfl rfl rfl rfl (Nat.le_of_ble_eq_true rfl) (ceC k _ (by omega)) dX0_markSigners_7 (fun H locs h => ?_)
  refine lv_iconst (v := nI 0) hx hb dX0_markSigners_10 (by decide) ?_
  refine lv_istore_n hx hb dX0_markSigners_11 rfl hl (by decide) rfl (fun ls hl => ?_)
  have hl : lv_has ls 3 [(2, _), (1, _), (0, _)] := hl
  have key12 : ∀ (n : Nat) (j : Nat), 17 - j < n → j ≤ 16 → ∀ (H : Heap) (locs : List Loc) (ls : Array Slot), HX k M A s (up2 I (30 + i) 5 (sgF (prCf (I (30 + i))) (I (30 + i) 4) j)) H locs → lv_has ls 3 [(2, .int (nI j)), (0, .ref (k.2.1 (30 + i))), (1, .int (prCf (I (30 + i))))] → W p l e (Rm 3) s m args below meth c H locs 0 0 (MQ below (va_Qv (fun I' => I' = up2 I (30 + i) 5 (sgF (prCf (I (30 + i))) (I (30 + i) 4) 16)) (EnX k M) A) args s 0 0 A) (F0 m 12 ls []) := by
    intro n
    induction n with
    | zero =>
      intro j hn hj H locs ls h hl
      exact absurd hn (Nat.not_lt_zero _)
    | succ n ih12 =>
      intro j hn hj H locs ls h hl
      refine lv_iload_n hx hb dX0_markSigners_12 rfl (lv_at hl 0 rfl) ?_
      refine lv_bipush (v := nI 15) hx hb dX0_markSigners_13 (by decide) ?_
      refine lv_icmp_gt (tgt := 48) hx hb dX0_markSigners_15 (by decide) (fun c_15 => ?_) (fun c_15 => ?_)
      · have hj16 : j = 16 := by have := (nI_ltI (by omega) (by omega)).mp c_15; omega
        subst hj16
        exact r_vret C0 h hr dX0_markSigners_48 rfl
      · have hj15 : j < 16 := Nat.lt_of_not_le (fun q => c_15 (nI_lt (by omega) (by omega)))
        refine lv_iload_n hx hb dX0_markSigners_18 rfl (lv_at hl 2 rfl) ?_
        refine lv_iload_n hx hb dX0_markSigners_19 rfl (lv_at hl 0 rfl) ?_
        refine r_cSNI C0 h hl.1 (ct_X3_sealFor l k M _ hJ _ _) gX0_markSigners_X3_sealFor_n35 rfl (by decide +kernel) (by decide +kernel) (by decide +kernel) (by decide +kernel) (n := 2) ⟨Nat.le_of_ble_eq_true rfl, Nat.le_of_ble_eq_true rfl⟩ ⟨Nat.zero_le _, Nat.zero_le _⟩ (Nat.le_of_ble_eq_true rfl) rfl rfl dX0_markSigners_20 (fun r20 I20 H locs hp h => ?_)
        obtain ⟨rfl, hI20⟩ := hp
        rw [hI20] at h
        refine lv_aload_n hx hb dX0_markSigners_23 rfl (lv_at hl 1 rfl) ?_
        refine r_get (T := TX0) (N := 6) C0 h _ (by omega) (ceC k _ (by omega)) hinX0 rfl 4 (by decide) (by decide +kernel) rfl rfl dX0_markSigners_24 ?_
        refine lv_icmp_ne (tgt := 42) hx hb dX0_markSigners_27 (by decide) (fun c_27 => ?_) (fun c_27 => ?_)
        · rw [up2_f _ _ _ _ (by decide)] at c_27
          rw [show sgF (prCf (I (30 + i))) (I (30 + i) 4) j = sgF (prCf (I (30 + i))) (I (30 + i) 4) (j + 1) by rw [sgF, if_neg c_27]] at h
          refine lv_iinc (v := nI (j + 1)) hx hb dX0_markSigners_42 hl (k := 0) rfl (nI_1 _) (by decide) rfl (fun ls hl => ?_)
          have hl : lv_has ls 3 [(2, _), (0, _), (1, _)] := hl
          refine lv_goto (tgt := 12) hx hb dX0_markSigners_45 (by decide) ?_
          exact ih12 (j + 1) (by omega) (by omega) _ _ _ h (lv_sub hl [0, 1, 2] rfl)
        · rw [up2_f _ _ _ _ (by decide)] at c_27
          refine lv_aload_n hx hb dX0_markSigners_30 rfl (lv_at hl 1 rfl) ?_
          refine lv_dup hx hb dX0_markSigners_31 rfl ?_
          refine r_get (T := TX0) (N := 6) C0 h _ (by omega) (ceC k _ (by omega)) hinX0 rfl 5 (by decide) (by decide +kernel) rfl rfl dX0_markSigners_32 ?_
          refine lv_iconst (v := nI 1) hx hb dX0_markSigners_35 (by decide) ?_
          refine lv_iload_n hx hb dX0_markSigners_36 rfl (lv_at hl 0 rfl) ?_
          refine lv_ishl hx hb dX0_markSigners_37 ?_
          refine lv_ior hx hb dX0_markSigners_38 ?_
          refine r_put (T := TX0) (N := 6) (ty0 := tyX0) C0 h _ (by omega) (ceC k _ (by omega)) hinX0 tyX0_ok nmX0 rfl 5 (by decide) (by decide +kernel) rfl rfl rfl rfl (Nat.le_of_ble_eq_true rfl) (ceC k _ (by omega)) dX0_markSigners_39 (fun H locs h => ?_)
          rw [up2_up2, up2_s, show sgF (prCf (I (30 + i))) (I (30 + i) 4) j ||| (nI 1 <<< (nI j &&& 31)) = sgF (prCf (I (30 + i))) (I (30 + i) 4) (j + 1) by rw [sgF, if_pos c_27]] at h
          refine lv_iinc (v := nI (j + 1)) hx hb dX0_markSigners_42 hl (k := 0) rfl (nI_1 _) (by decide) rfl (fun ls hl => ?_)
          have hl : lv_has ls 3 [(2, _), (0, _), (1, _)] := hl
          refine lv_goto (tgt := 12) hx hb dX0_markSigners_45 (by decide) ?_
          exact ih12 (j + 1) (by omega) (by omega) _ _ _ h (lv_sub hl [0, 1, 2] rfl)
  exact key12 100 0 (by omega) (by omega) _ _ _ h (lv_sub hl [0, 2, 1] rfl)
