/-! 47: below, act -/
set_option maxHeartbeats 4000000 in
set_option maxRecDepth 100000 in
theorem ct_L_below (l : Launch) (k : Sk) (M : Nat) (I : IS) (hJ : Ij k M) (v n : Int32) (hn : ¬ n = 0) : MtI l yL_below wsL_below 1 [.int v, .int n] k M I (fun r I' => r = blF v n ∧ I' = I) := by
  refine mtI_of (cc := cL_below) (maxL := 2) hJ (by decide) rfl (Nat.le_of_ble_eq_true rfl) ?_
  intro p e s m args below meth c A ls C0 h hr hl
  have hx := C0.1.1
  have hb := C0.1.2.1
  have hown := C0.1.2.2.2.1
  have hts := C0.1.2.2.2.2
  have hM := hJ.1
  have hl : lv_has ls 2 [(0, _), (1, _)] := hl
  refine lv_iload_n hx hb dL_below_0 rfl (lv_at hl 0 rfl) ?_
  refine lv_ldc (v := 2147483647) hx hb hown (hts (.constant RL 7 2147483647) (by decide +kernel)) dL_below_1 ?_
  refine lv_iand hx hb dL_below_3 ?_
  refine lv_iload_n hx hb dL_below_4 rfl (lv_at hl 1 rfl) ?_
  refine lv_irem hx hb dL_below_5 hn ?_
  exact r_iret C0 h hr dL_below_6 ⟨rfl, rfl⟩
set_option maxHeartbeats 4000000 in
set_option maxRecDepth 100000 in
theorem ct_L_act (l : Launch) (hf : l.stackTraces = false) (k : Sk) (M : Nat) (I : IS) (hJ : Ij k M) (h99 : 98 < M) (x : Int32) (cn lcn : Nat) (hR : RA cn lcn I) (sz : Nat) : vx_Met l yL_act wsL_act (RmA 13 1 6) (PcTL k M I sz [.ref (k.2.1 0), .int x, .ref (k.2.1 98), .int (nI cn)]) (va_Qi (fun r I' => r = nI 1 ∧ ∃ cn' lcn', RA cn' lcn' I' ∧ cn ≤ cn') (EnX k M) (AX k M sz)) (XN (AX k M sz)) 1 6 (AX k M sz) := by
  refine mtL_ofH (cc := cL_act) (maxL := 10) (hh := hhA) hJ (by decide) rfl (Nat.le_of_ble_eq_true rfl) ?_
  intro p e s m args below meth c A ls C0 h hX htab hr hl
  have hx := C0.1.1
  have hb := C0.1.2.1
  have hown := C0.1.2.2.2.1
  have hts := C0.1.2.2.2.2
  have hM := hJ.1
  have hl : lv_has ls 10 [(0, _), (1, _), (2, _), (3, _)] := hl
  have hc1 := hR.c1
  have hc20 := hR.c20
  have h12 := blN_lt x (n := 12) (by omega)
  have key84 : ∀ (I1 : IS), RA cn lcn I1 → blN x 12 < 3 → ∀ (H : Heap) (locs : List Loc) (ls : Array Slot), HX k M A s I1 H locs → lv_has ls 10 [(4, .int (nI (dr x 3 cn))), (5, .int (nI (dr x 5 cn))), (0, .ref (k.2.1 0)), (1, .int x), (2, .ref (k.2.1 98)), (3, .int (nI cn))] → W p l e (RmA 13 1 6) s m args below meth c H locs 0 0 (vx_MQ below (va_Qi (fun r I' => r = nI 1 ∧ ∃ cn' lcn', RA cn' lcn' I' ∧ cn ≤ cn') (EnX k M) A) (XN A) args s 1 6 A) (F0 m 84 ls []) := by
    intro I1 hR hv H locs ls h hl
    have hc1 := hR.c1
    have hc20 := hR.c20
    have hby := dr_lt x 5 (n := cn) (by omega)
    have hlt := dr_lt x 3 (n := cn) (by omega)
    refine lv_aload_n hx hb dL_act_84 rfl (lv_at hl 2 rfl) ?_
    refine lv_aload_n hx hb dL_act_85 rfl (lv_at hl 4 rfl) ?_
    refine lv_iload_n hx hb dL_act_86 rfl (lv_at hl 3 rfl) ?_
    refine lv_iconst (v := nI 4) hx hb dL_act_87 (by decide) ?_
    refine lv_ishr hx hb dL_act_88 ?_
    refine lv_bipush (v := nI 6) hx hb dL_act_89 (by decide) ?_
    refine r_cSI C0 h hl.1 (ct_L_below l k M _ hJ _ _ (nI_ne0 (by omega) (by omega))) gL_act_L_below rfl (by decide +kernel) (n := 2) ⟨Nat.le_of_ble_eq_true rfl, Nat.le_of_ble_eq_true rfl⟩ ⟨Nat.le_of_ble_eq_true rfl, Nat.le_of_ble_eq_true rfl⟩ (Nat.le_of_ble_eq_true rfl) rfl rfl dL_act_91 (fun r91 I91 H locs hp h => ?_)
    obtain ⟨rfl, hq9⟩ := hp
    rw [hq9] at h
    rw [bl_dr _ _ (by omega) (by omega)]
    have hb91 := dr_lt x 4 (n := 6) (by omega)
    refine r_iald C0 h 98 (by omega) isA_98 _ (by rw [ln98]; exact dr_lt x 4 (by omega)) dL_act_94 ?_
    refine lv_aload_n hx hb dL_act_95 rfl (lv_at hl 2 rfl) ?_
    refine lv_iload hx hb dL_act_96 (lv_at hl 1 rfl) ?_
    refine lv_iconst (v := nI 0) hx hb dL_act_98 (by decide) ?_
    refine r_cVI C0 h hl.1 _ (by omega) (ce0 k _) rfl (ct_X3_ofLetter l k M _ hJ cn hR.c20 hR.n4 _ hby 0 (by decide)) gL_act_X3_ofLetter rfl (by decide +kernel) (n := 2) ⟨Nat.le_of_ble_eq_true rfl, Nat.le_of_ble_eq_true rfl⟩ ⟨Nat.le_of_ble_eq_true rfl, Nat.le_of_ble_eq_true rfl⟩ (Nat.le_of_ble_eq_true rfl) rfl rfl dL_act_99 (fun r99 I99 H locs hp h => ?_)
    obtain ⟨rfl, hq9⟩ := hp
    rw [hq9] at h
    rw [py_at _ (by decide) (by decide) (by decide)]
    refine lv_iload_n hx hb dL_act_102 rfl (lv_at hl 3 rfl) ?_
    refine lv_bipush (v := nI 6) hx hb dL_act_103 (by decide) ?_
    refine lv_ishr hx hb dL_act_105 ?_
    refine lv_iconst (v := nI 4) hx hb dL_act_106 (by decide) ?_
    refine r_cSI C0 h hl.1 (ct_L_below l k M _ hJ _ _ (nI_ne0 (by omega) (by omega))) gL_act_L_below rfl (by decide +kernel) (n := 2) ⟨Nat.le_of_ble_eq_true rfl, Nat.le_of_ble_eq_true rfl⟩ ⟨Nat.le_of_ble_eq_true rfl, Nat.le_of_ble_eq_true rfl⟩ (Nat.le_of_ble_eq_true rfl) rfl rfl dL_act_107 (fun r107 I107 H locs hp h => ?_)
    obtain ⟨rfl, hq9⟩ := hp
    rw [hq9] at h
    rw [bl_dr _ _ (by omega) (by omega)]
    have hb107 := dr_lt x 6 (n := 4) (by omega)
    refine lv_iload_n hx hb dL_act_110 rfl (lv_at hl 3 rfl) ?_
    refine lv_bipush (v := nI 7) hx hb dL_act_111 (by decide) ?_
    refine lv_ishr hx hb dL_act_113 ?_
    refine lv_iconst (v := nI 5) hx hb dL_act_114 (by decide) ?_
    refine r_cSI C0 h hl.1 (ct_L_below l k M _ hJ _ _ (nI_ne0 (by omega) (by omega))) gL_act_L_below rfl (by decide +kernel) (n := 2) ⟨Nat.le_of_ble_eq_true rfl, Nat.le_of_ble_eq_true rfl⟩ ⟨Nat.le_of_ble_eq_true rfl, Nat.le_of_ble_eq_true rfl⟩ (Nat.le_of_ble_eq_true rfl) rfl rfl dL_act_115 (fun r115 I115 H locs hp h => ?_)
    obtain ⟨rfl, hq9⟩ := hp
    rw [hq9] at h
    rw [bl_dr _ _ (by omega) (by omega)]
    have hb115 := dr_lt x 7 (n := 5) (by omega)
    rcases Nat.lt_or_ge cn 20 with hcl | hcl
    · refine r_cVI C0 h hl.1 _ (by omega) (ce0 k _) rfl (ct_X3_letter l k M _ hJ cn hR.n4 hcl _ _ _ _ (hR.2.nm (dr_lt x 4 (by omega))).1 (hR.ltI hby).1 (isW_n (show dr x 6 4 ≤ 15 by have := dr_lt x 6 (n := 4) (by omega); omega) (by omega)) (isW_n (show dr x 7 5 ≤ 30 by have := dr_lt x 7 (n := 5) (by omega); omega) (by omega))) gL_act_X3_letter rfl (by decide +kernel) (n := 4) ⟨Nat.le_of_ble_eq_true rfl, Nat.le_of_ble_eq_true rfl⟩ ⟨Nat.le_of_ble_eq_true rfl, Nat.le_of_ble_eq_true rfl⟩ (Nat.le_of_ble_eq_true rfl) rfl rfl dL_act_118 (fun r118 I118 H locs hp h => ?_)
      obtain ⟨rfl, e118⟩ := hp
      obtain ⟨hR, hnm⟩ := hR.newL hcl hby (hR.2.nm (dr_lt x 4 (by omega))) (dr_lt x 6 (by omega)) (dr_lt x 7 (by omega)) e118
      have hbn : dr x 5 cn < cn + 1 := by omega
      refine lv_iload_n hx hb dL_act_121 rfl (lv_at hl 5 rfl) ?_
      refine lv_icmp_eq (tgt := 127) hx hb dL_act_122 (by decide) (fun c_122 => ?_) (fun c_122 => ?_)
      · have d_122 := (nI_eq (by omega) (by omega)).mp c_122
        refine lv_aload_n hx hb dL_act_127 rfl (lv_at hl 2 rfl) ?_
        refine lv_iload_n hx hb dL_act_128 rfl (lv_at hl 5 rfl) ?_
        refine lv_iload_n hx hb dL_act_129 rfl (lv_at hl 3 rfl) ?_
        refine lv_iconst (v := nI 5) hx hb dL_act_130 (by decide) ?_
        refine lv_ishr hx hb dL_act_131 ?_
        refine lv_iconst (v := nI 3) hx hb dL_act_132 (by decide) ?_
        refine r_cSI C0 h hl.1 (ct_L_below l k M _ hJ _ _ (nI_ne0 (by omega) (by omega))) gL_act_L_below rfl (by decide +kernel) (n := 2) ⟨Nat.le_of_ble_eq_true rfl, Nat.le_of_ble_eq_true rfl⟩ ⟨Nat.le_of_ble_eq_true rfl, Nat.le_of_ble_eq_true rfl⟩ (Nat.le_of_ble_eq_true rfl) rfl rfl dL_act_133 (fun r133 I133 H locs hp h => ?_)
        obtain ⟨rfl, hq9⟩ := hp
        rw [hq9] at h
        rw [bl_dr _ _ (by omega) (by omega)]
        have hb133 := dr_lt x 5 (n := 3) (by omega)
        refine lv_if_le (tgt := 143) hx hb dL_act_136 (by decide) (fun c_136 => ?_) (fun c_136 => ?_)
        · have d_136 := (nI_le0 (by omega)).mp c_136
          refine lv_iconst (v := nI 0) hx hb dL_act_143 (by decide) ?_
          refine lv_iload_n hx hb dL_act_144 rfl (lv_at hl 3 rfl) ?_
          refine lv_bipush (v := nI 8) hx hb dL_act_145 (by decide) ?_
          refine lv_ishr hx hb dL_act_147 ?_
          refine lv_iconst (v := nI 4) hx hb dL_act_148 (by decide) ?_
          refine r_cSI C0 h hl.1 (ct_L_below l k M _ hJ _ _ (nI_ne0 (by omega) (by omega))) gL_act_L_below rfl (by decide +kernel) (n := 2) ⟨Nat.le_of_ble_eq_true rfl, Nat.le_of_ble_eq_true rfl⟩ ⟨Nat.le_of_ble_eq_true rfl, Nat.le_of_ble_eq_true rfl⟩ (Nat.le_of_ble_eq_true rfl) rfl rfl dL_act_149 (fun r149 I149 H locs hp h => ?_)
          obtain ⟨rfl, hq9⟩ := hp
          rw [hq9] at h
          rw [bl_dr _ _ (by omega) (by omega)]
          have hb149 := dr_lt x 8 (n := 4) (by omega)
          refine r_cVI C0 h hl.1 _ (by omega) (ce0 k _) rfl (ct_X3_master l k M _ hJ (cn + 1) hR.c20 hR.n4 cn (by omega) false _ (isW_n (show dr x 8 4 ≤ 5 by have := dr_lt x 8 (n := 4) (by omega); omega) (by omega))) gL_act_X3_master rfl (by decide +kernel) (n := 3) ⟨Nat.le_of_ble_eq_true rfl, Nat.le_of_ble_eq_true rfl⟩ ⟨Nat.le_of_ble_eq_true rfl, Nat.le_of_ble_eq_true rfl⟩ (Nat.le_of_ble_eq_true rfl) rfl rfl dL_act_152 (fun r152 I152 H locs hp h => ?_)
          obtain ⟨rfl, e152⟩ := hp
          obtain ⟨hR, hsm⟩ := hR.mst (show cn < cn + 1 by omega) (show dr x 8 4 ≤ 9999 by omega) e152
          rw [← hsm _ 0 (by decide) (by decide), ← hsm _ 1 (by decide) (by decide)] at hnm
          refine lv_pop hx hb dL_act_155 rfl ?_
          refine lv_aload_n hx hb dL_act_156 rfl (lv_at hl 2 rfl) ?_
          refine lv_iload_n hx hb dL_act_157 rfl (lv_at hl 5 rfl) ?_
          refine lv_aload_n hx hb dL_act_158 rfl (lv_at hl 2 rfl) ?_
          refine lv_iload hx hb dL_act_159 (lv_at hl 1 rfl) ?_
          refine lv_iconst (v := nI 2) hx hb dL_act_161 (by decide) ?_
          refine r_cVI C0 h hl.1 _ (by omega) (ce0 k _) rfl (ct_X3_ofLetter l k M _ hJ (cn + 1) hR.c20 hR.n4 _ hbn 2 (by decide)) gL_act_X3_ofLetter rfl (by decide +kernel) (n := 2) ⟨Nat.le_of_ble_eq_true rfl, Nat.le_of_ble_eq_true rfl⟩ ⟨Nat.le_of_ble_eq_true rfl, Nat.le_of_ble_eq_true rfl⟩ (Nat.le_of_ble_eq_true rfl) rfl rfl dL_act_162 (fun r162 I162 H locs hp h => ?_)
          obtain ⟨rfl, hq9⟩ := hp
          rw [hq9] at h
          rw [py_at _ (by decide) (by decide) (by decide)]
          refine r_cVI C0 h hl.1 _ (by omega) (ce0 k _) rfl (ct_X3_sign l k M _ hJ (cn + 1) hR.c20 hR.n4 cn (by omega) _ (hR.ltI hbn).key) gL_act_X3_sign rfl (by decide +kernel) (n := 2) ⟨Nat.le_of_ble_eq_true rfl, Nat.le_of_ble_eq_true rfl⟩ ⟨Nat.le_of_ble_eq_true rfl, Nat.le_of_ble_eq_true rfl⟩ (Nat.le_of_ble_eq_true rfl) rfl rfl dL_act_165 (fun r165 I165 H locs hp h => ?_)
          obtain ⟨rfl, e165⟩ := hp
          have hR := hR.sgn (show cn < cn + 1 by omega) e165
          refine lv_aload_n hx hb dL_act_168 rfl (lv_at hl 2 rfl) ?_
          refine lv_iload_n hx hb dL_act_169 rfl (lv_at hl 5 rfl) ?_
          refine lv_bipush (v := nI 10) hx hb dL_act_170 (by decide) ?_
          refine r_cVI C0 h hl.1 _ (by omega) (ce0 k _) rfl (ct_X3_ofLetter l k M _ hJ (cn + 1) hR.c20 hR.n4 _ (show cn < cn + 1 by omega) 10 (by decide)) gL_act_X3_ofLetter rfl (by decide +kernel) (n := 2) ⟨Nat.le_of_ble_eq_true rfl, Nat.le_of_ble_eq_true rfl⟩ ⟨Nat.le_of_ble_eq_true rfl, Nat.le_of_ble_eq_true rfl⟩ (Nat.le_of_ble_eq_true rfl) rfl rfl dL_act_172 (fun r172 I172 H locs hp h => ?_)
          obtain ⟨rfl, hq9⟩ := hp
          rw [hq9] at h
          rw [py_at _ (by decide) (by decide) (by decide)]
          refine lv_icmp_ne (tgt := 202) hx hb dL_act_175 (by decide) (fun c_175 => ?_) (fun c_175 => ?_)
          · exact absurd (by rw [e165, up2_s]) c_175
          · refine lv_aload_n hx hb dL_act_178 rfl (lv_at hl 2 rfl) ?_
            refine lv_iload hx hb dL_act_179 (lv_at hl 1 rfl) ?_
            refine lv_iload_n hx hb dL_act_181 rfl (lv_at hl 5 rfl) ?_
            refine r_cVI C0 h hl.1 _ (by omega) (ce0 k _) rfl (ct_X3_backs l k M _ hJ (cn + 1) hR.c20 hR.n4 _ _ hbn (show cn < cn + 1 by omega)) gL_act_X3_backs rfl (by decide +kernel) (n := 2) ⟨Nat.le_of_ble_eq_true rfl, Nat.le_of_ble_eq_true rfl⟩ ⟨Nat.le_of_ble_eq_true rfl, Nat.le_of_ble_eq_true rfl⟩ (Nat.le_of_ble_eq_true rfl) rfl rfl dL_act_182 (fun r182 I182 H locs hp h => ?_)
            obtain ⟨rfl, hq9⟩ := hp
            rw [hq9] at h
            rw [show bkB I165 (dr x 5 cn) cn = true by rw [e165, bk_sign]; exact decide_eq_true hnm]
            refine lv_if_eq (tgt := 202) hx hb dL_act_185 (by decide) (fun c_185 => ?_) (fun c_185 => ?_)
            · exact absurd c_185 (by decide)
            · refine lv_aload_n hx hb dL_act_188 rfl (lv_at hl 2 rfl) ?_
              refine lv_iload_n hx hb dL_act_189 rfl (lv_at hl 5 rfl) ?_
              refine lv_iconst (v := nI 0) hx hb dL_act_190 (by decide) ?_
              refine lv_iconst (v := nI 0) hx hb dL_act_191 (by decide) ?_
              refine r_cVI C0 h hl.1 _ (by omega) (ce0 k _) rfl (ct_X3_verdict l k M _ hJ (cn + 1) hR.c20 hR.n4 lcn hR.l8 hR.n5 hR.st cn (by omega) (nI 0) (nI 0) (isW_n (by omega) (by omega)) (isW_n (by omega) (by omega))) gL_act_X3_verdict rfl (by decide +kernel) (n := 3) ⟨Nat.le_of_ble_eq_true rfl, Nat.le_of_ble_eq_true rfl⟩ ⟨Nat.le_of_ble_eq_true rfl, Nat.le_of_ble_eq_true rfl⟩ (Nat.le_of_ble_eq_true rfl) rfl rfl dL_act_192 (fun r192 I192 H locs hp h => ?_)
              obtain ⟨rfl, hq9⟩ := hp
              have hR := hR.ask hq9
              obtain ⟨v9, hv9, hw9⟩ := dcF_rng (vw I165) lcn (nI 0) (nI 0) (chs (vw I165) (cn + 1) cn)
              rw [hv9]
              refine lv_if_lt (tgt := 202) hx hb dL_act_195 (by decide) (fun c_195 => ?_) (fun c_195 => ?_)
              · exact absurd c_195 (nI_pos (by omega))
              · refine lv_iconst (v := nI 1) hx hb dL_act_198 (by decide) ?_
                refine lv_goto (tgt := 203) hx hb dL_act_199 (by decide) ?_
                exact r_zretX C0 h hr ⟨Nat.le_of_ble_eq_true rfl, Nat.le_of_ble_eq_true rfl⟩ dL_act_203 (by first | exact zb1 | exact zb0) ⟨rfl, _, _, hR, by omega⟩
        · have d_136 := (not_congr (nI_le0 (by omega))).mp c_136
          refine lv_iconst (v := nI 1) hx hb dL_act_139 (by decide) ?_
          refine lv_goto (tgt := 144) hx hb dL_act_140 (by decide) ?_
          refine lv_iload_n hx hb dL_act_144 rfl (lv_at hl 3 rfl) ?_
          refine lv_bipush (v := nI 8) hx hb dL_act_145 (by decide) ?_
          refine lv_ishr hx hb dL_act_147 ?_
          refine lv_iconst (v := nI 4) hx hb dL_act_148 (by decide) ?_
          refine r_cSI C0 h hl.1 (ct_L_below l k M _ hJ _ _ (nI_ne0 (by omega) (by omega))) gL_act_L_below rfl (by decide +kernel) (n := 2) ⟨Nat.le_of_ble_eq_true rfl, Nat.le_of_ble_eq_true rfl⟩ ⟨Nat.le_of_ble_eq_true rfl, Nat.le_of_ble_eq_true rfl⟩ (Nat.le_of_ble_eq_true rfl) rfl rfl dL_act_149 (fun r149 I149 H locs hp h => ?_)
          obtain ⟨rfl, hq9⟩ := hp
          rw [hq9] at h
          rw [bl_dr _ _ (by omega) (by omega)]
          have hb149 := dr_lt x 8 (n := 4) (by omega)
          refine r_cVI C0 h hl.1 _ (by omega) (ce0 k _) rfl (ct_X3_master l k M _ hJ (cn + 1) hR.c20 hR.n4 cn (by omega) true _ (isW_n (show dr x 8 4 ≤ 5 by have := dr_lt x 8 (n := 4) (by omega); omega) (by omega))) gL_act_X3_master rfl (by decide +kernel) (n := 3) ⟨Nat.le_of_ble_eq_true rfl, Nat.le_of_ble_eq_true rfl⟩ ⟨Nat.le_of_ble_eq_true rfl, Nat.le_of_ble_eq_true rfl⟩ (Nat.le_of_ble_eq_true rfl) rfl rfl dL_act_152 (fun r152 I152 H locs hp h => ?_)
          obtain ⟨rfl, e152⟩ := hp
          obtain ⟨hR, hsm⟩ := hR.mst (show cn < cn + 1 by omega) (show dr x 8 4 ≤ 9999 by omega) e152
          rw [← hsm _ 0 (by decide) (by decide), ← hsm _ 1 (by decide) (by decide)] at hnm
          refine lv_pop hx hb dL_act_155 rfl ?_
          refine lv_aload_n hx hb dL_act_156 rfl (lv_at hl 2 rfl) ?_
          refine lv_iload_n hx hb dL_act_157 rfl (lv_at hl 5 rfl) ?_
          refine lv_aload_n hx hb dL_act_158 rfl (lv_at hl 2 rfl) ?_
          refine lv_iload hx hb dL_act_159 (lv_at hl 1 rfl) ?_
          refine lv_iconst (v := nI 2) hx hb dL_act_161 (by decide) ?_
          refine r_cVI C0 h hl.1 _ (by omega) (ce0 k _) rfl (ct_X3_ofLetter l k M _ hJ (cn + 1) hR.c20 hR.n4 _ hbn 2 (by decide)) gL_act_X3_ofLetter rfl (by decide +kernel) (n := 2) ⟨Nat.le_of_ble_eq_true rfl, Nat.le_of_ble_eq_true rfl⟩ ⟨Nat.le_of_ble_eq_true rfl, Nat.le_of_ble_eq_true rfl⟩ (Nat.le_of_ble_eq_true rfl) rfl rfl dL_act_162 (fun r162 I162 H locs hp h => ?_)
          obtain ⟨rfl, hq9⟩ := hp
          rw [hq9] at h
          rw [py_at _ (by decide) (by decide) (by decide)]
          refine r_cVI C0 h hl.1 _ (by omega) (ce0 k _) rfl (ct_X3_sign l k M _ hJ (cn + 1) hR.c20 hR.n4 cn (by omega) _ (hR.ltI hbn).key) gL_act_X3_sign rfl (by decide +kernel) (n := 2) ⟨Nat.le_of_ble_eq_true rfl, Nat.le_of_ble_eq_true rfl⟩ ⟨Nat.le_of_ble_eq_true rfl, Nat.le_of_ble_eq_true rfl⟩ (Nat.le_of_ble_eq_true rfl) rfl rfl dL_act_165 (fun r165 I165 H locs hp h => ?_)
          obtain ⟨rfl, e165⟩ := hp
          have hR := hR.sgn (show cn < cn + 1 by omega) e165
          refine lv_aload_n hx hb dL_act_168 rfl (lv_at hl 2 rfl) ?_
          refine lv_iload_n hx hb dL_act_169 rfl (lv_at hl 5 rfl) ?_
          refine lv_bipush (v := nI 10) hx hb dL_act_170 (by decide) ?_
          refine r_cVI C0 h hl.1 _ (by omega) (ce0 k _) rfl (ct_X3_ofLetter l k M _ hJ (cn + 1) hR.c20 hR.n4 _ (show cn < cn + 1 by omega) 10 (by decide)) gL_act_X3_ofLetter rfl (by decide +kernel) (n := 2) ⟨Nat.le_of_ble_eq_true rfl, Nat.le_of_ble_eq_true rfl⟩ ⟨Nat.le_of_ble_eq_true rfl, Nat.le_of_ble_eq_true rfl⟩ (Nat.le_of_ble_eq_true rfl) rfl rfl dL_act_172 (fun r172 I172 H locs hp h => ?_)
          obtain ⟨rfl, hq9⟩ := hp
          rw [hq9] at h
          rw [py_at _ (by decide) (by decide) (by decide)]
          refine lv_icmp_ne (tgt := 202) hx hb dL_act_175 (by decide) (fun c_175 => ?_) (fun c_175 => ?_)
          · exact absurd (by rw [e165, up2_s]) c_175
          · refine lv_aload_n hx hb dL_act_178 rfl (lv_at hl 2 rfl) ?_
            refine lv_iload hx hb dL_act_179 (lv_at hl 1 rfl) ?_
            refine lv_iload_n hx hb dL_act_181 rfl (lv_at hl 5 rfl) ?_
            refine r_cVI C0 h hl.1 _ (by omega) (ce0 k _) rfl (ct_X3_backs l k M _ hJ (cn + 1) hR.c20 hR.n4 _ _ hbn (show cn < cn + 1 by omega)) gL_act_X3_backs rfl (by decide +kernel) (n := 2) ⟨Nat.le_of_ble_eq_true rfl, Nat.le_of_ble_eq_true rfl⟩ ⟨Nat.le_of_ble_eq_true rfl, Nat.le_of_ble_eq_true rfl⟩ (Nat.le_of_ble_eq_true rfl) rfl rfl dL_act_182 (fun r182 I182 H locs hp h => ?_)
            obtain ⟨rfl, hq9⟩ := hp
            rw [hq9] at h
            rw [show bkB I165 (dr x 5 cn) cn = true by rw [e165, bk_sign]; exact decide_eq_true hnm]
            refine lv_if_eq (tgt := 202) hx hb dL_act_185 (by decide) (fun c_185 => ?_) (fun c_185 => ?_)
            · exact absurd c_185 (by decide)
            · refine lv_aload_n hx hb dL_act_188 rfl (lv_at hl 2 rfl) ?_
              refine lv_iload_n hx hb dL_act_189 rfl (lv_at hl 5 rfl) ?_
              refine lv_iconst (v := nI 0) hx hb dL_act_190 (by decide) ?_
              refine lv_iconst (v := nI 0) hx hb dL_act_191 (by decide) ?_
              refine r_cVI C0 h hl.1 _ (by omega) (ce0 k _) rfl (ct_X3_verdict l k M _ hJ (cn + 1) hR.c20 hR.n4 lcn hR.l8 hR.n5 hR.st cn (by omega) (nI 0) (nI 0) (isW_n (by omega) (by omega)) (isW_n (by omega) (by omega))) gL_act_X3_verdict rfl (by decide +kernel) (n := 3) ⟨Nat.le_of_ble_eq_true rfl, Nat.le_of_ble_eq_true rfl⟩ ⟨Nat.le_of_ble_eq_true rfl, Nat.le_of_ble_eq_true rfl⟩ (Nat.le_of_ble_eq_true rfl) rfl rfl dL_act_192 (fun r192 I192 H locs hp h => ?_)
              obtain ⟨rfl, hq9⟩ := hp
              have hR := hR.ask hq9
              obtain ⟨v9, hv9, hw9⟩ := dcF_rng (vw I165) lcn (nI 0) (nI 0) (chs (vw I165) (cn + 1) cn)
              rw [hv9]
              refine lv_if_lt (tgt := 202) hx hb dL_act_195 (by decide) (fun c_195 => ?_) (fun c_195 => ?_)
              · exact absurd c_195 (nI_pos (by omega))
              · refine lv_iconst (v := nI 1) hx hb dL_act_198 (by decide) ?_
                refine lv_goto (tgt := 203) hx hb dL_act_199 (by decide) ?_
                exact r_zretX C0 h hr ⟨Nat.le_of_ble_eq_true rfl, Nat.le_of_ble_eq_true rfl⟩ dL_act_203 (by first | exact zb1 | exact zb0) ⟨rfl, _, _, hR, by omega⟩
      · have d_122 := (not_congr (nI_eq (by omega) (by omega))).mp c_122
        exact False.elim (by omega)
    · refine r_xVI C0 h hX.1 hl.1 _ (by omega) (ce0 k _) rfl (th_X3_letter_full l hf k M _ hJ (by rw [hR.n4, show cn = 20 by omega]) _ _ _ _ (hR.2.nm (dr_lt x 4 (by omega))).1 (hR.ltI hby).1 (isW_n (show dr x 6 4 ≤ 15 by have := dr_lt x 6 (n := 4) (by omega); omega) (by omega)) (isW_n (show dr x 7 5 ≤ 30 by have := dr_lt x 7 (n := 5) (by omega); omega) (by omega))) gL_act_X3_letter rfl (by decide +kernel) (n := 4) ⟨Nat.le_of_ble_eq_true rfl, Nat.le_of_ble_eq_true rfl⟩ ⟨Nat.le_of_ble_eq_true rfl, Nat.le_of_ble_eq_true rfl⟩ (Nat.le_of_ble_eq_true rfl) rfl rfl dL_act_118 (fun q9 ce9 H locs h hc1 hc2 hc3 => ?_)
      have hl8 := hR.l8
      refine vx_catch (own := RL) (name := sIS) hown (tableOf (hhA.take 10)) ⟨18, 126, 720, 100⟩ (tableOf (hhA.drop 11)) (htab.trans rfl) (fun z hz => (pass_118 z hz).imp id (fun q => ⟨by rw [q]; decide, sIO, by rw [q]; exact hts (.classLink RL 98 sIO) (by decide +kernel), hX.2⟩)) (by decide) (by decide) (hts (.classLink RL 100 sIS) (by decide +kernel)) (va_Nw.use rfl (hX.1.1.2.2.2 (52, 56, sIS) (by decide))) hc1 hc2 hc3 ?_
      refine lv_astore hx hb dL_act_720 hl (by decide) rfl (fun ls hl => ?_)
      have hl : lv_has ls 10 [(6, _), (4, _), (5, _), (0, _), (1, _), (2, _), (3, _)] := hl
      refine lv_iload_n hx hb dL_act_722 rfl (lv_at hl 6 rfl) ?_
      refine lv_bipush (v := nI 20) hx hb dL_act_723 (by decide) ?_
      refine lv_icmp_ne (tgt := 738) hx hb dL_act_725 (by decide) (fun c_725 => ?_) (fun c_725 => ?_)
      · have d_725 := (not_congr (nI_eq (by omega) (by omega))).mp c_725
        exact False.elim (by omega)
      · have d_725 := (nI_eq (by omega) (by omega)).mp c_725
        refine lv_iload_n hx hb dL_act_728 rfl (lv_at hl 4 rfl) ?_
        refine lv_bipush (v := nI 12) hx hb dL_act_729 (by decide) ?_
        refine r_cSI C0 h hl.1 (ct_L_below l k M _ hJ _ _ (nI_ne0 (by omega) (by omega))) gL_act_L_below rfl (by decide +kernel) (n := 2) ⟨Nat.le_of_ble_eq_true rfl, Nat.le_of_ble_eq_true rfl⟩ ⟨Nat.le_of_ble_eq_true rfl, Nat.le_of_ble_eq_true rfl⟩ (Nat.le_of_ble_eq_true rfl) rfl rfl dL_act_731 (fun r731 I731 H locs hp h => ?_)
        obtain ⟨rfl, hq9⟩ := hp
        rw [hq9] at h
        rw [bl_at _ (by omega) (by omega)]
        refine lv_iconst (v := nI 3) hx hb dL_act_734 (by decide) ?_
        refine lv_icmp_lt (tgt := 759) hx hb dL_act_735 (by decide) (fun c_735 => ?_) (fun c_735 => ?_)
        · have d_735 := (nI_ltI (by omega) (by omega)).mp c_735
          refine lv_iconst (v := nI 1) hx hb dL_act_759 (by decide) ?_
          refine lv_goto (tgt := 764) hx hb dL_act_760 (by decide) ?_
          exact r_zretX C0 h hr ⟨Nat.le_of_ble_eq_true rfl, Nat.le_of_ble_eq_true rfl⟩ dL_act_764 (by first | exact zb1 | exact zb0) ⟨rfl, _, _, hR, by omega⟩
        · have d_735 := (not_congr (nI_ltI (by omega) (by omega))).mp c_735
          exact False.elim (by omega)
  have key204 : ∀ (I1 : IS), RA cn lcn I1 → True → ∀ (H : Heap) (locs : List Loc) (ls : Array Slot), HX k M A s I1 H locs → lv_has ls 10 [(4, .int (nI (dr x 3 cn))), (5, .int (nI (dr x 5 cn))), (0, .ref (k.2.1 0)), (1, .int x), (2, .ref (k.2.1 98)), (3, .int (nI cn))] → W p l e (RmA 13 1 6) s m args below meth c H locs 0 0 (vx_MQ below (va_Qi (fun r I' => r = nI 1 ∧ ∃ cn' lcn', RA cn' lcn' I' ∧ cn ≤ cn') (EnX k M) A) (XN A) args s 1 6 A) (F0 m 204 ls []) := by
    intro I1 hR hv H locs ls h hl
    have hc1 := hR.c1
    have hc20 := hR.c20
    have hby := dr_lt x 5 (n := cn) (by omega)
    have hlt := dr_lt x 3 (n := cn) (by omega)
    refine lv_aload_n hx hb dL_act_204 rfl (lv_at hl 2 rfl) ?_
    refine lv_iload hx hb dL_act_205 (lv_at hl 0 rfl) ?_
    refine lv_iload_n hx hb dL_act_207 rfl (lv_at hl 3 rfl) ?_
    refine lv_bipush (v := nI 6) hx hb dL_act_208 (by decide) ?_
    refine lv_ishr hx hb dL_act_210 ?_
    refine lv_sipush (v := nI 300) hx hb dL_act_211 (by decide) ?_
    refine r_cSI C0 h hl.1 (ct_L_below l k M _ hJ _ _ (nI_ne0 (by omega) (by omega))) gL_act_L_below rfl (by decide +kernel) (n := 2) ⟨Nat.le_of_ble_eq_true rfl, Nat.le_of_ble_eq_true rfl⟩ ⟨Nat.le_of_ble_eq_true rfl, Nat.le_of_ble_eq_true rfl⟩ (Nat.le_of_ble_eq_true rfl) rfl rfl dL_act_214 (fun r214 I214 H locs hp h => ?_)
    obtain ⟨rfl, hq9⟩ := hp
    rw [hq9] at h
    rw [bl_dr _ _ (by omega) (by omega)]
    have hb214 := dr_lt x 6 (n := 300) (by omega)
    refine lv_sipush (v := nI 300) hx hb dL_act_217 (by decide) ?_
    refine lv_iload_n hx hb dL_act_220 rfl (lv_at hl 3 rfl) ?_
    refine lv_iconst (v := nI 4) hx hb dL_act_221 (by decide) ?_
    refine lv_ishr hx hb dL_act_222 ?_
    refine lv_sipush (v := nI 700) hx hb dL_act_223 (by decide) ?_
    refine r_cSI C0 h hl.1 (ct_L_below l k M _ hJ _ _ (nI_ne0 (by omega) (by omega))) gL_act_L_below rfl (by decide +kernel) (n := 2) ⟨Nat.le_of_ble_eq_true rfl, Nat.le_of_ble_eq_true rfl⟩ ⟨Nat.le_of_ble_eq_true rfl, Nat.le_of_ble_eq_true rfl⟩ (Nat.le_of_ble_eq_true rfl) rfl rfl dL_act_226 (fun r226 I226 H locs hp h => ?_)
    obtain ⟨rfl, hq9⟩ := hp
    rw [hq9] at h
    rw [bl_dr _ _ (by omega) (by omega)]
    have hb226 := dr_lt x 4 (n := 700) (by omega)
    refine lv_iadd hx hb dL_act_229 ?_
    rw [nI_add]
    refine r_cVI C0 h hl.1 _ (by omega) (ce0 k _) rfl (ct_X3_times l k M _ hJ cn hR.c20 hR.n4 _ hlt _ _ (isW_n (show dr x 6 300 ≤ 999 by omega) (by omega)) (isW_n (show 300 + dr x 4 700 ≤ 999 by omega) (by omega)) (nI_le (by omega) (by omega))) gL_act_X3_times rfl (by decide +kernel) (n := 3) ⟨Nat.le_of_ble_eq_true rfl, Nat.le_of_ble_eq_true rfl⟩ ⟨Nat.le_of_ble_eq_true rfl, Nat.le_of_ble_eq_true rfl⟩ (Nat.le_of_ble_eq_true rfl) rfl rfl dL_act_230 (fun r230 I230 H locs hp h => ?_)
    obtain ⟨rfl, e230⟩ := hp
    have hR := hR.tms hlt (show dr x 6 300 ≤ 9999 by omega) (show 300 + dr x 4 700 ≤ 9999 by omega) e230
    refine lv_aload_n hx hb dL_act_233 rfl (lv_at hl 2 rfl) ?_
    refine lv_iload hx hb dL_act_234 (lv_at hl 0 rfl) ?_
    refine lv_bipush (v := nI 11) hx hb dL_act_236 (by decide) ?_
    refine r_cVI C0 h hl.1 _ (by omega) (ce0 k _) rfl (ct_X3_ofLetter l k M _ hJ cn hR.c20 hR.n4 _ hlt 11 (by decide)) gL_act_X3_ofLetter rfl (by decide +kernel) (n := 2) ⟨Nat.le_of_ble_eq_true rfl, Nat.le_of_ble_eq_true rfl⟩ ⟨Nat.le_of_ble_eq_true rfl, Nat.le_of_ble_eq_true rfl⟩ (Nat.le_of_ble_eq_true rfl) rfl rfl dL_act_238 (fun r238 I238 H locs hp h => ?_)
    obtain ⟨rfl, hq9⟩ := hp
    rw [hq9] at h
    rw [py11 _]
    refine lv_icmp_ne (tgt := 248) hx hb dL_act_241 (by decide) (fun c_241 => ?_) (fun c_241 => ?_)
    · exact absurd (by rw [e230]) c_241
    · refine lv_iconst (v := nI 1) hx hb dL_act_244 (by decide) ?_
      refine lv_goto (tgt := 249) hx hb dL_act_245 (by decide) ?_
      exact r_zretX C0 h hr ⟨Nat.le_of_ble_eq_true rfl, Nat.le_of_ble_eq_true rfl⟩ dL_act_249 (by first | exact zb1 | exact zb0) ⟨rfl, _, _, hR, by omega⟩
  have key250 : ∀ (I1 : IS), RA cn lcn I1 → True → ∀ (H : Heap) (locs : List Loc) (ls : Array Slot), HX k M A s I1 H locs → lv_has ls 10 [(4, .int (nI (dr x 3 cn))), (5, .int (nI (dr x 5 cn))), (0, .ref (k.2.1 0)), (1, .int x), (2, .ref (k.2.1 98)), (3, .int (nI cn))] → W p l e (RmA 13 1 6) s m args below meth c H locs 0 0 (vx_MQ below (va_Qi (fun r I' => r = nI 1 ∧ ∃ cn' lcn', RA cn' lcn' I' ∧ cn ≤ cn') (EnX k M) A) (XN A) args s 1 6 A) (F0 m 250 ls []) := by
    intro I1 hR hv H locs ls h hl
    have hc1 := hR.c1
    have hc20 := hR.c20
    have hby := dr_lt x 5 (n := cn) (by omega)
    have hlt := dr_lt x 3 (n := cn) (by omega)
    refine lv_aload_n hx hb dL_act_250 rfl (lv_at hl 2 rfl) ?_
    refine lv_iload hx hb dL_act_251 (lv_at hl 0 rfl) ?_
    refine lv_iload_n hx hb dL_act_253 rfl (lv_at hl 3 rfl) ?_
    refine lv_bipush (v := nI 6) hx hb dL_act_254 (by decide) ?_
    refine lv_ishr hx hb dL_act_256 ?_
    refine lv_iconst (v := nI 3) hx hb dL_act_257 (by decide) ?_
    refine r_cSI C0 h hl.1 (ct_L_below l k M _ hJ _ _ (nI_ne0 (by omega) (by omega))) gL_act_L_below rfl (by decide +kernel) (n := 2) ⟨Nat.le_of_ble_eq_true rfl, Nat.le_of_ble_eq_true rfl⟩ ⟨Nat.le_of_ble_eq_true rfl, Nat.le_of_ble_eq_true rfl⟩ (Nat.le_of_ble_eq_true rfl) rfl rfl dL_act_258 (fun r258 I258 H locs hp h => ?_)
    obtain ⟨rfl, hq9⟩ := hp
    rw [hq9] at h
    rw [bl_dr _ _ (by omega) (by omega)]
    have hb258 := dr_lt x 6 (n := 3) (by omega)
    refine lv_if_le (tgt := 268) hx hb dL_act_261 (by decide) (fun c_261 => ?_) (fun c_261 => ?_)
    · have d_261 := (nI_le0 (by omega)).mp c_261
      refine lv_iconst (v := nI 0) hx hb dL_act_268 (by decide) ?_
      refine lv_iload_n hx hb dL_act_269 rfl (lv_at hl 3 rfl) ?_
      refine lv_iconst (v := nI 4) hx hb dL_act_270 (by decide) ?_
      refine lv_ishr hx hb dL_act_271 ?_
      refine lv_bipush (v := nI 6) hx hb dL_act_272 (by decide) ?_
      refine r_cSI C0 h hl.1 (ct_L_below l k M _ hJ _ _ (nI_ne0 (by omega) (by omega))) gL_act_L_below rfl (by decide +kernel) (n := 2) ⟨Nat.le_of_ble_eq_true rfl, Nat.le_of_ble_eq_true rfl⟩ ⟨Nat.le_of_ble_eq_true rfl, Nat.le_of_ble_eq_true rfl⟩ (Nat.le_of_ble_eq_true rfl) rfl rfl dL_act_274 (fun r274 I274 H locs hp h => ?_)
      obtain ⟨rfl, hq9⟩ := hp
      rw [hq9] at h
      rw [bl_dr _ _ (by omega) (by omega)]
      have hb274 := dr_lt x 4 (n := 6) (by omega)
      refine r_cVI C0 h hl.1 _ (by omega) (ce0 k _) rfl (ct_X3_master l k M _ hJ cn hR.c20 hR.n4 _ hlt false _ (isW_n (show dr x 4 6 ≤ 5 by omega) (by omega))) gL_act_X3_master rfl (by decide +kernel) (n := 3) ⟨Nat.le_of_ble_eq_true rfl, Nat.le_of_ble_eq_true rfl⟩ ⟨Nat.le_of_ble_eq_true rfl, Nat.le_of_ble_eq_true rfl⟩ (Nat.le_of_ble_eq_true rfl) rfl rfl dL_act_277 (fun r277 I277 H locs hp h => ?_)
      obtain ⟨rfl, e277⟩ := hp
      obtain ⟨hR, -⟩ := hR.mst hlt (show dr x 4 6 ≤ 9999 by omega) e277
      refine lv_aload_n hx hb dL_act_280 rfl (lv_at hl 2 rfl) ?_
      refine lv_iload hx hb dL_act_281 (lv_at hl 0 rfl) ?_
      refine lv_bipush (v := nI 11) hx hb dL_act_283 (by decide) ?_
      refine r_cVI C0 h hl.1 _ (by omega) (ce0 k _) rfl (ct_X3_ofLetter l k M _ hJ cn hR.c20 hR.n4 _ hlt 11 (by decide)) gL_act_X3_ofLetter rfl (by decide +kernel) (n := 2) ⟨Nat.le_of_ble_eq_true rfl, Nat.le_of_ble_eq_true rfl⟩ ⟨Nat.le_of_ble_eq_true rfl, Nat.le_of_ble_eq_true rfl⟩ (Nat.le_of_ble_eq_true rfl) rfl rfl dL_act_285 (fun r285 I285 H locs hp h => ?_)
      obtain ⟨rfl, hq9⟩ := hp
      rw [hq9] at h
      rw [py11 _]
      refine lv_icmp_ne (tgt := 295) hx hb dL_act_288 (by decide) (fun c_288 => ?_) (fun c_288 => ?_)
      · exact absurd (by rw [e277]) c_288
      · refine lv_iconst (v := nI 1) hx hb dL_act_291 (by decide) ?_
        refine lv_goto (tgt := 296) hx hb dL_act_292 (by decide) ?_
        exact r_zretX C0 h hr ⟨Nat.le_of_ble_eq_true rfl, Nat.le_of_ble_eq_true rfl⟩ dL_act_296 (by first | exact zb1 | exact zb0) ⟨rfl, _, _, hR, by omega⟩
    · have d_261 := (not_congr (nI_le0 (by omega))).mp c_261
      refine lv_iconst (v := nI 1) hx hb dL_act_264 (by decide) ?_
      refine lv_goto (tgt := 269) hx hb dL_act_265 (by decide) ?_
      refine lv_iload_n hx hb dL_act_269 rfl (lv_at hl 3 rfl) ?_
      refine lv_iconst (v := nI 4) hx hb dL_act_270 (by decide) ?_
      refine lv_ishr hx hb dL_act_271 ?_
      refine lv_bipush (v := nI 6) hx hb dL_act_272 (by decide) ?_
      refine r_cSI C0 h hl.1 (ct_L_below l k M _ hJ _ _ (nI_ne0 (by omega) (by omega))) gL_act_L_below rfl (by decide +kernel) (n := 2) ⟨Nat.le_of_ble_eq_true rfl, Nat.le_of_ble_eq_true rfl⟩ ⟨Nat.le_of_ble_eq_true rfl, Nat.le_of_ble_eq_true rfl⟩ (Nat.le_of_ble_eq_true rfl) rfl rfl dL_act_274 (fun r274 I274 H locs hp h => ?_)
      obtain ⟨rfl, hq9⟩ := hp
      rw [hq9] at h
      rw [bl_dr _ _ (by omega) (by omega)]
      have hb274 := dr_lt x 4 (n := 6) (by omega)
      refine r_cVI C0 h hl.1 _ (by omega) (ce0 k _) rfl (ct_X3_master l k M _ hJ cn hR.c20 hR.n4 _ hlt true _ (isW_n (show dr x 4 6 ≤ 5 by omega) (by omega))) gL_act_X3_master rfl (by decide +kernel) (n := 3) ⟨Nat.le_of_ble_eq_true rfl, Nat.le_of_ble_eq_true rfl⟩ ⟨Nat.le_of_ble_eq_true rfl, Nat.le_of_ble_eq_true rfl⟩ (Nat.le_of_ble_eq_true rfl) rfl rfl dL_act_277 (fun r277 I277 H locs hp h => ?_)
      obtain ⟨rfl, e277⟩ := hp
      obtain ⟨hR, -⟩ := hR.mst hlt (show dr x 4 6 ≤ 9999 by omega) e277
      refine lv_aload_n hx hb dL_act_280 rfl (lv_at hl 2 rfl) ?_
      refine lv_iload hx hb dL_act_281 (lv_at hl 0 rfl) ?_
      refine lv_bipush (v := nI 11) hx hb dL_act_283 (by decide) ?_
      refine r_cVI C0 h hl.1 _ (by omega) (ce0 k _) rfl (ct_X3_ofLetter l k M _ hJ cn hR.c20 hR.n4 _ hlt 11 (by decide)) gL_act_X3_ofLetter rfl (by decide +kernel) (n := 2) ⟨Nat.le_of_ble_eq_true rfl, Nat.le_of_ble_eq_true rfl⟩ ⟨Nat.le_of_ble_eq_true rfl, Nat.le_of_ble_eq_true rfl⟩ (Nat.le_of_ble_eq_true rfl) rfl rfl dL_act_285 (fun r285 I285 H locs hp h => ?_)
      obtain ⟨rfl, hq9⟩ := hp
      rw [hq9] at h
      rw [py11 _]
      refine lv_icmp_ne (tgt := 295) hx hb dL_act_288 (by decide) (fun c_288 => ?_) (fun c_288 => ?_)
      · exact absurd (by rw [e277]) c_288
      · refine lv_iconst (v := nI 1) hx hb dL_act_291 (by decide) ?_
        refine lv_goto (tgt := 296) hx hb dL_act_292 (by decide) ?_
        exact r_zretX C0 h hr ⟨Nat.le_of_ble_eq_true rfl, Nat.le_of_ble_eq_true rfl⟩ dL_act_296 (by first | exact zb1 | exact zb0) ⟨rfl, _, _, hR, by omega⟩
  have key297 : ∀ (I1 : IS), RA cn lcn I1 → True → ∀ (H : Heap) (locs : List Loc) (ls : Array Slot), HX k M A s I1 H locs → lv_has ls 10 [(4, .int (nI (dr x 3 cn))), (5, .int (nI (dr x 5 cn))), (0, .ref (k.2.1 0)), (1, .int x), (2, .ref (k.2.1 98)), (3, .int (nI cn))] → W p l e (RmA 13 1 6) s m args below meth c H locs 0 0 (vx_MQ below (va_Qi (fun r I' => r = nI 1 ∧ ∃ cn' lcn', RA cn' lcn' I' ∧ cn ≤ cn') (EnX k M) A) (XN A) args s 1 6 A) (F0 m 297 ls []) := by
    intro I1 hR hv H locs ls h hl
    have hc1 := hR.c1
    have hc20 := hR.c20
    have hby := dr_lt x 5 (n := cn) (by omega)
    have hlt := dr_lt x 3 (n := cn) (by omega)
    refine lv_aload_n hx hb dL_act_297 rfl (lv_at hl 2 rfl) ?_
    refine lv_iload hx hb dL_act_298 (lv_at hl 0 rfl) ?_
    refine lv_iload_n hx hb dL_act_300 rfl (lv_at hl 3 rfl) ?_
    refine lv_bipush (v := nI 6) hx hb dL_act_301 (by decide) ?_
    refine lv_ishr hx hb dL_act_303 ?_
    refine lv_bipush (v := nI 16) hx hb dL_act_304 (by decide) ?_
    refine r_cSI C0 h hl.1 (ct_L_below l k M _ hJ _ _ (nI_ne0 (by omega) (by omega))) gL_act_L_below rfl (by decide +kernel) (n := 2) ⟨Nat.le_of_ble_eq_true rfl, Nat.le_of_ble_eq_true rfl⟩ ⟨Nat.le_of_ble_eq_true rfl, Nat.le_of_ble_eq_true rfl⟩ (Nat.le_of_ble_eq_true rfl) rfl rfl dL_act_306 (fun r306 I306 H locs hp h => ?_)
    obtain ⟨rfl, hq9⟩ := hp
    rw [hq9] at h
    rw [bl_dr _ _ (by omega) (by omega)]
    have hb306 := dr_lt x 6 (n := 16) (by omega)
    refine lv_iload_n hx hb dL_act_309 rfl (lv_at hl 3 rfl) ?_
    refine lv_iconst (v := nI 4) hx hb dL_act_310 (by decide) ?_
    refine lv_ishr hx hb dL_act_311 ?_
    refine lv_iconst (v := nI 3) hx hb dL_act_312 (by decide) ?_
    refine r_cSI C0 h hl.1 (ct_L_below l k M _ hJ _ _ (nI_ne0 (by omega) (by omega))) gL_act_L_below rfl (by decide +kernel) (n := 2) ⟨Nat.le_of_ble_eq_true rfl, Nat.le_of_ble_eq_true rfl⟩ ⟨Nat.le_of_ble_eq_true rfl, Nat.le_of_ble_eq_true rfl⟩ (Nat.le_of_ble_eq_true rfl) rfl rfl dL_act_313 (fun r313 I313 H locs hp h => ?_)
    obtain ⟨rfl, hq9⟩ := hp
    rw [hq9] at h
    rw [bl_dr _ _ (by omega) (by omega)]
    have hb313 := dr_lt x 4 (n := 3) (by omega)
    refine lv_if_ne (tgt := 333) hx hb dL_act_316 (by decide) (fun c_316 => ?_) (fun c_316 => ?_)
    · have d_316 := (not_congr (nI_eq0 (by omega))).mp c_316
      refine lv_iconst (v := nI 0) hx hb dL_act_333 (by decide) ?_
      refine r_cVI C0 h hl.1 _ (by omega) (ce0 k _) rfl (ct_X3_good l k M _ hJ cn hR.c20 hR.n4 _ hlt _ _ (isW_n (show dr x 6 16 ≤ 15 by omega) (by omega)) (show isN0 (nI 0) = true by decide)) gL_act_X3_good rfl (by decide +kernel) (n := 3) ⟨Nat.le_of_ble_eq_true rfl, Nat.le_of_ble_eq_true rfl⟩ ⟨Nat.le_of_ble_eq_true rfl, Nat.le_of_ble_eq_true rfl⟩ (Nat.le_of_ble_eq_true rfl) rfl rfl dL_act_334 (fun r334 I334 H locs hp h => ?_)
      obtain ⟨rfl, e334⟩ := hp
      have hR := hR.god hlt (show dr x 6 16 ≤ 9999 by omega) (show isN0 (nI 0) = true by decide) ⟨0, by omega, rfl⟩ e334
      refine lv_aload_n hx hb dL_act_337 rfl (lv_at hl 2 rfl) ?_
      refine lv_iload hx hb dL_act_338 (lv_at hl 0 rfl) ?_
      refine lv_bipush (v := nI 11) hx hb dL_act_340 (by decide) ?_
      refine r_cVI C0 h hl.1 _ (by omega) (ce0 k _) rfl (ct_X3_ofLetter l k M _ hJ cn hR.c20 hR.n4 _ hlt 11 (by decide)) gL_act_X3_ofLetter rfl (by decide +kernel) (n := 2) ⟨Nat.le_of_ble_eq_true rfl, Nat.le_of_ble_eq_true rfl⟩ ⟨Nat.le_of_ble_eq_true rfl, Nat.le_of_ble_eq_true rfl⟩ (Nat.le_of_ble_eq_true rfl) rfl rfl dL_act_342 (fun r342 I342 H locs hp h => ?_)
      obtain ⟨rfl, hq9⟩ := hp
      rw [hq9] at h
      rw [py11 _]
      refine lv_icmp_ne (tgt := 352) hx hb dL_act_345 (by decide) (fun c_345 => ?_) (fun c_345 => ?_)
      · exact absurd (by rw [e334]) c_345
      · refine lv_iconst (v := nI 1) hx hb dL_act_348 (by decide) ?_
        refine lv_goto (tgt := 353) hx hb dL_act_349 (by decide) ?_
        exact r_zretX C0 h hr ⟨Nat.le_of_ble_eq_true rfl, Nat.le_of_ble_eq_true rfl⟩ dL_act_353 (by first | exact zb1 | exact zb0) ⟨rfl, _, _, hR, by omega⟩
    · have d_316 := (nI_eq0 (by omega)).mp c_316
      refine lv_aload_n hx hb dL_act_319 rfl (lv_at hl 4 rfl) ?_
      refine lv_iload_n hx hb dL_act_320 rfl (lv_at hl 3 rfl) ?_
      refine lv_bipush (v := nI 7) hx hb dL_act_321 (by decide) ?_
      refine lv_ishr hx hb dL_act_323 ?_
      refine lv_bipush (v := nI 6) hx hb dL_act_324 (by decide) ?_
      refine r_cSI C0 h hl.1 (ct_L_below l k M _ hJ _ _ (nI_ne0 (by omega) (by omega))) gL_act_L_below rfl (by decide +kernel) (n := 2) ⟨Nat.le_of_ble_eq_true rfl, Nat.le_of_ble_eq_true rfl⟩ ⟨Nat.le_of_ble_eq_true rfl, Nat.le_of_ble_eq_true rfl⟩ (Nat.le_of_ble_eq_true rfl) rfl rfl dL_act_326 (fun r326 I326 H locs hp h => ?_)
      obtain ⟨rfl, hq9⟩ := hp
      rw [hq9] at h
      rw [bl_dr _ _ (by omega) (by omega)]
      have hb326 := dr_lt x 7 (n := 6) (by omega)
      refine r_iald C0 h 98 (by omega) isA_98 _ (by rw [ln98]; exact dr_lt x 7 (by omega)) dL_act_329 ?_
      refine lv_goto (tgt := 334) hx hb dL_act_330 (by decide) ?_
      refine r_cVI C0 h hl.1 _ (by omega) (ce0 k _) rfl (ct_X3_good l k M _ hJ cn hR.c20 hR.n4 _ hlt _ _ (isW_n (show dr x 6 16 ≤ 15 by omega) (by omega)) (isN0_nm (hR.2.nm (dr_lt x 7 (by omega))).1)) gL_act_X3_good rfl (by decide +kernel) (n := 3) ⟨Nat.le_of_ble_eq_true rfl, Nat.le_of_ble_eq_true rfl⟩ ⟨Nat.le_of_ble_eq_true rfl, Nat.le_of_ble_eq_true rfl⟩ (Nat.le_of_ble_eq_true rfl) rfl rfl dL_act_334 (fun r334 I334 H locs hp h => ?_)
      obtain ⟨rfl, e334⟩ := hp
      have hR := hR.god hlt (show dr x 6 16 ≤ 9999 by omega) (isN0_nm (hR.2.nm (dr_lt x 7 (by omega))).1) (hR.2.nm (dr_lt x 7 (by omega))).2 e334
      refine lv_aload_n hx hb dL_act_337 rfl (lv_at hl 2 rfl) ?_
      refine lv_iload hx hb dL_act_338 (lv_at hl 0 rfl) ?_
      refine lv_bipush (v := nI 11) hx hb dL_act_340 (by decide) ?_
      refine r_cVI C0 h hl.1 _ (by omega) (ce0 k _) rfl (ct_X3_ofLetter l k M _ hJ cn hR.c20 hR.n4 _ hlt 11 (by decide)) gL_act_X3_ofLetter rfl (by decide +kernel) (n := 2) ⟨Nat.le_of_ble_eq_true rfl, Nat.le_of_ble_eq_true rfl⟩ ⟨Nat.le_of_ble_eq_true rfl, Nat.le_of_ble_eq_true rfl⟩ (Nat.le_of_ble_eq_true rfl) rfl rfl dL_act_342 (fun r342 I342 H locs hp h => ?_)
      obtain ⟨rfl, hq9⟩ := hp
      rw [hq9] at h
      rw [py11 _]
      refine lv_icmp_ne (tgt := 352) hx hb dL_act_345 (by decide) (fun c_345 => ?_) (fun c_345 => ?_)
      · exact absurd (by rw [e334]) c_345
      · refine lv_iconst (v := nI 1) hx hb dL_act_348 (by decide) ?_
        refine lv_goto (tgt := 353) hx hb dL_act_349 (by decide) ?_
        exact r_zretX C0 h hr ⟨Nat.le_of_ble_eq_true rfl, Nat.le_of_ble_eq_true rfl⟩ dL_act_353 (by first | exact zb1 | exact zb0) ⟨rfl, _, _, hR, by omega⟩
  have key354 : ∀ (I1 : IS), RA cn lcn I1 → True → ∀ (H : Heap) (locs : List Loc) (ls : Array Slot), HX k M A s I1 H locs → lv_has ls 10 [(4, .int (nI (dr x 3 cn))), (5, .int (nI (dr x 5 cn))), (0, .ref (k.2.1 0)), (1, .int x), (2, .ref (k.2.1 98)), (3, .int (nI cn))] → W p l e (RmA 13 1 6) s m args below meth c H locs 0 0 (vx_MQ below (va_Qi (fun r I' => r = nI 1 ∧ ∃ cn' lcn', RA cn' lcn' I' ∧ cn ≤ cn') (EnX k M) A) (XN A) args s 1 6 A) (F0 m 354 ls []) := by
    intro I1 hR hv H locs ls h hl
    have hc1 := hR.c1
    have hc20 := hR.c20
    have hby := dr_lt x 5 (n := cn) (by omega)
    have hlt := dr_lt x 3 (n := cn) (by omega)
    refine lv_aload_n hx hb dL_act_354 rfl (lv_at hl 2 rfl) ?_
    refine lv_iload hx hb dL_act_355 (lv_at hl 1 rfl) ?_
    refine lv_iconst (v := nI 2) hx hb dL_act_357 (by decide) ?_
    refine r_cVI C0 h hl.1 _ (by omega) (ce0 k _) rfl (ct_X3_ofLetter l k M _ hJ cn hR.c20 hR.n4 _ hby 2 (by decide)) gL_act_X3_ofLetter rfl (by decide +kernel) (n := 2) ⟨Nat.le_of_ble_eq_true rfl, Nat.le_of_ble_eq_true rfl⟩ ⟨Nat.le_of_ble_eq_true rfl, Nat.le_of_ble_eq_true rfl⟩ (Nat.le_of_ble_eq_true rfl) rfl rfl dL_act_358 (fun r358 I358 H locs hp h => ?_)
    obtain ⟨rfl, hq9⟩ := hp
    rw [hq9] at h
    rw [py_at _ (by decide) (by decide) (by decide)]
    refine lv_istore hx hb dL_act_361 hl (by decide) rfl (fun ls hl => ?_)
    have hl : lv_has ls 10 [(6, _), (4, _), (5, _), (0, _), (1, _), (2, _), (3, _)] := hl
    refine lv_aload_n hx hb dL_act_363 rfl (lv_at hl 3 rfl) ?_
    refine lv_iload hx hb dL_act_364 (lv_at hl 1 rfl) ?_
    refine lv_iload hx hb dL_act_366 (lv_at hl 0 rfl) ?_
    refine r_cVI C0 h hl.1 _ (by omega) (ce0 k _) rfl (ct_X3_sign l k M _ hJ cn hR.c20 hR.n4 _ hlt _ (hR.ltI hby).key) gL_act_X3_sign rfl (by decide +kernel) (n := 2) ⟨Nat.le_of_ble_eq_true rfl, Nat.le_of_ble_eq_true rfl⟩ ⟨Nat.le_of_ble_eq_true rfl, Nat.le_of_ble_eq_true rfl⟩ (Nat.le_of_ble_eq_true rfl) rfl rfl dL_act_368 (fun r368 I368 H locs hp h => ?_)
    obtain ⟨rfl, e368⟩ := hp
    have hky := (hR.ltI hby).key
    have hR := hR.sgn hlt e368
    refine lv_aload_n hx hb dL_act_371 rfl (lv_at hl 3 rfl) ?_
    refine lv_iload hx hb dL_act_372 (lv_at hl 0 rfl) ?_
    refine lv_aload_n hx hb dL_act_374 rfl (lv_at hl 3 rfl) ?_
    refine lv_iload hx hb dL_act_375 (lv_at hl 1 rfl) ?_
    refine lv_bipush (v := nI 11) hx hb dL_act_377 (by decide) ?_
    refine r_cVI C0 h hl.1 _ (by omega) (ce0 k _) rfl (ct_X3_ofLetter l k M _ hJ cn hR.c20 hR.n4 _ hlt 11 (by decide)) gL_act_X3_ofLetter rfl (by decide +kernel) (n := 2) ⟨Nat.le_of_ble_eq_true rfl, Nat.le_of_ble_eq_true rfl⟩ ⟨Nat.le_of_ble_eq_true rfl, Nat.le_of_ble_eq_true rfl⟩ (Nat.le_of_ble_eq_true rfl) rfl rfl dL_act_379 (fun r379 I379 H locs hp h => ?_)
    obtain ⟨rfl, hq9⟩ := hp
    rw [hq9] at h
    rw [py11 _]
    refine r_cVI C0 h hl.1 _ (by omega) (ce0 k _) rfl (ct_X3_signed l k M _ hJ _ _ hky (prLf_w (hR.ltI hlt))) gL_act_X3_signed rfl (by decide +kernel) (n := 2) ⟨Nat.le_of_ble_eq_true rfl, Nat.le_of_ble_eq_true rfl⟩ ⟨Nat.le_of_ble_eq_true rfl, Nat.le_of_ble_eq_true rfl⟩ (Nat.le_of_ble_eq_true rfl) rfl rfl dL_act_382 (fun r382 I382 H locs hp h => ?_)
    obtain ⟨rfl, hq9⟩ := hp
    rw [hq9] at h
    refine lv_icmp_ne (tgt := 425) hx hb dL_act_385 (by decide) (fun c_385 => ?_) (fun c_385 => ?_)
    · exact absurd (by rw [e368, prL_up _ _ _ _ _ (Nat.le_refl _)]) c_385
    · refine lv_aload_n hx hb dL_act_388 rfl (lv_at hl 3 rfl) ?_
      refine lv_iload hx hb dL_act_389 (lv_at hl 2 rfl) ?_
      refine lv_iload hx hb dL_act_391 (lv_at hl 1 rfl) ?_
      refine r_cVI C0 h hl.1 _ (by omega) (ce0 k _) rfl (ct_X3_backs l k M _ hJ cn hR.c20 hR.n4 _ _ hby hlt) gL_act_X3_backs rfl (by decide +kernel) (n := 2) ⟨Nat.le_of_ble_eq_true rfl, Nat.le_of_ble_eq_true rfl⟩ ⟨Nat.le_of_ble_eq_true rfl, Nat.le_of_ble_eq_true rfl⟩ (Nat.le_of_ble_eq_true rfl) rfl rfl dL_act_393 (fun r393 I393 H locs hp h => ?_)
      obtain ⟨rfl, hq9⟩ := hp
      rw [hq9] at h
      rw [e368, bk_sign]
      refine lv_aload_n hx hb dL_act_396 rfl (lv_at hl 3 rfl) ?_
      refine lv_iload hx hb dL_act_397 (lv_at hl 2 rfl) ?_
      refine lv_iconst (v := nI 0) hx hb dL_act_399 (by decide) ?_
      refine r_cVI C0 h hl.1 _ (by omega) (ce0 k _) rfl (ct_X3_ofLetter l k M _ hJ cn hR.c20 hR.n4 _ hby 0 (by decide)) gL_act_X3_ofLetter rfl (by decide +kernel) (n := 2) ⟨Nat.le_of_ble_eq_true rfl, Nat.le_of_ble_eq_true rfl⟩ ⟨Nat.le_of_ble_eq_true rfl, Nat.le_of_ble_eq_true rfl⟩ (Nat.le_of_ble_eq_true rfl) rfl rfl dL_act_400 (fun r400 I400 H locs hp h => ?_)
      obtain ⟨rfl, hq9⟩ := hp
      rw [hq9] at h
      rw [py_at _ (by decide) (by decide) (by decide)]
      refine lv_aload_n hx hb dL_act_403 rfl (lv_at hl 3 rfl) ?_
      refine lv_iload hx hb dL_act_404 (lv_at hl 1 rfl) ?_
      refine lv_iconst (v := nI 1) hx hb dL_act_406 (by decide) ?_
      refine r_cVI C0 h hl.1 _ (by omega) (ce0 k _) rfl (ct_X3_ofLetter l k M _ hJ cn hR.c20 hR.n4 _ hlt 1 (by decide)) gL_act_X3_ofLetter rfl (by decide +kernel) (n := 2) ⟨Nat.le_of_ble_eq_true rfl, Nat.le_of_ble_eq_true rfl⟩ ⟨Nat.le_of_ble_eq_true rfl, Nat.le_of_ble_eq_true rfl⟩ (Nat.le_of_ble_eq_true rfl) rfl rfl dL_act_407 (fun r407 I407 H locs hp h => ?_)
      obtain ⟨rfl, hq9⟩ := hp
      rw [hq9] at h
      rw [py_at _ (by decide) (by decide) (by decide)]
      refine lv_icmp_ne (tgt := 417) hx hb dL_act_410 (by decide) (fun c_410 => ?_) (fun c_410 => ?_)
      · rw [e368, up2_q _ _ _ _ _ (show (0 : Nat) ≠ 10 by decide), up2_q _ _ _ _ _ (show (1 : Nat) ≠ 10 by decide)] at c_410
        rw [decide_eq_false c_410]
        refine lv_iconst (v := nI 0) hx hb dL_act_417 (by decide) ?_
        refine lv_icmp_ne (tgt := 425) hx hb dL_act_418 (by decide) (fun c_418 => ?_) (fun c_418 => ?_)
        · exact absurd rfl c_418
        · refine lv_iconst (v := nI 1) hx hb dL_act_421 (by decide) ?_
          refine lv_goto (tgt := 426) hx hb dL_act_422 (by decide) ?_
          exact r_zretX C0 h hr ⟨Nat.le_of_ble_eq_true rfl, Nat.le_of_ble_eq_true rfl⟩ dL_act_426 (by first | exact zb1 | exact zb0) ⟨rfl, _, _, hR, by omega⟩
      · rw [e368, up2_q _ _ _ _ _ (show (0 : Nat) ≠ 10 by decide), up2_q _ _ _ _ _ (show (1 : Nat) ≠ 10 by decide)] at c_410
        rw [decide_eq_true c_410]
        refine lv_iconst (v := nI 1) hx hb dL_act_413 (by decide) ?_
        refine lv_goto (tgt := 418) hx hb dL_act_414 (by decide) ?_
        refine lv_icmp_ne (tgt := 425) hx hb dL_act_418 (by decide) (fun c_418 => ?_) (fun c_418 => ?_)
        · exact absurd rfl c_418
        · refine lv_iconst (v := nI 1) hx hb dL_act_421 (by decide) ?_
          refine lv_goto (tgt := 426) hx hb dL_act_422 (by decide) ?_
          exact r_zretX C0 h hr ⟨Nat.le_of_ble_eq_true rfl, Nat.le_of_ble_eq_true rfl⟩ dL_act_426 (by first | exact zb1 | exact zb0) ⟨rfl, _, _, hR, by omega⟩
  have key427 : ∀ (I1 : IS), RA cn lcn I1 → True → ∀ (H : Heap) (locs : List Loc) (ls : Array Slot), HX k M A s I1 H locs → lv_has ls 10 [(4, .int (nI (dr x 3 cn))), (5, .int (nI (dr x 5 cn))), (0, .ref (k.2.1 0)), (1, .int x), (2, .ref (k.2.1 98)), (3, .int (nI cn))] → W p l e (RmA 13 1 6) s m args below meth c H locs 0 0 (vx_MQ below (va_Qi (fun r I' => r = nI 1 ∧ ∃ cn' lcn', RA cn' lcn' I' ∧ cn ≤ cn') (EnX k M) A) (XN A) args s 1 6 A) (F0 m 427 ls []) := by
    intro I1 hR hv H locs ls h hl
    have hc1 := hR.c1
    have hc20 := hR.c20
    have hby := dr_lt x 5 (n := cn) (by omega)
    have hlt := dr_lt x 3 (n := cn) (by omega)
    refine lv_aload_n hx hb dL_act_427 rfl (lv_at hl 2 rfl) ?_
    refine lv_iload hx hb dL_act_428 (lv_at hl 0 rfl) ?_
    refine lv_iload_n hx hb dL_act_430 rfl (lv_at hl 3 rfl) ?_
    refine lv_bipush (v := nI 6) hx hb dL_act_431 (by decide) ?_
    refine lv_ishr hx hb dL_act_433 ?_
    refine lv_iconst (v := nI 3) hx hb dL_act_434 (by decide) ?_
    refine r_cSI C0 h hl.1 (ct_L_below l k M _ hJ _ _ (nI_ne0 (by omega) (by omega))) gL_act_L_below rfl (by decide +kernel) (n := 2) ⟨Nat.le_of_ble_eq_true rfl, Nat.le_of_ble_eq_true rfl⟩ ⟨Nat.le_of_ble_eq_true rfl, Nat.le_of_ble_eq_true rfl⟩ (Nat.le_of_ble_eq_true rfl) rfl rfl dL_act_435 (fun r435 I435 H locs hp h => ?_)
    obtain ⟨rfl, hq9⟩ := hp
    rw [hq9] at h
    rw [bl_dr _ _ (by omega) (by omega)]
    have hb435 := dr_lt x 6 (n := 3) (by omega)
    refine lv_if_ne (tgt := 445) hx hb dL_act_438 (by decide) (fun c_438 => ?_) (fun c_438 => ?_)
    · have d_438 := (not_congr (nI_eq0 (by omega))).mp c_438
      refine lv_iconst (v := nI 0) hx hb dL_act_445 (by decide) ?_
      refine r_cVI C0 h hl.1 _ (by omega) (ce0 k _) rfl (ct_X3_anchor l k M _ hJ cn hR.c20 hR.n4 _ hlt false) gL_act_X3_anchor rfl (by decide +kernel) (n := 2) ⟨Nat.le_of_ble_eq_true rfl, Nat.le_of_ble_eq_true rfl⟩ ⟨Nat.le_of_ble_eq_true rfl, Nat.le_of_ble_eq_true rfl⟩ (Nat.le_of_ble_eq_true rfl) rfl rfl dL_act_446 (fun r446 I446 H locs hp h => ?_)
      obtain ⟨rfl, e446⟩ := hp
      have hR := hR.anc hlt e446
      refine lv_aload_n hx hb dL_act_449 rfl (lv_at hl 2 rfl) ?_
      refine lv_iconst (v := nI 1) hx hb dL_act_450 (by decide) ?_
      refine r_cVI C0 h hl.1 _ (by omega) (ce0 k _) rfl (ct_X3_many l k M _ hJ cn hR.c20 hR.n4 lcn hR.l8 hR.n5 1 (by decide)) gL_act_X3_many rfl (by decide +kernel) (n := 1) ⟨Nat.le_of_ble_eq_true rfl, Nat.le_of_ble_eq_true rfl⟩ ⟨Nat.le_of_ble_eq_true rfl, Nat.le_of_ble_eq_true rfl⟩ (Nat.le_of_ble_eq_true rfl) rfl rfl dL_act_451 (fun r451 I451 H locs hp h => ?_)
      obtain ⟨rfl, hv451⟩ := hp
      have hR := hR.ask hv451
      rw [mn1, anN_vw _ hR.c20]
      refine lv_icmp_ne (tgt := 488) hx hb dL_act_454 (by decide) (fun c_454 => ?_) (fun c_454 => ?_)
      · exact absurd (by rw [e446]) c_454
      · refine lv_aload_n hx hb dL_act_457 rfl (lv_at hl 2 rfl) ?_
        refine lv_iload hx hb dL_act_458 (lv_at hl 0 rfl) ?_
        refine lv_bipush (v := nI 12) hx hb dL_act_460 (by decide) ?_
        refine r_cVI C0 h hl.1 _ (by omega) (ce0 k _) rfl (ct_X3_ofLetter l k M _ hJ cn hR.c20 hR.n4 _ hlt 12 (by decide)) gL_act_X3_ofLetter rfl (by decide +kernel) (n := 2) ⟨Nat.le_of_ble_eq_true rfl, Nat.le_of_ble_eq_true rfl⟩ ⟨Nat.le_of_ble_eq_true rfl, Nat.le_of_ble_eq_true rfl⟩ (Nat.le_of_ble_eq_true rfl) rfl rfl dL_act_462 (fun r462 I462 H locs hp h => ?_)
        obtain ⟨rfl, hq9⟩ := hp
        rw [hq9] at h
        rw [py12f (by rw [vw_useL hv451 (show dr x 3 cn < 20 by omega), e446, up2_s])]
        refine lv_iload_n hx hb dL_act_465 rfl (lv_at hl 3 rfl) ?_
        refine lv_bipush (v := nI 6) hx hb dL_act_466 (by decide) ?_
        refine lv_ishr hx hb dL_act_468 ?_
        refine lv_iconst (v := nI 3) hx hb dL_act_469 (by decide) ?_
        refine r_cSI C0 h hl.1 (ct_L_below l k M _ hJ _ _ (nI_ne0 (by omega) (by omega))) gL_act_L_below rfl (by decide +kernel) (n := 2) ⟨Nat.le_of_ble_eq_true rfl, Nat.le_of_ble_eq_true rfl⟩ ⟨Nat.le_of_ble_eq_true rfl, Nat.le_of_ble_eq_true rfl⟩ (Nat.le_of_ble_eq_true rfl) rfl rfl dL_act_470 (fun r470 I470 H locs hp h => ?_)
        obtain ⟨rfl, hq9⟩ := hp
        rw [hq9] at h
        rw [bl_dr _ _ (by omega) (by omega)]
        have hb470 := dr_lt x 6 (n := 3) (by omega)
        refine lv_if_ne (tgt := 480) hx hb dL_act_473 (by decide) (fun c_473 => ?_) (fun c_473 => ?_)
        · have d_473 := (not_congr (nI_eq0 (by omega))).mp c_473
          refine lv_iconst (v := nI 0) hx hb dL_act_480 (by decide) ?_
          refine lv_icmp_ne (tgt := 488) hx hb dL_act_481 (by decide) (fun c_481 => ?_) (fun c_481 => ?_)
          · exact absurd (by decide) c_481
          · refine lv_iconst (v := nI 1) hx hb dL_act_484 (by decide) ?_
            refine lv_goto (tgt := 489) hx hb dL_act_485 (by decide) ?_
            exact r_zretX C0 h hr ⟨Nat.le_of_ble_eq_true rfl, Nat.le_of_ble_eq_true rfl⟩ dL_act_489 (by first | exact zb1 | exact zb0) ⟨rfl, _, _, hR, by omega⟩
        · have d_473 := (nI_eq0 (by omega)).mp c_473
          exact False.elim (by omega)
    · have d_438 := (nI_eq0 (by omega)).mp c_438
      refine lv_iconst (v := nI 1) hx hb dL_act_441 (by decide) ?_
      refine lv_goto (tgt := 446) hx hb dL_act_442 (by decide) ?_
      refine r_cVI C0 h hl.1 _ (by omega) (ce0 k _) rfl (ct_X3_anchor l k M _ hJ cn hR.c20 hR.n4 _ hlt true) gL_act_X3_anchor rfl (by decide +kernel) (n := 2) ⟨Nat.le_of_ble_eq_true rfl, Nat.le_of_ble_eq_true rfl⟩ ⟨Nat.le_of_ble_eq_true rfl, Nat.le_of_ble_eq_true rfl⟩ (Nat.le_of_ble_eq_true rfl) rfl rfl dL_act_446 (fun r446 I446 H locs hp h => ?_)
      obtain ⟨rfl, e446⟩ := hp
      have hR := hR.anc hlt e446
      refine lv_aload_n hx hb dL_act_449 rfl (lv_at hl 2 rfl) ?_
      refine lv_iconst (v := nI 1) hx hb dL_act_450 (by decide) ?_
      refine r_cVI C0 h hl.1 _ (by omega) (ce0 k _) rfl (ct_X3_many l k M _ hJ cn hR.c20 hR.n4 lcn hR.l8 hR.n5 1 (by decide)) gL_act_X3_many rfl (by decide +kernel) (n := 1) ⟨Nat.le_of_ble_eq_true rfl, Nat.le_of_ble_eq_true rfl⟩ ⟨Nat.le_of_ble_eq_true rfl, Nat.le_of_ble_eq_true rfl⟩ (Nat.le_of_ble_eq_true rfl) rfl rfl dL_act_451 (fun r451 I451 H locs hp h => ?_)
      obtain ⟨rfl, hv451⟩ := hp
      have hR := hR.ask hv451
      rw [mn1, anN_vw _ hR.c20]
      refine lv_icmp_ne (tgt := 488) hx hb dL_act_454 (by decide) (fun c_454 => ?_) (fun c_454 => ?_)
      · exact absurd (by rw [e446]) c_454
      · refine lv_aload_n hx hb dL_act_457 rfl (lv_at hl 2 rfl) ?_
        refine lv_iload hx hb dL_act_458 (lv_at hl 0 rfl) ?_
        refine lv_bipush (v := nI 12) hx hb dL_act_460 (by decide) ?_
        refine r_cVI C0 h hl.1 _ (by omega) (ce0 k _) rfl (ct_X3_ofLetter l k M _ hJ cn hR.c20 hR.n4 _ hlt 12 (by decide)) gL_act_X3_ofLetter rfl (by decide +kernel) (n := 2) ⟨Nat.le_of_ble_eq_true rfl, Nat.le_of_ble_eq_true rfl⟩ ⟨Nat.le_of_ble_eq_true rfl, Nat.le_of_ble_eq_true rfl⟩ (Nat.le_of_ble_eq_true rfl) rfl rfl dL_act_462 (fun r462 I462 H locs hp h => ?_)
        obtain ⟨rfl, hq9⟩ := hp
        rw [hq9] at h
        rw [py12t (by rw [vw_useL hv451 (show dr x 3 cn < 20 by omega), e446, up2_s])]
        refine lv_iload_n hx hb dL_act_465 rfl (lv_at hl 3 rfl) ?_
        refine lv_bipush (v := nI 6) hx hb dL_act_466 (by decide) ?_
        refine lv_ishr hx hb dL_act_468 ?_
        refine lv_iconst (v := nI 3) hx hb dL_act_469 (by decide) ?_
        refine r_cSI C0 h hl.1 (ct_L_below l k M _ hJ _ _ (nI_ne0 (by omega) (by omega))) gL_act_L_below rfl (by decide +kernel) (n := 2) ⟨Nat.le_of_ble_eq_true rfl, Nat.le_of_ble_eq_true rfl⟩ ⟨Nat.le_of_ble_eq_true rfl, Nat.le_of_ble_eq_true rfl⟩ (Nat.le_of_ble_eq_true rfl) rfl rfl dL_act_470 (fun r470 I470 H locs hp h => ?_)
        obtain ⟨rfl, hq9⟩ := hp
        rw [hq9] at h
        rw [bl_dr _ _ (by omega) (by omega)]
        have hb470 := dr_lt x 6 (n := 3) (by omega)
        refine lv_if_ne (tgt := 480) hx hb dL_act_473 (by decide) (fun c_473 => ?_) (fun c_473 => ?_)
        · have d_473 := (not_congr (nI_eq0 (by omega))).mp c_473
          exact False.elim (by omega)
        · have d_473 := (nI_eq0 (by omega)).mp c_473
          refine lv_iconst (v := nI 1) hx hb dL_act_476 (by decide) ?_
          refine lv_goto (tgt := 481) hx hb dL_act_477 (by decide) ?_
          refine lv_icmp_ne (tgt := 488) hx hb dL_act_481 (by decide) (fun c_481 => ?_) (fun c_481 => ?_)
          · exact absurd (by decide) c_481
          · refine lv_iconst (v := nI 1) hx hb dL_act_484 (by decide) ?_
            refine lv_goto (tgt := 489) hx hb dL_act_485 (by decide) ?_
            exact r_zretX C0 h hr ⟨Nat.le_of_ble_eq_true rfl, Nat.le_of_ble_eq_true rfl⟩ dL_act_489 (by first | exact zb1 | exact zb0) ⟨rfl, _, _, hR, by omega⟩
  have key490 : ∀ (I1 : IS), RA cn lcn I1 → blN x 12 = 9 → ∀ (H : Heap) (locs : List Loc) (ls : Array Slot), HX k M A s I1 H locs → lv_has ls 10 [(4, .int (nI (dr x 3 cn))), (5, .int (nI (dr x 5 cn))), (0, .ref (k.2.1 0)), (1, .int x), (2, .ref (k.2.1 98)), (3, .int (nI cn))] → W p l e (RmA 13 1 6) s m args below meth c H locs 0 0 (vx_MQ below (va_Qi (fun r I' => r = nI 1 ∧ ∃ cn' lcn', RA cn' lcn' I' ∧ cn ≤ cn') (EnX k M) A) (XN A) args s 1 6 A) (F0 m 490 ls []) := by
    intro I1 hR hv H locs ls h hl
    have hc1 := hR.c1
    have hc20 := hR.c20
    have hby := dr_lt x 5 (n := cn) (by omega)
    have hlt := dr_lt x 3 (n := cn) (by omega)
    refine lv_aload_n hx hb dL_act_490 rfl (lv_at hl 2 rfl) ?_
    refine lv_aload_n hx hb dL_act_491 rfl (lv_at hl 2 rfl) ?_
    refine lv_iload hx hb dL_act_492 (lv_at hl 1 rfl) ?_
    refine lv_iconst (v := nI 0) hx hb dL_act_494 (by decide) ?_
    refine r_cVI C0 h hl.1 _ (by omega) (ce0 k _) rfl (ct_X3_ofLetter l k M _ hJ cn hR.c20 hR.n4 _ hby 0 (by decide)) gL_act_X3_ofLetter rfl (by decide +kernel) (n := 2) ⟨Nat.le_of_ble_eq_true rfl, Nat.le_of_ble_eq_true rfl⟩ ⟨Nat.le_of_ble_eq_true rfl, Nat.le_of_ble_eq_true rfl⟩ (Nat.le_of_ble_eq_true rfl) rfl rfl dL_act_495 (fun r495 I495 H locs hp h => ?_)
    obtain ⟨rfl, hq9⟩ := hp
    rw [hq9] at h
    rw [py_at _ (by decide) (by decide) (by decide)]
    refine lv_iload_n hx hb dL_act_498 rfl (lv_at hl 3 rfl) ?_
    refine lv_iconst (v := nI 4) hx hb dL_act_499 (by decide) ?_
    refine lv_ishr hx hb dL_act_500 ?_
    refine lv_sipush (v := nI 400) hx hb dL_act_501 (by decide) ?_
    refine r_cSI C0 h hl.1 (ct_L_below l k M _ hJ _ _ (nI_ne0 (by omega) (by omega))) gL_act_L_below rfl (by decide +kernel) (n := 2) ⟨Nat.le_of_ble_eq_true rfl, Nat.le_of_ble_eq_true rfl⟩ ⟨Nat.le_of_ble_eq_true rfl, Nat.le_of_ble_eq_true rfl⟩ (Nat.le_of_ble_eq_true rfl) rfl rfl dL_act_504 (fun r504 I504 H locs hp h => ?_)
    obtain ⟨rfl, hq9⟩ := hp
    rw [hq9] at h
    rw [bl_dr _ _ (by omega) (by omega)]
    have hb504 := dr_lt x 4 (n := 400) (by omega)
    refine lv_sipush (v := nI 400) hx hb dL_act_507 (by decide) ?_
    refine lv_iload_n hx hb dL_act_510 rfl (lv_at hl 3 rfl) ?_
    refine lv_bipush (v := nI 6) hx hb dL_act_511 (by decide) ?_
    refine lv_ishr hx hb dL_act_513 ?_
    refine lv_sipush (v := nI 600) hx hb dL_act_514 (by decide) ?_
    refine r_cSI C0 h hl.1 (ct_L_below l k M _ hJ _ _ (nI_ne0 (by omega) (by omega))) gL_act_L_below rfl (by decide +kernel) (n := 2) ⟨Nat.le_of_ble_eq_true rfl, Nat.le_of_ble_eq_true rfl⟩ ⟨Nat.le_of_ble_eq_true rfl, Nat.le_of_ble_eq_true rfl⟩ (Nat.le_of_ble_eq_true rfl) rfl rfl dL_act_517 (fun r517 I517 H locs hp h => ?_)
    obtain ⟨rfl, hq9⟩ := hp
    rw [hq9] at h
    rw [bl_dr _ _ (by omega) (by omega)]
    have hb517 := dr_lt x 6 (n := 600) (by omega)
    refine lv_iadd hx hb dL_act_520 ?_
    rw [nI_add]
    rcases Nat.lt_or_ge lcn 8 with hcl | hcl
    · refine r_cVI C0 h hl.1 _ (by omega) (ce0 k _) rfl (ct_X3_list l k M _ hJ lcn hR.n5 hcl _ _ _ (hR.ltI hby).1 (isW_n (show dr x 4 400 ≤ 999 by omega) (by omega)) (isW_n (show 400 + dr x 6 600 ≤ 999 by omega) (by omega)) (nI_le (by omega) (by omega))) gL_act_X3_list rfl (by decide +kernel) (n := 3) ⟨Nat.le_of_ble_eq_true rfl, Nat.le_of_ble_eq_true rfl⟩ ⟨Nat.le_of_ble_eq_true rfl, Nat.le_of_ble_eq_true rfl⟩ (Nat.le_of_ble_eq_true rfl) rfl rfl dL_act_521 (fun r521 I521 H locs hp h => ?_)
      obtain ⟨rfl, e521⟩ := hp
      have hR := hR.newC hcl e521
      refine lv_if_lt (tgt := 564) hx hb dL_act_524 (by decide) (fun c_524 => ?_) (fun c_524 => ?_)
      · exact absurd c_524 (nI_pos (by omega))
      · refine lv_aload_n hx hb dL_act_527 rfl (lv_at hl 2 rfl) ?_
        refine lv_aload_n hx hb dL_act_528 rfl (lv_at hl 2 rfl) ?_
        refine lv_iconst (v := nI 2) hx hb dL_act_529 (by decide) ?_
        refine r_cVI C0 h hl.1 _ (by omega) (ce0 k _) rfl (ct_X3_many l k M _ hJ cn hR.c20 hR.n4 (lcn + 1) hR.l8 hR.n5 2 (by decide)) gL_act_X3_many rfl (by decide +kernel) (n := 1) ⟨Nat.le_of_ble_eq_true rfl, Nat.le_of_ble_eq_true rfl⟩ ⟨Nat.le_of_ble_eq_true rfl, Nat.le_of_ble_eq_true rfl⟩ (Nat.le_of_ble_eq_true rfl) rfl rfl dL_act_530 (fun r530 I530 H locs hp h => ?_)
        obtain ⟨rfl, hq9⟩ := hp
        have hR := hR.ask hq9
        rw [mn2]
        refine lv_iconst (v := nI 1) hx hb dL_act_533 (by decide) ?_
        refine lv_isub hx hb dL_act_534 ?_
        rw [pk_sub (by omega), Nat.add_sub_cancel]
        refine lv_aload_n hx hb dL_act_535 rfl (lv_at hl 2 rfl) ?_
        refine lv_iload hx hb dL_act_536 (lv_at hl 1 rfl) ?_
        refine lv_iconst (v := nI 2) hx hb dL_act_538 (by decide) ?_
        refine r_cVI C0 h hl.1 _ (by omega) (ce0 k _) rfl (ct_X3_ofLetter l k M _ hJ cn hR.c20 hR.n4 _ hby 2 (by decide)) gL_act_X3_ofLetter rfl (by decide +kernel) (n := 2) ⟨Nat.le_of_ble_eq_true rfl, Nat.le_of_ble_eq_true rfl⟩ ⟨Nat.le_of_ble_eq_true rfl, Nat.le_of_ble_eq_true rfl⟩ (Nat.le_of_ble_eq_true rfl) rfl rfl dL_act_539 (fun r539 I539 H locs hp h => ?_)
        obtain ⟨rfl, hq9⟩ := hp
        rw [hq9] at h
        rw [py_at _ (by decide) (by decide) (by decide)]
        refine r_cVI C0 h hl.1 _ (by omega) (ce0 k _) rfl (ct_X3_signList l k M _ hJ (lcn + 1) hR.l8 hR.n5 lcn (by omega) _ (hR.ltI hby).key) gL_act_X3_signList rfl (by decide +kernel) (n := 2) ⟨Nat.le_of_ble_eq_true rfl, Nat.le_of_ble_eq_true rfl⟩ ⟨Nat.le_of_ble_eq_true rfl, Nat.le_of_ble_eq_true rfl⟩ (Nat.le_of_ble_eq_true rfl) rfl rfl dL_act_542 (fun r542 I542 H locs hp h => ?_)
        obtain ⟨rfl, e542⟩ := hp
        have hl8 := hR.l8
        have hR := hR.lst (show lcn < 8 by omega) e542
        refine lv_aload_n hx hb dL_act_545 rfl (lv_at hl 2 rfl) ?_
        refine lv_aload_n hx hb dL_act_546 rfl (lv_at hl 2 rfl) ?_
        refine lv_iconst (v := nI 2) hx hb dL_act_547 (by decide) ?_
        refine r_cVI C0 h hl.1 _ (by omega) (ce0 k _) rfl (ct_X3_many l k M _ hJ cn hR.c20 hR.n4 (lcn + 1) hR.l8 hR.n5 2 (by decide)) gL_act_X3_many rfl (by decide +kernel) (n := 1) ⟨Nat.le_of_ble_eq_true rfl, Nat.le_of_ble_eq_true rfl⟩ ⟨Nat.le_of_ble_eq_true rfl, Nat.le_of_ble_eq_true rfl⟩ (Nat.le_of_ble_eq_true rfl) rfl rfl dL_act_548 (fun r548 I548 H locs hp h => ?_)
        obtain ⟨rfl, hv548⟩ := hp
        have hR := hR.ask hv548
        rw [mn2]
        refine lv_iconst (v := nI 1) hx hb dL_act_551 (by decide) ?_
        refine lv_isub hx hb dL_act_552 ?_
        rw [pk_sub (by omega), Nat.add_sub_cancel]
        refine lv_iconst (v := nI 4) hx hb dL_act_553 (by decide) ?_
        refine r_cVI C0 h hl.1 _ (by omega) (ce0 k _) rfl (ct_X3_ofList l k M _ hJ (lcn + 1) hR.l8 hR.n5 lcn (by omega) 4 (by decide)) gL_act_X3_ofList rfl (by decide +kernel) (n := 2) ⟨Nat.le_of_ble_eq_true rfl, Nat.le_of_ble_eq_true rfl⟩ ⟨Nat.le_of_ble_eq_true rfl, Nat.le_of_ble_eq_true rfl⟩ (Nat.le_of_ble_eq_true rfl) rfl rfl dL_act_554 (fun r554 I554 H locs hp h => ?_)
        obtain ⟨rfl, hq9⟩ := hp
        rw [hq9] at h
        rw [pc_at _ (by decide)]
        refine lv_icmp_ne (tgt := 564) hx hb dL_act_557 (by decide) (fun c_557 => ?_) (fun c_557 => ?_)
        · exact absurd (by rw [vw_useC hv548 (by omega) (by decide), e542, up2_s]) c_557
        · refine lv_iconst (v := nI 1) hx hb dL_act_560 (by decide) ?_
          refine lv_goto (tgt := 565) hx hb dL_act_561 (by decide) ?_
          exact r_zretX C0 h hr ⟨Nat.le_of_ble_eq_true rfl, Nat.le_of_ble_eq_true rfl⟩ dL_act_565 (by first | exact zb1 | exact zb0) ⟨rfl, _, _, hR, by omega⟩
    · refine r_xVI C0 h hX.1 hl.1 _ (by omega) (ce0 k _) rfl (th_X3_list_full l hf k M _ hJ (by rw [hR.n5, show lcn = 8 by have := hR.l8; omega]) _ _ _ (hR.ltI hby).1 (isW_n (show dr x 4 400 ≤ 999 by omega) (by omega)) (isW_n (show 400 + dr x 6 600 ≤ 999 by omega) (by omega)) (nI_le (by omega) (by omega))) gL_act_X3_list rfl (by decide +kernel) (n := 3) ⟨Nat.le_of_ble_eq_true rfl, Nat.le_of_ble_eq_true rfl⟩ ⟨Nat.le_of_ble_eq_true rfl, Nat.le_of_ble_eq_true rfl⟩ (Nat.le_of_ble_eq_true rfl) rfl rfl dL_act_521 (fun q9 ce9 H locs h hc1 hc2 hc3 => ?_)
      have hl8 := hR.l8
      refine vx_catch (own := RL) (name := sIS) hown (tableOf (hhA.take 17)) ⟨490, 565, 720, 100⟩ (tableOf (hhA.drop 18)) (htab.trans rfl) (fun z hz => (pass_521 z hz).imp id (fun q => ⟨by rw [q]; decide, sIO, by rw [q]; exact hts (.classLink RL 98 sIO) (by decide +kernel), hX.2⟩)) (by decide) (by decide) (hts (.classLink RL 100 sIS) (by decide +kernel)) (va_Nw.use rfl (hX.1.1.2.2.2 (52, 56, sIS) (by decide))) hc1 hc2 hc3 ?_
      refine lv_astore hx hb dL_act_720 hl (by decide) rfl (fun ls hl => ?_)
      have hl : lv_has ls 10 [(6, _), (4, _), (5, _), (0, _), (1, _), (2, _), (3, _)] := hl
      refine lv_iload_n hx hb dL_act_722 rfl (lv_at hl 6 rfl) ?_
      refine lv_bipush (v := nI 20) hx hb dL_act_723 (by decide) ?_
      refine lv_icmp_ne (tgt := 738) hx hb dL_act_725 (by decide) (fun c_725 => ?_) (fun c_725 => ?_)
      · have d_725 := (not_congr (nI_eq (by omega) (by omega))).mp c_725
        refine lv_iload_n hx hb dL_act_738 rfl (lv_at hl 4 rfl) ?_
        refine lv_bipush (v := nI 12) hx hb dL_act_739 (by decide) ?_
        refine r_cSI C0 h hl.1 (ct_L_below l k M _ hJ _ _ (nI_ne0 (by omega) (by omega))) gL_act_L_below rfl (by decide +kernel) (n := 2) ⟨Nat.le_of_ble_eq_true rfl, Nat.le_of_ble_eq_true rfl⟩ ⟨Nat.le_of_ble_eq_true rfl, Nat.le_of_ble_eq_true rfl⟩ (Nat.le_of_ble_eq_true rfl) rfl rfl dL_act_741 (fun r741 I741 H locs hp h => ?_)
        obtain ⟨rfl, hq9⟩ := hp
        rw [hq9] at h
        rw [bl_at _ (by omega) (by omega)]
        refine lv_bipush (v := nI 9) hx hb dL_act_744 (by decide) ?_
        refine lv_icmp_ne (tgt := 763) hx hb dL_act_746 (by decide) (fun c_746 => ?_) (fun c_746 => ?_)
        · have d_746 := (not_congr (nI_eq (by omega) (by omega))).mp c_746
          exact False.elim (by omega)
        · have d_746 := (nI_eq (by omega) (by omega)).mp c_746
          refine lv_aload_n hx hb dL_act_749 rfl (lv_at hl 3 rfl) ?_
          refine lv_iconst (v := nI 2) hx hb dL_act_750 (by decide) ?_
          refine r_cVI C0 h hl.1 _ (by omega) (ce0 k _) rfl (ct_X3_many l k M _ hJ cn hR.c20 hR.n4 lcn hR.l8 hR.n5 2 (by decide)) gL_act_X3_many rfl (by decide +kernel) (n := 1) ⟨Nat.le_of_ble_eq_true rfl, Nat.le_of_ble_eq_true rfl⟩ ⟨Nat.le_of_ble_eq_true rfl, Nat.le_of_ble_eq_true rfl⟩ (Nat.le_of_ble_eq_true rfl) rfl rfl dL_act_751 (fun r751 I751 H locs hp h => ?_)
          obtain ⟨rfl, hq9⟩ := hp
          have hR := hR.ask hq9
          rw [mn2]
          refine lv_bipush (v := nI 8) hx hb dL_act_754 (by decide) ?_
          refine lv_icmp_ne (tgt := 763) hx hb dL_act_756 (by decide) (fun c_756 => ?_) (fun c_756 => ?_)
          · have d_756 := (not_congr (nI_eq (by omega) (by omega))).mp c_756
            exact False.elim (by omega)
          · have d_756 := (nI_eq (by omega) (by omega)).mp c_756
            refine lv_iconst (v := nI 1) hx hb dL_act_759 (by decide) ?_
            refine lv_goto (tgt := 764) hx hb dL_act_760 (by decide) ?_
            exact r_zretX C0 h hr ⟨Nat.le_of_ble_eq_true rfl, Nat.le_of_ble_eq_true rfl⟩ dL_act_764 (by first | exact zb1 | exact zb0) ⟨rfl, _, _, hR, by omega⟩
      · have d_725 := (nI_eq (by omega) (by omega)).mp c_725
        refine lv_iload_n hx hb dL_act_728 rfl (lv_at hl 4 rfl) ?_
        refine lv_bipush (v := nI 12) hx hb dL_act_729 (by decide) ?_
        refine r_cSI C0 h hl.1 (ct_L_below l k M _ hJ _ _ (nI_ne0 (by omega) (by omega))) gL_act_L_below rfl (by decide +kernel) (n := 2) ⟨Nat.le_of_ble_eq_true rfl, Nat.le_of_ble_eq_true rfl⟩ ⟨Nat.le_of_ble_eq_true rfl, Nat.le_of_ble_eq_true rfl⟩ (Nat.le_of_ble_eq_true rfl) rfl rfl dL_act_731 (fun r731 I731 H locs hp h => ?_)
        obtain ⟨rfl, hq9⟩ := hp
        rw [hq9] at h
        rw [bl_at _ (by omega) (by omega)]
        refine lv_iconst (v := nI 3) hx hb dL_act_734 (by decide) ?_
        refine lv_icmp_lt (tgt := 759) hx hb dL_act_735 (by decide) (fun c_735 => ?_) (fun c_735 => ?_)
        · have d_735 := (nI_ltI (by omega) (by omega)).mp c_735
          exact False.elim (by omega)
        · have d_735 := (not_congr (nI_ltI (by omega) (by omega))).mp c_735
          refine lv_iload_n hx hb dL_act_738 rfl (lv_at hl 4 rfl) ?_
          refine lv_bipush (v := nI 12) hx hb dL_act_739 (by decide) ?_
          refine r_cSI C0 h hl.1 (ct_L_below l k M _ hJ _ _ (nI_ne0 (by omega) (by omega))) gL_act_L_below rfl (by decide +kernel) (n := 2) ⟨Nat.le_of_ble_eq_true rfl, Nat.le_of_ble_eq_true rfl⟩ ⟨Nat.le_of_ble_eq_true rfl, Nat.le_of_ble_eq_true rfl⟩ (Nat.le_of_ble_eq_true rfl) rfl rfl dL_act_741 (fun r741 I741 H locs hp h => ?_)
          obtain ⟨rfl, hq9⟩ := hp
          rw [hq9] at h
          rw [bl_at _ (by omega) (by omega)]
          refine lv_bipush (v := nI 9) hx hb dL_act_744 (by decide) ?_
          refine lv_icmp_ne (tgt := 763) hx hb dL_act_746 (by decide) (fun c_746 => ?_) (fun c_746 => ?_)
          · have d_746 := (not_congr (nI_eq (by omega) (by omega))).mp c_746
            exact False.elim (by omega)
          · have d_746 := (nI_eq (by omega) (by omega)).mp c_746
            refine lv_aload_n hx hb dL_act_749 rfl (lv_at hl 3 rfl) ?_
            refine lv_iconst (v := nI 2) hx hb dL_act_750 (by decide) ?_
            refine r_cVI C0 h hl.1 _ (by omega) (ce0 k _) rfl (ct_X3_many l k M _ hJ cn hR.c20 hR.n4 lcn hR.l8 hR.n5 2 (by decide)) gL_act_X3_many rfl (by decide +kernel) (n := 1) ⟨Nat.le_of_ble_eq_true rfl, Nat.le_of_ble_eq_true rfl⟩ ⟨Nat.le_of_ble_eq_true rfl, Nat.le_of_ble_eq_true rfl⟩ (Nat.le_of_ble_eq_true rfl) rfl rfl dL_act_751 (fun r751 I751 H locs hp h => ?_)
            obtain ⟨rfl, hq9⟩ := hp
            have hR := hR.ask hq9
            rw [mn2]
            refine lv_bipush (v := nI 8) hx hb dL_act_754 (by decide) ?_
            refine lv_icmp_ne (tgt := 763) hx hb dL_act_756 (by decide) (fun c_756 => ?_) (fun c_756 => ?_)
            · have d_756 := (not_congr (nI_eq (by omega) (by omega))).mp c_756
              exact False.elim (by omega)
            · have d_756 := (nI_eq (by omega) (by omega)).mp c_756
              refine lv_iconst (v := nI 1) hx hb dL_act_759 (by decide) ?_
              refine lv_goto (tgt := 764) hx hb dL_act_760 (by decide) ?_
              exact r_zretX C0 h hr ⟨Nat.le_of_ble_eq_true rfl, Nat.le_of_ble_eq_true rfl⟩ dL_act_764 (by first | exact zb1 | exact zb0) ⟨rfl, _, _, hR, by omega⟩
  have key566 : ∀ (I1 : IS), RA cn lcn I1 → blN x 12 = 10 → ∀ (H : Heap) (locs : List Loc) (ls : Array Slot), HX k M A s I1 H locs → lv_has ls 10 [(4, .int (nI (dr x 3 cn))), (5, .int (nI (dr x 5 cn))), (0, .ref (k.2.1 0)), (1, .int x), (2, .ref (k.2.1 98)), (3, .int (nI cn))] → W p l e (RmA 13 1 6) s m args below meth c H locs 0 0 (vx_MQ below (va_Qi (fun r I' => r = nI 1 ∧ ∃ cn' lcn', RA cn' lcn' I' ∧ cn ≤ cn') (EnX k M) A) (XN A) args s 1 6 A) (F0 m 566 ls []) := by
    intro I1 hR hv H locs ls h hl
    have hc1 := hR.c1
    have hc20 := hR.c20
    have hby := dr_lt x 5 (n := cn) (by omega)
    have hlt := dr_lt x 3 (n := cn) (by omega)
    refine lv_aload_n hx hb dL_act_566 rfl (lv_at hl 2 rfl) ?_
    refine lv_iload_n hx hb dL_act_567 rfl (lv_at hl 3 rfl) ?_
    refine lv_iconst (v := nI 4) hx hb dL_act_568 (by decide) ?_
    refine lv_ishr hx hb dL_act_569 ?_
    refine lv_bipush (v := nI 8) hx hb dL_act_570 (by decide) ?_
    refine r_cSI C0 h hl.1 (ct_L_below l k M _ hJ _ _ (nI_ne0 (by omega) (by omega))) gL_act_L_below rfl (by decide +kernel) (n := 2) ⟨Nat.le_of_ble_eq_true rfl, Nat.le_of_ble_eq_true rfl⟩ ⟨Nat.le_of_ble_eq_true rfl, Nat.le_of_ble_eq_true rfl⟩ (Nat.le_of_ble_eq_true rfl) rfl rfl dL_act_572 (fun r572 I572 H locs hp h => ?_)
    obtain ⟨rfl, hq9⟩ := hp
    rw [hq9] at h
    rw [bl_dr _ _ (by omega) (by omega)]
    have hb572 := dr_lt x 4 (n := 8) (by omega)
    refine lv_iconst (v := nI 3) hx hb dL_act_575 (by decide) ?_
    rcases Nat.lt_or_ge (dr x 4 8) lcn with hcl | hcl
    · refine r_cVI C0 h hl.1 _ (by omega) (ce0 k _) rfl (ct_X3_ofList l k M _ hJ lcn hR.l8 hR.n5 _ hcl 3 (by decide)) gL_act_X3_ofList rfl (by decide +kernel) (n := 2) ⟨Nat.le_of_ble_eq_true rfl, Nat.le_of_ble_eq_true rfl⟩ ⟨Nat.le_of_ble_eq_true rfl, Nat.le_of_ble_eq_true rfl⟩ (Nat.le_of_ble_eq_true rfl) rfl rfl dL_act_576 (fun r576 I576 H locs hp h => ?_)
      obtain ⟨rfl, hq9⟩ := hp
      rw [hq9] at h
      rw [pc_at _ (by decide)]
      refine lv_istore hx hb dL_act_579 hl (by decide) rfl (fun ls hl => ?_)
      have hl : lv_has ls 10 [(7, _), (4, _), (5, _), (0, _), (1, _), (2, _), (3, _)] := hl
      refine lv_aload_n hx hb dL_act_581 rfl (lv_at hl 3 rfl) ?_
      refine lv_iload_n hx hb dL_act_582 rfl (lv_at hl 4 rfl) ?_
      refine lv_iconst (v := nI 4) hx hb dL_act_583 (by decide) ?_
      refine lv_ishr hx hb dL_act_584 ?_
      refine lv_bipush (v := nI 8) hx hb dL_act_585 (by decide) ?_
      refine r_cSI C0 h hl.1 (ct_L_below l k M _ hJ _ _ (nI_ne0 (by omega) (by omega))) gL_act_L_below rfl (by decide +kernel) (n := 2) ⟨Nat.le_of_ble_eq_true rfl, Nat.le_of_ble_eq_true rfl⟩ ⟨Nat.le_of_ble_eq_true rfl, Nat.le_of_ble_eq_true rfl⟩ (Nat.le_of_ble_eq_true rfl) rfl rfl dL_act_587 (fun r587 I587 H locs hp h => ?_)
      obtain ⟨rfl, hq9⟩ := hp
      rw [hq9] at h
      rw [bl_dr _ _ (by omega) (by omega)]
      have hb587 := dr_lt x 4 (n := 8) (by omega)
      refine lv_iload_n hx hb dL_act_590 rfl (lv_at hl 4 rfl) ?_
      refine lv_bipush (v := nI 7) hx hb dL_act_591 (by decide) ?_
      refine lv_ishr hx hb dL_act_593 ?_
      refine lv_iconst (v := nI 5) hx hb dL_act_594 (by decide) ?_
      refine r_cSI C0 h hl.1 (ct_L_below l k M _ hJ _ _ (nI_ne0 (by omega) (by omega))) gL_act_L_below rfl (by decide +kernel) (n := 2) ⟨Nat.le_of_ble_eq_true rfl, Nat.le_of_ble_eq_true rfl⟩ ⟨Nat.le_of_ble_eq_true rfl, Nat.le_of_ble_eq_true rfl⟩ (Nat.le_of_ble_eq_true rfl) rfl rfl dL_act_595 (fun r595 I595 H locs hp h => ?_)
      obtain ⟨rfl, hq9⟩ := hp
      rw [hq9] at h
      rw [bl_dr _ _ (by omega) (by omega)]
      have hb595 := dr_lt x 7 (n := 5) (by omega)
      refine r_cVI C0 h hl.1 _ (by omega) (ce0 k _) rfl (ct_X3_call l k M _ hJ lcn hR.l8 hR.n5 _ hcl _ (isW_n (show dr x 7 5 ≤ 30 by omega) (by omega))) gL_act_X3_call rfl (by decide +kernel) (n := 2) ⟨Nat.le_of_ble_eq_true rfl, Nat.le_of_ble_eq_true rfl⟩ ⟨Nat.le_of_ble_eq_true rfl, Nat.le_of_ble_eq_true rfl⟩ (Nat.le_of_ble_eq_true rfl) rfl rfl dL_act_598 (fun r598 I598 H locs hp h => ?_)
      obtain ⟨rfl, e598⟩ := hp
      have hR := hR.lst (show dr x 4 8 < 8 by omega) e598
      refine lv_istore hx hb dL_act_601 hl (by decide) rfl (fun ls hl => ?_)
      have hl : lv_has ls 10 [(8, _), (7, _), (4, _), (5, _), (0, _), (1, _), (2, _), (3, _)] := hl
      refine lv_iload hx hb dL_act_603 (lv_at hl 0 rfl) ?_
      refine lv_aload_n hx hb dL_act_605 rfl (lv_at hl 4 rfl) ?_
      refine lv_iload_n hx hb dL_act_606 rfl (lv_at hl 5 rfl) ?_
      refine lv_iconst (v := nI 4) hx hb dL_act_607 (by decide) ?_
      refine lv_ishr hx hb dL_act_608 ?_
      refine lv_bipush (v := nI 8) hx hb dL_act_609 (by decide) ?_
      refine r_cSI C0 h hl.1 (ct_L_below l k M _ hJ _ _ (nI_ne0 (by omega) (by omega))) gL_act_L_below rfl (by decide +kernel) (n := 2) ⟨Nat.le_of_ble_eq_true rfl, Nat.le_of_ble_eq_true rfl⟩ ⟨Nat.le_of_ble_eq_true rfl, Nat.le_of_ble_eq_true rfl⟩ (Nat.le_of_ble_eq_true rfl) rfl rfl dL_act_611 (fun r611 I611 H locs hp h => ?_)
      obtain ⟨rfl, hq9⟩ := hp
      rw [hq9] at h
      rw [bl_dr _ _ (by omega) (by omega)]
      have hb611 := dr_lt x 4 (n := 8) (by omega)
      refine lv_iconst (v := nI 3) hx hb dL_act_614 (by decide) ?_
      refine r_cVI C0 h hl.1 _ (by omega) (ce0 k _) rfl (ct_X3_ofList l k M _ hJ lcn hR.l8 hR.n5 _ hcl 3 (by decide)) gL_act_X3_ofList rfl (by decide +kernel) (n := 2) ⟨Nat.le_of_ble_eq_true rfl, Nat.le_of_ble_eq_true rfl⟩ ⟨Nat.le_of_ble_eq_true rfl, Nat.le_of_ble_eq_true rfl⟩ (Nat.le_of_ble_eq_true rfl) rfl rfl dL_act_615 (fun r615 I615 H locs hp h => ?_)
      obtain ⟨rfl, hq9⟩ := hp
      rw [hq9] at h
      rw [pc_at _ (by decide)]
      refine r_cSI C0 h hl.1 (ct_J6_bitCount_0f7a4 l k M _ hJ _) gL_act_J6_bitCount_0f7a4 rfl (by decide +kernel) (n := 1) ⟨Nat.le_of_ble_eq_true rfl, Nat.le_of_ble_eq_true rfl⟩ ⟨Nat.le_of_ble_eq_true rfl, Nat.le_of_ble_eq_true rfl⟩ (Nat.le_of_ble_eq_true rfl) rfl rfl dL_act_618 (fun r618 I618 H locs hp h => ?_)
      obtain ⟨rfl, hq9⟩ := hp
      rw [hq9] at h
      refine lv_icmp_ne (tgt := 657) hx hb dL_act_621 (by decide) (fun c_621 => ?_) (fun c_621 => ?_)
      · exact absurd (by rw [e598, up2_s]) c_621
      · refine lv_iload hx hb dL_act_624 (lv_at hl 1 rfl) ?_
        refine lv_aload_n hx hb dL_act_626 rfl (lv_at hl 4 rfl) ?_
        refine lv_iload_n hx hb dL_act_627 rfl (lv_at hl 5 rfl) ?_
        refine lv_iconst (v := nI 4) hx hb dL_act_628 (by decide) ?_
        refine lv_ishr hx hb dL_act_629 ?_
        refine lv_bipush (v := nI 8) hx hb dL_act_630 (by decide) ?_
        refine r_cSI C0 h hl.1 (ct_L_below l k M _ hJ _ _ (nI_ne0 (by omega) (by omega))) gL_act_L_below rfl (by decide +kernel) (n := 2) ⟨Nat.le_of_ble_eq_true rfl, Nat.le_of_ble_eq_true rfl⟩ ⟨Nat.le_of_ble_eq_true rfl, Nat.le_of_ble_eq_true rfl⟩ (Nat.le_of_ble_eq_true rfl) rfl rfl dL_act_632 (fun r632 I632 H locs hp h => ?_)
        obtain ⟨rfl, hq9⟩ := hp
        rw [hq9] at h
        rw [bl_dr _ _ (by omega) (by omega)]
        have hb632 := dr_lt x 4 (n := 8) (by omega)
        refine lv_iconst (v := nI 3) hx hb dL_act_635 (by decide) ?_
        refine r_cVI C0 h hl.1 _ (by omega) (ce0 k _) rfl (ct_X3_ofList l k M _ hJ lcn hR.l8 hR.n5 _ hcl 3 (by decide)) gL_act_X3_ofList rfl (by decide +kernel) (n := 2) ⟨Nat.le_of_ble_eq_true rfl, Nat.le_of_ble_eq_true rfl⟩ ⟨Nat.le_of_ble_eq_true rfl, Nat.le_of_ble_eq_true rfl⟩ (Nat.le_of_ble_eq_true rfl) rfl rfl dL_act_636 (fun r636 I636 H locs hp h => ?_)
        obtain ⟨rfl, hq9⟩ := hp
        rw [hq9] at h
        rw [pc_at _ (by decide)]
        refine lv_ixor hx hb dL_act_639 ?_
        refine lv_iconst (v := nI 1) hx hb dL_act_640 (by decide) ?_
        refine lv_iload_n hx hb dL_act_641 rfl (lv_at hl 5 rfl) ?_
        refine lv_bipush (v := nI 7) hx hb dL_act_642 (by decide) ?_
        refine lv_ishr hx hb dL_act_644 ?_
        refine lv_iconst (v := nI 5) hx hb dL_act_645 (by decide) ?_
        refine r_cSI C0 h hl.1 (ct_L_below l k M _ hJ _ _ (nI_ne0 (by omega) (by omega))) gL_act_L_below rfl (by decide +kernel) (n := 2) ⟨Nat.le_of_ble_eq_true rfl, Nat.le_of_ble_eq_true rfl⟩ ⟨Nat.le_of_ble_eq_true rfl, Nat.le_of_ble_eq_true rfl⟩ (Nat.le_of_ble_eq_true rfl) rfl rfl dL_act_646 (fun r646 I646 H locs hp h => ?_)
        obtain ⟨rfl, hq9⟩ := hp
        rw [hq9] at h
        rw [bl_dr _ _ (by omega) (by omega)]
        have hb646 := dr_lt x 7 (n := 5) (by omega)
        refine lv_ishl hx hb dL_act_649 ?_
        refine lv_icmp_ne (tgt := 657) hx hb dL_act_650 (by decide) (fun c_650 => ?_) (fun c_650 => ?_)
        · exact absurd (by rw [e598, up2_s, xor_back]) c_650
        · refine lv_iconst (v := nI 1) hx hb dL_act_653 (by decide) ?_
          refine lv_goto (tgt := 658) hx hb dL_act_654 (by decide) ?_
          exact r_zretX C0 h hr ⟨Nat.le_of_ble_eq_true rfl, Nat.le_of_ble_eq_true rfl⟩ dL_act_658 (by first | exact zb1 | exact zb0) ⟨rfl, _, _, hR, by omega⟩
    · refine r_xVI C0 h hX.1 hl.1 _ (by omega) (ce0 k _) rfl (th_X3_ofList_no l hf k M _ hJ (nI (dr x 4 8)) (nI 3) (Or.inr ⟨nI_pos (by omega), by rw [hR.n5]; exact nI_nlt hcl (by omega)⟩)) gL_act_X3_ofList rfl (by decide +kernel) (n := 2) ⟨Nat.le_of_ble_eq_true rfl, Nat.le_of_ble_eq_true rfl⟩ ⟨Nat.le_of_ble_eq_true rfl, Nat.le_of_ble_eq_true rfl⟩ (Nat.le_of_ble_eq_true rfl) rfl rfl dL_act_576 (fun q9 ce9 H locs h hc1 hc2 hc3 => ?_)
      have hl8 := hR.l8
      refine vx_catch (own := RL) (name := sIO) hown (tableOf (hhA.take 8)) ⟨566, 658, 701, 98⟩ (tableOf (hhA.drop 9)) (htab.trans rfl) (fun z hz => Or.inl (pass_576 z hz)) (by decide) (by decide) (hts (.classLink RL 98 sIO) (by decide +kernel)) (va_Nw.use rfl (hX.1.1.2.2.2 (216, 220, sIO) (by decide))) hc1 hc2 hc3 ?_
      refine lv_astore hx hb dL_act_701 hl (by decide) rfl (fun ls hl => ?_)
      have hl : lv_has ls 10 [(6, _), (4, _), (5, _), (0, _), (1, _), (2, _), (3, _)] := hl
      refine lv_iload_n hx hb dL_act_703 rfl (lv_at hl 4 rfl) ?_
      refine lv_bipush (v := nI 12) hx hb dL_act_704 (by decide) ?_
      refine r_cSI C0 h hl.1 (ct_L_below l k M _ hJ _ _ (nI_ne0 (by omega) (by omega))) gL_act_L_below rfl (by decide +kernel) (n := 2) ⟨Nat.le_of_ble_eq_true rfl, Nat.le_of_ble_eq_true rfl⟩ ⟨Nat.le_of_ble_eq_true rfl, Nat.le_of_ble_eq_true rfl⟩ (Nat.le_of_ble_eq_true rfl) rfl rfl dL_act_706 (fun r706 I706 H locs hp h => ?_)
      obtain ⟨rfl, hq9⟩ := hp
      rw [hq9] at h
      rw [bl_at _ (by omega) (by omega)]
      rw [hv]
      refine lv_bipush (v := nI 10) hx hb dL_act_709 (by decide) ?_
      refine lv_icmp_ne (tgt := 718) hx hb dL_act_711 (by decide) (fun c_711 => ?_) (fun c_711 => ?_)
      · exact absurd (by decide) c_711
      · refine lv_iconst (v := nI 1) hx hb dL_act_714 (by decide) ?_
        refine lv_goto (tgt := 719) hx hb dL_act_715 (by decide) ?_
        exact r_zretX C0 h hr ⟨Nat.le_of_ble_eq_true rfl, Nat.le_of_ble_eq_true rfl⟩ dL_act_719 (by first | exact zb1 | exact zb0) ⟨rfl, _, _, hR, by omega⟩
  have key659 : ∀ (I1 : IS), RA cn lcn I1 → True → ∀ (H : Heap) (locs : List Loc) (ls : Array Slot), HX k M A s I1 H locs → lv_has ls 10 [(4, .int (nI (dr x 3 cn))), (5, .int (nI (dr x 5 cn))), (0, .ref (k.2.1 0)), (1, .int x), (2, .ref (k.2.1 98)), (3, .int (nI cn))] → W p l e (RmA 13 1 6) s m args below meth c H locs 0 0 (vx_MQ below (va_Qi (fun r I' => r = nI 1 ∧ ∃ cn' lcn', RA cn' lcn' I' ∧ cn ≤ cn') (EnX k M) A) (XN A) args s 1 6 A) (F0 m 659 ls []) := by
    intro I1 hR hv H locs ls h hl
    have hc1 := hR.c1
    have hc20 := hR.c20
    have hby := dr_lt x 5 (n := cn) (by omega)
    have hlt := dr_lt x 3 (n := cn) (by omega)
    refine lv_iload_n hx hb dL_act_659 rfl (lv_at hl 3 rfl) ?_
    refine lv_bipush (v := nI 6) hx hb dL_act_660 (by decide) ?_
    refine lv_ishr hx hb dL_act_662 ?_
    refine lv_iconst (v := nI 2) hx hb dL_act_663 (by decide) ?_
    refine r_cSI C0 h hl.1 (ct_L_below l k M _ hJ _ _ (nI_ne0 (by omega) (by omega))) gL_act_L_below rfl (by decide +kernel) (n := 2) ⟨Nat.le_of_ble_eq_true rfl, Nat.le_of_ble_eq_true rfl⟩ ⟨Nat.le_of_ble_eq_true rfl, Nat.le_of_ble_eq_true rfl⟩ (Nat.le_of_ble_eq_true rfl) rfl rfl dL_act_664 (fun r664 I664 H locs hp h => ?_)
    obtain ⟨rfl, hq9⟩ := hp
    rw [hq9] at h
    rw [bl_dr _ _ (by omega) (by omega)]
    have hb664 := dr_lt x 6 (n := 2) (by omega)
    refine lv_if_ne (tgt := 674) hx hb dL_act_667 (by decide) (fun c_667 => ?_) (fun c_667 => ?_)
    · have d_667 := (not_congr (nI_eq0 (by omega))).mp c_667
      refine lv_iconst (v := nI 0) hx hb dL_act_674 (by decide) ?_
      refine lv_istore hx hb dL_act_675 hl (by decide) rfl (fun ls hl => ?_)
      have hl : lv_has ls 10 [(9, _), (4, _), (5, _), (0, _), (1, _), (2, _), (3, _)] := hl
      refine lv_aload_n hx hb dL_act_677 rfl (lv_at hl 3 rfl) ?_
      refine lv_iload hx hb dL_act_678 (lv_at hl 0 rfl) ?_
      refine r_cVI C0 h hl.1 _ (by omega) (ce0 k _) rfl (ct_X3_strict l k M _ hJ hR.st false) gL_act_X3_strict rfl (by decide +kernel) (n := 1) ⟨Nat.le_of_ble_eq_true rfl, Nat.le_of_ble_eq_true rfl⟩ ⟨Nat.le_of_ble_eq_true rfl, Nat.le_of_ble_eq_true rfl⟩ (Nat.le_of_ble_eq_true rfl) rfl rfl dL_act_680 (fun r680 I680 H locs hp h => ?_)
      obtain ⟨rfl, e680⟩ := hp
      have hR := hR.stt e680
      refine lv_pop hx hb dL_act_683 rfl ?_
      refine lv_aload_n hx hb dL_act_684 rfl (lv_at hl 3 rfl) ?_
      refine lv_iload hx hb dL_act_685 (lv_at hl 0 rfl) ?_
      refine r_cVI C0 h hl.1 _ (by omega) (ce0 k _) rfl (ct_X3_strict l k M _ hJ hR.st false) gL_act_X3_strict rfl (by decide +kernel) (n := 1) ⟨Nat.le_of_ble_eq_true rfl, Nat.le_of_ble_eq_true rfl⟩ ⟨Nat.le_of_ble_eq_true rfl, Nat.le_of_ble_eq_true rfl⟩ (Nat.le_of_ble_eq_true rfl) rfl rfl dL_act_687 (fun r687 I687 H locs hp h => ?_)
      obtain ⟨rfl, e687⟩ := hp
      have hR := hR.stt e687
      rw [e680, up2_s]
      refine lv_iload hx hb dL_act_690 (lv_at hl 0 rfl) ?_
      refine lv_icmp_ne (tgt := 699) hx hb dL_act_692 (by decide) (fun c_692 => ?_) (fun c_692 => ?_)
      · exact absurd rfl c_692
      · refine lv_iconst (v := nI 1) hx hb dL_act_695 (by decide) ?_
        refine lv_goto (tgt := 700) hx hb dL_act_696 (by decide) ?_
        exact r_zretX C0 h hr ⟨Nat.le_of_ble_eq_true rfl, Nat.le_of_ble_eq_true rfl⟩ dL_act_700 (by first | exact zb1 | exact zb0) ⟨rfl, _, _, hR, by omega⟩
    · have d_667 := (nI_eq0 (by omega)).mp c_667
      refine lv_iconst (v := nI 1) hx hb dL_act_670 (by decide) ?_
      refine lv_goto (tgt := 675) hx hb dL_act_671 (by decide) ?_
      refine lv_istore hx hb dL_act_675 hl (by decide) rfl (fun ls hl => ?_)
      have hl : lv_has ls 10 [(9, _), (4, _), (5, _), (0, _), (1, _), (2, _), (3, _)] := hl
      refine lv_aload_n hx hb dL_act_677 rfl (lv_at hl 3 rfl) ?_
      refine lv_iload hx hb dL_act_678 (lv_at hl 0 rfl) ?_
      refine r_cVI C0 h hl.1 _ (by omega) (ce0 k _) rfl (ct_X3_strict l k M _ hJ hR.st true) gL_act_X3_strict rfl (by decide +kernel) (n := 1) ⟨Nat.le_of_ble_eq_true rfl, Nat.le_of_ble_eq_true rfl⟩ ⟨Nat.le_of_ble_eq_true rfl, Nat.le_of_ble_eq_true rfl⟩ (Nat.le_of_ble_eq_true rfl) rfl rfl dL_act_680 (fun r680 I680 H locs hp h => ?_)
      obtain ⟨rfl, e680⟩ := hp
      have hR := hR.stt e680
      refine lv_pop hx hb dL_act_683 rfl ?_
      refine lv_aload_n hx hb dL_act_684 rfl (lv_at hl 3 rfl) ?_
      refine lv_iload hx hb dL_act_685 (lv_at hl 0 rfl) ?_
      refine r_cVI C0 h hl.1 _ (by omega) (ce0 k _) rfl (ct_X3_strict l k M _ hJ hR.st true) gL_act_X3_strict rfl (by decide +kernel) (n := 1) ⟨Nat.le_of_ble_eq_true rfl, Nat.le_of_ble_eq_true rfl⟩ ⟨Nat.le_of_ble_eq_true rfl, Nat.le_of_ble_eq_true rfl⟩ (Nat.le_of_ble_eq_true rfl) rfl rfl dL_act_687 (fun r687 I687 H locs hp h => ?_)
      obtain ⟨rfl, e687⟩ := hp
      have hR := hR.stt e687
      rw [e680, up2_s]
      refine lv_iload hx hb dL_act_690 (lv_at hl 0 rfl) ?_
      refine lv_icmp_ne (tgt := 699) hx hb dL_act_692 (by decide) (fun c_692 => ?_) (fun c_692 => ?_)
      · exact absurd rfl c_692
      · refine lv_iconst (v := nI 1) hx hb dL_act_695 (by decide) ?_
        refine lv_goto (tgt := 700) hx hb dL_act_696 (by decide) ?_
        exact r_zretX C0 h hr ⟨Nat.le_of_ble_eq_true rfl, Nat.le_of_ble_eq_true rfl⟩ dL_act_700 (by first | exact zb1 | exact zb0) ⟨rfl, _, _, hR, by omega⟩
  refine lv_iload_n hx hb dL_act_0 rfl (lv_at hl 1 rfl) ?_
  refine lv_iconst (v := nI 3) hx hb dL_act_1 (by decide) ?_
  refine lv_ishr hx hb dL_act_2 ?_
  refine lv_iload_n hx hb dL_act_3 rfl (lv_at hl 3 rfl) ?_
  refine r_cSI C0 h hl.1 (ct_L_below l k M _ hJ _ _ (nI_ne0 (by omega) (by omega))) gL_act_L_below rfl (by decide +kernel) (n := 2) ⟨Nat.le_of_ble_eq_true rfl, Nat.le_of_ble_eq_true rfl⟩ ⟨Nat.le_of_ble_eq_true rfl, Nat.le_of_ble_eq_true rfl⟩ (Nat.le_of_ble_eq_true rfl) rfl rfl dL_act_4 (fun r4 I4 H locs hp h => ?_)
  obtain ⟨rfl, hq9⟩ := hp
  rw [hq9] at h
  rw [bl_dr _ _ (by omega) (by omega)]
  have hb4 := dr_lt x 3 (n := cn) (by omega)
  refine lv_istore hx hb dL_act_7 hl (by decide) rfl (fun ls hl => ?_)
  have hl : lv_has ls 10 [(4, _), (0, _), (1, _), (2, _), (3, _)] := hl
  refine lv_iload_n hx hb dL_act_9 rfl (lv_at hl 2 rfl) ?_
  refine lv_iconst (v := nI 5) hx hb dL_act_10 (by decide) ?_
  refine lv_ishr hx hb dL_act_11 ?_
  refine lv_iload_n hx hb dL_act_12 rfl (lv_at hl 4 rfl) ?_
  refine r_cSI C0 h hl.1 (ct_L_below l k M _ hJ _ _ (nI_ne0 (by omega) (by omega))) gL_act_L_below rfl (by decide +kernel) (n := 2) ⟨Nat.le_of_ble_eq_true rfl, Nat.le_of_ble_eq_true rfl⟩ ⟨Nat.le_of_ble_eq_true rfl, Nat.le_of_ble_eq_true rfl⟩ (Nat.le_of_ble_eq_true rfl) rfl rfl dL_act_13 (fun r13 I13 H locs hp h => ?_)
  obtain ⟨rfl, hq9⟩ := hp
  rw [hq9] at h
  rw [bl_dr _ _ (by omega) (by omega)]
  have hb13 := dr_lt x 5 (n := cn) (by omega)
  refine lv_istore hx hb dL_act_16 hl (by decide) rfl (fun ls hl => ?_)
  have hl : lv_has ls 10 [(5, _), (4, _), (0, _), (1, _), (2, _), (3, _)] := hl
  refine lv_iload_n hx hb dL_act_18 rfl (lv_at hl 3 rfl) ?_
  refine lv_bipush (v := nI 12) hx hb dL_act_19 (by decide) ?_
  refine r_cSI C0 h hl.1 (ct_L_below l k M _ hJ _ _ (nI_ne0 (by omega) (by omega))) gL_act_L_below rfl (by decide +kernel) (n := 2) ⟨Nat.le_of_ble_eq_true rfl, Nat.le_of_ble_eq_true rfl⟩ ⟨Nat.le_of_ble_eq_true rfl, Nat.le_of_ble_eq_true rfl⟩ (Nat.le_of_ble_eq_true rfl) rfl rfl dL_act_21 (fun r21 I21 H locs hp h => ?_)
  obtain ⟨rfl, hq9⟩ := hp
  rw [hq9] at h
  rw [bl_at _ (by omega) (by omega)]
  rcases (show blN x 12 = 0 ∨ blN x 12 = 1 ∨ blN x 12 = 2 ∨ blN x 12 = 3 ∨ blN x 12 = 4 ∨ blN x 12 = 5 ∨ blN x 12 = 6 ∨ blN x 12 = 7 ∨ blN x 12 = 8 ∨ blN x 12 = 9 ∨ blN x 12 = 10 ∨ blN x 12 = 11 by omega) with hv9 | hv9 | hv9 | hv9 | hv9 | hv9 | hv9 | hv9 | hv9 | hv9 | hv9 | hv9
  · rw [hv9]
    refine lv_tableIn (tgt := 84) hx hb dL_act_24 (by decide) (by decide) rfl (by decide) ?_
    exact key84 _ hR (by first | trivial | omega) _ _ _ h (lv_sub hl [1, 0, 2, 3, 4, 5] rfl)
  · rw [hv9]
    refine lv_tableIn (tgt := 84) hx hb dL_act_24 (by decide) (by decide) rfl (by decide) ?_
    exact key84 _ hR (by first | trivial | omega) _ _ _ h (lv_sub hl [1, 0, 2, 3, 4, 5] rfl)
  · rw [hv9]
    refine lv_tableIn (tgt := 84) hx hb dL_act_24 (by decide) (by decide) rfl (by decide) ?_
    exact key84 _ hR (by first | trivial | omega) _ _ _ h (lv_sub hl [1, 0, 2, 3, 4, 5] rfl)
  · rw [hv9]
    refine lv_tableIn (tgt := 204) hx hb dL_act_24 (by decide) (by decide) rfl (by decide) ?_
    exact key204 _ hR (by first | trivial | omega) _ _ _ h (lv_sub hl [1, 0, 2, 3, 4, 5] rfl)
  · rw [hv9]
    refine lv_tableIn (tgt := 250) hx hb dL_act_24 (by decide) (by decide) rfl (by decide) ?_
    exact key250 _ hR (by first | trivial | omega) _ _ _ h (lv_sub hl [1, 0, 2, 3, 4, 5] rfl)
  · rw [hv9]
    refine lv_tableIn (tgt := 297) hx hb dL_act_24 (by decide) (by decide) rfl (by decide) ?_
    exact key297 _ hR (by first | trivial | omega) _ _ _ h (lv_sub hl [1, 0, 2, 3, 4, 5] rfl)
  · rw [hv9]
    refine lv_tableIn (tgt := 354) hx hb dL_act_24 (by decide) (by decide) rfl (by decide) ?_
    exact key354 _ hR (by first | trivial | omega) _ _ _ h (lv_sub hl [1, 0, 2, 3, 4, 5] rfl)
  · rw [hv9]
    refine lv_tableIn (tgt := 354) hx hb dL_act_24 (by decide) (by decide) rfl (by decide) ?_
    exact key354 _ hR (by first | trivial | omega) _ _ _ h (lv_sub hl [1, 0, 2, 3, 4, 5] rfl)
  · rw [hv9]
    refine lv_tableIn (tgt := 427) hx hb dL_act_24 (by decide) (by decide) rfl (by decide) ?_
    exact key427 _ hR (by first | trivial | omega) _ _ _ h (lv_sub hl [1, 0, 2, 3, 4, 5] rfl)
  · rw [hv9]
    refine lv_tableIn (tgt := 490) hx hb dL_act_24 (by decide) (by decide) rfl (by decide) ?_
    exact key490 _ hR (by first | trivial | omega) _ _ _ h (lv_sub hl [1, 0, 2, 3, 4, 5] rfl)
  · rw [hv9]
    refine lv_tableIn (tgt := 566) hx hb dL_act_24 (by decide) (by decide) rfl (by decide) ?_
    exact key566 _ hR (by first | trivial | omega) _ _ _ h (lv_sub hl [1, 0, 2, 3, 4, 5] rfl)
  · rw [hv9]
    refine lv_tableOut (tgt := 659) hx hb dL_act_24 (by decide) (by decide) ?_
    exact key659 _ hR (by first | trivial | omega) _ _ _ h (lv_sub hl [1, 0, 2, 3, 4, 5] rfl)
