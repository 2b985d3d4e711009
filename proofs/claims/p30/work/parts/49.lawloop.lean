/-! 49: the law goes round -/
set_option maxHeartbeats 4000000 in
set_option maxRecDepth 100000 in
theorem law_loop {p : Program} {e : Env} {s : State} {m : MethodId} {args : Array Value} {below : List Frame} {meth : Method} {c : Code} {Q : State → Prop} (l : Launch) (hf : l.stackTraces = false) {k : Sk} {M : Nat} {A : Nat → Prop} {b L : Nat} {xs : Nat → Int32} (hL : L ≤ 260) (h99 : 98 < M) (C0 : CX p s m args c cL_law 9 wsL_law RL k M A) (hX : va_X b L xs s s.heap) (hbl : b < s.heap.size) (hbA : ¬ A b) (hT : TL A s)
    (hfin : ∀ (cl sl : Nat) (I1 : IS) (H : Heap) (locs : List Loc) (ls : Array Slot), cl ≤ 139 → sl ≤ 1108 → HX k M A s I1 H locs → W p l e room_1 s m args below meth c H locs cl sl Q (F0 m 261 ls []))
    {H : Heap} {locs : List Loc} {ls : Array Slot} {I : IS} (cn lcn : Nat) (hR : RA cn lcn I) (h : HX k M A s I H locs) (hl : lv_has ls 9 [(3, .int (nI 0)), (0, .ref b), (1, .ref (k.2.1 0)), (2, .ref (k.2.1 98))]) : W p l e room_1 s m args below meth c H locs 99 868 Q (F0 m 87 ls []) := by
  have hx := C0.1.1
  have hb := C0.1.2.1
  have hown := C0.1.2.2.2.1
  have hts := C0.1.2.2.2.2
  have hJ : Ij k M := C0.2.2.2.1
  have hM := hJ.1
  have key87 : ∀ (n : Nat) (τ cl sl cn lcn : Nat) (I1 : IS), 41 - τ < n → τ ≤ 40 → cl = 99 + τ → sl = 868 + 6 * τ → RA cn lcn I1 → ∀ (H : Heap) (locs : List Loc) (ls : Array Slot), HX k M A s I1 H locs → lv_has ls 9 [(3, .int (nI τ)), (0, .ref b), (1, .ref (k.2.1 0)), (2, .ref (k.2.1 98))] → W p l e (room_1) s m args below meth c H locs cl sl Q (F0 m 87 ls []) := by
    intro n
    induction n with
    | zero =>
      intro τ cl sl cn lcn I1 hn87 hτ hcl hsl hR H locs ls h hl
      exact absurd hn87 (Nat.not_lt_zero _)
    | succ n ih87 =>
      intro τ cl sl cn lcn I1 hn87 hτ hcl hsl hR H locs ls h hl
      have hc20 := hR.c20
      refine lv_iload_n hx hb dL_law_87 rfl (lv_at hl 0 rfl) ?_
      refine lv_bipush (v := nI 40) hx hb dL_law_88 (by decide) ?_
      refine lv_icmp_ge (tgt := 261) hx hb dL_law_90 (by decide) (fun c_90 => ?_) (fun c_90 => ?_)
      · have d_90 := (nI_leI (by omega) (by omega)).mp c_90
        exact hfin _ _ _ _ _ _ (by omega) (by omega) h
      · have d_90 := (not_congr (nI_leI (by omega) (by omega))).mp c_90
        refine lv_aload_n hx hb dL_law_93 rfl (lv_at hl 1 rfl) ?_
        refine lv_iconst (v := nI 1) hx hb dL_law_94 (by decide) ?_
        refine lv_iload_n hx hb dL_law_95 rfl (lv_at hl 0 rfl) ?_
        refine lv_bipush (v := nI 28) hx hb dL_law_96 (by decide) ?_
        refine lv_irem hx hb dL_law_98 (by decide) ?_
        rw [pk_rem (by omega) (by omega) (by omega)]
        refine lv_iadd hx hb dL_law_99 ?_
        rw [nI_add]
        refine r_cCell C0 h hX hbl hbA hL (show 1 + τ % 28 ≤ 260 by omega) hl.1 ⟨Nat.le_of_ble_eq_true rfl, Nat.le_of_ble_eq_true rfl⟩ ⟨by show _ ≤ 603124; omega, by show _ ≤ 7292253; omega⟩ (Nat.le_of_ble_eq_true rfl) dL_law_100 (fun r100 H locs h => ?_)
        refine lv_iload_n hx hb dL_law_103 rfl (lv_at hl 0 rfl) ?_
        refine lv_bipush (v := nI 28) hx hb dL_law_104 (by decide) ?_
        refine lv_idiv hx hb dL_law_106 (by decide) ?_
        rw [pk_div (by omega) (by omega) (by omega)]
        refine lv_bipush (v := nI 9) hx hb dL_law_107 (by decide) ?_
        refine lv_imul hx hb dL_law_109 ?_
        refine lv_ishr hx hb dL_law_110 ?_
        refine lv_topi (fun x ex => ?_)
        refine lv_istore hx hb dL_law_111 hl (by decide) rfl (fun ls hl => ?_)
        have hl : lv_has ls 9 [(4, _), (3, _), (0, _), (1, _), (2, _)] := hl
        refine lv_aload_n hx hb dL_law_113 rfl (lv_at hl 3 rfl) ?_
        refine lv_iconst (v := nI 0) hx hb dL_law_114 (by decide) ?_
        refine r_cVI C0 h hl.1 _ (by omega) (ce0 k _) rfl (ct_X3_many l k M _ hJ cn hR.c20 hR.n4 lcn hR.l8 hR.n5 0 (by decide)) gL_law_X3_many rfl (by decide +kernel) (n := 1) ⟨Nat.le_of_ble_eq_true rfl, Nat.le_of_ble_eq_true rfl⟩ ⟨by show _ ≤ 603124; omega, by show _ ≤ 7292253; omega⟩ (Nat.le_of_ble_eq_true rfl) rfl rfl dL_law_115 (fun r115 I115 H locs hp h => ?_)
        obtain ⟨rfl, hq9⟩ := hp
        have hR := hR.ask hq9
        rw [mn0]
        refine lv_istore hx hb dL_law_118 hl (by decide) rfl (fun ls hl => ?_)
        have hl : lv_has ls 9 [(5, _), (4, _), (3, _), (0, _), (1, _), (2, _)] := hl
        refine lv_aload_n hx hb dL_law_120 rfl (lv_at hl 4 rfl) ?_
        refine lv_iload hx hb dL_law_121 (lv_at hl 1 rfl) ?_
        refine lv_aload_n hx hb dL_law_123 rfl (lv_at hl 5 rfl) ?_
        refine lv_iload hx hb dL_law_124 (lv_at hl 0 rfl) ?_
        refine r_cAct C0 h hT hl.1 (ct_L_act l hf k M _ hJ h99 x cn lcn hR) ⟨Nat.le_of_ble_eq_true rfl, Nat.le_of_ble_eq_true rfl⟩ ⟨by show _ + 1 ≤ 603124; omega, by show _ + 6 ≤ 7292253; omega⟩ (Nat.le_of_ble_eq_true rfl) rfl rfl dL_law_126 (fun r126 I126 H locs hp h => ?_)
        obtain ⟨rfl, cn2, lcn2, hR, hcc⟩ := hp
        have hc2 := hR.c20
        refine lv_if_eq (tgt := 152) hx hb dL_law_129 (by decide) (fun c_129 => ?_) (fun c_129 => ?_)
        · exact absurd c_129 (by decide)
        · refine lv_aload_n hx hb dL_law_132 rfl (lv_at hl 4 rfl) ?_
          refine lv_iconst (v := nI 0) hx hb dL_law_133 (by decide) ?_
          refine r_cVI C0 h hl.1 _ (by omega) (ce0 k _) rfl (ct_X3_many l k M _ hJ cn2 hR.c20 hR.n4 lcn2 hR.l8 hR.n5 0 (by decide)) gL_law_X3_many rfl (by decide +kernel) (n := 1) ⟨Nat.le_of_ble_eq_true rfl, Nat.le_of_ble_eq_true rfl⟩ ⟨by show _ ≤ 603124; omega, by show _ ≤ 7292253; omega⟩ (Nat.le_of_ble_eq_true rfl) rfl rfl dL_law_134 (fun r134 I134 H locs hp h => ?_)
          obtain ⟨rfl, hq9⟩ := hp
          have hR := hR.ask hq9
          rw [mn0]
          refine lv_bipush (v := nI 20) hx hb dL_law_137 (by decide) ?_
          refine lv_icmp_gt (tgt := 152) hx hb dL_law_139 (by decide) (fun c_139 => ?_) (fun c_139 => ?_)
          · have d_139 := (nI_ltI (by omega) (by omega)).mp c_139
            exact False.elim (by omega)
          · have d_139 := (not_congr (nI_ltI (by omega) (by omega))).mp c_139
            refine lv_aload_n hx hb dL_law_142 rfl (lv_at hl 4 rfl) ?_
            refine lv_iconst (v := nI 0) hx hb dL_law_143 (by decide) ?_
            refine r_cVI C0 h hl.1 _ (by omega) (ce0 k _) rfl (ct_X3_many l k M _ hJ cn2 hR.c20 hR.n4 lcn2 hR.l8 hR.n5 0 (by decide)) gL_law_X3_many rfl (by decide +kernel) (n := 1) ⟨Nat.le_of_ble_eq_true rfl, Nat.le_of_ble_eq_true rfl⟩ ⟨by show _ ≤ 603124; omega, by show _ ≤ 7292253; omega⟩ (Nat.le_of_ble_eq_true rfl) rfl rfl dL_law_144 (fun r144 I144 H locs hp h => ?_)
            obtain ⟨rfl, hq9⟩ := hp
            have hR := hR.ask hq9
            rw [mn0]
            refine lv_iload hx hb dL_law_147 (lv_at hl 0 rfl) ?_
            refine lv_icmp_ge (tgt := 154) hx hb dL_law_149 (by decide) (fun c_149 => ?_) (fun c_149 => ?_)
            · have d_149 := (nI_leI (by omega) (by omega)).mp c_149
              refine lv_iload_n hx hb dL_law_154 rfl (lv_at hl 2 rfl) ?_
              refine lv_bipush (v := nI 10) hx hb dL_law_155 (by decide) ?_
              refine lv_irem hx hb dL_law_157 (by decide) ?_
              rw [pk_rem (by omega) (by omega) (by omega)]
              refine lv_bipush (v := nI 9) hx hb dL_law_158 (by decide) ?_
              refine lv_icmp_eq (tgt := 166) hx hb dL_law_160 (by decide) (fun c_160 => ?_) (fun c_160 => ?_)
              · have hQ := hR.rq
                refine lv_aload_n hx hb dL_law_166 rfl (lv_at hl 4 rfl) ?_
                refine r_cVL C0 h hl.1 _ (by omega) (ce0 k _) rfl (ct_X3_digest l k M _ hJ cn2 hQ.c20 hQ.n4 lcn2 hQ.l8 hQ.n5 hQ.st) gL_law_X3_digest rfl (by decide +kernel) (n := 0) ⟨Nat.le_of_ble_eq_true rfl, Nat.le_of_ble_eq_true rfl⟩ ⟨by show _ ≤ 603124; omega, by show _ ≤ 7292253; omega⟩ (Nat.le_of_ble_eq_true rfl) rfl rfl dL_law_167 (fun r167 I167 H locs hp h => ?_)
                obtain ⟨rfl, hq9⟩ := hp
                rw [hQ.1] at hq9 ⊢
                have hQ := hQ.ask (hq9.trans hQ.1.symm)
                refine lv_lstore hx hb dL_law_170 hl (by decide) rfl (fun ls hl => ?_)
                have hl : lv_has ls 9 [(6, _), (5, _), (4, _), (3, _), (0, _), (1, _), (2, _)] := hl
                refine lv_iconst (v := nI 0) hx hb dL_law_172 (by decide) ?_
                refine lv_istore hx hb dL_law_173 hl (by decide) rfl (fun ls hl => ?_)
                have hl : lv_has ls 9 [(8, _), (6, _), (5, _), (4, _), (3, _), (0, _), (1, _), (2, _)] := hl
                have key175 : ∀ (n : Nat) (j : Nat) (I2 : IS), 21 - j < n → j ≤ cn2 → RQ (vw I144) cn2 lcn2 I2 → ∀ (H : Heap) (locs : List Loc) (ls : Array Slot), HX k M A s I2 H locs → lv_has ls 9 [(8, .int (nI j)), (6, .long (dgF (vw I144) cn2 lcn2)), (4, .int x), (3, .int (nI τ)), (0, .ref b), (1, .ref (k.2.1 0)), (2, .ref (k.2.1 98))] → W p l e (room_1) s m args below meth c H locs (cl + 1) (sl + 6) Q (F0 m 175 ls []) := by
                  intro n
                  induction n with
                  | zero =>
                    intro j I2 hn175 hj hQ H locs ls h hl
                    exact absurd hn175 (Nat.not_lt_zero _)
                  | succ n ih175 =>
                    intro j I2 hn175 hj hQ H locs ls h hl
                    refine lv_iload hx hb dL_law_175 (lv_at hl 0 rfl) ?_
                    refine lv_aload_n hx hb dL_law_177 rfl (lv_at hl 5 rfl) ?_
                    refine lv_iconst (v := nI 0) hx hb dL_law_178 (by decide) ?_
                    refine r_cVI C0 h hl.1 _ (by omega) (ce0 k _) rfl (ct_X3_many l k M _ hJ cn2 hQ.c20 hQ.n4 lcn2 hQ.l8 hQ.n5 0 (by decide)) gL_law_X3_many rfl (by decide +kernel) (n := 1) ⟨Nat.le_of_ble_eq_true rfl, Nat.le_of_ble_eq_true rfl⟩ ⟨by show _ ≤ 603124; omega, by show _ ≤ 7292253; omega⟩ (Nat.le_of_ble_eq_true rfl) rfl rfl dL_law_179 (fun r179 I179 H locs hp h => ?_)
                    obtain ⟨rfl, hq9⟩ := hp
                    rw [hQ.1] at hq9 ⊢
                    have hQ := hQ.ask (hq9.trans hQ.1.symm)
                    rw [mn0]
                    refine lv_icmp_ge (tgt := 218) hx hb dL_law_182 (by decide) (fun c_182 => ?_) (fun c_182 => ?_)
                    · have d_182 := (nI_leI (by omega) (by omega)).mp c_182
                      refine lv_aload_n hx hb dL_law_218 rfl (lv_at hl 5 rfl) ?_
                      refine lv_iload hx hb dL_law_219 (lv_at hl 2 rfl) ?_
                      refine lv_iconst (v := nI 2) hx hb dL_law_221 (by decide) ?_
                      refine lv_ishr hx hb dL_law_222 ?_
                      refine lv_sipush (v := nI 1000) hx hb dL_law_223 (by decide) ?_
                      refine r_cSI C0 h hl.1 (ct_L_below l k M _ hJ _ _ (nI_ne0 (by omega) (by omega))) gL_law_L_below rfl (by decide +kernel) (n := 2) ⟨Nat.le_of_ble_eq_true rfl, Nat.le_of_ble_eq_true rfl⟩ ⟨by show _ ≤ 603124; omega, by show _ ≤ 7292253; omega⟩ (Nat.le_of_ble_eq_true rfl) rfl rfl dL_law_226 (fun r226 I226 H locs hp h => ?_)
                      obtain ⟨rfl, hq9⟩ := hp
                      rw [hq9] at h
                      rw [bl_dr _ _ (by omega) (by omega)]
                      have hb226 := dr_lt x 2 (n := 1000) (by omega)
                      refine lv_iload hx hb dL_law_229 (lv_at hl 2 rfl) ?_
                      refine lv_iconst (v := nI 4) hx hb dL_law_231 (by decide) ?_
                      refine lv_ishr hx hb dL_law_232 ?_
                      refine lv_iconst (v := nI 4) hx hb dL_law_233 (by decide) ?_
                      refine r_cSI C0 h hl.1 (ct_L_below l k M _ hJ _ _ (nI_ne0 (by omega) (by omega))) gL_law_L_below rfl (by decide +kernel) (n := 2) ⟨Nat.le_of_ble_eq_true rfl, Nat.le_of_ble_eq_true rfl⟩ ⟨by show _ ≤ 603124; omega, by show _ ≤ 7292253; omega⟩ (Nat.le_of_ble_eq_true rfl) rfl rfl dL_law_234 (fun r234 I234 H locs hp h => ?_)
                      obtain ⟨rfl, hq9⟩ := hp
                      rw [hq9] at h
                      rw [bl_dr _ _ (by omega) (by omega)]
                      have hb234 := dr_lt x 4 (n := 4) (by omega)
                      refine r_cSI C0 h hl.1 (ct_L_isRoomRight l k M _ hJ (vw I144) cn2 lcn2 hQ (dr x 2 1000) (dr x 4 4) (by omega) (by omega)) gL_law_L_isRoomRight rfl (by decide +kernel) (n := 3) ⟨Nat.le_of_ble_eq_true rfl, Nat.le_of_ble_eq_true rfl⟩ ⟨by show _ ≤ 603124; omega, by show _ ≤ 7292253; omega⟩ (Nat.le_of_ble_eq_true rfl) rfl rfl dL_law_237 (fun r237 I237 H locs hp h => ?_)
                      obtain ⟨rfl, hQ⟩ := hp
                      refine lv_if_eq (tgt := 253) hx hb dL_law_240 (by decide) (fun c_240 => ?_) (fun c_240 => ?_)
                      · exact absurd c_240 (by decide)
                      · refine lv_aload_n hx hb dL_law_243 rfl (lv_at hl 5 rfl) ?_
                        refine r_cVL C0 h hl.1 _ (by omega) (ce0 k _) rfl (ct_X3_digest l k M _ hJ cn2 hQ.c20 hQ.n4 lcn2 hQ.l8 hQ.n5 hQ.st) gL_law_X3_digest rfl (by decide +kernel) (n := 0) ⟨Nat.le_of_ble_eq_true rfl, Nat.le_of_ble_eq_true rfl⟩ ⟨by show _ ≤ 603124; omega, by show _ ≤ 7292253; omega⟩ (Nat.le_of_ble_eq_true rfl) rfl rfl dL_law_244 (fun r244 I244 H locs hp h => ?_)
                        obtain ⟨rfl, hq9⟩ := hp
                        rw [hQ.1] at hq9 ⊢
                        have hQ := hQ.ask (hq9.trans hQ.1.symm)
                        refine lv_lload hx hb dL_law_247 (lv_at hl 1 rfl) ?_
                        refine W.lcmp hx hb dL_law_249 ?_
                        rw [lcmp_0]
                        refine lv_if_eq (tgt := 255) hx hb dL_law_250 (by decide) (fun c_250 => ?_) (fun c_250 => ?_)
                        · have hR := hR.rq' rfl hQ
                          refine lv_iinc (v := nI (τ + 1)) hx hb dL_law_255 hl (k := 3) rfl (nI_1 _) (by decide) rfl (fun ls hl => ?_)
                          have hl : lv_has ls 9 [(3, _), (8, _), (6, _), (4, _), (0, _), (1, _), (2, _)] := hl
                          refine lv_goto (tgt := 87) hx hb dL_law_258 (by decide) ?_
                          exact ih87 (τ + 1) (cl + 1) (sl + 6) cn2 lcn2 _ (by omega) (by omega) (by omega) (by omega) hR _ _ _ h (lv_sub hl [0, 4, 5, 6] rfl)
                        · exact absurd rfl c_250
                    · have d_182 : j < cn2 := Nat.lt_of_not_le ((not_congr (nI_leI (by omega) (by omega))).mp c_182)
                      refine lv_aload_n hx hb dL_law_185 rfl (lv_at hl 5 rfl) ?_
                      refine lv_iload hx hb dL_law_186 (lv_at hl 0 rfl) ?_
                      refine lv_iload hx hb dL_law_188 (lv_at hl 2 rfl) ?_
                      refine lv_sipush (v := nI 1000) hx hb dL_law_190 (by decide) ?_
                      refine r_cSI C0 h hl.1 (ct_L_below l k M _ hJ _ _ (nI_ne0 (by omega) (by omega))) gL_law_L_below rfl (by decide +kernel) (n := 2) ⟨Nat.le_of_ble_eq_true rfl, Nat.le_of_ble_eq_true rfl⟩ ⟨by show _ ≤ 603124; omega, by show _ ≤ 7292253; omega⟩ (Nat.le_of_ble_eq_true rfl) rfl rfl dL_law_193 (fun r193 I193 H locs hp h => ?_)
                      obtain ⟨rfl, hq9⟩ := hp
                      rw [hq9] at h
                      rw [bl_at _ (by omega) (by omega)]
                      have hb193 := blN_lt x (n := 1000) (by omega)
                      refine lv_iload hx hb dL_law_196 (lv_at hl 2 rfl) ?_
                      refine lv_iconst (v := nI 3) hx hb dL_law_198 (by decide) ?_
                      refine lv_ishr hx hb dL_law_199 ?_
                      refine lv_iconst (v := nI 4) hx hb dL_law_200 (by decide) ?_
                      refine r_cSI C0 h hl.1 (ct_L_below l k M _ hJ _ _ (nI_ne0 (by omega) (by omega))) gL_law_L_below rfl (by decide +kernel) (n := 2) ⟨Nat.le_of_ble_eq_true rfl, Nat.le_of_ble_eq_true rfl⟩ ⟨by show _ ≤ 603124; omega, by show _ ≤ 7292253; omega⟩ (Nat.le_of_ble_eq_true rfl) rfl rfl dL_law_201 (fun r201 I201 H locs hp h => ?_)
                      obtain ⟨rfl, hq9⟩ := hp
                      rw [hq9] at h
                      rw [bl_dr _ _ (by omega) (by omega)]
                      have hb201 := dr_lt x 3 (n := 4) (by omega)
                      refine r_cSI C0 h hl.1 (ct_L_isLetterRight l k M _ hJ (vw I144) cn2 lcn2 hQ j d_182 (blN x 1000) (dr x 3 4) (by omega) (by omega)) gL_law_L_isLetterRight rfl (by decide +kernel) (n := 4) ⟨Nat.le_of_ble_eq_true rfl, Nat.le_of_ble_eq_true rfl⟩ ⟨by show _ ≤ 603124; omega, by show _ ≤ 7292253; omega⟩ (Nat.le_of_ble_eq_true rfl) rfl rfl dL_law_204 (fun r204 I204 H locs hp h => ?_)
                      obtain ⟨rfl, hQ⟩ := hp
                      refine lv_if_ne (tgt := 212) hx hb dL_law_207 (by decide) (fun c_207 => ?_) (fun c_207 => ?_)
                      · refine lv_iinc (v := nI (j + 1)) hx hb dL_law_212 hl (k := 0) rfl (nI_1 _) (by decide) rfl (fun ls hl => ?_)
                        have hl : lv_has ls 9 [(8, _), (6, _), (4, _), (3, _), (0, _), (1, _), (2, _)] := hl
                        refine lv_goto (tgt := 175) hx hb dL_law_215 (by decide) ?_
                        exact ih175 (j + 1) _ (by omega) (by omega) hQ _ _ _ h (lv_sub hl [0, 1, 2, 3, 4, 5, 6] rfl)
                      · exact absurd c_207 (by decide)
                exact key175 100 0 _ (by omega) (by omega) hQ _ _ _ h (lv_sub hl [0, 1, 3, 4, 5, 6, 7] rfl)
              · refine lv_goto (tgt := 255) hx hb dL_law_163 (by decide) ?_
                refine lv_iinc (v := nI (τ + 1)) hx hb dL_law_255 hl (k := 2) rfl (nI_1 _) (by decide) rfl (fun ls hl => ?_)
                have hl : lv_has ls 9 [(3, _), (5, _), (4, _), (0, _), (1, _), (2, _)] := hl
                refine lv_goto (tgt := 87) hx hb dL_law_258 (by decide) ?_
                exact ih87 (τ + 1) (cl + 1) (sl + 6) cn2 lcn2 _ (by omega) (by omega) (by omega) (by omega) hR _ _ _ h (lv_sub hl [0, 3, 4, 5] rfl)
            · have d_149 := (not_congr (nI_leI (by omega) (by omega))).mp c_149
              exact False.elim (by omega)
  exact key87 100 0 99 868 cn lcn _ (by omega) (by omega) (by omega) (by omega) hR _ _ _ h (lv_sub hl [0, 1, 2, 3] rfl)
