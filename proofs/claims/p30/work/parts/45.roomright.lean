/-! 45: what the law asks of the room -/
set_option maxHeartbeats 4000000 in
set_option maxRecDepth 100000 in
theorem ct_L_isRoomRight (l : Launch) (k : Sk) (M : Nat) (I : IS) (hJ : Ij k M) (X : IS) (cn lcn : Nat) (hQ : RQ X cn lcn I) (t u : Nat) (ht : t ≤ 999) (hu : u ≤ 3) : MtI l yL_isRoomRight wsL_isRoomRight 13 [.ref (k.2.1 0), .int (nI t), .int (nI u)] k M I (fun r I' => r = nI 1 ∧ RQ X cn lcn I') := by
  refine mtIz_of (cc := cL_isRoomRight) (maxL := 8) hJ (by decide) rfl (Nat.le_of_ble_eq_true rfl) ?_
  intro p e s m args below meth c A ls C0 h hr hl
  have hx := C0.1.1
  have hb := C0.1.2.1
  have hown := C0.1.2.2.2.1
  have hts := C0.1.2.2.2.2
  have hM := hJ.1
  have hl : lv_has ls 8 [(0, _), (1, _), (2, _)] := hl
  have hc1 := hQ.c1
  have hc20 := hQ.c20
  have hho := hoN_cn X hc20 lcn (nI t) (nI u)
  have hs4 := stS_4 (nI t) (nI u) hQ
  have hs8 := stS_le X cn lcn (nI t) (nI u) hc20 4
  have how := owN_le X (trX X 0) cn lcn (nI t) (nI u) cn
  have hcc : cn * cn ≤ 400 := Nat.mul_le_mul hc20 hc20
  obtain ⟨ca, hca, hmn1⟩ := anN_le X hc20
  obtain ⟨cp, hcp, hmn3⟩ := pcF_le X hc20 cn
  have key146 : ∀ (I1 : IS), RQ X cn lcn I1 → ∀ (H : Heap) (locs : List Loc) (ls : Array Slot), HX k M A s I1 H locs → lv_has ls 8 [(0, .ref (k.2.1 0)), (1, .int (nI t)), (2, .int (nI u))] → W p l e (Rm 13) s m args below meth c H locs 0 0 (MQ below (va_Qi (fun r I' => r = nI 1 ∧ RQ X cn lcn I') (EnX k M) A) args s 0 0 A) (F0 m 146 ls []) := by
    intro I1 hQ H locs ls h hl
    refine lv_aload_n hx hb dL_isRoomRight_146 rfl (lv_at hl 0 rfl) ?_
    refine lv_iconst (v := nI 0) hx hb dL_isRoomRight_147 (by decide) ?_
    refine lv_iload_n hx hb dL_isRoomRight_148 rfl (lv_at hl 1 rfl) ?_
    refine lv_iload_n hx hb dL_isRoomRight_149 rfl (lv_at hl 2 rfl) ?_
    refine r_cVI C0 h hl.1 _ (by omega) (ce0 k _) rfl (ct_X3_otherwise l k M _ hJ cn hQ.c20 hQ.n4 lcn hQ.l8 hQ.n5 hQ.st 0 (by omega) (nI t) (nI u) (isW_n ht (by omega)) (isW_n hu (by omega)) (by rw [hQ.L (show 0 < cn by omega)]; exact (hQ.ltI (show 0 < cn by omega)).2.2.2.2.2.1)) gL_isRoomRight_X3_otherwise rfl (by decide +kernel) (n := 3) ⟨Nat.le_of_ble_eq_true rfl, Nat.le_of_ble_eq_true rfl⟩ ⟨Nat.zero_le _, Nat.zero_le _⟩ (Nat.le_of_ble_eq_true rfl) rfl rfl dL_isRoomRight_150 (fun r150 I150 H locs hp h => ?_)
    obtain ⟨rfl, hq9⟩ := hp
    rw [hQ.1] at hq9 ⊢
    have hQ := hQ.ask (hq9.trans hQ.1.symm)
    refine lv_istore hx hb dL_isRoomRight_153 hl (by decide) rfl (fun ls hl => ?_)
    have hl : lv_has ls 8 [(7, _), (0, _), (1, _), (2, _)] := hl
    refine lv_iload hx hb dL_isRoomRight_155 (lv_at hl 0 rfl) ?_
    refine lv_if_lt (tgt := 206) hx hb dL_isRoomRight_157 (by decide) (fun c_157 => ?_) (fun c_157 => ?_)
    · exact absurd c_157 (nI_pos (by omega))
    · refine lv_iload hx hb dL_isRoomRight_160 (lv_at hl 0 rfl) ?_
      refine lv_aload_n hx hb dL_isRoomRight_162 rfl (lv_at hl 1 rfl) ?_
      refine lv_iconst (v := nI 0) hx hb dL_isRoomRight_163 (by decide) ?_
      refine r_cVI C0 h hl.1 _ (by omega) (ce0 k _) rfl (ct_X3_many l k M _ hJ cn hQ.c20 hQ.n4 lcn hQ.l8 hQ.n5 0 (by decide)) gL_isRoomRight_X3_many rfl (by decide +kernel) (n := 1) ⟨Nat.le_of_ble_eq_true rfl, Nat.le_of_ble_eq_true rfl⟩ ⟨Nat.zero_le _, Nat.zero_le _⟩ (Nat.le_of_ble_eq_true rfl) rfl rfl dL_isRoomRight_164 (fun r164 I164 H locs hp h => ?_)
      obtain ⟨rfl, hq9⟩ := hp
      rw [hQ.1] at hq9 ⊢
      have hQ := hQ.ask (hq9.trans hQ.1.symm)
      rw [mn0]
      refine lv_icmp_gt (tgt := 206) hx hb dL_isRoomRight_167 (by decide) (fun c_167 => ?_) (fun c_167 => ?_)
      · have d_167 := (nI_ltI (by omega) (by omega)).mp c_167
        exact False.elim (by omega)
      · have d_167 := (not_congr (nI_ltI (by omega) (by omega))).mp c_167
        refine lv_aload_n hx hb dL_isRoomRight_170 rfl (lv_at hl 1 rfl) ?_
        refine lv_iconst (v := nI 1) hx hb dL_isRoomRight_171 (by decide) ?_
        refine r_cVI C0 h hl.1 _ (by omega) (ce0 k _) rfl (ct_X3_many l k M _ hJ cn hQ.c20 hQ.n4 lcn hQ.l8 hQ.n5 1 (by decide)) gL_isRoomRight_X3_many rfl (by decide +kernel) (n := 1) ⟨Nat.le_of_ble_eq_true rfl, Nat.le_of_ble_eq_true rfl⟩ ⟨Nat.zero_le _, Nat.zero_le _⟩ (Nat.le_of_ble_eq_true rfl) rfl rfl dL_isRoomRight_172 (fun r172 I172 H locs hp h => ?_)
        obtain ⟨rfl, hq9⟩ := hp
        rw [hQ.1] at hq9 ⊢
        have hQ := hQ.ask (hq9.trans hQ.1.symm)
        rw [mn1, hmn1]
        refine lv_aload_n hx hb dL_isRoomRight_175 rfl (lv_at hl 1 rfl) ?_
        refine lv_iconst (v := nI 0) hx hb dL_isRoomRight_176 (by decide) ?_
        refine r_cVI C0 h hl.1 _ (by omega) (ce0 k _) rfl (ct_X3_many l k M _ hJ cn hQ.c20 hQ.n4 lcn hQ.l8 hQ.n5 0 (by decide)) gL_isRoomRight_X3_many rfl (by decide +kernel) (n := 1) ⟨Nat.le_of_ble_eq_true rfl, Nat.le_of_ble_eq_true rfl⟩ ⟨Nat.zero_le _, Nat.zero_le _⟩ (Nat.le_of_ble_eq_true rfl) rfl rfl dL_isRoomRight_177 (fun r177 I177 H locs hp h => ?_)
        obtain ⟨rfl, hq9⟩ := hp
        rw [hQ.1] at hq9 ⊢
        have hQ := hQ.ask (hq9.trans hQ.1.symm)
        rw [mn0]
        refine lv_icmp_gt (tgt := 206) hx hb dL_isRoomRight_180 (by decide) (fun c_180 => ?_) (fun c_180 => ?_)
        · have d_180 := (nI_ltI (by omega) (by omega)).mp c_180
          exact False.elim (by omega)
        · have d_180 := (not_congr (nI_ltI (by omega) (by omega))).mp c_180
          refine lv_aload_n hx hb dL_isRoomRight_183 rfl (lv_at hl 1 rfl) ?_
          refine lv_iconst (v := nI 3) hx hb dL_isRoomRight_184 (by decide) ?_
          refine r_cVI C0 h hl.1 _ (by omega) (ce0 k _) rfl (ct_X3_many l k M _ hJ cn hQ.c20 hQ.n4 lcn hQ.l8 hQ.n5 3 (by decide)) gL_isRoomRight_X3_many rfl (by decide +kernel) (n := 1) ⟨Nat.le_of_ble_eq_true rfl, Nat.le_of_ble_eq_true rfl⟩ ⟨Nat.zero_le _, Nat.zero_le _⟩ (Nat.le_of_ble_eq_true rfl) rfl rfl dL_isRoomRight_185 (fun r185 I185 H locs hp h => ?_)
          obtain ⟨rfl, hq9⟩ := hp
          rw [hQ.1] at hq9 ⊢
          have hQ := hQ.ask (hq9.trans hQ.1.symm)
          rw [mn3, hmn3]
          refine lv_aload_n hx hb dL_isRoomRight_188 rfl (lv_at hl 1 rfl) ?_
          refine lv_iconst (v := nI 0) hx hb dL_isRoomRight_189 (by decide) ?_
          refine r_cVI C0 h hl.1 _ (by omega) (ce0 k _) rfl (ct_X3_many l k M _ hJ cn hQ.c20 hQ.n4 lcn hQ.l8 hQ.n5 0 (by decide)) gL_isRoomRight_X3_many rfl (by decide +kernel) (n := 1) ⟨Nat.le_of_ble_eq_true rfl, Nat.le_of_ble_eq_true rfl⟩ ⟨Nat.zero_le _, Nat.zero_le _⟩ (Nat.le_of_ble_eq_true rfl) rfl rfl dL_isRoomRight_190 (fun r190 I190 H locs hp h => ?_)
          obtain ⟨rfl, hq9⟩ := hp
          rw [hQ.1] at hq9 ⊢
          have hQ := hQ.ask (hq9.trans hQ.1.symm)
          rw [mn0]
          refine lv_aload_n hx hb dL_isRoomRight_193 rfl (lv_at hl 1 rfl) ?_
          refine lv_iconst (v := nI 0) hx hb dL_isRoomRight_194 (by decide) ?_
          refine r_cVI C0 h hl.1 _ (by omega) (ce0 k _) rfl (ct_X3_many l k M _ hJ cn hQ.c20 hQ.n4 lcn hQ.l8 hQ.n5 0 (by decide)) gL_isRoomRight_X3_many rfl (by decide +kernel) (n := 1) ⟨Nat.le_of_ble_eq_true rfl, Nat.le_of_ble_eq_true rfl⟩ ⟨Nat.zero_le _, Nat.zero_le _⟩ (Nat.le_of_ble_eq_true rfl) rfl rfl dL_isRoomRight_195 (fun r195 I195 H locs hp h => ?_)
          obtain ⟨rfl, hq9⟩ := hp
          rw [hQ.1] at hq9 ⊢
          have hQ := hQ.ask (hq9.trans hQ.1.symm)
          rw [mn0]
          refine lv_imul hx hb dL_isRoomRight_198 ?_
          rw [nI_mul]
          refine lv_icmp_gt (tgt := 206) hx hb dL_isRoomRight_199 (by decide) (fun c_199 => ?_) (fun c_199 => ?_)
          · have d_199 := (nI_ltI (by omega) (by omega)).mp c_199
            exact False.elim (by omega)
          · have d_199 := (not_congr (nI_ltI (by omega) (by omega))).mp c_199
            refine lv_iconst (v := nI 1) hx hb dL_isRoomRight_202 (by decide) ?_
            refine lv_goto (tgt := 207) hx hb dL_isRoomRight_203 (by decide) ?_
            exact r_zret C0 h hr dL_isRoomRight_207 zb1 ⟨rfl, hQ⟩
  have key88 : ∀ (I1 : IS), RQ X cn lcn I1 → ∀ (H : Heap) (locs : List Loc) (ls : Array Slot), HX k M A s I1 H locs → lv_has ls 8 [(3, .int (nI (hoN X cn lcn (nI t) (nI u) cn))), (4, .int (nI (stS X cn lcn (nI t) (nI u) 4))), (0, .ref (k.2.1 0)), (1, .int (nI t)), (2, .int (nI u))] → W p l e (Rm 13) s m args below meth c H locs 0 0 (MQ below (va_Qi (fun r I' => r = nI 1 ∧ RQ X cn lcn I') (EnX k M) A) args s 0 0 A) (F0 m 88 ls []) := by
    intro I1 hQ H locs ls h hl
    refine lv_aload_n hx hb dL_isRoomRight_88 rfl (lv_at hl 2 rfl) ?_
    refine lv_iload_n hx hb dL_isRoomRight_89 rfl (lv_at hl 3 rfl) ?_
    refine lv_iload_n hx hb dL_isRoomRight_90 rfl (lv_at hl 4 rfl) ?_
    refine r_cVD C0 h hl.1 _ (by omega) (ce0 k _) rfl (ct_X3_meanChain l k M _ hJ cn hQ.c20 hQ.n4 lcn hQ.l8 hQ.n5 hQ.st (nI t) (nI u) (isW_n ht (by omega)) (isW_n hu (by omega))) gL_isRoomRight_X3_meanChain rfl (by decide +kernel) (n := 2) ⟨Nat.le_of_ble_eq_true rfl, Nat.le_of_ble_eq_true rfl⟩ ⟨Nat.zero_le _, Nat.zero_le _⟩ (Nat.le_of_ble_eq_true rfl) rfl rfl dL_isRoomRight_91 (fun r91 I91 H locs hp h => ?_)
    obtain ⟨rfl, hq9⟩ := hp
    rw [hQ.1] at hq9 ⊢
    have hQ := hQ.ask (hq9.trans hQ.1.symm)
    refine lv_dstore hx hb dL_isRoomRight_94 hl (by decide) rfl (fun ls hl => ?_)
    have hl : lv_has ls 8 [(5, _), (3, _), (4, _), (0, _), (1, _), (2, _)] := hl
    refine lv_iload hx hb dL_isRoomRight_96 (lv_at hl 2 rfl) ?_
    refine lv_iload_n hx hb dL_isRoomRight_98 rfl (lv_at hl 1 rfl) ?_
    refine lv_icmp_lt (tgt := 144) hx hb dL_isRoomRight_99 (by decide) (fun c_99 => ?_) (fun c_99 => ?_)
    · have d_99 := (nI_ltI (by omega) (by omega)).mp c_99
      exact False.elim (by omega)
    · have d_99 := (not_congr (nI_ltI (by omega) (by omega))).mp c_99
      refine lv_aload_n hx hb dL_isRoomRight_102 rfl (lv_at hl 3 rfl) ?_
      refine lv_bipush (v := nI 9) hx hb dL_isRoomRight_103 (by decide) ?_
      refine lv_iload_n hx hb dL_isRoomRight_105 rfl (lv_at hl 4 rfl) ?_
      refine lv_iload_n hx hb dL_isRoomRight_106 rfl (lv_at hl 5 rfl) ?_
      refine r_cVI C0 h hl.1 _ (by omega) (ce0 k _) rfl (ct_X3_stolen l k M _ hJ cn hQ.c20 hQ.n4 lcn hQ.l8 hQ.n5 hQ.st (nI 9) (isW_n (by omega) (by omega)) (nI t) (nI u) (isW_n ht (by omega)) (isW_n hu (by omega))) gL_isRoomRight_X3_stolen rfl (by decide +kernel) (n := 3) ⟨Nat.le_of_ble_eq_true rfl, Nat.le_of_ble_eq_true rfl⟩ ⟨Nat.zero_le _, Nat.zero_le _⟩ (Nat.le_of_ble_eq_true rfl) rfl rfl dL_isRoomRight_107 (fun r107 I107 H locs hp h => ?_)
      obtain ⟨rfl, hq9⟩ := hp
      rw [hQ.1] at hq9 ⊢
      have hQ := hQ.ask (hq9.trans hQ.1.symm)
      rw [stN_9 (nI t) (nI u) hQ]
      refine lv_if_ne (tgt := 144) hx hb dL_isRoomRight_110 (by decide) (fun c_110 => ?_) (fun c_110 => ?_)
      · exact absurd (by decide) c_110
      · refine lv_iload_n hx hb dL_isRoomRight_113 rfl (lv_at hl 1 rfl) ?_
        refine lv_if_ne (tgt := 124) hx hb dL_isRoomRight_114 (by decide) (fun c_114 => ?_) (fun c_114 => ?_)
        · have d_114 := (not_congr (nI_eq0 (by omega))).mp c_114
          refine lv_iload_n hx hb dL_isRoomRight_124 rfl (lv_at hl 1 rfl) ?_
          refine lv_if_le (tgt := 146) hx hb dL_isRoomRight_125 (by decide) (fun c_125 => ?_) (fun c_125 => ?_)
          · have d_125 := (nI_le0 (by omega)).mp c_125
            exact key146 _ hQ _ _ _ h (lv_sub hl [3, 4, 5] rfl)
          · have d_125x : ¬ hoN X cn lcn (nI t) (nI u) cn = 0 := (not_congr (nI_le0 (by omega))).mp c_125
            refine lv_dload hx hb dL_isRoomRight_128 (lv_at hl 0 rfl) ?_
            refine lv_dconst1 hx hb dL_isRoomRight_130 ?_
            refine lv_dcmp hx hb dL_isRoomRight_131 ?_
            refine lv_if_lt (tgt := 144) hx hb dL_isRoomRight_132 (by decide) (fun c_132 => ?_) (fun c_132 => ?_)
            · exact absurd c_132 (mcF_1 hc20 d_125x).1
            · refine lv_dload hx hb dL_isRoomRight_135 (lv_at hl 0 rfl) ?_
              refine lv_ldc2d (v := 4618441417868443648) hx hb hown (hts (.constantDouble RL 124 4618441417868443648) (by decide +kernel)) dL_isRoomRight_137 ?_
              refine lv_dcmp hx hb dL_isRoomRight_140 ?_
              refine lv_if_le (tgt := 146) hx hb dL_isRoomRight_141 (by decide) (fun c_141 => ?_) (fun c_141 => ?_)
              · exact key146 _ hQ _ _ _ h (lv_sub hl [3, 4, 5] rfl)
              · exact absurd (mcF_1 hc20 d_125x).2 c_141
        · have d_114 := (nI_eq0 (by omega)).mp c_114
          refine lv_dload hx hb dL_isRoomRight_117 (lv_at hl 0 rfl) ?_
          refine lv_dconst0 hx hb dL_isRoomRight_119 ?_
          refine lv_dcmp hx hb dL_isRoomRight_120 ?_
          refine lv_if_ne (tgt := 144) hx hb dL_isRoomRight_121 (by decide) (fun c_121 => ?_) (fun c_121 => ?_)
          · exact absurd (by rw [mcF_0 d_114]; exact mean_0) c_121
          · refine lv_iload_n hx hb dL_isRoomRight_124 rfl (lv_at hl 1 rfl) ?_
            refine lv_if_le (tgt := 146) hx hb dL_isRoomRight_125 (by decide) (fun c_125 => ?_) (fun c_125 => ?_)
            · have d_125 := (nI_le0 (by omega)).mp c_125
              exact key146 _ hQ _ _ _ h (lv_sub hl [3, 4, 5] rfl)
            · have d_125x : ¬ hoN X cn lcn (nI t) (nI u) cn = 0 := (not_congr (nI_le0 (by omega))).mp c_125
              refine lv_dload hx hb dL_isRoomRight_128 (lv_at hl 0 rfl) ?_
              refine lv_dconst1 hx hb dL_isRoomRight_130 ?_
              refine lv_dcmp hx hb dL_isRoomRight_131 ?_
              refine lv_if_lt (tgt := 144) hx hb dL_isRoomRight_132 (by decide) (fun c_132 => ?_) (fun c_132 => ?_)
              · exact absurd c_132 (mcF_1 hc20 d_125x).1
              · refine lv_dload hx hb dL_isRoomRight_135 (lv_at hl 0 rfl) ?_
                refine lv_ldc2d (v := 4618441417868443648) hx hb hown (hts (.constantDouble RL 124 4618441417868443648) (by decide +kernel)) dL_isRoomRight_137 ?_
                refine lv_dcmp hx hb dL_isRoomRight_140 ?_
                refine lv_if_le (tgt := 146) hx hb dL_isRoomRight_141 (by decide) (fun c_141 => ?_) (fun c_141 => ?_)
                · exact key146 _ hQ _ _ _ h (lv_sub hl [3, 4, 5] rfl)
                · exact absurd (mcF_1 hc20 d_125x).2 c_141
  have key40 : ∀ (I1 : IS), RQ X cn lcn I1 → ∀ (H : Heap) (locs : List Loc) (ls : Array Slot), HX k M A s I1 H locs → lv_has ls 8 [(3, .int (nI (hoN X cn lcn (nI t) (nI u) cn))), (0, .ref (k.2.1 0)), (1, .int (nI t)), (2, .int (nI u))] → W p l e (Rm 13) s m args below meth c H locs 0 0 (MQ below (va_Qi (fun r I' => r = nI 1 ∧ RQ X cn lcn I') (EnX k M) A) args s 0 0 A) (F0 m 40 ls []) := by
    intro I1 hQ H locs ls h hl
    refine lv_iconst (v := nI 0) hx hb dL_isRoomRight_40 (by decide) ?_
    refine lv_istore hx hb dL_isRoomRight_41 hl (by decide) rfl (fun ls hl => ?_)
    have hl : lv_has ls 8 [(4, _), (3, _), (0, _), (1, _), (2, _)] := hl
    refine lv_iconst (v := nI 0) hx hb dL_isRoomRight_43 (by decide) ?_
    refine lv_istore hx hb dL_isRoomRight_44 hl (by decide) rfl (fun ls hl => ?_)
    have hl : lv_has ls 8 [(5, _), (4, _), (3, _), (0, _), (1, _), (2, _)] := hl
    have key46 : ∀ (n : Nat) (κ : Nat) (I1 : IS), 5 - κ < n → κ ≤ 4 → RQ X cn lcn I1 → ∀ (H : Heap) (locs : List Loc) (ls : Array Slot), HX k M A s I1 H locs → lv_has ls 8 [(5, .int (nI κ)), (4, .int (nI (stS X cn lcn (nI t) (nI u) κ))), (3, .int (nI (hoN X cn lcn (nI t) (nI u) cn))), (0, .ref (k.2.1 0)), (1, .int (nI t)), (2, .int (nI u))] → W p l e (Rm 13) s m args below meth c H locs 0 0 (MQ below (va_Qi (fun r I' => r = nI 1 ∧ RQ X cn lcn I') (EnX k M) A) args s 0 0 A) (F0 m 46 ls []) := by
      intro n
      induction n with
      | zero =>
        intro κ I1 hn46 hk9 hQ H locs ls h hl
        exact absurd hn46 (Nat.not_lt_zero _)
      | succ n ih46 =>
        intro κ I1 hn46 hk9 hQ H locs ls h hl
        have hsn := stN_le X cn lcn (nI κ) (nI t) (nI u) cn
        have hsk := stS_le X cn lcn (nI t) (nI u) hc20 κ
        refine lv_iload hx hb dL_isRoomRight_46 (lv_at hl 0 rfl) ?_
        refine lv_iconst (v := nI 4) hx hb dL_isRoomRight_48 (by decide) ?_
        refine lv_icmp_ge (tgt := 88) hx hb dL_isRoomRight_49 (by decide) (fun c_49 => ?_) (fun c_49 => ?_)
        · have d_49 := (nI_leI (by omega) (by omega)).mp c_49
          have e_49 : κ = 4 := by omega
          rw [e_49] at hl
          exact key88 _ hQ _ _ _ h (lv_sub hl [2, 1, 3, 4, 5] rfl)
        · have d_49 := (not_congr (nI_leI (by omega) (by omega))).mp c_49
          refine lv_aload_n hx hb dL_isRoomRight_52 rfl (lv_at hl 3 rfl) ?_
          refine lv_iload hx hb dL_isRoomRight_53 (lv_at hl 0 rfl) ?_
          refine lv_iload_n hx hb dL_isRoomRight_55 rfl (lv_at hl 4 rfl) ?_
          refine lv_iload_n hx hb dL_isRoomRight_56 rfl (lv_at hl 5 rfl) ?_
          refine r_cVI C0 h hl.1 _ (by omega) (ce0 k _) rfl (ct_X3_stolen l k M _ hJ cn hQ.c20 hQ.n4 lcn hQ.l8 hQ.n5 hQ.st (nI κ) (isW_n (by omega) (by omega)) (nI t) (nI u) (isW_n ht (by omega)) (isW_n hu (by omega))) gL_isRoomRight_X3_stolen rfl (by decide +kernel) (n := 3) ⟨Nat.le_of_ble_eq_true rfl, Nat.le_of_ble_eq_true rfl⟩ ⟨Nat.zero_le _, Nat.zero_le _⟩ (Nat.le_of_ble_eq_true rfl) rfl rfl dL_isRoomRight_57 (fun r57 I57 H locs hp h => ?_)
          obtain ⟨rfl, hq9⟩ := hp
          rw [hQ.1] at hq9 ⊢
          have hQ := hQ.ask (hq9.trans hQ.1.symm)
          refine lv_istore hx hb dL_isRoomRight_60 hl (by decide) rfl (fun ls hl => ?_)
          have hl : lv_has ls 8 [(6, _), (5, _), (4, _), (3, _), (0, _), (1, _), (2, _)] := hl
          refine lv_iload hx hb dL_isRoomRight_62 (lv_at hl 0 rfl) ?_
          refine lv_if_lt (tgt := 73) hx hb dL_isRoomRight_64 (by decide) (fun c_64 => ?_) (fun c_64 => ?_)
          · exact absurd c_64 (nI_pos (by omega))
          · refine lv_iload hx hb dL_isRoomRight_67 (lv_at hl 0 rfl) ?_
            refine lv_iload_n hx hb dL_isRoomRight_69 rfl (lv_at hl 3 rfl) ?_
            refine lv_icmp_le (tgt := 75) hx hb dL_isRoomRight_70 (by decide) (fun c_70 => ?_) (fun c_70 => ?_)
            · have d_70 := (nI_leI (by omega) (by omega)).mp c_70
              refine lv_iload hx hb dL_isRoomRight_75 (lv_at hl 2 rfl) ?_
              refine lv_iload hx hb dL_isRoomRight_77 (lv_at hl 0 rfl) ?_
              refine lv_iadd hx hb dL_isRoomRight_79 ?_
              rw [nI_add, stS_s]
              refine lv_istore hx hb dL_isRoomRight_80 hl (by decide) rfl (fun ls hl => ?_)
              have hl : lv_has ls 8 [(4, _), (6, _), (5, _), (3, _), (0, _), (1, _), (2, _)] := hl
              refine lv_iinc (v := nI (κ + 1)) hx hb dL_isRoomRight_82 hl (k := 2) rfl (nI_1 _) (by decide) rfl (fun ls hl => ?_)
              have hl : lv_has ls 8 [(5, _), (4, _), (6, _), (3, _), (0, _), (1, _), (2, _)] := hl
              refine lv_goto (tgt := 46) hx hb dL_isRoomRight_85 (by decide) ?_
              exact ih46 (κ + 1) _ (by omega) (by omega) hQ _ _ _ h (lv_sub hl [0, 1, 3, 4, 5, 6] rfl)
            · have d_70 := (not_congr (nI_leI (by omega) (by omega))).mp c_70
              exact False.elim (by omega)
    exact key46 100 0 _ (by omega) (by omega) hQ _ _ _ h (lv_sub hl [0, 1, 2, 3, 4, 5] rfl)
  refine lv_iconst (v := nI 0) hx hb dL_isRoomRight_0 (by decide) ?_
  refine lv_istore_n hx hb dL_isRoomRight_1 rfl hl (by decide) rfl (fun ls hl => ?_)
  have hl : lv_has ls 8 [(3, _), (0, _), (1, _), (2, _)] := hl
  refine lv_iconst (v := nI 0) hx hb dL_isRoomRight_2 (by decide) ?_
  refine lv_istore hx hb dL_isRoomRight_3 hl (by decide) rfl (fun ls hl => ?_)
  have hl : lv_has ls 8 [(4, _), (3, _), (0, _), (1, _), (2, _)] := hl
  have key5 : ∀ (n : Nat) (j : Nat) (I1 : IS), 21 - j < n → j ≤ cn → RQ X cn lcn I1 → ∀ (H : Heap) (locs : List Loc) (ls : Array Slot), HX k M A s I1 H locs → lv_has ls 8 [(3, .int (nI (hoN X cn lcn (nI t) (nI u) j))), (4, .int (nI j)), (0, .ref (k.2.1 0)), (1, .int (nI t)), (2, .int (nI u))] → W p l e (Rm 13) s m args below meth c H locs 0 0 (MQ below (va_Qi (fun r I' => r = nI 1 ∧ RQ X cn lcn I') (EnX k M) A) args s 0 0 A) (F0 m 5 ls []) := by
    intro n
    induction n with
    | zero =>
      intro j I1 hn5 hj9 hQ H locs ls h hl
      exact absurd hn5 (Nat.not_lt_zero _)
    | succ n ih5 =>
      intro j I1 hn5 hj9 hQ H locs ls h hl
      have hhj := hoN_le X cn lcn (nI t) (nI u) j
      refine lv_iload hx hb dL_isRoomRight_5 (lv_at hl 1 rfl) ?_
      refine lv_aload_n hx hb dL_isRoomRight_7 rfl (lv_at hl 2 rfl) ?_
      refine lv_iconst (v := nI 0) hx hb dL_isRoomRight_8 (by decide) ?_
      refine r_cVI C0 h hl.1 _ (by omega) (ce0 k _) rfl (ct_X3_many l k M _ hJ cn hQ.c20 hQ.n4 lcn hQ.l8 hQ.n5 0 (by decide)) gL_isRoomRight_X3_many rfl (by decide +kernel) (n := 1) ⟨Nat.le_of_ble_eq_true rfl, Nat.le_of_ble_eq_true rfl⟩ ⟨Nat.zero_le _, Nat.zero_le _⟩ (Nat.le_of_ble_eq_true rfl) rfl rfl dL_isRoomRight_9 (fun r9 I9 H locs hp h => ?_)
      obtain ⟨rfl, hq9⟩ := hp
      rw [hQ.1] at hq9 ⊢
      have hQ := hQ.ask (hq9.trans hQ.1.symm)
      rw [mn0]
      refine lv_icmp_ge (tgt := 40) hx hb dL_isRoomRight_12 (by decide) (fun c_12 => ?_) (fun c_12 => ?_)
      · have d_12 := (nI_leI (by omega) (by omega)).mp c_12
        have e_12 : j = cn := by omega
        rw [e_12] at hl
        exact key40 _ hQ _ _ _ h (lv_sub hl [0, 2, 3, 4] rfl)
      · have d_12 : j < cn := Nat.lt_of_not_le ((not_congr (nI_leI (by omega) (by omega))).mp c_12)
        refine lv_iload_n hx hb dL_isRoomRight_15 rfl (lv_at hl 0 rfl) ?_
        refine lv_aload_n hx hb dL_isRoomRight_16 rfl (lv_at hl 2 rfl) ?_
        refine lv_iload hx hb dL_isRoomRight_17 (lv_at hl 1 rfl) ?_
        refine lv_iload_n hx hb dL_isRoomRight_19 rfl (lv_at hl 3 rfl) ?_
        refine lv_iload_n hx hb dL_isRoomRight_20 rfl (lv_at hl 4 rfl) ?_
        refine r_cVI C0 h hl.1 _ (by omega) (ce0 k _) rfl (ct_X3_verdict l k M _ hJ cn hQ.c20 hQ.n4 lcn hQ.l8 hQ.n5 hQ.st j d_12 (nI t) (nI u) (isW_n ht (by omega)) (isW_n hu (by omega))) gL_isRoomRight_X3_verdict rfl (by decide +kernel) (n := 3) ⟨Nat.le_of_ble_eq_true rfl, Nat.le_of_ble_eq_true rfl⟩ ⟨Nat.zero_le _, Nat.zero_le _⟩ (Nat.le_of_ble_eq_true rfl) rfl rfl dL_isRoomRight_21 (fun r21 I21 H locs hp h => ?_)
        obtain ⟨rfl, hq9⟩ := hp
        rw [hQ.1] at hq9 ⊢
        have hQ := hQ.ask (hq9.trans hQ.1.symm)
        refine lv_if_ne (tgt := 31) hx hb dL_isRoomRight_24 (by decide) (fun c_24 => ?_) (fun c_24 => ?_)
        · have hst9 := hoN_n c_24
          refine lv_iconst (v := nI 0) hx hb dL_isRoomRight_31 (by decide) ?_
          refine lv_iadd hx hb dL_isRoomRight_32 ?_
          rw [nI_add, hst9]
          refine lv_istore_n hx hb dL_isRoomRight_33 rfl hl (by decide) rfl (fun ls hl => ?_)
          have hl : lv_has ls 8 [(3, _), (4, _), (0, _), (1, _), (2, _)] := hl
          refine lv_iinc (v := nI (j + 1)) hx hb dL_isRoomRight_34 hl (k := 1) rfl (nI_1 _) (by decide) rfl (fun ls hl => ?_)
          have hl : lv_has ls 8 [(4, _), (3, _), (0, _), (1, _), (2, _)] := hl
          refine lv_goto (tgt := 5) hx hb dL_isRoomRight_37 (by decide) ?_
          exact ih5 (j + 1) _ (by omega) (by omega) hQ _ _ _ h (lv_sub hl [1, 0, 2, 3, 4] rfl)
        · have hst9 := hoN_y c_24
          refine lv_iconst (v := nI 1) hx hb dL_isRoomRight_27 (by decide) ?_
          refine lv_goto (tgt := 32) hx hb dL_isRoomRight_28 (by decide) ?_
          refine lv_iadd hx hb dL_isRoomRight_32 ?_
          rw [nI_add, hst9]
          refine lv_istore_n hx hb dL_isRoomRight_33 rfl hl (by decide) rfl (fun ls hl => ?_)
          have hl : lv_has ls 8 [(3, _), (4, _), (0, _), (1, _), (2, _)] := hl
          refine lv_iinc (v := nI (j + 1)) hx hb dL_isRoomRight_34 hl (k := 1) rfl (nI_1 _) (by decide) rfl (fun ls hl => ?_)
          have hl : lv_has ls 8 [(4, _), (3, _), (0, _), (1, _), (2, _)] := hl
          refine lv_goto (tgt := 5) hx hb dL_isRoomRight_37 (by decide) ?_
          exact ih5 (j + 1) _ (by omega) (by omega) hQ _ _ _ h (lv_sub hl [1, 0, 2, 3, 4] rfl)
  exact key5 100 0 _ (by omega) (by omega) hQ _ _ _ h (lv_sub hl [1, 0, 2, 3, 4] rfl)
