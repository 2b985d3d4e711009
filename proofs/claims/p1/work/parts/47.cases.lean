/-! 47: the cases of the one pass -/
theorem mom_yes {a b : Bool} (h : a = true ∧ b = true) : (a && b) = true := by rw [h.1, h.2]; rfl
theorem mom_of {a b : Bool} (h : (a && b) = true) : a = true ∧ b = true := by
  cases a with
  | false => exact absurd (show false = true from h) (by decide)
  | true => exact ⟨rfl, h⟩
theorem ne_1 : ¬ (nI 1 : Int32) = 0 := by decide
theorem XA_blind (k : Sk) (sz : Nat) (a : Array Value) (U : State) (g : JFrame) (mk : MethodId) (q : XA k sz U) : XA k sz (U.calling g mk a) := ⟨ZL.same (u := U) (U := U.calling g mk a) rfl rfl q.1, va_AO.moved (u := U) (U := U.calling g mk a) (Vm.Alike.refl U.vm) q.2.1, AS.moved (u := U) (U := U.calling g mk a) (Vm.Alike.refl U.vm) q.2.2⟩
theorem XA_at {s U : State} {k1 k2 : Sk} {ob od : Nat} {cL cD : ClassId} {H : Heap} {locs : List Loc} (F : LF s k1 k2 ob od cL cD) (hS : va_S (AL s) s.heap H locs) (hU : U.heap = H) (hW : s.WarmedH U.vm) : XA k2 H.size U := ⟨F.2.1.1.1.go hW (fun z h1 h2 => by rw [hU]; exact hS.2.1 z h1 h2) (fun q z => z.elim (fun ⟨j, h1, h2⟩ => h2 ▸ F.2.2.1.2.1 j h1) (AL_go hS q)), va_AO.moved hW.alike F.2.1.1.2.1, AS.moved hW.alike F.2.1.1.2.2⟩
theorem dc_0 : Op.cmpValue (FP.dcmp FP.dconst0 FP.dconst0) .l = 0 := by decide +kernel
set_option maxHeartbeats 4000000 in
set_option maxRecDepth 100000 in
theorem cs_letter {p : Program} {e : Env} {s : State} {m : MethodId} {below : List Frame} {meth : Method} {c : Code} (l : Launch) (hf : l.stackTraces = false) {b : Nat} {xs : Nat → Int32} {k1 k2 : Sk} {ob od : Nat} {cL cD : ClassId} {H : Heap} {locs : List Loc} {ls : Array Slot} {Q : State → Prop} (X : CallFix p m c cL_law 9 s #[Value.ref b] wsL_law RL) (F : LF s k1 k2 ob od cL cD) (hX : va_X b 5 xs s s.heap) (hbl : b < s.heap.size) (hr : meth.sig.returnType = some .boolean ∧ meth.locks = false) (h : LH H k1 k2 ob od cL cD) (hS : va_S (AL s) s.heap H locs) (hl : lv_has ls 9 [(5, .int (nI 0)), (4, .ref od), (3, .ref ob), (2, .ref (k2.2.1 0)), (1, .ref (k1.2.1 0)), (0, .ref b)]) (hend : LEnd p l e s m b below meth c Q) : W p l e room_1 s m #[Value.ref b] below meth c H locs 200 2000 Q (F0 m 168 ls []) := by
  have hx := X.1
  have hb := X.2.1
  have hbA : ¬ AL s b := Nat.not_le.mpr hbl
  by_cases hg : isNm (xs (nI (0 + 1)).toNatClampNeg) = true ∧ isNm (xs (nI (0 + 2)).toNatClampNeg) = true ∧ isW (xs (nI (0 + 3)).toNatClampNeg) (nI 15) = true ∧ isW (xs (nI (0 + 4)).toNatClampNeg) (nI 30) = true
  · refine lv_aload_n hx hb dL_law_168 rfl (lv_at hl 4 rfl) ?_
    refine lv_aload_n hx hb dL_law_169 rfl (lv_at hl 5 rfl) ?_
    refine lv_iload hx hb dL_law_170 (lv_at hl 0 rfl) ?_
    refine lv_iconst (v := nI 1) hx hb dL_law_172 (by decide) ?_
    refine lv_iadd hx hb dL_law_173 ?_
    rw [nI_add]
    refine va_sld hx hb hX hbl hbA hS (vp_in_nI (by omega) (by omega)) dL_law_174 ?_
    refine lv_aload_n hx hb dL_law_175 rfl (lv_at hl 5 rfl) ?_
    refine lv_iload hx hb dL_law_176 (lv_at hl 0 rfl) ?_
    refine lv_iconst (v := nI 2) hx hb dL_law_178 (by decide) ?_
    refine lv_iadd hx hb dL_law_179 ?_
    rw [nI_add]
    refine va_sld hx hb hX hbl hbA hS (vp_in_nI (by omega) (by omega)) dL_law_180 ?_
    refine lv_aload_n hx hb dL_law_181 rfl (lv_at hl 5 rfl) ?_
    refine lv_iload hx hb dL_law_182 (lv_at hl 0 rfl) ?_
    refine lv_iconst (v := nI 3) hx hb dL_law_184 (by decide) ?_
    refine lv_iadd hx hb dL_law_185 ?_
    rw [nI_add]
    refine va_sld hx hb hX hbl hbA hS (vp_in_nI (by omega) (by omega)) dL_law_186 ?_
    refine lv_aload_n hx hb dL_law_187 rfl (lv_at hl 5 rfl) ?_
    refine lv_iload hx hb dL_law_188 (lv_at hl 0 rfl) ?_
    refine lv_iconst (v := nI 4) hx hb dL_law_190 (by decide) ?_
    refine lv_iadd hx hb dL_law_191 ?_
    rw [nI_add]
    refine va_sld hx hb hX hbl hbA hS (vp_in_nI (by omega) (by omega)) dL_law_192 ?_
    refine lv_aload_n hx hb dL_law_193 rfl (lv_at hl 2 rfl) ?_
    refine law_w X F h hS (fun f sz => lw_letter l hf k1 F.1.2.2.2.1 ob cL f F.2.2.2.2.1 _ _ _ _ sz) hl.1 gL_law_L_letter rfl (by decide +kernel) (n := 6) ⟨Nat.le_of_ble_eq_true rfl, Nat.le_of_ble_eq_true rfl⟩ ⟨Nat.le_of_ble_eq_true rfl, Nat.le_of_ble_eq_true rfl⟩ (Nat.le_of_ble_eq_true rfl) rfl rfl dL_law_194 (fun r1 x1 f1 H locs hp1 hf1 hO hP hS => ?_)
    rw [if_pos hg] at hp1
    obtain ⟨rfl, hx1⟩ := hp1
    refine lv_istore hx hb dL_law_197 hl (by decide) rfl (fun ls hl => ?_)
    have hl : lv_has ls 9 [(6, _), (5, _), (4, _), (3, _), (2, _), (1, _), (0, _)] := hl
    refine lv_aload_n hx hb dL_law_199 rfl (lv_at hl 4 rfl) ?_
    refine lv_aload_n hx hb dL_law_200 rfl (lv_at hl 6 rfl) ?_
    refine lv_iload hx hb dL_law_201 (lv_at hl 1 rfl) ?_
    refine lv_iconst (v := nI 1) hx hb dL_law_203 (by decide) ?_
    refine lv_iadd hx hb dL_law_204 ?_
    rw [nI_add]
    refine va_sld hx hb hX hbl hbA hS (vp_in_nI (by omega) (by omega)) dL_law_205 ?_
    refine lv_aload_n hx hb dL_law_206 rfl (lv_at hl 6 rfl) ?_
    refine lv_iload hx hb dL_law_207 (lv_at hl 1 rfl) ?_
    refine lv_iconst (v := nI 2) hx hb dL_law_209 (by decide) ?_
    refine lv_iadd hx hb dL_law_210 ?_
    rw [nI_add]
    refine va_sld hx hb hX hbl hbA hS (vp_in_nI (by omega) (by omega)) dL_law_211 ?_
    refine lv_aload_n hx hb dL_law_212 rfl (lv_at hl 6 rfl) ?_
    refine lv_iload hx hb dL_law_213 (lv_at hl 1 rfl) ?_
    refine lv_iconst (v := nI 3) hx hb dL_law_215 (by decide) ?_
    refine lv_iadd hx hb dL_law_216 ?_
    rw [nI_add]
    refine va_sld hx hb hX hbl hbA hS (vp_in_nI (by omega) (by omega)) dL_law_217 ?_
    refine lv_aload_n hx hb dL_law_218 rfl (lv_at hl 6 rfl) ?_
    refine lv_iload hx hb dL_law_219 (lv_at hl 1 rfl) ?_
    refine lv_iconst (v := nI 4) hx hb dL_law_221 (by decide) ?_
    refine lv_iadd hx hb dL_law_222 ?_
    rw [nI_add]
    refine va_sld hx hb hX hbl hbA hS (vp_in_nI (by omega) (by omega)) dL_law_223 ?_
    refine law_b (XX := (XA k2)) X F hP hO F.2.2.2.2.2.2.1 hS (fun sz => je_letter l k2 F.1.2.2.2.2.2.2.2 _ _ _ _ sz) (fun a U g mk q => XA_blind k2 _ a U g mk q) (fun U hU hW => XA_at F hS hU hW) hl.1 gL_law_X4_letter rfl (by decide +kernel) (n := 4) ⟨Nat.le_of_ble_eq_true rfl, Nat.le_of_ble_eq_true rfl⟩ ⟨Nat.le_of_ble_eq_true rfl, Nat.le_of_ble_eq_true rfl⟩ (Nat.le_of_ble_eq_true rfl) rfl rfl dL_law_224 (fun r2 v2 fs2 H locs hp2 hP hO hS => ?_)
    have hp2 : if isNm (xs (nI (0 + 1)).toNatClampNeg) = true ∧ isNm (xs (nI (0 + 2)).toNatClampNeg) = true ∧ isW (xs (nI (0 + 3)).toNatClampNeg) (nI 15) = true ∧ isW (xs (nI (0 + 4)).toNatClampNeg) (nI 30) = true then v2 = nI 0 ∧ r2 = nI 0 else v2 = nI 1 := hp2
    rw [if_pos (hg)] at hp2
    obtain ⟨rfl, hx2⟩ := hp2
    refine lv_istore hx hb dL_law_227 hl (by decide) rfl (fun ls hl => ?_)
    have hl : lv_has ls 9 [(7, _), (6, _), (5, _), (4, _), (3, _), (2, _), (1, _), (0, _)] := hl
    refine lv_aload_n hx hb dL_law_229 rfl (lv_at hl 5 rfl) ?_
    refine law_t X F hP hO hS hl.1 ⟨Nat.le_of_ble_eq_true rfl, Nat.le_of_ble_eq_true rfl⟩ ⟨Nat.le_of_ble_eq_true rfl, Nat.le_of_ble_eq_true rfl⟩ (Nat.le_of_ble_eq_true rfl) dL_law_230 (fun H locs hO hS => ?_)
    refine lv_iload hx hb dL_law_233 (lv_at hl 1 rfl) ?_
    refine lv_icmp_eq (tgt := 240) hx hb dL_law_235 (by decide) (fun _ => ?_) (fun c1 => absurd rfl c1)
    refine lv_iload hx hb dL_law_240 (lv_at hl 1 rfl) ?_
    refine lv_if_ne (tgt := 257) hx hb dL_law_242 (by decide) (fun c1 => absurd rfl c1) (fun _ => ?_)
    refine lv_aload_n hx hb dL_law_245 rfl (lv_at hl 4 rfl) ?_
    refine lv_iconst (v := nI 0) hx hb dL_law_246 (by decide) ?_
    refine va_lald hx hb F.1.2.2.2.2.1 hO 0 0 rfl rfl (vp_in_nI (by omega) (by omega)) dL_law_247 ?_
    refine lv_iload hx hb dL_law_248 (lv_at hl 0 rfl) ?_
    refine lv_i2l hx hb dL_law_250 rfl ?_
    rw [show f1 (nI 0).toNatClampNeg = r2.toInt64 from hf1.trans (hx1.trans (by rw [hx2]))]
    refine W.lcmp hx hb dL_law_251 ?_
    refine lv_if_eq (tgt := 257) hx hb dL_law_252 (by decide) (fun _ => ?_) (fun c1 => absurd (cmp_s _) c1)
    refine lv_goto (tgt := 2153) hx hb dL_law_257 (by decide) ?_
    exact hend _ _ _ _ _ hS (lv_sub hl [7, 2] rfl) (Nat.le_of_ble_eq_true rfl) (Nat.le_of_ble_eq_true rfl)
  · refine lv_aload_n hx hb dL_law_168 rfl (lv_at hl 4 rfl) ?_
    refine lv_aload_n hx hb dL_law_169 rfl (lv_at hl 5 rfl) ?_
    refine lv_iload hx hb dL_law_170 (lv_at hl 0 rfl) ?_
    refine lv_iconst (v := nI 1) hx hb dL_law_172 (by decide) ?_
    refine lv_iadd hx hb dL_law_173 ?_
    rw [nI_add]
    refine va_sld hx hb hX hbl hbA hS (vp_in_nI (by omega) (by omega)) dL_law_174 ?_
    refine lv_aload_n hx hb dL_law_175 rfl (lv_at hl 5 rfl) ?_
    refine lv_iload hx hb dL_law_176 (lv_at hl 0 rfl) ?_
    refine lv_iconst (v := nI 2) hx hb dL_law_178 (by decide) ?_
    refine lv_iadd hx hb dL_law_179 ?_
    rw [nI_add]
    refine va_sld hx hb hX hbl hbA hS (vp_in_nI (by omega) (by omega)) dL_law_180 ?_
    refine lv_aload_n hx hb dL_law_181 rfl (lv_at hl 5 rfl) ?_
    refine lv_iload hx hb dL_law_182 (lv_at hl 0 rfl) ?_
    refine lv_iconst (v := nI 3) hx hb dL_law_184 (by decide) ?_
    refine lv_iadd hx hb dL_law_185 ?_
    rw [nI_add]
    refine va_sld hx hb hX hbl hbA hS (vp_in_nI (by omega) (by omega)) dL_law_186 ?_
    refine lv_aload_n hx hb dL_law_187 rfl (lv_at hl 5 rfl) ?_
    refine lv_iload hx hb dL_law_188 (lv_at hl 0 rfl) ?_
    refine lv_iconst (v := nI 4) hx hb dL_law_190 (by decide) ?_
    refine lv_iadd hx hb dL_law_191 ?_
    rw [nI_add]
    refine va_sld hx hb hX hbl hbA hS (vp_in_nI (by omega) (by omega)) dL_law_192 ?_
    refine lv_aload_n hx hb dL_law_193 rfl (lv_at hl 2 rfl) ?_
    refine law_w X F h hS (fun f sz => lw_letter l hf k1 F.1.2.2.2.1 ob cL f F.2.2.2.2.1 _ _ _ _ sz) hl.1 gL_law_L_letter rfl (by decide +kernel) (n := 6) ⟨Nat.le_of_ble_eq_true rfl, Nat.le_of_ble_eq_true rfl⟩ ⟨Nat.le_of_ble_eq_true rfl, Nat.le_of_ble_eq_true rfl⟩ (Nat.le_of_ble_eq_true rfl) rfl rfl dL_law_194 (fun r1 x1 f1 H locs hp1 hf1 hO hP hS => ?_)
    rw [if_neg hg] at hp1
    obtain rfl := hp1
    refine lv_istore hx hb dL_law_197 hl (by decide) rfl (fun ls hl => ?_)
    have hl : lv_has ls 9 [(6, _), (5, _), (4, _), (3, _), (2, _), (1, _), (0, _)] := hl
    refine lv_aload_n hx hb dL_law_199 rfl (lv_at hl 4 rfl) ?_
    refine lv_aload_n hx hb dL_law_200 rfl (lv_at hl 6 rfl) ?_
    refine lv_iload hx hb dL_law_201 (lv_at hl 1 rfl) ?_
    refine lv_iconst (v := nI 1) hx hb dL_law_203 (by decide) ?_
    refine lv_iadd hx hb dL_law_204 ?_
    rw [nI_add]
    refine va_sld hx hb hX hbl hbA hS (vp_in_nI (by omega) (by omega)) dL_law_205 ?_
    refine lv_aload_n hx hb dL_law_206 rfl (lv_at hl 6 rfl) ?_
    refine lv_iload hx hb dL_law_207 (lv_at hl 1 rfl) ?_
    refine lv_iconst (v := nI 2) hx hb dL_law_209 (by decide) ?_
    refine lv_iadd hx hb dL_law_210 ?_
    rw [nI_add]
    refine va_sld hx hb hX hbl hbA hS (vp_in_nI (by omega) (by omega)) dL_law_211 ?_
    refine lv_aload_n hx hb dL_law_212 rfl (lv_at hl 6 rfl) ?_
    refine lv_iload hx hb dL_law_213 (lv_at hl 1 rfl) ?_
    refine lv_iconst (v := nI 3) hx hb dL_law_215 (by decide) ?_
    refine lv_iadd hx hb dL_law_216 ?_
    rw [nI_add]
    refine va_sld hx hb hX hbl hbA hS (vp_in_nI (by omega) (by omega)) dL_law_217 ?_
    refine lv_aload_n hx hb dL_law_218 rfl (lv_at hl 6 rfl) ?_
    refine lv_iload hx hb dL_law_219 (lv_at hl 1 rfl) ?_
    refine lv_iconst (v := nI 4) hx hb dL_law_221 (by decide) ?_
    refine lv_iadd hx hb dL_law_222 ?_
    rw [nI_add]
    refine va_sld hx hb hX hbl hbA hS (vp_in_nI (by omega) (by omega)) dL_law_223 ?_
    refine law_b (XX := (XA k2)) X F hP hO F.2.2.2.2.2.2.1 hS (fun sz => je_letter l k2 F.1.2.2.2.2.2.2.2 _ _ _ _ sz) (fun a U g mk q => XA_blind k2 _ a U g mk q) (fun U hU hW => XA_at F hS hU hW) hl.1 gL_law_X4_letter rfl (by decide +kernel) (n := 4) ⟨Nat.le_of_ble_eq_true rfl, Nat.le_of_ble_eq_true rfl⟩ ⟨Nat.le_of_ble_eq_true rfl, Nat.le_of_ble_eq_true rfl⟩ (Nat.le_of_ble_eq_true rfl) rfl rfl dL_law_224 (fun r2 v2 fs2 H locs hp2 hP hO hS => ?_)
    have hp2 : if isNm (xs (nI (0 + 1)).toNatClampNeg) = true ∧ isNm (xs (nI (0 + 2)).toNatClampNeg) = true ∧ isW (xs (nI (0 + 3)).toNatClampNeg) (nI 15) = true ∧ isW (xs (nI (0 + 4)).toNatClampNeg) (nI 30) = true then v2 = nI 0 ∧ r2 = nI 0 else v2 = nI 1 := hp2
    rw [if_neg hg] at hp2
    obtain rfl := hp2
    refine lv_istore hx hb dL_law_227 hl (by decide) rfl (fun ls hl => ?_)
    have hl : lv_has ls 9 [(7, _), (6, _), (5, _), (4, _), (3, _), (2, _), (1, _), (0, _)] := hl
    refine lv_aload_n hx hb dL_law_229 rfl (lv_at hl 5 rfl) ?_
    refine law_t X F hP hO hS hl.1 ⟨Nat.le_of_ble_eq_true rfl, Nat.le_of_ble_eq_true rfl⟩ ⟨Nat.le_of_ble_eq_true rfl, Nat.le_of_ble_eq_true rfl⟩ (Nat.le_of_ble_eq_true rfl) dL_law_230 (fun H locs hO hS => ?_)
    refine lv_iload hx hb dL_law_233 (lv_at hl 1 rfl) ?_
    refine lv_icmp_eq (tgt := 240) hx hb dL_law_235 (by decide) (fun _ => ?_) (fun c1 => absurd rfl c1)
    refine lv_iload hx hb dL_law_240 (lv_at hl 1 rfl) ?_
    refine lv_if_ne (tgt := 257) hx hb dL_law_242 (by decide) (fun _ => ?_) (fun c1 => absurd c1 ne_1)
    refine lv_goto (tgt := 2153) hx hb dL_law_257 (by decide) ?_
    exact hend _ _ _ _ _ hS (lv_sub hl [7, 2] rfl) (Nat.le_of_ble_eq_true rfl) (Nat.le_of_ble_eq_true rfl)
set_option maxHeartbeats 4000000 in
set_option maxRecDepth 100000 in
theorem cs_times {p : Program} {e : Env} {s : State} {m : MethodId} {below : List Frame} {meth : Method} {c : Code} (l : Launch) (hf : l.stackTraces = false) {b : Nat} {xs : Nat → Int32} {k1 k2 : Sk} {ob od : Nat} {cL cD : ClassId} {H : Heap} {locs : List Loc} {ls : Array Slot} {Q : State → Prop} (X : CallFix p m c cL_law 9 s #[Value.ref b] wsL_law RL) (F : LF s k1 k2 ob od cL cD) (hX : va_X b 5 xs s s.heap) (hbl : b < s.heap.size) (hr : meth.sig.returnType = some .boolean ∧ meth.locks = false) (h : LH H k1 k2 ob od cL cD) (hS : va_S (AL s) s.heap H locs) (hl : lv_has ls 9 [(5, .int (nI 0)), (4, .ref od), (3, .ref ob), (2, .ref (k2.2.1 0)), (1, .ref (k1.2.1 0)), (0, .ref b)]) (hend : LEnd p l e s m b below meth c Q) : W p l e room_1 s m #[Value.ref b] below meth c H locs 200 2000 Q (F0 m 260 ls []) := by
  have hx := X.1
  have hb := X.2.1
  have hbA : ¬ AL s b := Nat.not_le.mpr hbl
  refine lv_aload_n hx hb dL_law_260 rfl (lv_at hl 4 rfl) ?_
  refine lv_aload_n hx hb dL_law_261 rfl (lv_at hl 5 rfl) ?_
  refine lv_iload hx hb dL_law_262 (lv_at hl 0 rfl) ?_
  refine lv_iconst (v := nI 1) hx hb dL_law_264 (by decide) ?_
  refine lv_iadd hx hb dL_law_265 ?_
  rw [nI_add]
  refine va_sld hx hb hX hbl hbA hS (vp_in_nI (by omega) (by omega)) dL_law_266 ?_
  refine lv_aload_n hx hb dL_law_267 rfl (lv_at hl 5 rfl) ?_
  refine lv_iload hx hb dL_law_268 (lv_at hl 0 rfl) ?_
  refine lv_iconst (v := nI 2) hx hb dL_law_270 (by decide) ?_
  refine lv_iadd hx hb dL_law_271 ?_
  rw [nI_add]
  refine va_sld hx hb hX hbl hbA hS (vp_in_nI (by omega) (by omega)) dL_law_272 ?_
  refine lv_aload_n hx hb dL_law_273 rfl (lv_at hl 5 rfl) ?_
  refine lv_iload hx hb dL_law_274 (lv_at hl 0 rfl) ?_
  refine lv_iconst (v := nI 3) hx hb dL_law_276 (by decide) ?_
  refine lv_iadd hx hb dL_law_277 ?_
  rw [nI_add]
  refine va_sld hx hb hX hbl hbA hS (vp_in_nI (by omega) (by omega)) dL_law_278 ?_
  refine lv_aload_n hx hb dL_law_279 rfl (lv_at hl 2 rfl) ?_
  refine law_w X F h hS (fun f sz => lw_times l hf k1 F.1.2.2.2.1 ob cL f F.2.2.2.2.1 _ _ _ sz) hl.1 gL_law_L_times rfl (by decide +kernel) (n := 5) ⟨Nat.le_of_ble_eq_true rfl, Nat.le_of_ble_eq_true rfl⟩ ⟨Nat.le_of_ble_eq_true rfl, Nat.le_of_ble_eq_true rfl⟩ (Nat.le_of_ble_eq_true rfl) rfl rfl dL_law_280 (fun r1 x1 f1 H locs hp1 hf1 hO hP hS => ?_)
  obtain rfl : r1 = nI 1 := hp1
  refine lv_istore hx hb dL_law_283 hl (by decide) rfl (fun ls hl => ?_)
  have hl : lv_has ls 9 [(6, _), (5, _), (4, _), (3, _), (2, _), (1, _), (0, _)] := hl
  refine lv_aload_n hx hb dL_law_285 rfl (lv_at hl 4 rfl) ?_
  refine lv_aload_n hx hb dL_law_286 rfl (lv_at hl 6 rfl) ?_
  refine lv_iload hx hb dL_law_287 (lv_at hl 1 rfl) ?_
  refine lv_iconst (v := nI 1) hx hb dL_law_289 (by decide) ?_
  refine lv_iadd hx hb dL_law_290 ?_
  rw [nI_add]
  refine va_sld hx hb hX hbl hbA hS (vp_in_nI (by omega) (by omega)) dL_law_291 ?_
  refine lv_aload_n hx hb dL_law_292 rfl (lv_at hl 6 rfl) ?_
  refine lv_iload hx hb dL_law_293 (lv_at hl 1 rfl) ?_
  refine lv_iconst (v := nI 2) hx hb dL_law_295 (by decide) ?_
  refine lv_iadd hx hb dL_law_296 ?_
  rw [nI_add]
  refine va_sld hx hb hX hbl hbA hS (vp_in_nI (by omega) (by omega)) dL_law_297 ?_
  refine lv_aload_n hx hb dL_law_298 rfl (lv_at hl 6 rfl) ?_
  refine lv_iload hx hb dL_law_299 (lv_at hl 1 rfl) ?_
  refine lv_iconst (v := nI 3) hx hb dL_law_301 (by decide) ?_
  refine lv_iadd hx hb dL_law_302 ?_
  rw [nI_add]
  refine va_sld hx hb hX hbl hbA hS (vp_in_nI (by omega) (by omega)) dL_law_303 ?_
  refine law_m X F hP hO F.2.2.2.2.2.2.1 hS (ct_X4_times l k2 4 IZ F.1.2.2.2.2.2.2.2 ⟨rfl, rfl⟩ _ _ _) hl.1 gL_law_X4_times rfl (by decide +kernel) (n := 3) ⟨Nat.le_of_ble_eq_true rfl, Nat.le_of_ble_eq_true rfl⟩ ⟨Nat.le_of_ble_eq_true rfl, Nat.le_of_ble_eq_true rfl⟩ (Nat.le_of_ble_eq_true rfl) rfl rfl dL_law_304 (fun r2 v2 fs2 H locs hp2 hP hO hS => ?_)
  obtain ⟨I2, hp2, hv2⟩ := hp2
  have hp2 : v2 = nI 1 := hv2.symm.trans hp2
  subst hp2
  refine lv_istore hx hb dL_law_307 hl (by decide) rfl (fun ls hl => ?_)
  have hl : lv_has ls 9 [(7, _), (6, _), (5, _), (4, _), (3, _), (2, _), (1, _), (0, _)] := hl
  refine lv_aload_n hx hb dL_law_309 rfl (lv_at hl 5 rfl) ?_
  refine law_t X F hP hO hS hl.1 ⟨Nat.le_of_ble_eq_true rfl, Nat.le_of_ble_eq_true rfl⟩ ⟨Nat.le_of_ble_eq_true rfl, Nat.le_of_ble_eq_true rfl⟩ (Nat.le_of_ble_eq_true rfl) dL_law_310 (fun H locs hO hS => ?_)
  refine lv_iload hx hb dL_law_313 (lv_at hl 1 rfl) ?_
  refine lv_icmp_eq (tgt := 320) hx hb dL_law_315 (by decide) (fun _ => ?_) (fun c1 => absurd rfl c1)
  refine lv_iload hx hb dL_law_320 (lv_at hl 1 rfl) ?_
  refine lv_if_ne (tgt := 337) hx hb dL_law_322 (by decide) (fun _ => ?_) (fun c1 => absurd c1 ne_1)
  refine lv_goto (tgt := 2153) hx hb dL_law_337 (by decide) ?_
  exact hend _ _ _ _ _ hS (lv_sub hl [7, 2] rfl) (Nat.le_of_ble_eq_true rfl) (Nat.le_of_ble_eq_true rfl)
set_option maxHeartbeats 4000000 in
set_option maxRecDepth 100000 in
theorem cs_master {p : Program} {e : Env} {s : State} {m : MethodId} {below : List Frame} {meth : Method} {c : Code} (l : Launch) (hf : l.stackTraces = false) {b : Nat} {xs : Nat → Int32} {k1 k2 : Sk} {ob od : Nat} {cL cD : ClassId} {H : Heap} {locs : List Loc} {ls : Array Slot} {Q : State → Prop} (X : CallFix p m c cL_law 9 s #[Value.ref b] wsL_law RL) (F : LF s k1 k2 ob od cL cD) (hX : va_X b 5 xs s s.heap) (hbl : b < s.heap.size) (hr : meth.sig.returnType = some .boolean ∧ meth.locks = false) (h : LH H k1 k2 ob od cL cD) (hS : va_S (AL s) s.heap H locs) (hl : lv_has ls 9 [(5, .int (nI 0)), (4, .ref od), (3, .ref ob), (2, .ref (k2.2.1 0)), (1, .ref (k1.2.1 0)), (0, .ref b)]) (hend : LEnd p l e s m b below meth c Q) : W p l e room_1 s m #[Value.ref b] below meth c H locs 200 2000 Q (F0 m 340 ls []) := by
  have hx := X.1
  have hb := X.2.1
  have hbA : ¬ AL s b := Nat.not_le.mpr hbl
  by_cases hz : (xs (nI (0 + 2)).toNatClampNeg) = 0
  · refine lv_aload_n hx hb dL_law_340 rfl (lv_at hl 4 rfl) ?_
    refine lv_aload_n hx hb dL_law_341 rfl (lv_at hl 5 rfl) ?_
    refine lv_iload hx hb dL_law_342 (lv_at hl 0 rfl) ?_
    refine lv_iconst (v := nI 1) hx hb dL_law_344 (by decide) ?_
    refine lv_iadd hx hb dL_law_345 ?_
    rw [nI_add]
    refine va_sld hx hb hX hbl hbA hS (vp_in_nI (by omega) (by omega)) dL_law_346 ?_
    refine lv_aload_n hx hb dL_law_347 rfl (lv_at hl 5 rfl) ?_
    refine lv_iload hx hb dL_law_348 (lv_at hl 0 rfl) ?_
    refine lv_iconst (v := nI 2) hx hb dL_law_350 (by decide) ?_
    refine lv_iadd hx hb dL_law_351 ?_
    rw [nI_add]
    refine va_sld hx hb hX hbl hbA hS (vp_in_nI (by omega) (by omega)) dL_law_352 ?_
    refine lv_if_eq (tgt := 360) hx hb dL_law_353 (by decide) (fun _ => ?_) (fun c1 => absurd hz c1)
    refine lv_iconst (v := nI 0) hx hb dL_law_360 (by decide) ?_
    refine lv_aload_n hx hb dL_law_361 rfl (lv_at hl 5 rfl) ?_
    refine lv_iload hx hb dL_law_362 (lv_at hl 0 rfl) ?_
    refine lv_iconst (v := nI 3) hx hb dL_law_364 (by decide) ?_
    refine lv_iadd hx hb dL_law_365 ?_
    rw [nI_add]
    refine va_sld hx hb hX hbl hbA hS (vp_in_nI (by omega) (by omega)) dL_law_366 ?_
    refine lv_aload_n hx hb dL_law_367 rfl (lv_at hl 2 rfl) ?_
    refine law_w X F h hS (fun f sz => lw_master l hf k1 F.1.2.2.2.1 ob cL f F.2.2.2.2.1 _ _ _ sz) hl.1 gL_law_L_master rfl (by decide +kernel) (n := 5) ⟨Nat.le_of_ble_eq_true rfl, Nat.le_of_ble_eq_true rfl⟩ ⟨Nat.le_of_ble_eq_true rfl, Nat.le_of_ble_eq_true rfl⟩ (Nat.le_of_ble_eq_true rfl) rfl rfl dL_law_368 (fun r1 x1 f1 H locs hp1 hf1 hO hP hS => ?_)
    obtain rfl : r1 = nI 1 := hp1
    refine lv_istore hx hb dL_law_371 hl (by decide) rfl (fun ls hl => ?_)
    have hl : lv_has ls 9 [(6, _), (5, _), (4, _), (3, _), (2, _), (1, _), (0, _)] := hl
    refine lv_aload_n hx hb dL_law_373 rfl (lv_at hl 4 rfl) ?_
    refine lv_aload_n hx hb dL_law_374 rfl (lv_at hl 6 rfl) ?_
    refine lv_iload hx hb dL_law_375 (lv_at hl 1 rfl) ?_
    refine lv_iconst (v := nI 1) hx hb dL_law_377 (by decide) ?_
    refine lv_iadd hx hb dL_law_378 ?_
    rw [nI_add]
    refine va_sld hx hb hX hbl hbA hS (vp_in_nI (by omega) (by omega)) dL_law_379 ?_
    refine lv_aload_n hx hb dL_law_380 rfl (lv_at hl 6 rfl) ?_
    refine lv_iload hx hb dL_law_381 (lv_at hl 1 rfl) ?_
    refine lv_iconst (v := nI 2) hx hb dL_law_383 (by decide) ?_
    refine lv_iadd hx hb dL_law_384 ?_
    rw [nI_add]
    refine va_sld hx hb hX hbl hbA hS (vp_in_nI (by omega) (by omega)) dL_law_385 ?_
    refine lv_if_eq (tgt := 393) hx hb dL_law_386 (by decide) (fun _ => ?_) (fun c1 => absurd hz c1)
    refine lv_iconst (v := nI 0) hx hb dL_law_393 (by decide) ?_
    refine lv_aload_n hx hb dL_law_394 rfl (lv_at hl 6 rfl) ?_
    refine lv_iload hx hb dL_law_395 (lv_at hl 1 rfl) ?_
    refine lv_iconst (v := nI 3) hx hb dL_law_397 (by decide) ?_
    refine lv_iadd hx hb dL_law_398 ?_
    rw [nI_add]
    refine va_sld hx hb hX hbl hbA hS (vp_in_nI (by omega) (by omega)) dL_law_399 ?_
    refine law_m X F hP hO F.2.2.2.2.2.2.1 hS (ct_X4_master l k2 4 IZ F.1.2.2.2.2.2.2.2 ⟨rfl, rfl⟩ _ _ _) hl.1 gL_law_X4_master rfl (by decide +kernel) (n := 3) ⟨Nat.le_of_ble_eq_true rfl, Nat.le_of_ble_eq_true rfl⟩ ⟨Nat.le_of_ble_eq_true rfl, Nat.le_of_ble_eq_true rfl⟩ (Nat.le_of_ble_eq_true rfl) rfl rfl dL_law_400 (fun r2 v2 fs2 H locs hp2 hP hO hS => ?_)
    obtain ⟨I2, hp2, hv2⟩ := hp2
    have hp2 : v2 = nI 1 := hv2.symm.trans hp2
    subst hp2
    refine lv_istore hx hb dL_law_403 hl (by decide) rfl (fun ls hl => ?_)
    have hl : lv_has ls 9 [(7, _), (6, _), (5, _), (4, _), (3, _), (2, _), (1, _), (0, _)] := hl
    refine lv_aload_n hx hb dL_law_405 rfl (lv_at hl 5 rfl) ?_
    refine law_t X F hP hO hS hl.1 ⟨Nat.le_of_ble_eq_true rfl, Nat.le_of_ble_eq_true rfl⟩ ⟨Nat.le_of_ble_eq_true rfl, Nat.le_of_ble_eq_true rfl⟩ (Nat.le_of_ble_eq_true rfl) dL_law_406 (fun H locs hO hS => ?_)
    refine lv_iload hx hb dL_law_409 (lv_at hl 1 rfl) ?_
    refine lv_icmp_eq (tgt := 416) hx hb dL_law_411 (by decide) (fun _ => ?_) (fun c1 => absurd rfl c1)
    refine lv_iload hx hb dL_law_416 (lv_at hl 1 rfl) ?_
    refine lv_if_ne (tgt := 433) hx hb dL_law_418 (by decide) (fun _ => ?_) (fun c1 => absurd c1 ne_1)
    refine lv_goto (tgt := 2153) hx hb dL_law_433 (by decide) ?_
    exact hend _ _ _ _ _ hS (lv_sub hl [7, 2] rfl) (Nat.le_of_ble_eq_true rfl) (Nat.le_of_ble_eq_true rfl)
  · refine lv_aload_n hx hb dL_law_340 rfl (lv_at hl 4 rfl) ?_
    refine lv_aload_n hx hb dL_law_341 rfl (lv_at hl 5 rfl) ?_
    refine lv_iload hx hb dL_law_342 (lv_at hl 0 rfl) ?_
    refine lv_iconst (v := nI 1) hx hb dL_law_344 (by decide) ?_
    refine lv_iadd hx hb dL_law_345 ?_
    rw [nI_add]
    refine va_sld hx hb hX hbl hbA hS (vp_in_nI (by omega) (by omega)) dL_law_346 ?_
    refine lv_aload_n hx hb dL_law_347 rfl (lv_at hl 5 rfl) ?_
    refine lv_iload hx hb dL_law_348 (lv_at hl 0 rfl) ?_
    refine lv_iconst (v := nI 2) hx hb dL_law_350 (by decide) ?_
    refine lv_iadd hx hb dL_law_351 ?_
    rw [nI_add]
    refine va_sld hx hb hX hbl hbA hS (vp_in_nI (by omega) (by omega)) dL_law_352 ?_
    refine lv_if_eq (tgt := 360) hx hb dL_law_353 (by decide) (fun c1 => absurd c1 hz) (fun _ => ?_)
    refine lv_iconst (v := nI 1) hx hb dL_law_356 (by decide) ?_
    refine lv_goto (tgt := 361) hx hb dL_law_357 (by decide) ?_
    refine lv_aload_n hx hb dL_law_361 rfl (lv_at hl 5 rfl) ?_
    refine lv_iload hx hb dL_law_362 (lv_at hl 0 rfl) ?_
    refine lv_iconst (v := nI 3) hx hb dL_law_364 (by decide) ?_
    refine lv_iadd hx hb dL_law_365 ?_
    rw [nI_add]
    refine va_sld hx hb hX hbl hbA hS (vp_in_nI (by omega) (by omega)) dL_law_366 ?_
    refine lv_aload_n hx hb dL_law_367 rfl (lv_at hl 2 rfl) ?_
    refine law_w X F h hS (fun f sz => lw_master l hf k1 F.1.2.2.2.1 ob cL f F.2.2.2.2.1 _ _ _ sz) hl.1 gL_law_L_master rfl (by decide +kernel) (n := 5) ⟨Nat.le_of_ble_eq_true rfl, Nat.le_of_ble_eq_true rfl⟩ ⟨Nat.le_of_ble_eq_true rfl, Nat.le_of_ble_eq_true rfl⟩ (Nat.le_of_ble_eq_true rfl) rfl rfl dL_law_368 (fun r1 x1 f1 H locs hp1 hf1 hO hP hS => ?_)
    obtain rfl : r1 = nI 1 := hp1
    refine lv_istore hx hb dL_law_371 hl (by decide) rfl (fun ls hl => ?_)
    have hl : lv_has ls 9 [(6, _), (5, _), (4, _), (3, _), (2, _), (1, _), (0, _)] := hl
    refine lv_aload_n hx hb dL_law_373 rfl (lv_at hl 4 rfl) ?_
    refine lv_aload_n hx hb dL_law_374 rfl (lv_at hl 6 rfl) ?_
    refine lv_iload hx hb dL_law_375 (lv_at hl 1 rfl) ?_
    refine lv_iconst (v := nI 1) hx hb dL_law_377 (by decide) ?_
    refine lv_iadd hx hb dL_law_378 ?_
    rw [nI_add]
    refine va_sld hx hb hX hbl hbA hS (vp_in_nI (by omega) (by omega)) dL_law_379 ?_
    refine lv_aload_n hx hb dL_law_380 rfl (lv_at hl 6 rfl) ?_
    refine lv_iload hx hb dL_law_381 (lv_at hl 1 rfl) ?_
    refine lv_iconst (v := nI 2) hx hb dL_law_383 (by decide) ?_
    refine lv_iadd hx hb dL_law_384 ?_
    rw [nI_add]
    refine va_sld hx hb hX hbl hbA hS (vp_in_nI (by omega) (by omega)) dL_law_385 ?_
    refine lv_if_eq (tgt := 393) hx hb dL_law_386 (by decide) (fun c1 => absurd c1 hz) (fun _ => ?_)
    refine lv_iconst (v := nI 1) hx hb dL_law_389 (by decide) ?_
    refine lv_goto (tgt := 394) hx hb dL_law_390 (by decide) ?_
    refine lv_aload_n hx hb dL_law_394 rfl (lv_at hl 6 rfl) ?_
    refine lv_iload hx hb dL_law_395 (lv_at hl 1 rfl) ?_
    refine lv_iconst (v := nI 3) hx hb dL_law_397 (by decide) ?_
    refine lv_iadd hx hb dL_law_398 ?_
    rw [nI_add]
    refine va_sld hx hb hX hbl hbA hS (vp_in_nI (by omega) (by omega)) dL_law_399 ?_
    refine law_m X F hP hO F.2.2.2.2.2.2.1 hS (ct_X4_master l k2 4 IZ F.1.2.2.2.2.2.2.2 ⟨rfl, rfl⟩ _ _ _) hl.1 gL_law_X4_master rfl (by decide +kernel) (n := 3) ⟨Nat.le_of_ble_eq_true rfl, Nat.le_of_ble_eq_true rfl⟩ ⟨Nat.le_of_ble_eq_true rfl, Nat.le_of_ble_eq_true rfl⟩ (Nat.le_of_ble_eq_true rfl) rfl rfl dL_law_400 (fun r2 v2 fs2 H locs hp2 hP hO hS => ?_)
    obtain ⟨I2, hp2, hv2⟩ := hp2
    have hp2 : v2 = nI 1 := hv2.symm.trans hp2
    subst hp2
    refine lv_istore hx hb dL_law_403 hl (by decide) rfl (fun ls hl => ?_)
    have hl : lv_has ls 9 [(7, _), (6, _), (5, _), (4, _), (3, _), (2, _), (1, _), (0, _)] := hl
    refine lv_aload_n hx hb dL_law_405 rfl (lv_at hl 5 rfl) ?_
    refine law_t X F hP hO hS hl.1 ⟨Nat.le_of_ble_eq_true rfl, Nat.le_of_ble_eq_true rfl⟩ ⟨Nat.le_of_ble_eq_true rfl, Nat.le_of_ble_eq_true rfl⟩ (Nat.le_of_ble_eq_true rfl) dL_law_406 (fun H locs hO hS => ?_)
    refine lv_iload hx hb dL_law_409 (lv_at hl 1 rfl) ?_
    refine lv_icmp_eq (tgt := 416) hx hb dL_law_411 (by decide) (fun _ => ?_) (fun c1 => absurd rfl c1)
    refine lv_iload hx hb dL_law_416 (lv_at hl 1 rfl) ?_
    refine lv_if_ne (tgt := 433) hx hb dL_law_418 (by decide) (fun _ => ?_) (fun c1 => absurd c1 ne_1)
    refine lv_goto (tgt := 2153) hx hb dL_law_433 (by decide) ?_
    exact hend _ _ _ _ _ hS (lv_sub hl [7, 2] rfl) (Nat.le_of_ble_eq_true rfl) (Nat.le_of_ble_eq_true rfl)
set_option maxHeartbeats 4000000 in
set_option maxRecDepth 100000 in
theorem cs_good {p : Program} {e : Env} {s : State} {m : MethodId} {below : List Frame} {meth : Method} {c : Code} (l : Launch) (hf : l.stackTraces = false) {b : Nat} {xs : Nat → Int32} {k1 k2 : Sk} {ob od : Nat} {cL cD : ClassId} {H : Heap} {locs : List Loc} {ls : Array Slot} {Q : State → Prop} (X : CallFix p m c cL_law 9 s #[Value.ref b] wsL_law RL) (F : LF s k1 k2 ob od cL cD) (hX : va_X b 5 xs s s.heap) (hbl : b < s.heap.size) (hr : meth.sig.returnType = some .boolean ∧ meth.locks = false) (h : LH H k1 k2 ob od cL cD) (hS : va_S (AL s) s.heap H locs) (hl : lv_has ls 9 [(5, .int (nI 0)), (4, .ref od), (3, .ref ob), (2, .ref (k2.2.1 0)), (1, .ref (k1.2.1 0)), (0, .ref b)]) (hend : LEnd p l e s m b below meth c Q) : W p l e room_1 s m #[Value.ref b] below meth c H locs 200 2000 Q (F0 m 436 ls []) := by
  have hx := X.1
  have hb := X.2.1
  have hbA : ¬ AL s b := Nat.not_le.mpr hbl
  refine lv_aload_n hx hb dL_law_436 rfl (lv_at hl 4 rfl) ?_
  refine lv_aload_n hx hb dL_law_437 rfl (lv_at hl 5 rfl) ?_
  refine lv_iload hx hb dL_law_438 (lv_at hl 0 rfl) ?_
  refine lv_iconst (v := nI 1) hx hb dL_law_440 (by decide) ?_
  refine lv_iadd hx hb dL_law_441 ?_
  rw [nI_add]
  refine va_sld hx hb hX hbl hbA hS (vp_in_nI (by omega) (by omega)) dL_law_442 ?_
  refine lv_aload_n hx hb dL_law_443 rfl (lv_at hl 5 rfl) ?_
  refine lv_iload hx hb dL_law_444 (lv_at hl 0 rfl) ?_
  refine lv_iconst (v := nI 2) hx hb dL_law_446 (by decide) ?_
  refine lv_iadd hx hb dL_law_447 ?_
  rw [nI_add]
  refine va_sld hx hb hX hbl hbA hS (vp_in_nI (by omega) (by omega)) dL_law_448 ?_
  refine lv_aload_n hx hb dL_law_449 rfl (lv_at hl 5 rfl) ?_
  refine lv_iload hx hb dL_law_450 (lv_at hl 0 rfl) ?_
  refine lv_iconst (v := nI 3) hx hb dL_law_452 (by decide) ?_
  refine lv_iadd hx hb dL_law_453 ?_
  rw [nI_add]
  refine va_sld hx hb hX hbl hbA hS (vp_in_nI (by omega) (by omega)) dL_law_454 ?_
  refine lv_aload_n hx hb dL_law_455 rfl (lv_at hl 2 rfl) ?_
  refine law_w X F h hS (fun f sz => lw_good l hf k1 F.1.2.2.2.1 ob cL f F.2.2.2.2.1 _ _ _ sz) hl.1 gL_law_L_good rfl (by decide +kernel) (n := 5) ⟨Nat.le_of_ble_eq_true rfl, Nat.le_of_ble_eq_true rfl⟩ ⟨Nat.le_of_ble_eq_true rfl, Nat.le_of_ble_eq_true rfl⟩ (Nat.le_of_ble_eq_true rfl) rfl rfl dL_law_456 (fun r1 x1 f1 H locs hp1 hf1 hO hP hS => ?_)
  obtain rfl : r1 = nI 1 := hp1
  refine lv_istore hx hb dL_law_459 hl (by decide) rfl (fun ls hl => ?_)
  have hl : lv_has ls 9 [(6, _), (5, _), (4, _), (3, _), (2, _), (1, _), (0, _)] := hl
  refine lv_aload_n hx hb dL_law_461 rfl (lv_at hl 4 rfl) ?_
  refine lv_aload_n hx hb dL_law_462 rfl (lv_at hl 6 rfl) ?_
  refine lv_iload hx hb dL_law_463 (lv_at hl 1 rfl) ?_
  refine lv_iconst (v := nI 1) hx hb dL_law_465 (by decide) ?_
  refine lv_iadd hx hb dL_law_466 ?_
  rw [nI_add]
  refine va_sld hx hb hX hbl hbA hS (vp_in_nI (by omega) (by omega)) dL_law_467 ?_
  refine lv_aload_n hx hb dL_law_468 rfl (lv_at hl 6 rfl) ?_
  refine lv_iload hx hb dL_law_469 (lv_at hl 1 rfl) ?_
  refine lv_iconst (v := nI 2) hx hb dL_law_471 (by decide) ?_
  refine lv_iadd hx hb dL_law_472 ?_
  rw [nI_add]
  refine va_sld hx hb hX hbl hbA hS (vp_in_nI (by omega) (by omega)) dL_law_473 ?_
  refine lv_aload_n hx hb dL_law_474 rfl (lv_at hl 6 rfl) ?_
  refine lv_iload hx hb dL_law_475 (lv_at hl 1 rfl) ?_
  refine lv_iconst (v := nI 3) hx hb dL_law_477 (by decide) ?_
  refine lv_iadd hx hb dL_law_478 ?_
  rw [nI_add]
  refine va_sld hx hb hX hbl hbA hS (vp_in_nI (by omega) (by omega)) dL_law_479 ?_
  refine law_m X F hP hO F.2.2.2.2.2.2.1 hS (ct_X4_good l k2 4 IZ F.1.2.2.2.2.2.2.2 ⟨rfl, rfl⟩ _ _ _) hl.1 gL_law_X4_good rfl (by decide +kernel) (n := 3) ⟨Nat.le_of_ble_eq_true rfl, Nat.le_of_ble_eq_true rfl⟩ ⟨Nat.le_of_ble_eq_true rfl, Nat.le_of_ble_eq_true rfl⟩ (Nat.le_of_ble_eq_true rfl) rfl rfl dL_law_480 (fun r2 v2 fs2 H locs hp2 hP hO hS => ?_)
  obtain ⟨I2, hp2, hv2⟩ := hp2
  have hp2 : v2 = nI 1 := hv2.symm.trans hp2
  subst hp2
  refine lv_istore hx hb dL_law_483 hl (by decide) rfl (fun ls hl => ?_)
  have hl : lv_has ls 9 [(7, _), (6, _), (5, _), (4, _), (3, _), (2, _), (1, _), (0, _)] := hl
  refine lv_aload_n hx hb dL_law_485 rfl (lv_at hl 5 rfl) ?_
  refine law_t X F hP hO hS hl.1 ⟨Nat.le_of_ble_eq_true rfl, Nat.le_of_ble_eq_true rfl⟩ ⟨Nat.le_of_ble_eq_true rfl, Nat.le_of_ble_eq_true rfl⟩ (Nat.le_of_ble_eq_true rfl) dL_law_486 (fun H locs hO hS => ?_)
  refine lv_iload hx hb dL_law_489 (lv_at hl 1 rfl) ?_
  refine lv_icmp_eq (tgt := 496) hx hb dL_law_491 (by decide) (fun _ => ?_) (fun c1 => absurd rfl c1)
  refine lv_iload hx hb dL_law_496 (lv_at hl 1 rfl) ?_
  refine lv_if_ne (tgt := 513) hx hb dL_law_498 (by decide) (fun _ => ?_) (fun c1 => absurd c1 ne_1)
  refine lv_goto (tgt := 2153) hx hb dL_law_513 (by decide) ?_
  exact hend _ _ _ _ _ hS (lv_sub hl [7, 2] rfl) (Nat.le_of_ble_eq_true rfl) (Nat.le_of_ble_eq_true rfl)
set_option maxHeartbeats 4000000 in
set_option maxRecDepth 100000 in
theorem cs_sign {p : Program} {e : Env} {s : State} {m : MethodId} {below : List Frame} {meth : Method} {c : Code} (l : Launch) (hf : l.stackTraces = false) {b : Nat} {xs : Nat → Int32} {k1 k2 : Sk} {ob od : Nat} {cL cD : ClassId} {H : Heap} {locs : List Loc} {ls : Array Slot} {Q : State → Prop} (X : CallFix p m c cL_law 9 s #[Value.ref b] wsL_law RL) (F : LF s k1 k2 ob od cL cD) (hX : va_X b 5 xs s s.heap) (hbl : b < s.heap.size) (hr : meth.sig.returnType = some .boolean ∧ meth.locks = false) (h : LH H k1 k2 ob od cL cD) (hS : va_S (AL s) s.heap H locs) (hl : lv_has ls 9 [(5, .int (nI 0)), (4, .ref od), (3, .ref ob), (2, .ref (k2.2.1 0)), (1, .ref (k1.2.1 0)), (0, .ref b)]) (hend : LEnd p l e s m b below meth c Q) : W p l e room_1 s m #[Value.ref b] below meth c H locs 200 2000 Q (F0 m 516 ls []) := by
  have hx := X.1
  have hb := X.2.1
  have hbA : ¬ AL s b := Nat.not_le.mpr hbl
  refine lv_aload_n hx hb dL_law_516 rfl (lv_at hl 4 rfl) ?_
  refine lv_aload_n hx hb dL_law_517 rfl (lv_at hl 5 rfl) ?_
  refine lv_iload hx hb dL_law_518 (lv_at hl 0 rfl) ?_
  refine lv_iconst (v := nI 1) hx hb dL_law_520 (by decide) ?_
  refine lv_iadd hx hb dL_law_521 ?_
  rw [nI_add]
  refine va_sld hx hb hX hbl hbA hS (vp_in_nI (by omega) (by omega)) dL_law_522 ?_
  refine lv_aload_n hx hb dL_law_523 rfl (lv_at hl 5 rfl) ?_
  refine lv_iload hx hb dL_law_524 (lv_at hl 0 rfl) ?_
  refine lv_iconst (v := nI 2) hx hb dL_law_526 (by decide) ?_
  refine lv_iadd hx hb dL_law_527 ?_
  rw [nI_add]
  refine va_sld hx hb hX hbl hbA hS (vp_in_nI (by omega) (by omega)) dL_law_528 ?_
  refine lv_aload_n hx hb dL_law_529 rfl (lv_at hl 2 rfl) ?_
  refine law_w X F h hS (fun f sz => lw_sign l hf k1 F.1.2.2.2.1 ob cL f F.2.2.2.2.1 _ _ sz) hl.1 gL_law_L_sign rfl (by decide +kernel) (n := 4) ⟨Nat.le_of_ble_eq_true rfl, Nat.le_of_ble_eq_true rfl⟩ ⟨Nat.le_of_ble_eq_true rfl, Nat.le_of_ble_eq_true rfl⟩ (Nat.le_of_ble_eq_true rfl) rfl rfl dL_law_530 (fun r1 x1 f1 H locs hp1 hf1 hO hP hS => ?_)
  obtain rfl : r1 = nI 1 := hp1
  refine lv_istore hx hb dL_law_533 hl (by decide) rfl (fun ls hl => ?_)
  have hl : lv_has ls 9 [(6, _), (5, _), (4, _), (3, _), (2, _), (1, _), (0, _)] := hl
  refine lv_aload_n hx hb dL_law_535 rfl (lv_at hl 4 rfl) ?_
  refine lv_aload_n hx hb dL_law_536 rfl (lv_at hl 6 rfl) ?_
  refine lv_iload hx hb dL_law_537 (lv_at hl 1 rfl) ?_
  refine lv_iconst (v := nI 1) hx hb dL_law_539 (by decide) ?_
  refine lv_iadd hx hb dL_law_540 ?_
  rw [nI_add]
  refine va_sld hx hb hX hbl hbA hS (vp_in_nI (by omega) (by omega)) dL_law_541 ?_
  refine lv_aload_n hx hb dL_law_542 rfl (lv_at hl 6 rfl) ?_
  refine lv_iload hx hb dL_law_543 (lv_at hl 1 rfl) ?_
  refine lv_iconst (v := nI 2) hx hb dL_law_545 (by decide) ?_
  refine lv_iadd hx hb dL_law_546 ?_
  rw [nI_add]
  refine va_sld hx hb hX hbl hbA hS (vp_in_nI (by omega) (by omega)) dL_law_547 ?_
  refine law_m X F hP hO F.2.2.2.2.2.2.1 hS (ct_X4_sign l k2 4 IZ F.1.2.2.2.2.2.2.2 ⟨rfl, rfl⟩ _ _) hl.1 gL_law_X4_sign rfl (by decide +kernel) (n := 2) ⟨Nat.le_of_ble_eq_true rfl, Nat.le_of_ble_eq_true rfl⟩ ⟨Nat.le_of_ble_eq_true rfl, Nat.le_of_ble_eq_true rfl⟩ (Nat.le_of_ble_eq_true rfl) rfl rfl dL_law_548 (fun r2 v2 fs2 H locs hp2 hP hO hS => ?_)
  obtain ⟨I2, hp2, hv2⟩ := hp2
  have hp2 : v2 = nI 1 := hv2.symm.trans hp2
  subst hp2
  refine lv_istore hx hb dL_law_551 hl (by decide) rfl (fun ls hl => ?_)
  have hl : lv_has ls 9 [(7, _), (6, _), (5, _), (4, _), (3, _), (2, _), (1, _), (0, _)] := hl
  refine lv_aload_n hx hb dL_law_553 rfl (lv_at hl 5 rfl) ?_
  refine law_t X F hP hO hS hl.1 ⟨Nat.le_of_ble_eq_true rfl, Nat.le_of_ble_eq_true rfl⟩ ⟨Nat.le_of_ble_eq_true rfl, Nat.le_of_ble_eq_true rfl⟩ (Nat.le_of_ble_eq_true rfl) dL_law_554 (fun H locs hO hS => ?_)
  refine lv_iload hx hb dL_law_557 (lv_at hl 1 rfl) ?_
  refine lv_icmp_eq (tgt := 564) hx hb dL_law_559 (by decide) (fun _ => ?_) (fun c1 => absurd rfl c1)
  refine lv_iload hx hb dL_law_564 (lv_at hl 1 rfl) ?_
  refine lv_if_ne (tgt := 581) hx hb dL_law_566 (by decide) (fun _ => ?_) (fun c1 => absurd c1 ne_1)
  refine lv_goto (tgt := 2153) hx hb dL_law_581 (by decide) ?_
  exact hend _ _ _ _ _ hS (lv_sub hl [7, 2] rfl) (Nat.le_of_ble_eq_true rfl) (Nat.le_of_ble_eq_true rfl)
set_option maxHeartbeats 4000000 in
set_option maxRecDepth 100000 in
theorem cs_anchor {p : Program} {e : Env} {s : State} {m : MethodId} {below : List Frame} {meth : Method} {c : Code} (l : Launch) (hf : l.stackTraces = false) {b : Nat} {xs : Nat → Int32} {k1 k2 : Sk} {ob od : Nat} {cL cD : ClassId} {H : Heap} {locs : List Loc} {ls : Array Slot} {Q : State → Prop} (X : CallFix p m c cL_law 9 s #[Value.ref b] wsL_law RL) (F : LF s k1 k2 ob od cL cD) (hX : va_X b 5 xs s s.heap) (hbl : b < s.heap.size) (hr : meth.sig.returnType = some .boolean ∧ meth.locks = false) (h : LH H k1 k2 ob od cL cD) (hS : va_S (AL s) s.heap H locs) (hl : lv_has ls 9 [(5, .int (nI 0)), (4, .ref od), (3, .ref ob), (2, .ref (k2.2.1 0)), (1, .ref (k1.2.1 0)), (0, .ref b)]) (hend : LEnd p l e s m b below meth c Q) : W p l e room_1 s m #[Value.ref b] below meth c H locs 200 2000 Q (F0 m 584 ls []) := by
  have hx := X.1
  have hb := X.2.1
  have hbA : ¬ AL s b := Nat.not_le.mpr hbl
  by_cases hz : (xs (nI (0 + 2)).toNatClampNeg) = 0
  · refine lv_aload_n hx hb dL_law_584 rfl (lv_at hl 4 rfl) ?_
    refine lv_aload_n hx hb dL_law_585 rfl (lv_at hl 5 rfl) ?_
    refine lv_iload hx hb dL_law_586 (lv_at hl 0 rfl) ?_
    refine lv_iconst (v := nI 1) hx hb dL_law_588 (by decide) ?_
    refine lv_iadd hx hb dL_law_589 ?_
    rw [nI_add]
    refine va_sld hx hb hX hbl hbA hS (vp_in_nI (by omega) (by omega)) dL_law_590 ?_
    refine lv_aload_n hx hb dL_law_591 rfl (lv_at hl 5 rfl) ?_
    refine lv_iload hx hb dL_law_592 (lv_at hl 0 rfl) ?_
    refine lv_iconst (v := nI 2) hx hb dL_law_594 (by decide) ?_
    refine lv_iadd hx hb dL_law_595 ?_
    rw [nI_add]
    refine va_sld hx hb hX hbl hbA hS (vp_in_nI (by omega) (by omega)) dL_law_596 ?_
    refine lv_if_eq (tgt := 604) hx hb dL_law_597 (by decide) (fun _ => ?_) (fun c1 => absurd hz c1)
    refine lv_iconst (v := nI 0) hx hb dL_law_604 (by decide) ?_
    refine lv_aload_n hx hb dL_law_605 rfl (lv_at hl 2 rfl) ?_
    refine law_w X F h hS (fun f sz => lw_anchor l hf k1 F.1.2.2.2.1 ob cL f F.2.2.2.2.1 _ _ sz) hl.1 gL_law_L_anchor rfl (by decide +kernel) (n := 4) ⟨Nat.le_of_ble_eq_true rfl, Nat.le_of_ble_eq_true rfl⟩ ⟨Nat.le_of_ble_eq_true rfl, Nat.le_of_ble_eq_true rfl⟩ (Nat.le_of_ble_eq_true rfl) rfl rfl dL_law_606 (fun r1 x1 f1 H locs hp1 hf1 hO hP hS => ?_)
    obtain rfl : r1 = nI 1 := hp1
    refine lv_istore hx hb dL_law_609 hl (by decide) rfl (fun ls hl => ?_)
    have hl : lv_has ls 9 [(6, _), (5, _), (4, _), (3, _), (2, _), (1, _), (0, _)] := hl
    refine lv_aload_n hx hb dL_law_611 rfl (lv_at hl 4 rfl) ?_
    refine lv_aload_n hx hb dL_law_612 rfl (lv_at hl 6 rfl) ?_
    refine lv_iload hx hb dL_law_613 (lv_at hl 1 rfl) ?_
    refine lv_iconst (v := nI 1) hx hb dL_law_615 (by decide) ?_
    refine lv_iadd hx hb dL_law_616 ?_
    rw [nI_add]
    refine va_sld hx hb hX hbl hbA hS (vp_in_nI (by omega) (by omega)) dL_law_617 ?_
    refine lv_aload_n hx hb dL_law_618 rfl (lv_at hl 6 rfl) ?_
    refine lv_iload hx hb dL_law_619 (lv_at hl 1 rfl) ?_
    refine lv_iconst (v := nI 2) hx hb dL_law_621 (by decide) ?_
    refine lv_iadd hx hb dL_law_622 ?_
    rw [nI_add]
    refine va_sld hx hb hX hbl hbA hS (vp_in_nI (by omega) (by omega)) dL_law_623 ?_
    refine lv_if_eq (tgt := 631) hx hb dL_law_624 (by decide) (fun _ => ?_) (fun c1 => absurd hz c1)
    refine lv_iconst (v := nI 0) hx hb dL_law_631 (by decide) ?_
    refine law_m X F hP hO F.2.2.2.2.2.2.1 hS (ct_X4_anchor l k2 4 IZ F.1.2.2.2.2.2.2.2 ⟨rfl, rfl⟩ _ _) hl.1 gL_law_X4_anchor rfl (by decide +kernel) (n := 2) ⟨Nat.le_of_ble_eq_true rfl, Nat.le_of_ble_eq_true rfl⟩ ⟨Nat.le_of_ble_eq_true rfl, Nat.le_of_ble_eq_true rfl⟩ (Nat.le_of_ble_eq_true rfl) rfl rfl dL_law_632 (fun r2 v2 fs2 H locs hp2 hP hO hS => ?_)
    obtain ⟨I2, hp2, hv2⟩ := hp2
    have hp2 : v2 = nI 1 := hv2.symm.trans hp2
    subst hp2
    refine lv_istore hx hb dL_law_635 hl (by decide) rfl (fun ls hl => ?_)
    have hl : lv_has ls 9 [(7, _), (6, _), (5, _), (4, _), (3, _), (2, _), (1, _), (0, _)] := hl
    refine lv_aload_n hx hb dL_law_637 rfl (lv_at hl 5 rfl) ?_
    refine law_t X F hP hO hS hl.1 ⟨Nat.le_of_ble_eq_true rfl, Nat.le_of_ble_eq_true rfl⟩ ⟨Nat.le_of_ble_eq_true rfl, Nat.le_of_ble_eq_true rfl⟩ (Nat.le_of_ble_eq_true rfl) dL_law_638 (fun H locs hO hS => ?_)
    refine lv_iload hx hb dL_law_641 (lv_at hl 1 rfl) ?_
    refine lv_icmp_eq (tgt := 648) hx hb dL_law_643 (by decide) (fun _ => ?_) (fun c1 => absurd rfl c1)
    refine lv_iload hx hb dL_law_648 (lv_at hl 1 rfl) ?_
    refine lv_if_ne (tgt := 665) hx hb dL_law_650 (by decide) (fun _ => ?_) (fun c1 => absurd c1 ne_1)
    refine lv_goto (tgt := 2153) hx hb dL_law_665 (by decide) ?_
    exact hend _ _ _ _ _ hS (lv_sub hl [7, 2] rfl) (Nat.le_of_ble_eq_true rfl) (Nat.le_of_ble_eq_true rfl)
  · refine lv_aload_n hx hb dL_law_584 rfl (lv_at hl 4 rfl) ?_
    refine lv_aload_n hx hb dL_law_585 rfl (lv_at hl 5 rfl) ?_
    refine lv_iload hx hb dL_law_586 (lv_at hl 0 rfl) ?_
    refine lv_iconst (v := nI 1) hx hb dL_law_588 (by decide) ?_
    refine lv_iadd hx hb dL_law_589 ?_
    rw [nI_add]
    refine va_sld hx hb hX hbl hbA hS (vp_in_nI (by omega) (by omega)) dL_law_590 ?_
    refine lv_aload_n hx hb dL_law_591 rfl (lv_at hl 5 rfl) ?_
    refine lv_iload hx hb dL_law_592 (lv_at hl 0 rfl) ?_
    refine lv_iconst (v := nI 2) hx hb dL_law_594 (by decide) ?_
    refine lv_iadd hx hb dL_law_595 ?_
    rw [nI_add]
    refine va_sld hx hb hX hbl hbA hS (vp_in_nI (by omega) (by omega)) dL_law_596 ?_
    refine lv_if_eq (tgt := 604) hx hb dL_law_597 (by decide) (fun c1 => absurd c1 hz) (fun _ => ?_)
    refine lv_iconst (v := nI 1) hx hb dL_law_600 (by decide) ?_
    refine lv_goto (tgt := 605) hx hb dL_law_601 (by decide) ?_
    refine lv_aload_n hx hb dL_law_605 rfl (lv_at hl 2 rfl) ?_
    refine law_w X F h hS (fun f sz => lw_anchor l hf k1 F.1.2.2.2.1 ob cL f F.2.2.2.2.1 _ _ sz) hl.1 gL_law_L_anchor rfl (by decide +kernel) (n := 4) ⟨Nat.le_of_ble_eq_true rfl, Nat.le_of_ble_eq_true rfl⟩ ⟨Nat.le_of_ble_eq_true rfl, Nat.le_of_ble_eq_true rfl⟩ (Nat.le_of_ble_eq_true rfl) rfl rfl dL_law_606 (fun r1 x1 f1 H locs hp1 hf1 hO hP hS => ?_)
    obtain rfl : r1 = nI 1 := hp1
    refine lv_istore hx hb dL_law_609 hl (by decide) rfl (fun ls hl => ?_)
    have hl : lv_has ls 9 [(6, _), (5, _), (4, _), (3, _), (2, _), (1, _), (0, _)] := hl
    refine lv_aload_n hx hb dL_law_611 rfl (lv_at hl 4 rfl) ?_
    refine lv_aload_n hx hb dL_law_612 rfl (lv_at hl 6 rfl) ?_
    refine lv_iload hx hb dL_law_613 (lv_at hl 1 rfl) ?_
    refine lv_iconst (v := nI 1) hx hb dL_law_615 (by decide) ?_
    refine lv_iadd hx hb dL_law_616 ?_
    rw [nI_add]
    refine va_sld hx hb hX hbl hbA hS (vp_in_nI (by omega) (by omega)) dL_law_617 ?_
    refine lv_aload_n hx hb dL_law_618 rfl (lv_at hl 6 rfl) ?_
    refine lv_iload hx hb dL_law_619 (lv_at hl 1 rfl) ?_
    refine lv_iconst (v := nI 2) hx hb dL_law_621 (by decide) ?_
    refine lv_iadd hx hb dL_law_622 ?_
    rw [nI_add]
    refine va_sld hx hb hX hbl hbA hS (vp_in_nI (by omega) (by omega)) dL_law_623 ?_
    refine lv_if_eq (tgt := 631) hx hb dL_law_624 (by decide) (fun c1 => absurd c1 hz) (fun _ => ?_)
    refine lv_iconst (v := nI 1) hx hb dL_law_627 (by decide) ?_
    refine lv_goto (tgt := 632) hx hb dL_law_628 (by decide) ?_
    refine law_m X F hP hO F.2.2.2.2.2.2.1 hS (ct_X4_anchor l k2 4 IZ F.1.2.2.2.2.2.2.2 ⟨rfl, rfl⟩ _ _) hl.1 gL_law_X4_anchor rfl (by decide +kernel) (n := 2) ⟨Nat.le_of_ble_eq_true rfl, Nat.le_of_ble_eq_true rfl⟩ ⟨Nat.le_of_ble_eq_true rfl, Nat.le_of_ble_eq_true rfl⟩ (Nat.le_of_ble_eq_true rfl) rfl rfl dL_law_632 (fun r2 v2 fs2 H locs hp2 hP hO hS => ?_)
    obtain ⟨I2, hp2, hv2⟩ := hp2
    have hp2 : v2 = nI 1 := hv2.symm.trans hp2
    subst hp2
    refine lv_istore hx hb dL_law_635 hl (by decide) rfl (fun ls hl => ?_)
    have hl : lv_has ls 9 [(7, _), (6, _), (5, _), (4, _), (3, _), (2, _), (1, _), (0, _)] := hl
    refine lv_aload_n hx hb dL_law_637 rfl (lv_at hl 5 rfl) ?_
    refine law_t X F hP hO hS hl.1 ⟨Nat.le_of_ble_eq_true rfl, Nat.le_of_ble_eq_true rfl⟩ ⟨Nat.le_of_ble_eq_true rfl, Nat.le_of_ble_eq_true rfl⟩ (Nat.le_of_ble_eq_true rfl) dL_law_638 (fun H locs hO hS => ?_)
    refine lv_iload hx hb dL_law_641 (lv_at hl 1 rfl) ?_
    refine lv_icmp_eq (tgt := 648) hx hb dL_law_643 (by decide) (fun _ => ?_) (fun c1 => absurd rfl c1)
    refine lv_iload hx hb dL_law_648 (lv_at hl 1 rfl) ?_
    refine lv_if_ne (tgt := 665) hx hb dL_law_650 (by decide) (fun _ => ?_) (fun c1 => absurd c1 ne_1)
    refine lv_goto (tgt := 2153) hx hb dL_law_665 (by decide) ?_
    exact hend _ _ _ _ _ hS (lv_sub hl [7, 2] rfl) (Nat.le_of_ble_eq_true rfl) (Nat.le_of_ble_eq_true rfl)
set_option maxHeartbeats 4000000 in
set_option maxRecDepth 100000 in
theorem cs_list {p : Program} {e : Env} {s : State} {m : MethodId} {below : List Frame} {meth : Method} {c : Code} (l : Launch) (hf : l.stackTraces = false) {b : Nat} {xs : Nat → Int32} {k1 k2 : Sk} {ob od : Nat} {cL cD : ClassId} {H : Heap} {locs : List Loc} {ls : Array Slot} {Q : State → Prop} (X : CallFix p m c cL_law 9 s #[Value.ref b] wsL_law RL) (F : LF s k1 k2 ob od cL cD) (hX : va_X b 5 xs s s.heap) (hbl : b < s.heap.size) (hr : meth.sig.returnType = some .boolean ∧ meth.locks = false) (h : LH H k1 k2 ob od cL cD) (hS : va_S (AL s) s.heap H locs) (hl : lv_has ls 9 [(5, .int (nI 0)), (4, .ref od), (3, .ref ob), (2, .ref (k2.2.1 0)), (1, .ref (k1.2.1 0)), (0, .ref b)]) (hend : LEnd p l e s m b below meth c Q) : W p l e room_1 s m #[Value.ref b] below meth c H locs 200 2000 Q (F0 m 668 ls []) := by
  have hx := X.1
  have hb := X.2.1
  have hbA : ¬ AL s b := Nat.not_le.mpr hbl
  by_cases hg : isNm (xs (nI (0 + 1)).toNatClampNeg) = true ∧ isW (xs (nI (0 + 2)).toNatClampNeg) (nI 999) = true ∧ isW (xs (nI (0 + 3)).toNatClampNeg) (nI 999) = true ∧ (xs (nI (0 + 2)).toNatClampNeg) ≤ (xs (nI (0 + 3)).toNatClampNeg)
  · refine lv_aload_n hx hb dL_law_668 rfl (lv_at hl 4 rfl) ?_
    refine lv_aload_n hx hb dL_law_669 rfl (lv_at hl 5 rfl) ?_
    refine lv_iload hx hb dL_law_670 (lv_at hl 0 rfl) ?_
    refine lv_iconst (v := nI 1) hx hb dL_law_672 (by decide) ?_
    refine lv_iadd hx hb dL_law_673 ?_
    rw [nI_add]
    refine va_sld hx hb hX hbl hbA hS (vp_in_nI (by omega) (by omega)) dL_law_674 ?_
    refine lv_aload_n hx hb dL_law_675 rfl (lv_at hl 5 rfl) ?_
    refine lv_iload hx hb dL_law_676 (lv_at hl 0 rfl) ?_
    refine lv_iconst (v := nI 2) hx hb dL_law_678 (by decide) ?_
    refine lv_iadd hx hb dL_law_679 ?_
    rw [nI_add]
    refine va_sld hx hb hX hbl hbA hS (vp_in_nI (by omega) (by omega)) dL_law_680 ?_
    refine lv_aload_n hx hb dL_law_681 rfl (lv_at hl 5 rfl) ?_
    refine lv_iload hx hb dL_law_682 (lv_at hl 0 rfl) ?_
    refine lv_iconst (v := nI 3) hx hb dL_law_684 (by decide) ?_
    refine lv_iadd hx hb dL_law_685 ?_
    rw [nI_add]
    refine va_sld hx hb hX hbl hbA hS (vp_in_nI (by omega) (by omega)) dL_law_686 ?_
    refine lv_aload_n hx hb dL_law_687 rfl (lv_at hl 2 rfl) ?_
    refine law_w X F h hS (fun f sz => lw_list l hf k1 F.1.2.2.2.1 ob cL f F.2.2.2.2.1 _ _ _ sz) hl.1 gL_law_L_list rfl (by decide +kernel) (n := 5) ⟨Nat.le_of_ble_eq_true rfl, Nat.le_of_ble_eq_true rfl⟩ ⟨Nat.le_of_ble_eq_true rfl, Nat.le_of_ble_eq_true rfl⟩ (Nat.le_of_ble_eq_true rfl) rfl rfl dL_law_688 (fun r1 x1 f1 H locs hp1 hf1 hO hP hS => ?_)
    rw [if_pos hg] at hp1
    obtain ⟨rfl, hx1⟩ := hp1
    refine lv_istore hx hb dL_law_691 hl (by decide) rfl (fun ls hl => ?_)
    have hl : lv_has ls 9 [(6, _), (5, _), (4, _), (3, _), (2, _), (1, _), (0, _)] := hl
    refine lv_aload_n hx hb dL_law_693 rfl (lv_at hl 4 rfl) ?_
    refine lv_aload_n hx hb dL_law_694 rfl (lv_at hl 6 rfl) ?_
    refine lv_iload hx hb dL_law_695 (lv_at hl 1 rfl) ?_
    refine lv_iconst (v := nI 1) hx hb dL_law_697 (by decide) ?_
    refine lv_iadd hx hb dL_law_698 ?_
    rw [nI_add]
    refine va_sld hx hb hX hbl hbA hS (vp_in_nI (by omega) (by omega)) dL_law_699 ?_
    refine lv_aload_n hx hb dL_law_700 rfl (lv_at hl 6 rfl) ?_
    refine lv_iload hx hb dL_law_701 (lv_at hl 1 rfl) ?_
    refine lv_iconst (v := nI 2) hx hb dL_law_703 (by decide) ?_
    refine lv_iadd hx hb dL_law_704 ?_
    rw [nI_add]
    refine va_sld hx hb hX hbl hbA hS (vp_in_nI (by omega) (by omega)) dL_law_705 ?_
    refine lv_aload_n hx hb dL_law_706 rfl (lv_at hl 6 rfl) ?_
    refine lv_iload hx hb dL_law_707 (lv_at hl 1 rfl) ?_
    refine lv_iconst (v := nI 3) hx hb dL_law_709 (by decide) ?_
    refine lv_iadd hx hb dL_law_710 ?_
    rw [nI_add]
    refine va_sld hx hb hX hbl hbA hS (vp_in_nI (by omega) (by omega)) dL_law_711 ?_
    refine law_b (XX := (XA k2)) X F hP hO F.2.2.2.2.2.2.1 hS (fun sz => je_list l k2 F.1.2.2.2.2.2.2.2 _ _ _ sz) (fun a U g mk q => XA_blind k2 _ a U g mk q) (fun U hU hW => XA_at F hS hU hW) hl.1 gL_law_X4_list rfl (by decide +kernel) (n := 3) ⟨Nat.le_of_ble_eq_true rfl, Nat.le_of_ble_eq_true rfl⟩ ⟨Nat.le_of_ble_eq_true rfl, Nat.le_of_ble_eq_true rfl⟩ (Nat.le_of_ble_eq_true rfl) rfl rfl dL_law_712 (fun r2 v2 fs2 H locs hp2 hP hO hS => ?_)
    rw [if_pos (⟨hg.1, hg.2.1, hg.2.2.1, fun z => absurd hg.2.2.2 (Int32.not_le.mpr z)⟩)] at hp2
    obtain ⟨rfl, hx2⟩ := hp2
    refine lv_istore hx hb dL_law_715 hl (by decide) rfl (fun ls hl => ?_)
    have hl : lv_has ls 9 [(7, _), (6, _), (5, _), (4, _), (3, _), (2, _), (1, _), (0, _)] := hl
    refine lv_aload_n hx hb dL_law_717 rfl (lv_at hl 5 rfl) ?_
    refine law_t X F hP hO hS hl.1 ⟨Nat.le_of_ble_eq_true rfl, Nat.le_of_ble_eq_true rfl⟩ ⟨Nat.le_of_ble_eq_true rfl, Nat.le_of_ble_eq_true rfl⟩ (Nat.le_of_ble_eq_true rfl) dL_law_718 (fun H locs hO hS => ?_)
    refine lv_iload hx hb dL_law_721 (lv_at hl 1 rfl) ?_
    refine lv_icmp_eq (tgt := 728) hx hb dL_law_723 (by decide) (fun _ => ?_) (fun c1 => absurd rfl c1)
    refine lv_iload hx hb dL_law_728 (lv_at hl 1 rfl) ?_
    refine lv_if_ne (tgt := 745) hx hb dL_law_730 (by decide) (fun c1 => absurd rfl c1) (fun _ => ?_)
    refine lv_aload_n hx hb dL_law_733 rfl (lv_at hl 4 rfl) ?_
    refine lv_iconst (v := nI 0) hx hb dL_law_734 (by decide) ?_
    refine va_lald hx hb F.1.2.2.2.2.1 hO 0 0 rfl rfl (vp_in_nI (by omega) (by omega)) dL_law_735 ?_
    refine lv_iload hx hb dL_law_736 (lv_at hl 0 rfl) ?_
    refine lv_i2l hx hb dL_law_738 rfl ?_
    rw [show f1 (nI 0).toNatClampNeg = r2.toInt64 from hf1.trans (hx1.trans (by rw [hx2]))]
    refine W.lcmp hx hb dL_law_739 ?_
    refine lv_if_eq (tgt := 745) hx hb dL_law_740 (by decide) (fun _ => ?_) (fun c1 => absurd (cmp_s _) c1)
    refine lv_goto (tgt := 2153) hx hb dL_law_745 (by decide) ?_
    exact hend _ _ _ _ _ hS (lv_sub hl [7, 2] rfl) (Nat.le_of_ble_eq_true rfl) (Nat.le_of_ble_eq_true rfl)
  · refine lv_aload_n hx hb dL_law_668 rfl (lv_at hl 4 rfl) ?_
    refine lv_aload_n hx hb dL_law_669 rfl (lv_at hl 5 rfl) ?_
    refine lv_iload hx hb dL_law_670 (lv_at hl 0 rfl) ?_
    refine lv_iconst (v := nI 1) hx hb dL_law_672 (by decide) ?_
    refine lv_iadd hx hb dL_law_673 ?_
    rw [nI_add]
    refine va_sld hx hb hX hbl hbA hS (vp_in_nI (by omega) (by omega)) dL_law_674 ?_
    refine lv_aload_n hx hb dL_law_675 rfl (lv_at hl 5 rfl) ?_
    refine lv_iload hx hb dL_law_676 (lv_at hl 0 rfl) ?_
    refine lv_iconst (v := nI 2) hx hb dL_law_678 (by decide) ?_
    refine lv_iadd hx hb dL_law_679 ?_
    rw [nI_add]
    refine va_sld hx hb hX hbl hbA hS (vp_in_nI (by omega) (by omega)) dL_law_680 ?_
    refine lv_aload_n hx hb dL_law_681 rfl (lv_at hl 5 rfl) ?_
    refine lv_iload hx hb dL_law_682 (lv_at hl 0 rfl) ?_
    refine lv_iconst (v := nI 3) hx hb dL_law_684 (by decide) ?_
    refine lv_iadd hx hb dL_law_685 ?_
    rw [nI_add]
    refine va_sld hx hb hX hbl hbA hS (vp_in_nI (by omega) (by omega)) dL_law_686 ?_
    refine lv_aload_n hx hb dL_law_687 rfl (lv_at hl 2 rfl) ?_
    refine law_w X F h hS (fun f sz => lw_list l hf k1 F.1.2.2.2.1 ob cL f F.2.2.2.2.1 _ _ _ sz) hl.1 gL_law_L_list rfl (by decide +kernel) (n := 5) ⟨Nat.le_of_ble_eq_true rfl, Nat.le_of_ble_eq_true rfl⟩ ⟨Nat.le_of_ble_eq_true rfl, Nat.le_of_ble_eq_true rfl⟩ (Nat.le_of_ble_eq_true rfl) rfl rfl dL_law_688 (fun r1 x1 f1 H locs hp1 hf1 hO hP hS => ?_)
    rw [if_neg hg] at hp1
    obtain rfl := hp1
    refine lv_istore hx hb dL_law_691 hl (by decide) rfl (fun ls hl => ?_)
    have hl : lv_has ls 9 [(6, _), (5, _), (4, _), (3, _), (2, _), (1, _), (0, _)] := hl
    refine lv_aload_n hx hb dL_law_693 rfl (lv_at hl 4 rfl) ?_
    refine lv_aload_n hx hb dL_law_694 rfl (lv_at hl 6 rfl) ?_
    refine lv_iload hx hb dL_law_695 (lv_at hl 1 rfl) ?_
    refine lv_iconst (v := nI 1) hx hb dL_law_697 (by decide) ?_
    refine lv_iadd hx hb dL_law_698 ?_
    rw [nI_add]
    refine va_sld hx hb hX hbl hbA hS (vp_in_nI (by omega) (by omega)) dL_law_699 ?_
    refine lv_aload_n hx hb dL_law_700 rfl (lv_at hl 6 rfl) ?_
    refine lv_iload hx hb dL_law_701 (lv_at hl 1 rfl) ?_
    refine lv_iconst (v := nI 2) hx hb dL_law_703 (by decide) ?_
    refine lv_iadd hx hb dL_law_704 ?_
    rw [nI_add]
    refine va_sld hx hb hX hbl hbA hS (vp_in_nI (by omega) (by omega)) dL_law_705 ?_
    refine lv_aload_n hx hb dL_law_706 rfl (lv_at hl 6 rfl) ?_
    refine lv_iload hx hb dL_law_707 (lv_at hl 1 rfl) ?_
    refine lv_iconst (v := nI 3) hx hb dL_law_709 (by decide) ?_
    refine lv_iadd hx hb dL_law_710 ?_
    rw [nI_add]
    refine va_sld hx hb hX hbl hbA hS (vp_in_nI (by omega) (by omega)) dL_law_711 ?_
    refine law_b (XX := (XA k2)) X F hP hO F.2.2.2.2.2.2.1 hS (fun sz => je_list l k2 F.1.2.2.2.2.2.2.2 _ _ _ sz) (fun a U g mk q => XA_blind k2 _ a U g mk q) (fun U hU hW => XA_at F hS hU hW) hl.1 gL_law_X4_list rfl (by decide +kernel) (n := 3) ⟨Nat.le_of_ble_eq_true rfl, Nat.le_of_ble_eq_true rfl⟩ ⟨Nat.le_of_ble_eq_true rfl, Nat.le_of_ble_eq_true rfl⟩ (Nat.le_of_ble_eq_true rfl) rfl rfl dL_law_712 (fun r2 v2 fs2 H locs hp2 hP hO hS => ?_)
    rw [if_neg (fun z => hg ⟨z.1, z.2.1, z.2.2.1, Int32.not_lt.mp z.2.2.2⟩)] at hp2
    obtain rfl := hp2
    refine lv_istore hx hb dL_law_715 hl (by decide) rfl (fun ls hl => ?_)
    have hl : lv_has ls 9 [(7, _), (6, _), (5, _), (4, _), (3, _), (2, _), (1, _), (0, _)] := hl
    refine lv_aload_n hx hb dL_law_717 rfl (lv_at hl 5 rfl) ?_
    refine law_t X F hP hO hS hl.1 ⟨Nat.le_of_ble_eq_true rfl, Nat.le_of_ble_eq_true rfl⟩ ⟨Nat.le_of_ble_eq_true rfl, Nat.le_of_ble_eq_true rfl⟩ (Nat.le_of_ble_eq_true rfl) dL_law_718 (fun H locs hO hS => ?_)
    refine lv_iload hx hb dL_law_721 (lv_at hl 1 rfl) ?_
    refine lv_icmp_eq (tgt := 728) hx hb dL_law_723 (by decide) (fun _ => ?_) (fun c1 => absurd rfl c1)
    refine lv_iload hx hb dL_law_728 (lv_at hl 1 rfl) ?_
    refine lv_if_ne (tgt := 745) hx hb dL_law_730 (by decide) (fun _ => ?_) (fun c1 => absurd c1 ne_1)
    refine lv_goto (tgt := 2153) hx hb dL_law_745 (by decide) ?_
    exact hend _ _ _ _ _ hS (lv_sub hl [7, 2] rfl) (Nat.le_of_ble_eq_true rfl) (Nat.le_of_ble_eq_true rfl)
set_option maxHeartbeats 4000000 in
set_option maxRecDepth 100000 in
theorem cs_call {p : Program} {e : Env} {s : State} {m : MethodId} {below : List Frame} {meth : Method} {c : Code} (l : Launch) (hf : l.stackTraces = false) {b : Nat} {xs : Nat → Int32} {k1 k2 : Sk} {ob od : Nat} {cL cD : ClassId} {H : Heap} {locs : List Loc} {ls : Array Slot} {Q : State → Prop} (X : CallFix p m c cL_law 9 s #[Value.ref b] wsL_law RL) (F : LF s k1 k2 ob od cL cD) (hX : va_X b 5 xs s s.heap) (hbl : b < s.heap.size) (hr : meth.sig.returnType = some .boolean ∧ meth.locks = false) (h : LH H k1 k2 ob od cL cD) (hS : va_S (AL s) s.heap H locs) (hl : lv_has ls 9 [(5, .int (nI 0)), (4, .ref od), (3, .ref ob), (2, .ref (k2.2.1 0)), (1, .ref (k1.2.1 0)), (0, .ref b)]) (hend : LEnd p l e s m b below meth c Q) : W p l e room_1 s m #[Value.ref b] below meth c H locs 200 2000 Q (F0 m 748 ls []) := by
  have hx := X.1
  have hb := X.2.1
  have hbA : ¬ AL s b := Nat.not_le.mpr hbl
  refine lv_aload_n hx hb dL_law_748 rfl (lv_at hl 4 rfl) ?_
  refine lv_aload_n hx hb dL_law_749 rfl (lv_at hl 5 rfl) ?_
  refine lv_iload hx hb dL_law_750 (lv_at hl 0 rfl) ?_
  refine lv_iconst (v := nI 1) hx hb dL_law_752 (by decide) ?_
  refine lv_iadd hx hb dL_law_753 ?_
  rw [nI_add]
  refine va_sld hx hb hX hbl hbA hS (vp_in_nI (by omega) (by omega)) dL_law_754 ?_
  refine lv_aload_n hx hb dL_law_755 rfl (lv_at hl 5 rfl) ?_
  refine lv_iload hx hb dL_law_756 (lv_at hl 0 rfl) ?_
  refine lv_iconst (v := nI 2) hx hb dL_law_758 (by decide) ?_
  refine lv_iadd hx hb dL_law_759 ?_
  rw [nI_add]
  refine va_sld hx hb hX hbl hbA hS (vp_in_nI (by omega) (by omega)) dL_law_760 ?_
  refine lv_aload_n hx hb dL_law_761 rfl (lv_at hl 2 rfl) ?_
  refine law_w X F h hS (fun f sz => lw_call l hf k1 F.1.2.2.2.1 ob cL f F.2.2.2.2.1 _ _ sz) hl.1 gL_law_L_call rfl (by decide +kernel) (n := 4) ⟨Nat.le_of_ble_eq_true rfl, Nat.le_of_ble_eq_true rfl⟩ ⟨Nat.le_of_ble_eq_true rfl, Nat.le_of_ble_eq_true rfl⟩ (Nat.le_of_ble_eq_true rfl) rfl rfl dL_law_762 (fun r1 x1 f1 H locs hp1 hf1 hO hP hS => ?_)
  obtain rfl : r1 = nI 1 := hp1
  refine lv_istore hx hb dL_law_765 hl (by decide) rfl (fun ls hl => ?_)
  have hl : lv_has ls 9 [(6, _), (5, _), (4, _), (3, _), (2, _), (1, _), (0, _)] := hl
  refine lv_aload_n hx hb dL_law_767 rfl (lv_at hl 4 rfl) ?_
  refine lv_aload_n hx hb dL_law_768 rfl (lv_at hl 6 rfl) ?_
  refine lv_iload hx hb dL_law_769 (lv_at hl 1 rfl) ?_
  refine lv_iconst (v := nI 1) hx hb dL_law_771 (by decide) ?_
  refine lv_iadd hx hb dL_law_772 ?_
  rw [nI_add]
  refine va_sld hx hb hX hbl hbA hS (vp_in_nI (by omega) (by omega)) dL_law_773 ?_
  refine lv_aload_n hx hb dL_law_774 rfl (lv_at hl 6 rfl) ?_
  refine lv_iload hx hb dL_law_775 (lv_at hl 1 rfl) ?_
  refine lv_iconst (v := nI 2) hx hb dL_law_777 (by decide) ?_
  refine lv_iadd hx hb dL_law_778 ?_
  rw [nI_add]
  refine va_sld hx hb hX hbl hbA hS (vp_in_nI (by omega) (by omega)) dL_law_779 ?_
  refine law_m X F hP hO F.2.2.2.2.2.2.1 hS (ct_X4_call l k2 4 IZ F.1.2.2.2.2.2.2.2 ⟨rfl, rfl⟩ _ _) hl.1 gL_law_X4_call rfl (by decide +kernel) (n := 2) ⟨Nat.le_of_ble_eq_true rfl, Nat.le_of_ble_eq_true rfl⟩ ⟨Nat.le_of_ble_eq_true rfl, Nat.le_of_ble_eq_true rfl⟩ (Nat.le_of_ble_eq_true rfl) rfl rfl dL_law_780 (fun r2 v2 fs2 H locs hp2 hP hO hS => ?_)
  obtain ⟨I2, hp2, hv2⟩ := hp2
  have hp2 : v2 = nI 1 := hv2.symm.trans hp2
  subst hp2
  refine lv_istore hx hb dL_law_783 hl (by decide) rfl (fun ls hl => ?_)
  have hl : lv_has ls 9 [(7, _), (6, _), (5, _), (4, _), (3, _), (2, _), (1, _), (0, _)] := hl
  refine lv_aload_n hx hb dL_law_785 rfl (lv_at hl 5 rfl) ?_
  refine law_t X F hP hO hS hl.1 ⟨Nat.le_of_ble_eq_true rfl, Nat.le_of_ble_eq_true rfl⟩ ⟨Nat.le_of_ble_eq_true rfl, Nat.le_of_ble_eq_true rfl⟩ (Nat.le_of_ble_eq_true rfl) dL_law_786 (fun H locs hO hS => ?_)
  refine lv_iload hx hb dL_law_789 (lv_at hl 1 rfl) ?_
  refine lv_icmp_eq (tgt := 796) hx hb dL_law_791 (by decide) (fun _ => ?_) (fun c1 => absurd rfl c1)
  refine lv_iload hx hb dL_law_796 (lv_at hl 1 rfl) ?_
  refine lv_if_ne (tgt := 813) hx hb dL_law_798 (by decide) (fun _ => ?_) (fun c1 => absurd c1 ne_1)
  refine lv_goto (tgt := 2153) hx hb dL_law_813 (by decide) ?_
  exact hend _ _ _ _ _ hS (lv_sub hl [7, 2] rfl) (Nat.le_of_ble_eq_true rfl) (Nat.le_of_ble_eq_true rfl)
set_option maxHeartbeats 4000000 in
set_option maxRecDepth 100000 in
theorem cs_signList {p : Program} {e : Env} {s : State} {m : MethodId} {below : List Frame} {meth : Method} {c : Code} (l : Launch) (hf : l.stackTraces = false) {b : Nat} {xs : Nat → Int32} {k1 k2 : Sk} {ob od : Nat} {cL cD : ClassId} {H : Heap} {locs : List Loc} {ls : Array Slot} {Q : State → Prop} (X : CallFix p m c cL_law 9 s #[Value.ref b] wsL_law RL) (F : LF s k1 k2 ob od cL cD) (hX : va_X b 5 xs s s.heap) (hbl : b < s.heap.size) (hr : meth.sig.returnType = some .boolean ∧ meth.locks = false) (h : LH H k1 k2 ob od cL cD) (hS : va_S (AL s) s.heap H locs) (hl : lv_has ls 9 [(5, .int (nI 0)), (4, .ref od), (3, .ref ob), (2, .ref (k2.2.1 0)), (1, .ref (k1.2.1 0)), (0, .ref b)]) (hend : LEnd p l e s m b below meth c Q) : W p l e room_1 s m #[Value.ref b] below meth c H locs 200 2000 Q (F0 m 816 ls []) := by
  have hx := X.1
  have hb := X.2.1
  have hbA : ¬ AL s b := Nat.not_le.mpr hbl
  refine lv_aload_n hx hb dL_law_816 rfl (lv_at hl 4 rfl) ?_
  refine lv_aload_n hx hb dL_law_817 rfl (lv_at hl 5 rfl) ?_
  refine lv_iload hx hb dL_law_818 (lv_at hl 0 rfl) ?_
  refine lv_iconst (v := nI 1) hx hb dL_law_820 (by decide) ?_
  refine lv_iadd hx hb dL_law_821 ?_
  rw [nI_add]
  refine va_sld hx hb hX hbl hbA hS (vp_in_nI (by omega) (by omega)) dL_law_822 ?_
  refine lv_aload_n hx hb dL_law_823 rfl (lv_at hl 5 rfl) ?_
  refine lv_iload hx hb dL_law_824 (lv_at hl 0 rfl) ?_
  refine lv_iconst (v := nI 2) hx hb dL_law_826 (by decide) ?_
  refine lv_iadd hx hb dL_law_827 ?_
  rw [nI_add]
  refine va_sld hx hb hX hbl hbA hS (vp_in_nI (by omega) (by omega)) dL_law_828 ?_
  refine lv_aload_n hx hb dL_law_829 rfl (lv_at hl 2 rfl) ?_
  refine law_w X F h hS (fun f sz => lw_signList l hf k1 F.1.2.2.2.1 ob cL f F.2.2.2.2.1 _ _ sz) hl.1 gL_law_L_signList rfl (by decide +kernel) (n := 4) ⟨Nat.le_of_ble_eq_true rfl, Nat.le_of_ble_eq_true rfl⟩ ⟨Nat.le_of_ble_eq_true rfl, Nat.le_of_ble_eq_true rfl⟩ (Nat.le_of_ble_eq_true rfl) rfl rfl dL_law_830 (fun r1 x1 f1 H locs hp1 hf1 hO hP hS => ?_)
  obtain rfl : r1 = nI 1 := hp1
  refine lv_istore hx hb dL_law_833 hl (by decide) rfl (fun ls hl => ?_)
  have hl : lv_has ls 9 [(6, _), (5, _), (4, _), (3, _), (2, _), (1, _), (0, _)] := hl
  refine lv_aload_n hx hb dL_law_835 rfl (lv_at hl 4 rfl) ?_
  refine lv_aload_n hx hb dL_law_836 rfl (lv_at hl 6 rfl) ?_
  refine lv_iload hx hb dL_law_837 (lv_at hl 1 rfl) ?_
  refine lv_iconst (v := nI 1) hx hb dL_law_839 (by decide) ?_
  refine lv_iadd hx hb dL_law_840 ?_
  rw [nI_add]
  refine va_sld hx hb hX hbl hbA hS (vp_in_nI (by omega) (by omega)) dL_law_841 ?_
  refine lv_aload_n hx hb dL_law_842 rfl (lv_at hl 6 rfl) ?_
  refine lv_iload hx hb dL_law_843 (lv_at hl 1 rfl) ?_
  refine lv_iconst (v := nI 2) hx hb dL_law_845 (by decide) ?_
  refine lv_iadd hx hb dL_law_846 ?_
  rw [nI_add]
  refine va_sld hx hb hX hbl hbA hS (vp_in_nI (by omega) (by omega)) dL_law_847 ?_
  refine law_m X F hP hO F.2.2.2.2.2.2.1 hS (ct_X4_signList l k2 4 IZ F.1.2.2.2.2.2.2.2 ⟨rfl, rfl⟩ _ _) hl.1 gL_law_X4_signList rfl (by decide +kernel) (n := 2) ⟨Nat.le_of_ble_eq_true rfl, Nat.le_of_ble_eq_true rfl⟩ ⟨Nat.le_of_ble_eq_true rfl, Nat.le_of_ble_eq_true rfl⟩ (Nat.le_of_ble_eq_true rfl) rfl rfl dL_law_848 (fun r2 v2 fs2 H locs hp2 hP hO hS => ?_)
  obtain ⟨I2, hp2, hv2⟩ := hp2
  have hp2 : v2 = nI 1 := hv2.symm.trans hp2
  subst hp2
  refine lv_istore hx hb dL_law_851 hl (by decide) rfl (fun ls hl => ?_)
  have hl : lv_has ls 9 [(7, _), (6, _), (5, _), (4, _), (3, _), (2, _), (1, _), (0, _)] := hl
  refine lv_aload_n hx hb dL_law_853 rfl (lv_at hl 5 rfl) ?_
  refine law_t X F hP hO hS hl.1 ⟨Nat.le_of_ble_eq_true rfl, Nat.le_of_ble_eq_true rfl⟩ ⟨Nat.le_of_ble_eq_true rfl, Nat.le_of_ble_eq_true rfl⟩ (Nat.le_of_ble_eq_true rfl) dL_law_854 (fun H locs hO hS => ?_)
  refine lv_iload hx hb dL_law_857 (lv_at hl 1 rfl) ?_
  refine lv_icmp_eq (tgt := 864) hx hb dL_law_859 (by decide) (fun _ => ?_) (fun c1 => absurd rfl c1)
  refine lv_iload hx hb dL_law_864 (lv_at hl 1 rfl) ?_
  refine lv_if_ne (tgt := 881) hx hb dL_law_866 (by decide) (fun _ => ?_) (fun c1 => absurd c1 ne_1)
  refine lv_goto (tgt := 2153) hx hb dL_law_881 (by decide) ?_
  exact hend _ _ _ _ _ hS (lv_sub hl [7, 2] rfl) (Nat.le_of_ble_eq_true rfl) (Nat.le_of_ble_eq_true rfl)
set_option maxHeartbeats 4000000 in
set_option maxRecDepth 100000 in
theorem cs_strict {p : Program} {e : Env} {s : State} {m : MethodId} {below : List Frame} {meth : Method} {c : Code} (l : Launch) (hf : l.stackTraces = false) {b : Nat} {xs : Nat → Int32} {k1 k2 : Sk} {ob od : Nat} {cL cD : ClassId} {H : Heap} {locs : List Loc} {ls : Array Slot} {Q : State → Prop} (X : CallFix p m c cL_law 9 s #[Value.ref b] wsL_law RL) (F : LF s k1 k2 ob od cL cD) (hX : va_X b 5 xs s s.heap) (hbl : b < s.heap.size) (hr : meth.sig.returnType = some .boolean ∧ meth.locks = false) (h : LH H k1 k2 ob od cL cD) (hS : va_S (AL s) s.heap H locs) (hl : lv_has ls 9 [(5, .int (nI 0)), (4, .ref od), (3, .ref ob), (2, .ref (k2.2.1 0)), (1, .ref (k1.2.1 0)), (0, .ref b)]) (hend : LEnd p l e s m b below meth c Q) : W p l e room_1 s m #[Value.ref b] below meth c H locs 200 2000 Q (F0 m 884 ls []) := by
  have hx := X.1
  have hb := X.2.1
  have hbA : ¬ AL s b := Nat.not_le.mpr hbl
  by_cases hz : (xs (nI (0 + 1)).toNatClampNeg) = 0
  · refine lv_aload_n hx hb dL_law_884 rfl (lv_at hl 4 rfl) ?_
    refine lv_aload_n hx hb dL_law_885 rfl (lv_at hl 5 rfl) ?_
    refine lv_iload hx hb dL_law_886 (lv_at hl 0 rfl) ?_
    refine lv_iconst (v := nI 1) hx hb dL_law_888 (by decide) ?_
    refine lv_iadd hx hb dL_law_889 ?_
    rw [nI_add]
    refine va_sld hx hb hX hbl hbA hS (vp_in_nI (by omega) (by omega)) dL_law_890 ?_
    refine lv_if_eq (tgt := 898) hx hb dL_law_891 (by decide) (fun _ => ?_) (fun c1 => absurd hz c1)
    refine lv_iconst (v := nI 0) hx hb dL_law_898 (by decide) ?_
    refine law_x X F h hS (ct_X3_strict l k1 98 I0 F.1.2.2.2.1 ⟨false, rfl⟩ false) hl.1 gL_law_X3_strict rfl (by decide +kernel) (n := 1) ⟨Nat.le_of_ble_eq_true rfl, Nat.le_of_ble_eq_true rfl⟩ ⟨Nat.le_of_ble_eq_true rfl, Nat.le_of_ble_eq_true rfl⟩ (Nat.le_of_ble_eq_true rfl) rfl rfl dL_law_899 (fun r1 f1 H locs hp1 hO hP hS => ?_)
    obtain ⟨I1, hp1, -⟩ := hp1
    refine lv_aload_n hx hb dL_law_902 rfl (lv_at hl 3 rfl) ?_
    refine lv_aload_n hx hb dL_law_903 rfl (lv_at hl 5 rfl) ?_
    refine lv_iload hx hb dL_law_904 (lv_at hl 0 rfl) ?_
    refine lv_iconst (v := nI 1) hx hb dL_law_906 (by decide) ?_
    refine lv_iadd hx hb dL_law_907 ?_
    rw [nI_add]
    refine va_sld hx hb hX hbl hbA hS (vp_in_nI (by omega) (by omega)) dL_law_908 ?_
    refine lv_if_eq (tgt := 916) hx hb dL_law_909 (by decide) (fun _ => ?_) (fun c1 => absurd hz c1)
    refine lv_iconst (v := nI 0) hx hb dL_law_916 (by decide) ?_
    refine law_m X F hP hO F.2.2.2.2.2.2.1 hS (ct_X4_strict l k2 4 IZ F.1.2.2.2.2.2.2.2 rfl false) hl.1 gL_law_X4_strict rfl (by decide +kernel) (n := 1) ⟨Nat.le_of_ble_eq_true rfl, Nat.le_of_ble_eq_true rfl⟩ ⟨Nat.le_of_ble_eq_true rfl, Nat.le_of_ble_eq_true rfl⟩ (Nat.le_of_ble_eq_true rfl) rfl rfl dL_law_917 (fun r2 v2 fs2 H locs hp2 hP hO hS => ?_)
    obtain ⟨I2, hp2, -⟩ := hp2
    rw [hp1, hp2]
    refine lv_icmp_eq (tgt := 2153) hx hb dL_law_920 (by decide) (fun _ => ?_) (fun c1 => absurd rfl c1)
    exact hend _ _ _ _ _ hS (lv_sub hl [5, 0] rfl) (Nat.le_of_ble_eq_true rfl) (Nat.le_of_ble_eq_true rfl)
  · refine lv_aload_n hx hb dL_law_884 rfl (lv_at hl 4 rfl) ?_
    refine lv_aload_n hx hb dL_law_885 rfl (lv_at hl 5 rfl) ?_
    refine lv_iload hx hb dL_law_886 (lv_at hl 0 rfl) ?_
    refine lv_iconst (v := nI 1) hx hb dL_law_888 (by decide) ?_
    refine lv_iadd hx hb dL_law_889 ?_
    rw [nI_add]
    refine va_sld hx hb hX hbl hbA hS (vp_in_nI (by omega) (by omega)) dL_law_890 ?_
    refine lv_if_eq (tgt := 898) hx hb dL_law_891 (by decide) (fun c1 => absurd c1 hz) (fun _ => ?_)
    refine lv_iconst (v := nI 1) hx hb dL_law_894 (by decide) ?_
    refine lv_goto (tgt := 899) hx hb dL_law_895 (by decide) ?_
    refine law_x X F h hS (ct_X3_strict l k1 98 I0 F.1.2.2.2.1 ⟨false, rfl⟩ true) hl.1 gL_law_X3_strict rfl (by decide +kernel) (n := 1) ⟨Nat.le_of_ble_eq_true rfl, Nat.le_of_ble_eq_true rfl⟩ ⟨Nat.le_of_ble_eq_true rfl, Nat.le_of_ble_eq_true rfl⟩ (Nat.le_of_ble_eq_true rfl) rfl rfl dL_law_899 (fun r1 f1 H locs hp1 hO hP hS => ?_)
    obtain ⟨I1, hp1, -⟩ := hp1
    refine lv_aload_n hx hb dL_law_902 rfl (lv_at hl 3 rfl) ?_
    refine lv_aload_n hx hb dL_law_903 rfl (lv_at hl 5 rfl) ?_
    refine lv_iload hx hb dL_law_904 (lv_at hl 0 rfl) ?_
    refine lv_iconst (v := nI 1) hx hb dL_law_906 (by decide) ?_
    refine lv_iadd hx hb dL_law_907 ?_
    rw [nI_add]
    refine va_sld hx hb hX hbl hbA hS (vp_in_nI (by omega) (by omega)) dL_law_908 ?_
    refine lv_if_eq (tgt := 916) hx hb dL_law_909 (by decide) (fun c1 => absurd c1 hz) (fun _ => ?_)
    refine lv_iconst (v := nI 1) hx hb dL_law_912 (by decide) ?_
    refine lv_goto (tgt := 917) hx hb dL_law_913 (by decide) ?_
    refine law_m X F hP hO F.2.2.2.2.2.2.1 hS (ct_X4_strict l k2 4 IZ F.1.2.2.2.2.2.2.2 rfl true) hl.1 gL_law_X4_strict rfl (by decide +kernel) (n := 1) ⟨Nat.le_of_ble_eq_true rfl, Nat.le_of_ble_eq_true rfl⟩ ⟨Nat.le_of_ble_eq_true rfl, Nat.le_of_ble_eq_true rfl⟩ (Nat.le_of_ble_eq_true rfl) rfl rfl dL_law_917 (fun r2 v2 fs2 H locs hp2 hP hO hS => ?_)
    obtain ⟨I2, hp2, -⟩ := hp2
    rw [hp1, hp2]
    refine lv_icmp_eq (tgt := 2153) hx hb dL_law_920 (by decide) (fun _ => ?_) (fun c1 => absurd rfl c1)
    exact hend _ _ _ _ _ hS (lv_sub hl [5, 0] rfl) (Nat.le_of_ble_eq_true rfl) (Nat.le_of_ble_eq_true rfl)
set_option maxHeartbeats 4000000 in
set_option maxRecDepth 100000 in
theorem cs_many {p : Program} {e : Env} {s : State} {m : MethodId} {below : List Frame} {meth : Method} {c : Code} (l : Launch) (hf : l.stackTraces = false) {b : Nat} {xs : Nat → Int32} {k1 k2 : Sk} {ob od : Nat} {cL cD : ClassId} {H : Heap} {locs : List Loc} {ls : Array Slot} {Q : State → Prop} (X : CallFix p m c cL_law 9 s #[Value.ref b] wsL_law RL) (F : LF s k1 k2 ob od cL cD) (hX : va_X b 5 xs s s.heap) (hbl : b < s.heap.size) (hr : meth.sig.returnType = some .boolean ∧ meth.locks = false) (h : LH H k1 k2 ob od cL cD) (hS : va_S (AL s) s.heap H locs) (hl : lv_has ls 9 [(5, .int (nI 0)), (4, .ref od), (3, .ref ob), (2, .ref (k2.2.1 0)), (1, .ref (k1.2.1 0)), (0, .ref b)]) (hend : LEnd p l e s m b below meth c Q) : W p l e room_1 s m #[Value.ref b] below meth c H locs 200 2000 Q (F0 m 925 ls []) := by
  have hx := X.1
  have hb := X.2.1
  have hbA : ¬ AL s b := Nat.not_le.mpr hbl
  by_cases hg : isW (xs (nI (0 + 1)).toNatClampNeg) (nI 3) = true
  · refine lv_aload_n hx hb dL_law_925 rfl (lv_at hl 4 rfl) ?_
    refine lv_aload_n hx hb dL_law_926 rfl (lv_at hl 5 rfl) ?_
    refine lv_iload hx hb dL_law_927 (lv_at hl 0 rfl) ?_
    refine lv_iconst (v := nI 1) hx hb dL_law_929 (by decide) ?_
    refine lv_iadd hx hb dL_law_930 ?_
    rw [nI_add]
    refine va_sld hx hb hX hbl hbA hS (vp_in_nI (by omega) (by omega)) dL_law_931 ?_
    refine lv_aload_n hx hb dL_law_932 rfl (lv_at hl 2 rfl) ?_
    refine law_w X F h hS (fun f sz => lw_many l hf k1 F.1.2.2.2.1 ob cL f F.2.2.2.2.1 _ sz) hl.1 gL_law_L_many rfl (by decide +kernel) (n := 3) ⟨Nat.le_of_ble_eq_true rfl, Nat.le_of_ble_eq_true rfl⟩ ⟨Nat.le_of_ble_eq_true rfl, Nat.le_of_ble_eq_true rfl⟩ (Nat.le_of_ble_eq_true rfl) rfl rfl dL_law_933 (fun r1 x1 f1 H locs hp1 hf1 hO hP hS => ?_)
    rw [if_pos hg] at hp1
    obtain ⟨rfl, hx1⟩ := hp1
    refine lv_istore hx hb dL_law_936 hl (by decide) rfl (fun ls hl => ?_)
    have hl : lv_has ls 9 [(6, _), (5, _), (4, _), (3, _), (2, _), (1, _), (0, _)] := hl
    refine lv_aload_n hx hb dL_law_938 rfl (lv_at hl 4 rfl) ?_
    refine lv_aload_n hx hb dL_law_939 rfl (lv_at hl 6 rfl) ?_
    refine lv_iload hx hb dL_law_940 (lv_at hl 1 rfl) ?_
    refine lv_iconst (v := nI 1) hx hb dL_law_942 (by decide) ?_
    refine lv_iadd hx hb dL_law_943 ?_
    rw [nI_add]
    refine va_sld hx hb hX hbl hbA hS (vp_in_nI (by omega) (by omega)) dL_law_944 ?_
    refine law_b (XX := (fun _ => HN)) X F hP hO F.2.2.2.2.2.2.1 hS (fun sz => je_many l k2 F.1.2.2.2.2.2.2.2 _ sz) (fun a U g mk q => HN.same (u := U) (U := U.calling g mk a) rfl q) (fun U hU hW => HN.go hW F.2.1.2) hl.1 gL_law_X4_many rfl (by decide +kernel) (n := 1) ⟨Nat.le_of_ble_eq_true rfl, Nat.le_of_ble_eq_true rfl⟩ ⟨Nat.le_of_ble_eq_true rfl, Nat.le_of_ble_eq_true rfl⟩ (Nat.le_of_ble_eq_true rfl) rfl rfl dL_law_945 (fun r2 v2 fs2 H locs hp2 hP hO hS => ?_)
    rw [if_pos (hg)] at hp2
    obtain ⟨rfl, hx2⟩ := hp2
    refine lv_istore hx hb dL_law_948 hl (by decide) rfl (fun ls hl => ?_)
    have hl : lv_has ls 9 [(7, _), (6, _), (5, _), (4, _), (3, _), (2, _), (1, _), (0, _)] := hl
    refine lv_aload_n hx hb dL_law_950 rfl (lv_at hl 5 rfl) ?_
    refine law_t X F hP hO hS hl.1 ⟨Nat.le_of_ble_eq_true rfl, Nat.le_of_ble_eq_true rfl⟩ ⟨Nat.le_of_ble_eq_true rfl, Nat.le_of_ble_eq_true rfl⟩ (Nat.le_of_ble_eq_true rfl) dL_law_951 (fun H locs hO hS => ?_)
    refine lv_iload hx hb dL_law_954 (lv_at hl 1 rfl) ?_
    refine lv_icmp_eq (tgt := 961) hx hb dL_law_956 (by decide) (fun _ => ?_) (fun c1 => absurd rfl c1)
    refine lv_iload hx hb dL_law_961 (lv_at hl 1 rfl) ?_
    refine lv_if_ne (tgt := 978) hx hb dL_law_963 (by decide) (fun c1 => absurd rfl c1) (fun _ => ?_)
    refine lv_aload_n hx hb dL_law_966 rfl (lv_at hl 4 rfl) ?_
    refine lv_iconst (v := nI 0) hx hb dL_law_967 (by decide) ?_
    refine va_lald hx hb F.1.2.2.2.2.1 hO 0 0 rfl rfl (vp_in_nI (by omega) (by omega)) dL_law_968 ?_
    refine lv_iload hx hb dL_law_969 (lv_at hl 0 rfl) ?_
    refine lv_i2l hx hb dL_law_971 rfl ?_
    rw [show f1 (nI 0).toNatClampNeg = r2.toInt64 from hf1.trans (hx1.trans (by rw [hx2]))]
    refine W.lcmp hx hb dL_law_972 ?_
    refine lv_if_eq (tgt := 978) hx hb dL_law_973 (by decide) (fun _ => ?_) (fun c1 => absurd (cmp_s _) c1)
    refine lv_goto (tgt := 2153) hx hb dL_law_978 (by decide) ?_
    exact hend _ _ _ _ _ hS (lv_sub hl [7, 2] rfl) (Nat.le_of_ble_eq_true rfl) (Nat.le_of_ble_eq_true rfl)
  · refine lv_aload_n hx hb dL_law_925 rfl (lv_at hl 4 rfl) ?_
    refine lv_aload_n hx hb dL_law_926 rfl (lv_at hl 5 rfl) ?_
    refine lv_iload hx hb dL_law_927 (lv_at hl 0 rfl) ?_
    refine lv_iconst (v := nI 1) hx hb dL_law_929 (by decide) ?_
    refine lv_iadd hx hb dL_law_930 ?_
    rw [nI_add]
    refine va_sld hx hb hX hbl hbA hS (vp_in_nI (by omega) (by omega)) dL_law_931 ?_
    refine lv_aload_n hx hb dL_law_932 rfl (lv_at hl 2 rfl) ?_
    refine law_w X F h hS (fun f sz => lw_many l hf k1 F.1.2.2.2.1 ob cL f F.2.2.2.2.1 _ sz) hl.1 gL_law_L_many rfl (by decide +kernel) (n := 3) ⟨Nat.le_of_ble_eq_true rfl, Nat.le_of_ble_eq_true rfl⟩ ⟨Nat.le_of_ble_eq_true rfl, Nat.le_of_ble_eq_true rfl⟩ (Nat.le_of_ble_eq_true rfl) rfl rfl dL_law_933 (fun r1 x1 f1 H locs hp1 hf1 hO hP hS => ?_)
    rw [if_neg hg] at hp1
    obtain rfl := hp1
    refine lv_istore hx hb dL_law_936 hl (by decide) rfl (fun ls hl => ?_)
    have hl : lv_has ls 9 [(6, _), (5, _), (4, _), (3, _), (2, _), (1, _), (0, _)] := hl
    refine lv_aload_n hx hb dL_law_938 rfl (lv_at hl 4 rfl) ?_
    refine lv_aload_n hx hb dL_law_939 rfl (lv_at hl 6 rfl) ?_
    refine lv_iload hx hb dL_law_940 (lv_at hl 1 rfl) ?_
    refine lv_iconst (v := nI 1) hx hb dL_law_942 (by decide) ?_
    refine lv_iadd hx hb dL_law_943 ?_
    rw [nI_add]
    refine va_sld hx hb hX hbl hbA hS (vp_in_nI (by omega) (by omega)) dL_law_944 ?_
    refine law_b (XX := (fun _ => HN)) X F hP hO F.2.2.2.2.2.2.1 hS (fun sz => je_many l k2 F.1.2.2.2.2.2.2.2 _ sz) (fun a U g mk q => HN.same (u := U) (U := U.calling g mk a) rfl q) (fun U hU hW => HN.go hW F.2.1.2) hl.1 gL_law_X4_many rfl (by decide +kernel) (n := 1) ⟨Nat.le_of_ble_eq_true rfl, Nat.le_of_ble_eq_true rfl⟩ ⟨Nat.le_of_ble_eq_true rfl, Nat.le_of_ble_eq_true rfl⟩ (Nat.le_of_ble_eq_true rfl) rfl rfl dL_law_945 (fun r2 v2 fs2 H locs hp2 hP hO hS => ?_)
    rw [if_neg hg] at hp2
    obtain rfl := hp2
    refine lv_istore hx hb dL_law_948 hl (by decide) rfl (fun ls hl => ?_)
    have hl : lv_has ls 9 [(7, _), (6, _), (5, _), (4, _), (3, _), (2, _), (1, _), (0, _)] := hl
    refine lv_aload_n hx hb dL_law_950 rfl (lv_at hl 5 rfl) ?_
    refine law_t X F hP hO hS hl.1 ⟨Nat.le_of_ble_eq_true rfl, Nat.le_of_ble_eq_true rfl⟩ ⟨Nat.le_of_ble_eq_true rfl, Nat.le_of_ble_eq_true rfl⟩ (Nat.le_of_ble_eq_true rfl) dL_law_951 (fun H locs hO hS => ?_)
    refine lv_iload hx hb dL_law_954 (lv_at hl 1 rfl) ?_
    refine lv_icmp_eq (tgt := 961) hx hb dL_law_956 (by decide) (fun _ => ?_) (fun c1 => absurd rfl c1)
    refine lv_iload hx hb dL_law_961 (lv_at hl 1 rfl) ?_
    refine lv_if_ne (tgt := 978) hx hb dL_law_963 (by decide) (fun _ => ?_) (fun c1 => absurd c1 ne_1)
    refine lv_goto (tgt := 2153) hx hb dL_law_978 (by decide) ?_
    exact hend _ _ _ _ _ hS (lv_sub hl [7, 2] rfl) (Nat.le_of_ble_eq_true rfl) (Nat.le_of_ble_eq_true rfl)
set_option maxHeartbeats 4000000 in
set_option maxRecDepth 100000 in
theorem cs_ofLetter {p : Program} {e : Env} {s : State} {m : MethodId} {below : List Frame} {meth : Method} {c : Code} (l : Launch) (hf : l.stackTraces = false) {b : Nat} {xs : Nat → Int32} {k1 k2 : Sk} {ob od : Nat} {cL cD : ClassId} {H : Heap} {locs : List Loc} {ls : Array Slot} {Q : State → Prop} (X : CallFix p m c cL_law 9 s #[Value.ref b] wsL_law RL) (F : LF s k1 k2 ob od cL cD) (hX : va_X b 5 xs s s.heap) (hbl : b < s.heap.size) (hr : meth.sig.returnType = some .boolean ∧ meth.locks = false) (h : LH H k1 k2 ob od cL cD) (hS : va_S (AL s) s.heap H locs) (hl : lv_has ls 9 [(5, .int (nI 0)), (4, .ref od), (3, .ref ob), (2, .ref (k2.2.1 0)), (1, .ref (k1.2.1 0)), (0, .ref b)]) (hend : LEnd p l e s m b below meth c Q) : W p l e room_1 s m #[Value.ref b] below meth c H locs 200 2000 Q (F0 m 981 ls []) := by
  have hx := X.1
  have hb := X.2.1
  have hbA : ¬ AL s b := Nat.not_le.mpr hbl
  refine lv_aload_n hx hb dL_law_981 rfl (lv_at hl 4 rfl) ?_
  refine lv_aload_n hx hb dL_law_982 rfl (lv_at hl 5 rfl) ?_
  refine lv_iload hx hb dL_law_983 (lv_at hl 0 rfl) ?_
  refine lv_iconst (v := nI 1) hx hb dL_law_985 (by decide) ?_
  refine lv_iadd hx hb dL_law_986 ?_
  rw [nI_add]
  refine va_sld hx hb hX hbl hbA hS (vp_in_nI (by omega) (by omega)) dL_law_987 ?_
  refine lv_aload_n hx hb dL_law_988 rfl (lv_at hl 5 rfl) ?_
  refine lv_iload hx hb dL_law_989 (lv_at hl 0 rfl) ?_
  refine lv_iconst (v := nI 2) hx hb dL_law_991 (by decide) ?_
  refine lv_iadd hx hb dL_law_992 ?_
  rw [nI_add]
  refine va_sld hx hb hX hbl hbA hS (vp_in_nI (by omega) (by omega)) dL_law_993 ?_
  refine lv_aload_n hx hb dL_law_994 rfl (lv_at hl 2 rfl) ?_
  refine law_w X F h hS (fun f sz => lw_ofLetter l hf k1 F.1.2.2.2.1 ob cL f F.2.2.2.2.1 _ _ sz) hl.1 gL_law_L_ofLetter rfl (by decide +kernel) (n := 4) ⟨Nat.le_of_ble_eq_true rfl, Nat.le_of_ble_eq_true rfl⟩ ⟨Nat.le_of_ble_eq_true rfl, Nat.le_of_ble_eq_true rfl⟩ (Nat.le_of_ble_eq_true rfl) rfl rfl dL_law_995 (fun r1 x1 f1 H locs hp1 hf1 hO hP hS => ?_)
  obtain rfl : r1 = nI 1 := hp1
  refine lv_istore hx hb dL_law_998 hl (by decide) rfl (fun ls hl => ?_)
  have hl : lv_has ls 9 [(6, _), (5, _), (4, _), (3, _), (2, _), (1, _), (0, _)] := hl
  refine lv_aload_n hx hb dL_law_1000 rfl (lv_at hl 4 rfl) ?_
  refine lv_aload_n hx hb dL_law_1001 rfl (lv_at hl 6 rfl) ?_
  refine lv_iload hx hb dL_law_1002 (lv_at hl 1 rfl) ?_
  refine lv_iconst (v := nI 1) hx hb dL_law_1004 (by decide) ?_
  refine lv_iadd hx hb dL_law_1005 ?_
  rw [nI_add]
  refine va_sld hx hb hX hbl hbA hS (vp_in_nI (by omega) (by omega)) dL_law_1006 ?_
  refine lv_aload_n hx hb dL_law_1007 rfl (lv_at hl 6 rfl) ?_
  refine lv_iload hx hb dL_law_1008 (lv_at hl 1 rfl) ?_
  refine lv_iconst (v := nI 2) hx hb dL_law_1010 (by decide) ?_
  refine lv_iadd hx hb dL_law_1011 ?_
  rw [nI_add]
  refine va_sld hx hb hX hbl hbA hS (vp_in_nI (by omega) (by omega)) dL_law_1012 ?_
  refine law_m X F hP hO F.2.2.2.2.2.2.1 hS (ct_X4_ofLetter l k2 4 IZ F.1.2.2.2.2.2.2.2 ⟨rfl, rfl⟩ _ _) hl.1 gL_law_X4_ofLetter rfl (by decide +kernel) (n := 2) ⟨Nat.le_of_ble_eq_true rfl, Nat.le_of_ble_eq_true rfl⟩ ⟨Nat.le_of_ble_eq_true rfl, Nat.le_of_ble_eq_true rfl⟩ (Nat.le_of_ble_eq_true rfl) rfl rfl dL_law_1013 (fun r2 v2 fs2 H locs hp2 hP hO hS => ?_)
  obtain ⟨I2, hp2, hv2⟩ := hp2
  have hp2 : v2 = nI 1 := hv2.symm.trans hp2
  subst hp2
  refine lv_istore hx hb dL_law_1016 hl (by decide) rfl (fun ls hl => ?_)
  have hl : lv_has ls 9 [(7, _), (6, _), (5, _), (4, _), (3, _), (2, _), (1, _), (0, _)] := hl
  refine lv_aload_n hx hb dL_law_1018 rfl (lv_at hl 5 rfl) ?_
  refine law_t X F hP hO hS hl.1 ⟨Nat.le_of_ble_eq_true rfl, Nat.le_of_ble_eq_true rfl⟩ ⟨Nat.le_of_ble_eq_true rfl, Nat.le_of_ble_eq_true rfl⟩ (Nat.le_of_ble_eq_true rfl) dL_law_1019 (fun H locs hO hS => ?_)
  refine lv_iload hx hb dL_law_1022 (lv_at hl 1 rfl) ?_
  refine lv_icmp_eq (tgt := 1029) hx hb dL_law_1024 (by decide) (fun _ => ?_) (fun c1 => absurd rfl c1)
  refine lv_iload hx hb dL_law_1029 (lv_at hl 1 rfl) ?_
  refine lv_if_ne (tgt := 1046) hx hb dL_law_1031 (by decide) (fun _ => ?_) (fun c1 => absurd c1 ne_1)
  refine lv_goto (tgt := 2153) hx hb dL_law_1046 (by decide) ?_
  exact hend _ _ _ _ _ hS (lv_sub hl [7, 2] rfl) (Nat.le_of_ble_eq_true rfl) (Nat.le_of_ble_eq_true rfl)
set_option maxHeartbeats 4000000 in
set_option maxRecDepth 100000 in
theorem cs_ofList {p : Program} {e : Env} {s : State} {m : MethodId} {below : List Frame} {meth : Method} {c : Code} (l : Launch) (hf : l.stackTraces = false) {b : Nat} {xs : Nat → Int32} {k1 k2 : Sk} {ob od : Nat} {cL cD : ClassId} {H : Heap} {locs : List Loc} {ls : Array Slot} {Q : State → Prop} (X : CallFix p m c cL_law 9 s #[Value.ref b] wsL_law RL) (F : LF s k1 k2 ob od cL cD) (hX : va_X b 5 xs s s.heap) (hbl : b < s.heap.size) (hr : meth.sig.returnType = some .boolean ∧ meth.locks = false) (h : LH H k1 k2 ob od cL cD) (hS : va_S (AL s) s.heap H locs) (hl : lv_has ls 9 [(5, .int (nI 0)), (4, .ref od), (3, .ref ob), (2, .ref (k2.2.1 0)), (1, .ref (k1.2.1 0)), (0, .ref b)]) (hend : LEnd p l e s m b below meth c Q) : W p l e room_1 s m #[Value.ref b] below meth c H locs 200 2000 Q (F0 m 1049 ls []) := by
  have hx := X.1
  have hb := X.2.1
  have hbA : ¬ AL s b := Nat.not_le.mpr hbl
  refine lv_aload_n hx hb dL_law_1049 rfl (lv_at hl 4 rfl) ?_
  refine lv_aload_n hx hb dL_law_1050 rfl (lv_at hl 5 rfl) ?_
  refine lv_iload hx hb dL_law_1051 (lv_at hl 0 rfl) ?_
  refine lv_iconst (v := nI 1) hx hb dL_law_1053 (by decide) ?_
  refine lv_iadd hx hb dL_law_1054 ?_
  rw [nI_add]
  refine va_sld hx hb hX hbl hbA hS (vp_in_nI (by omega) (by omega)) dL_law_1055 ?_
  refine lv_aload_n hx hb dL_law_1056 rfl (lv_at hl 5 rfl) ?_
  refine lv_iload hx hb dL_law_1057 (lv_at hl 0 rfl) ?_
  refine lv_iconst (v := nI 2) hx hb dL_law_1059 (by decide) ?_
  refine lv_iadd hx hb dL_law_1060 ?_
  rw [nI_add]
  refine va_sld hx hb hX hbl hbA hS (vp_in_nI (by omega) (by omega)) dL_law_1061 ?_
  refine lv_aload_n hx hb dL_law_1062 rfl (lv_at hl 2 rfl) ?_
  refine law_w X F h hS (fun f sz => lw_ofList l hf k1 F.1.2.2.2.1 ob cL f F.2.2.2.2.1 _ _ sz) hl.1 gL_law_L_ofList rfl (by decide +kernel) (n := 4) ⟨Nat.le_of_ble_eq_true rfl, Nat.le_of_ble_eq_true rfl⟩ ⟨Nat.le_of_ble_eq_true rfl, Nat.le_of_ble_eq_true rfl⟩ (Nat.le_of_ble_eq_true rfl) rfl rfl dL_law_1063 (fun r1 x1 f1 H locs hp1 hf1 hO hP hS => ?_)
  obtain rfl : r1 = nI 1 := hp1
  refine lv_istore hx hb dL_law_1066 hl (by decide) rfl (fun ls hl => ?_)
  have hl : lv_has ls 9 [(6, _), (5, _), (4, _), (3, _), (2, _), (1, _), (0, _)] := hl
  refine lv_aload_n hx hb dL_law_1068 rfl (lv_at hl 4 rfl) ?_
  refine lv_aload_n hx hb dL_law_1069 rfl (lv_at hl 6 rfl) ?_
  refine lv_iload hx hb dL_law_1070 (lv_at hl 1 rfl) ?_
  refine lv_iconst (v := nI 1) hx hb dL_law_1072 (by decide) ?_
  refine lv_iadd hx hb dL_law_1073 ?_
  rw [nI_add]
  refine va_sld hx hb hX hbl hbA hS (vp_in_nI (by omega) (by omega)) dL_law_1074 ?_
  refine lv_aload_n hx hb dL_law_1075 rfl (lv_at hl 6 rfl) ?_
  refine lv_iload hx hb dL_law_1076 (lv_at hl 1 rfl) ?_
  refine lv_iconst (v := nI 2) hx hb dL_law_1078 (by decide) ?_
  refine lv_iadd hx hb dL_law_1079 ?_
  rw [nI_add]
  refine va_sld hx hb hX hbl hbA hS (vp_in_nI (by omega) (by omega)) dL_law_1080 ?_
  refine law_m X F hP hO F.2.2.2.2.2.2.1 hS (ct_X4_ofList l k2 4 IZ F.1.2.2.2.2.2.2.2 ⟨rfl, rfl⟩ _ _) hl.1 gL_law_X4_ofList rfl (by decide +kernel) (n := 2) ⟨Nat.le_of_ble_eq_true rfl, Nat.le_of_ble_eq_true rfl⟩ ⟨Nat.le_of_ble_eq_true rfl, Nat.le_of_ble_eq_true rfl⟩ (Nat.le_of_ble_eq_true rfl) rfl rfl dL_law_1081 (fun r2 v2 fs2 H locs hp2 hP hO hS => ?_)
  obtain ⟨I2, hp2, hv2⟩ := hp2
  have hp2 : v2 = nI 1 := hv2.symm.trans hp2
  subst hp2
  refine lv_istore hx hb dL_law_1084 hl (by decide) rfl (fun ls hl => ?_)
  have hl : lv_has ls 9 [(7, _), (6, _), (5, _), (4, _), (3, _), (2, _), (1, _), (0, _)] := hl
  refine lv_aload_n hx hb dL_law_1086 rfl (lv_at hl 5 rfl) ?_
  refine law_t X F hP hO hS hl.1 ⟨Nat.le_of_ble_eq_true rfl, Nat.le_of_ble_eq_true rfl⟩ ⟨Nat.le_of_ble_eq_true rfl, Nat.le_of_ble_eq_true rfl⟩ (Nat.le_of_ble_eq_true rfl) dL_law_1087 (fun H locs hO hS => ?_)
  refine lv_iload hx hb dL_law_1090 (lv_at hl 1 rfl) ?_
  refine lv_icmp_eq (tgt := 1097) hx hb dL_law_1092 (by decide) (fun _ => ?_) (fun c1 => absurd rfl c1)
  refine lv_iload hx hb dL_law_1097 (lv_at hl 1 rfl) ?_
  refine lv_if_ne (tgt := 1114) hx hb dL_law_1099 (by decide) (fun _ => ?_) (fun c1 => absurd c1 ne_1)
  refine lv_goto (tgt := 2153) hx hb dL_law_1114 (by decide) ?_
  exact hend _ _ _ _ _ hS (lv_sub hl [7, 2] rfl) (Nat.le_of_ble_eq_true rfl) (Nat.le_of_ble_eq_true rfl)
set_option maxHeartbeats 4000000 in
set_option maxRecDepth 100000 in
theorem cs_signed {p : Program} {e : Env} {s : State} {m : MethodId} {below : List Frame} {meth : Method} {c : Code} (l : Launch) (hf : l.stackTraces = false) {b : Nat} {xs : Nat → Int32} {k1 k2 : Sk} {ob od : Nat} {cL cD : ClassId} {H : Heap} {locs : List Loc} {ls : Array Slot} {Q : State → Prop} (X : CallFix p m c cL_law 9 s #[Value.ref b] wsL_law RL) (F : LF s k1 k2 ob od cL cD) (hX : va_X b 5 xs s s.heap) (hbl : b < s.heap.size) (hr : meth.sig.returnType = some .boolean ∧ meth.locks = false) (h : LH H k1 k2 ob od cL cD) (hS : va_S (AL s) s.heap H locs) (hl : lv_has ls 9 [(5, .int (nI 0)), (4, .ref od), (3, .ref ob), (2, .ref (k2.2.1 0)), (1, .ref (k1.2.1 0)), (0, .ref b)]) (hend : LEnd p l e s m b below meth c Q) : W p l e room_1 s m #[Value.ref b] below meth c H locs 200 2000 Q (F0 m 1117 ls []) := by
  have hx := X.1
  have hb := X.2.1
  have hbA : ¬ AL s b := Nat.not_le.mpr hbl
  by_cases hg : isW (xs (nI (0 + 1)).toNatClampNeg) (nI 15) = true ∧ isW (xs (nI (0 + 2)).toNatClampNeg) (nI 996) = true
  · refine lv_aload_n hx hb dL_law_1117 rfl (lv_at hl 4 rfl) ?_
    refine lv_aload_n hx hb dL_law_1118 rfl (lv_at hl 5 rfl) ?_
    refine lv_iload hx hb dL_law_1119 (lv_at hl 0 rfl) ?_
    refine lv_iconst (v := nI 1) hx hb dL_law_1121 (by decide) ?_
    refine lv_iadd hx hb dL_law_1122 ?_
    rw [nI_add]
    refine va_sld hx hb hX hbl hbA hS (vp_in_nI (by omega) (by omega)) dL_law_1123 ?_
    refine lv_aload_n hx hb dL_law_1124 rfl (lv_at hl 5 rfl) ?_
    refine lv_iload hx hb dL_law_1125 (lv_at hl 0 rfl) ?_
    refine lv_iconst (v := nI 2) hx hb dL_law_1127 (by decide) ?_
    refine lv_iadd hx hb dL_law_1128 ?_
    rw [nI_add]
    refine va_sld hx hb hX hbl hbA hS (vp_in_nI (by omega) (by omega)) dL_law_1129 ?_
    refine lv_aload_n hx hb dL_law_1130 rfl (lv_at hl 2 rfl) ?_
    refine law_w X F h hS (fun f sz => lw_signed l hf k1 F.1.2.2.2.1 ob cL f F.2.2.2.2.1 _ _ sz) hl.1 gL_law_L_signed rfl (by decide +kernel) (n := 4) ⟨Nat.le_of_ble_eq_true rfl, Nat.le_of_ble_eq_true rfl⟩ ⟨Nat.le_of_ble_eq_true rfl, Nat.le_of_ble_eq_true rfl⟩ (Nat.le_of_ble_eq_true rfl) rfl rfl dL_law_1131 (fun r1 x1 f1 H locs hp1 hf1 hO hP hS => ?_)
    rw [if_pos hg] at hp1
    obtain ⟨rfl, hx1⟩ := hp1
    refine lv_istore hx hb dL_law_1134 hl (by decide) rfl (fun ls hl => ?_)
    have hl : lv_has ls 9 [(6, _), (5, _), (4, _), (3, _), (2, _), (1, _), (0, _)] := hl
    refine lv_aload_n hx hb dL_law_1136 rfl (lv_at hl 4 rfl) ?_
    refine lv_aload_n hx hb dL_law_1137 rfl (lv_at hl 6 rfl) ?_
    refine lv_iload hx hb dL_law_1138 (lv_at hl 1 rfl) ?_
    refine lv_iconst (v := nI 1) hx hb dL_law_1140 (by decide) ?_
    refine lv_iadd hx hb dL_law_1141 ?_
    rw [nI_add]
    refine va_sld hx hb hX hbl hbA hS (vp_in_nI (by omega) (by omega)) dL_law_1142 ?_
    refine lv_aload_n hx hb dL_law_1143 rfl (lv_at hl 6 rfl) ?_
    refine lv_iload hx hb dL_law_1144 (lv_at hl 1 rfl) ?_
    refine lv_iconst (v := nI 2) hx hb dL_law_1146 (by decide) ?_
    refine lv_iadd hx hb dL_law_1147 ?_
    rw [nI_add]
    refine va_sld hx hb hX hbl hbA hS (vp_in_nI (by omega) (by omega)) dL_law_1148 ?_
    refine law_m X F hP hO F.2.2.2.2.2.2.1 hS (ct_X4_signed l k2 4 IZ F.1.2.2.2.2.2.2.2 _ _) hl.1 gL_law_X4_signed rfl (by decide +kernel) (n := 2) ⟨Nat.le_of_ble_eq_true rfl, Nat.le_of_ble_eq_true rfl⟩ ⟨Nat.le_of_ble_eq_true rfl, Nat.le_of_ble_eq_true rfl⟩ (Nat.le_of_ble_eq_true rfl) rfl rfl dL_law_1149 (fun r2 v2 fs2 H locs hp2 hP hO hS => ?_)
    obtain ⟨I2, hp2, hv2⟩ := hp2
    rw [hv2] at hp2
    rw [if_pos (hg)] at hp2
    obtain ⟨rfl, hx2⟩ := hp2
    refine lv_istore hx hb dL_law_1152 hl (by decide) rfl (fun ls hl => ?_)
    have hl : lv_has ls 9 [(7, _), (6, _), (5, _), (4, _), (3, _), (2, _), (1, _), (0, _)] := hl
    refine lv_aload_n hx hb dL_law_1154 rfl (lv_at hl 5 rfl) ?_
    refine law_t X F hP hO hS hl.1 ⟨Nat.le_of_ble_eq_true rfl, Nat.le_of_ble_eq_true rfl⟩ ⟨Nat.le_of_ble_eq_true rfl, Nat.le_of_ble_eq_true rfl⟩ (Nat.le_of_ble_eq_true rfl) dL_law_1155 (fun H locs hO hS => ?_)
    refine lv_iload hx hb dL_law_1158 (lv_at hl 1 rfl) ?_
    refine lv_icmp_eq (tgt := 1165) hx hb dL_law_1160 (by decide) (fun _ => ?_) (fun c1 => absurd rfl c1)
    refine lv_iload hx hb dL_law_1165 (lv_at hl 1 rfl) ?_
    refine lv_if_ne (tgt := 1182) hx hb dL_law_1167 (by decide) (fun c1 => absurd rfl c1) (fun _ => ?_)
    refine lv_aload_n hx hb dL_law_1170 rfl (lv_at hl 4 rfl) ?_
    refine lv_iconst (v := nI 0) hx hb dL_law_1171 (by decide) ?_
    refine va_lald hx hb F.1.2.2.2.2.1 hO 0 0 rfl rfl (vp_in_nI (by omega) (by omega)) dL_law_1172 ?_
    refine lv_iload hx hb dL_law_1173 (lv_at hl 0 rfl) ?_
    refine lv_i2l hx hb dL_law_1175 rfl ?_
    rw [show f1 (nI 0).toNatClampNeg = r2.toInt64 from hf1.trans (hx1.trans (by rw [hx2]))]
    refine W.lcmp hx hb dL_law_1176 ?_
    refine lv_if_eq (tgt := 1182) hx hb dL_law_1177 (by decide) (fun _ => ?_) (fun c1 => absurd (cmp_s _) c1)
    refine lv_goto (tgt := 2153) hx hb dL_law_1182 (by decide) ?_
    exact hend _ _ _ _ _ hS (lv_sub hl [7, 2] rfl) (Nat.le_of_ble_eq_true rfl) (Nat.le_of_ble_eq_true rfl)
  · refine lv_aload_n hx hb dL_law_1117 rfl (lv_at hl 4 rfl) ?_
    refine lv_aload_n hx hb dL_law_1118 rfl (lv_at hl 5 rfl) ?_
    refine lv_iload hx hb dL_law_1119 (lv_at hl 0 rfl) ?_
    refine lv_iconst (v := nI 1) hx hb dL_law_1121 (by decide) ?_
    refine lv_iadd hx hb dL_law_1122 ?_
    rw [nI_add]
    refine va_sld hx hb hX hbl hbA hS (vp_in_nI (by omega) (by omega)) dL_law_1123 ?_
    refine lv_aload_n hx hb dL_law_1124 rfl (lv_at hl 5 rfl) ?_
    refine lv_iload hx hb dL_law_1125 (lv_at hl 0 rfl) ?_
    refine lv_iconst (v := nI 2) hx hb dL_law_1127 (by decide) ?_
    refine lv_iadd hx hb dL_law_1128 ?_
    rw [nI_add]
    refine va_sld hx hb hX hbl hbA hS (vp_in_nI (by omega) (by omega)) dL_law_1129 ?_
    refine lv_aload_n hx hb dL_law_1130 rfl (lv_at hl 2 rfl) ?_
    refine law_w X F h hS (fun f sz => lw_signed l hf k1 F.1.2.2.2.1 ob cL f F.2.2.2.2.1 _ _ sz) hl.1 gL_law_L_signed rfl (by decide +kernel) (n := 4) ⟨Nat.le_of_ble_eq_true rfl, Nat.le_of_ble_eq_true rfl⟩ ⟨Nat.le_of_ble_eq_true rfl, Nat.le_of_ble_eq_true rfl⟩ (Nat.le_of_ble_eq_true rfl) rfl rfl dL_law_1131 (fun r1 x1 f1 H locs hp1 hf1 hO hP hS => ?_)
    rw [if_neg hg] at hp1
    obtain rfl := hp1
    refine lv_istore hx hb dL_law_1134 hl (by decide) rfl (fun ls hl => ?_)
    have hl : lv_has ls 9 [(6, _), (5, _), (4, _), (3, _), (2, _), (1, _), (0, _)] := hl
    refine lv_aload_n hx hb dL_law_1136 rfl (lv_at hl 4 rfl) ?_
    refine lv_aload_n hx hb dL_law_1137 rfl (lv_at hl 6 rfl) ?_
    refine lv_iload hx hb dL_law_1138 (lv_at hl 1 rfl) ?_
    refine lv_iconst (v := nI 1) hx hb dL_law_1140 (by decide) ?_
    refine lv_iadd hx hb dL_law_1141 ?_
    rw [nI_add]
    refine va_sld hx hb hX hbl hbA hS (vp_in_nI (by omega) (by omega)) dL_law_1142 ?_
    refine lv_aload_n hx hb dL_law_1143 rfl (lv_at hl 6 rfl) ?_
    refine lv_iload hx hb dL_law_1144 (lv_at hl 1 rfl) ?_
    refine lv_iconst (v := nI 2) hx hb dL_law_1146 (by decide) ?_
    refine lv_iadd hx hb dL_law_1147 ?_
    rw [nI_add]
    refine va_sld hx hb hX hbl hbA hS (vp_in_nI (by omega) (by omega)) dL_law_1148 ?_
    refine law_m X F hP hO F.2.2.2.2.2.2.1 hS (ct_X4_signed l k2 4 IZ F.1.2.2.2.2.2.2.2 _ _) hl.1 gL_law_X4_signed rfl (by decide +kernel) (n := 2) ⟨Nat.le_of_ble_eq_true rfl, Nat.le_of_ble_eq_true rfl⟩ ⟨Nat.le_of_ble_eq_true rfl, Nat.le_of_ble_eq_true rfl⟩ (Nat.le_of_ble_eq_true rfl) rfl rfl dL_law_1149 (fun r2 v2 fs2 H locs hp2 hP hO hS => ?_)
    obtain ⟨I2, hp2, hv2⟩ := hp2
    rw [hv2] at hp2
    rw [if_neg hg] at hp2
    obtain rfl := hp2
    refine lv_istore hx hb dL_law_1152 hl (by decide) rfl (fun ls hl => ?_)
    have hl : lv_has ls 9 [(7, _), (6, _), (5, _), (4, _), (3, _), (2, _), (1, _), (0, _)] := hl
    refine lv_aload_n hx hb dL_law_1154 rfl (lv_at hl 5 rfl) ?_
    refine law_t X F hP hO hS hl.1 ⟨Nat.le_of_ble_eq_true rfl, Nat.le_of_ble_eq_true rfl⟩ ⟨Nat.le_of_ble_eq_true rfl, Nat.le_of_ble_eq_true rfl⟩ (Nat.le_of_ble_eq_true rfl) dL_law_1155 (fun H locs hO hS => ?_)
    refine lv_iload hx hb dL_law_1158 (lv_at hl 1 rfl) ?_
    refine lv_icmp_eq (tgt := 1165) hx hb dL_law_1160 (by decide) (fun _ => ?_) (fun c1 => absurd rfl c1)
    refine lv_iload hx hb dL_law_1165 (lv_at hl 1 rfl) ?_
    refine lv_if_ne (tgt := 1182) hx hb dL_law_1167 (by decide) (fun _ => ?_) (fun c1 => absurd c1 ne_1)
    refine lv_goto (tgt := 2153) hx hb dL_law_1182 (by decide) ?_
    exact hend _ _ _ _ _ hS (lv_sub hl [7, 2] rfl) (Nat.le_of_ble_eq_true rfl) (Nat.le_of_ble_eq_true rfl)
set_option maxHeartbeats 4000000 in
set_option maxRecDepth 100000 in
theorem cs_signer {p : Program} {e : Env} {s : State} {m : MethodId} {below : List Frame} {meth : Method} {c : Code} (l : Launch) (hf : l.stackTraces = false) {b : Nat} {xs : Nat → Int32} {k1 k2 : Sk} {ob od : Nat} {cL cD : ClassId} {H : Heap} {locs : List Loc} {ls : Array Slot} {Q : State → Prop} (X : CallFix p m c cL_law 9 s #[Value.ref b] wsL_law RL) (F : LF s k1 k2 ob od cL cD) (hX : va_X b 5 xs s s.heap) (hbl : b < s.heap.size) (hr : meth.sig.returnType = some .boolean ∧ meth.locks = false) (h : LH H k1 k2 ob od cL cD) (hS : va_S (AL s) s.heap H locs) (hl : lv_has ls 9 [(5, .int (nI 0)), (4, .ref od), (3, .ref ob), (2, .ref (k2.2.1 0)), (1, .ref (k1.2.1 0)), (0, .ref b)]) (hend : LEnd p l e s m b below meth c Q) : W p l e room_1 s m #[Value.ref b] below meth c H locs 200 2000 Q (F0 m 1185 ls []) := by
  have hx := X.1
  have hb := X.2.1
  have hbA : ¬ AL s b := Nat.not_le.mpr hbl
  by_cases hg : isW (xs (nI (0 + 1)).toNatClampNeg) (nI 996) = true ∧ isW (xs (nI (0 + 2)).toNatClampNeg) (nI 996) = true
  · refine lv_aload_n hx hb dL_law_1185 rfl (lv_at hl 4 rfl) ?_
    refine lv_aload_n hx hb dL_law_1186 rfl (lv_at hl 5 rfl) ?_
    refine lv_iload hx hb dL_law_1187 (lv_at hl 0 rfl) ?_
    refine lv_iconst (v := nI 1) hx hb dL_law_1189 (by decide) ?_
    refine lv_iadd hx hb dL_law_1190 ?_
    rw [nI_add]
    refine va_sld hx hb hX hbl hbA hS (vp_in_nI (by omega) (by omega)) dL_law_1191 ?_
    refine lv_aload_n hx hb dL_law_1192 rfl (lv_at hl 5 rfl) ?_
    refine lv_iload hx hb dL_law_1193 (lv_at hl 0 rfl) ?_
    refine lv_iconst (v := nI 2) hx hb dL_law_1195 (by decide) ?_
    refine lv_iadd hx hb dL_law_1196 ?_
    rw [nI_add]
    refine va_sld hx hb hX hbl hbA hS (vp_in_nI (by omega) (by omega)) dL_law_1197 ?_
    refine lv_aload_n hx hb dL_law_1198 rfl (lv_at hl 2 rfl) ?_
    refine law_w X F h hS (fun f sz => lw_signer l hf k1 F.1.2.2.2.1 ob cL f F.2.2.2.2.1 _ _ sz) hl.1 gL_law_L_signer rfl (by decide +kernel) (n := 4) ⟨Nat.le_of_ble_eq_true rfl, Nat.le_of_ble_eq_true rfl⟩ ⟨Nat.le_of_ble_eq_true rfl, Nat.le_of_ble_eq_true rfl⟩ (Nat.le_of_ble_eq_true rfl) rfl rfl dL_law_1199 (fun r1 x1 f1 H locs hp1 hf1 hO hP hS => ?_)
    rw [if_pos hg] at hp1
    obtain ⟨rfl, hx1⟩ := hp1
    refine lv_istore hx hb dL_law_1202 hl (by decide) rfl (fun ls hl => ?_)
    have hl : lv_has ls 9 [(6, _), (5, _), (4, _), (3, _), (2, _), (1, _), (0, _)] := hl
    refine lv_aload_n hx hb dL_law_1204 rfl (lv_at hl 4 rfl) ?_
    refine lv_aload_n hx hb dL_law_1205 rfl (lv_at hl 6 rfl) ?_
    refine lv_iload hx hb dL_law_1206 (lv_at hl 1 rfl) ?_
    refine lv_iconst (v := nI 1) hx hb dL_law_1208 (by decide) ?_
    refine lv_iadd hx hb dL_law_1209 ?_
    rw [nI_add]
    refine va_sld hx hb hX hbl hbA hS (vp_in_nI (by omega) (by omega)) dL_law_1210 ?_
    refine lv_aload_n hx hb dL_law_1211 rfl (lv_at hl 6 rfl) ?_
    refine lv_iload hx hb dL_law_1212 (lv_at hl 1 rfl) ?_
    refine lv_iconst (v := nI 2) hx hb dL_law_1214 (by decide) ?_
    refine lv_iadd hx hb dL_law_1215 ?_
    rw [nI_add]
    refine va_sld hx hb hX hbl hbA hS (vp_in_nI (by omega) (by omega)) dL_law_1216 ?_
    refine law_m X F hP hO F.2.2.2.2.2.2.1 hS (ct_X4_signer l k2 4 IZ F.1.2.2.2.2.2.2.2 _ _) hl.1 gL_law_X4_signer rfl (by decide +kernel) (n := 2) ⟨Nat.le_of_ble_eq_true rfl, Nat.le_of_ble_eq_true rfl⟩ ⟨Nat.le_of_ble_eq_true rfl, Nat.le_of_ble_eq_true rfl⟩ (Nat.le_of_ble_eq_true rfl) rfl rfl dL_law_1217 (fun r2 v2 fs2 H locs hp2 hP hO hS => ?_)
    obtain ⟨I2, hp2, hv2⟩ := hp2
    rw [hv2] at hp2
    rw [if_pos (hg)] at hp2
    obtain ⟨rfl, hx2⟩ := hp2
    refine lv_istore hx hb dL_law_1220 hl (by decide) rfl (fun ls hl => ?_)
    have hl : lv_has ls 9 [(7, _), (6, _), (5, _), (4, _), (3, _), (2, _), (1, _), (0, _)] := hl
    refine lv_aload_n hx hb dL_law_1222 rfl (lv_at hl 5 rfl) ?_
    refine law_t X F hP hO hS hl.1 ⟨Nat.le_of_ble_eq_true rfl, Nat.le_of_ble_eq_true rfl⟩ ⟨Nat.le_of_ble_eq_true rfl, Nat.le_of_ble_eq_true rfl⟩ (Nat.le_of_ble_eq_true rfl) dL_law_1223 (fun H locs hO hS => ?_)
    refine lv_iload hx hb dL_law_1226 (lv_at hl 1 rfl) ?_
    refine lv_icmp_eq (tgt := 1233) hx hb dL_law_1228 (by decide) (fun _ => ?_) (fun c1 => absurd rfl c1)
    refine lv_iload hx hb dL_law_1233 (lv_at hl 1 rfl) ?_
    refine lv_if_ne (tgt := 1250) hx hb dL_law_1235 (by decide) (fun c1 => absurd rfl c1) (fun _ => ?_)
    refine lv_aload_n hx hb dL_law_1238 rfl (lv_at hl 4 rfl) ?_
    refine lv_iconst (v := nI 0) hx hb dL_law_1239 (by decide) ?_
    refine va_lald hx hb F.1.2.2.2.2.1 hO 0 0 rfl rfl (vp_in_nI (by omega) (by omega)) dL_law_1240 ?_
    refine lv_iload hx hb dL_law_1241 (lv_at hl 0 rfl) ?_
    refine lv_i2l hx hb dL_law_1243 rfl ?_
    rw [show f1 (nI 0).toNatClampNeg = r2.toInt64 from hf1.trans (hx1.trans (by rw [hx2]))]
    refine W.lcmp hx hb dL_law_1244 ?_
    refine lv_if_eq (tgt := 1250) hx hb dL_law_1245 (by decide) (fun _ => ?_) (fun c1 => absurd (cmp_s _) c1)
    refine lv_goto (tgt := 2153) hx hb dL_law_1250 (by decide) ?_
    exact hend _ _ _ _ _ hS (lv_sub hl [7, 2] rfl) (Nat.le_of_ble_eq_true rfl) (Nat.le_of_ble_eq_true rfl)
  · refine lv_aload_n hx hb dL_law_1185 rfl (lv_at hl 4 rfl) ?_
    refine lv_aload_n hx hb dL_law_1186 rfl (lv_at hl 5 rfl) ?_
    refine lv_iload hx hb dL_law_1187 (lv_at hl 0 rfl) ?_
    refine lv_iconst (v := nI 1) hx hb dL_law_1189 (by decide) ?_
    refine lv_iadd hx hb dL_law_1190 ?_
    rw [nI_add]
    refine va_sld hx hb hX hbl hbA hS (vp_in_nI (by omega) (by omega)) dL_law_1191 ?_
    refine lv_aload_n hx hb dL_law_1192 rfl (lv_at hl 5 rfl) ?_
    refine lv_iload hx hb dL_law_1193 (lv_at hl 0 rfl) ?_
    refine lv_iconst (v := nI 2) hx hb dL_law_1195 (by decide) ?_
    refine lv_iadd hx hb dL_law_1196 ?_
    rw [nI_add]
    refine va_sld hx hb hX hbl hbA hS (vp_in_nI (by omega) (by omega)) dL_law_1197 ?_
    refine lv_aload_n hx hb dL_law_1198 rfl (lv_at hl 2 rfl) ?_
    refine law_w X F h hS (fun f sz => lw_signer l hf k1 F.1.2.2.2.1 ob cL f F.2.2.2.2.1 _ _ sz) hl.1 gL_law_L_signer rfl (by decide +kernel) (n := 4) ⟨Nat.le_of_ble_eq_true rfl, Nat.le_of_ble_eq_true rfl⟩ ⟨Nat.le_of_ble_eq_true rfl, Nat.le_of_ble_eq_true rfl⟩ (Nat.le_of_ble_eq_true rfl) rfl rfl dL_law_1199 (fun r1 x1 f1 H locs hp1 hf1 hO hP hS => ?_)
    rw [if_neg hg] at hp1
    obtain rfl := hp1
    refine lv_istore hx hb dL_law_1202 hl (by decide) rfl (fun ls hl => ?_)
    have hl : lv_has ls 9 [(6, _), (5, _), (4, _), (3, _), (2, _), (1, _), (0, _)] := hl
    refine lv_aload_n hx hb dL_law_1204 rfl (lv_at hl 4 rfl) ?_
    refine lv_aload_n hx hb dL_law_1205 rfl (lv_at hl 6 rfl) ?_
    refine lv_iload hx hb dL_law_1206 (lv_at hl 1 rfl) ?_
    refine lv_iconst (v := nI 1) hx hb dL_law_1208 (by decide) ?_
    refine lv_iadd hx hb dL_law_1209 ?_
    rw [nI_add]
    refine va_sld hx hb hX hbl hbA hS (vp_in_nI (by omega) (by omega)) dL_law_1210 ?_
    refine lv_aload_n hx hb dL_law_1211 rfl (lv_at hl 6 rfl) ?_
    refine lv_iload hx hb dL_law_1212 (lv_at hl 1 rfl) ?_
    refine lv_iconst (v := nI 2) hx hb dL_law_1214 (by decide) ?_
    refine lv_iadd hx hb dL_law_1215 ?_
    rw [nI_add]
    refine va_sld hx hb hX hbl hbA hS (vp_in_nI (by omega) (by omega)) dL_law_1216 ?_
    refine law_m X F hP hO F.2.2.2.2.2.2.1 hS (ct_X4_signer l k2 4 IZ F.1.2.2.2.2.2.2.2 _ _) hl.1 gL_law_X4_signer rfl (by decide +kernel) (n := 2) ⟨Nat.le_of_ble_eq_true rfl, Nat.le_of_ble_eq_true rfl⟩ ⟨Nat.le_of_ble_eq_true rfl, Nat.le_of_ble_eq_true rfl⟩ (Nat.le_of_ble_eq_true rfl) rfl rfl dL_law_1217 (fun r2 v2 fs2 H locs hp2 hP hO hS => ?_)
    obtain ⟨I2, hp2, hv2⟩ := hp2
    rw [hv2] at hp2
    rw [if_neg hg] at hp2
    obtain rfl := hp2
    refine lv_istore hx hb dL_law_1220 hl (by decide) rfl (fun ls hl => ?_)
    have hl : lv_has ls 9 [(7, _), (6, _), (5, _), (4, _), (3, _), (2, _), (1, _), (0, _)] := hl
    refine lv_aload_n hx hb dL_law_1222 rfl (lv_at hl 5 rfl) ?_
    refine law_t X F hP hO hS hl.1 ⟨Nat.le_of_ble_eq_true rfl, Nat.le_of_ble_eq_true rfl⟩ ⟨Nat.le_of_ble_eq_true rfl, Nat.le_of_ble_eq_true rfl⟩ (Nat.le_of_ble_eq_true rfl) dL_law_1223 (fun H locs hO hS => ?_)
    refine lv_iload hx hb dL_law_1226 (lv_at hl 1 rfl) ?_
    refine lv_icmp_eq (tgt := 1233) hx hb dL_law_1228 (by decide) (fun _ => ?_) (fun c1 => absurd rfl c1)
    refine lv_iload hx hb dL_law_1233 (lv_at hl 1 rfl) ?_
    refine lv_if_ne (tgt := 1250) hx hb dL_law_1235 (by decide) (fun _ => ?_) (fun c1 => absurd c1 ne_1)
    refine lv_goto (tgt := 2153) hx hb dL_law_1250 (by decide) ?_
    exact hend _ _ _ _ _ hS (lv_sub hl [7, 2] rfl) (Nat.le_of_ble_eq_true rfl) (Nat.le_of_ble_eq_true rfl)
set_option maxHeartbeats 4000000 in
set_option maxRecDepth 100000 in
theorem cs_isUnder {p : Program} {e : Env} {s : State} {m : MethodId} {below : List Frame} {meth : Method} {c : Code} (l : Launch) (hf : l.stackTraces = false) {b : Nat} {xs : Nat → Int32} {k1 k2 : Sk} {ob od : Nat} {cL cD : ClassId} {H : Heap} {locs : List Loc} {ls : Array Slot} {Q : State → Prop} (X : CallFix p m c cL_law 9 s #[Value.ref b] wsL_law RL) (F : LF s k1 k2 ob od cL cD) (hX : va_X b 5 xs s s.heap) (hbl : b < s.heap.size) (hr : meth.sig.returnType = some .boolean ∧ meth.locks = false) (h : LH H k1 k2 ob od cL cD) (hS : va_S (AL s) s.heap H locs) (hl : lv_has ls 9 [(5, .int (nI 0)), (4, .ref od), (3, .ref ob), (2, .ref (k2.2.1 0)), (1, .ref (k1.2.1 0)), (0, .ref b)]) (hend : LEnd p l e s m b below meth c Q) : W p l e room_1 s m #[Value.ref b] below meth c H locs 200 2000 Q (F0 m 1253 ls []) := by
  have hx := X.1
  have hb := X.2.1
  have hbA : ¬ AL s b := Nat.not_le.mpr hbl
  by_cases hg : isNm (xs (nI (0 + 1)).toNatClampNeg) = true ∧ isN0 (xs (nI (0 + 2)).toNatClampNeg) = true
  · refine lv_aload_n hx hb dL_law_1253 rfl (lv_at hl 4 rfl) ?_
    refine lv_aload_n hx hb dL_law_1254 rfl (lv_at hl 5 rfl) ?_
    refine lv_iload hx hb dL_law_1255 (lv_at hl 0 rfl) ?_
    refine lv_iconst (v := nI 1) hx hb dL_law_1257 (by decide) ?_
    refine lv_iadd hx hb dL_law_1258 ?_
    rw [nI_add]
    refine va_sld hx hb hX hbl hbA hS (vp_in_nI (by omega) (by omega)) dL_law_1259 ?_
    refine lv_aload_n hx hb dL_law_1260 rfl (lv_at hl 5 rfl) ?_
    refine lv_iload hx hb dL_law_1261 (lv_at hl 0 rfl) ?_
    refine lv_iconst (v := nI 2) hx hb dL_law_1263 (by decide) ?_
    refine lv_iadd hx hb dL_law_1264 ?_
    rw [nI_add]
    refine va_sld hx hb hX hbl hbA hS (vp_in_nI (by omega) (by omega)) dL_law_1265 ?_
    refine lv_aload_n hx hb dL_law_1266 rfl (lv_at hl 2 rfl) ?_
    refine law_w X F h hS (fun f sz => lw_isUnder l hf k1 F.1.2.2.2.1 ob cL f F.2.2.2.2.1 _ _ sz) hl.1 gL_law_L_isUnder rfl (by decide +kernel) (n := 4) ⟨Nat.le_of_ble_eq_true rfl, Nat.le_of_ble_eq_true rfl⟩ ⟨Nat.le_of_ble_eq_true rfl, Nat.le_of_ble_eq_true rfl⟩ (Nat.le_of_ble_eq_true rfl) rfl rfl dL_law_1267 (fun r1 x1 f1 H locs hp1 hf1 hO hP hS => ?_)
    rw [if_pos hg] at hp1
    obtain ⟨rfl, hx1⟩ := hp1
    refine lv_istore hx hb dL_law_1270 hl (by decide) rfl (fun ls hl => ?_)
    have hl : lv_has ls 9 [(6, _), (5, _), (4, _), (3, _), (2, _), (1, _), (0, _)] := hl
    refine lv_aload_n hx hb dL_law_1272 rfl (lv_at hl 4 rfl) ?_
    refine lv_aload_n hx hb dL_law_1273 rfl (lv_at hl 6 rfl) ?_
    refine lv_iload hx hb dL_law_1274 (lv_at hl 1 rfl) ?_
    refine lv_iconst (v := nI 1) hx hb dL_law_1276 (by decide) ?_
    refine lv_iadd hx hb dL_law_1277 ?_
    rw [nI_add]
    refine va_sld hx hb hX hbl hbA hS (vp_in_nI (by omega) (by omega)) dL_law_1278 ?_
    refine lv_aload_n hx hb dL_law_1279 rfl (lv_at hl 6 rfl) ?_
    refine lv_iload hx hb dL_law_1280 (lv_at hl 1 rfl) ?_
    refine lv_iconst (v := nI 2) hx hb dL_law_1282 (by decide) ?_
    refine lv_iadd hx hb dL_law_1283 ?_
    rw [nI_add]
    refine va_sld hx hb hX hbl hbA hS (vp_in_nI (by omega) (by omega)) dL_law_1284 ?_
    refine law_m X F hP hO F.2.2.2.2.2.2.1 hS (ct_X4_isUnder l k2 4 IZ F.1.2.2.2.2.2.2.2 _ _) hl.1 gL_law_X4_isUnder rfl (by decide +kernel) (n := 2) ⟨Nat.le_of_ble_eq_true rfl, Nat.le_of_ble_eq_true rfl⟩ ⟨Nat.le_of_ble_eq_true rfl, Nat.le_of_ble_eq_true rfl⟩ (Nat.le_of_ble_eq_true rfl) rfl rfl dL_law_1285 (fun r2 v2 fs2 H locs hp2 hP hO hS => ?_)
    obtain ⟨I2, hp2, hv2⟩ := hp2
    rw [hv2] at hp2
    rw [if_pos (hg)] at hp2
    obtain ⟨rfl, hx2⟩ := hp2
    refine lv_istore hx hb dL_law_1288 hl (by decide) rfl (fun ls hl => ?_)
    have hl : lv_has ls 9 [(7, _), (6, _), (5, _), (4, _), (3, _), (2, _), (1, _), (0, _)] := hl
    refine lv_aload_n hx hb dL_law_1290 rfl (lv_at hl 5 rfl) ?_
    refine law_t X F hP hO hS hl.1 ⟨Nat.le_of_ble_eq_true rfl, Nat.le_of_ble_eq_true rfl⟩ ⟨Nat.le_of_ble_eq_true rfl, Nat.le_of_ble_eq_true rfl⟩ (Nat.le_of_ble_eq_true rfl) dL_law_1291 (fun H locs hO hS => ?_)
    refine lv_iload hx hb dL_law_1294 (lv_at hl 1 rfl) ?_
    refine lv_icmp_eq (tgt := 1301) hx hb dL_law_1296 (by decide) (fun _ => ?_) (fun c1 => absurd rfl c1)
    refine lv_iload hx hb dL_law_1301 (lv_at hl 1 rfl) ?_
    refine lv_if_ne (tgt := 1325) hx hb dL_law_1303 (by decide) (fun c1 => absurd rfl c1) (fun _ => ?_)
    refine lv_aload_n hx hb dL_law_1306 rfl (lv_at hl 4 rfl) ?_
    refine lv_iconst (v := nI 0) hx hb dL_law_1307 (by decide) ?_
    refine va_lald hx hb F.1.2.2.2.2.1 hO 0 0 rfl rfl (vp_in_nI (by omega) (by omega)) dL_law_1308 ?_
    refine lv_iload hx hb dL_law_1309 (lv_at hl 0 rfl) ?_
    refine lv_if_eq (tgt := 1318) hx hb dL_law_1311 (by decide) (fun c1 => ?_) (fun c1 => ?_)
    · refine lv_lconst (v := 0) hx hb dL_law_1318 rfl ?_
      rw [show f1 (nI 0).toNatClampNeg = 0 from hf1.trans (hx1.trans (by rw [if_neg (show ¬ isUn (xs (nI (0 + 1)).toNatClampNeg) (xs (nI (0 + 2)).toNatClampNeg) = true by rw [hx2] at c1; rw [bI_z c1]; decide)]))]
      refine W.lcmp hx hb dL_law_1319 ?_
      refine lv_if_eq (tgt := 1325) hx hb dL_law_1320 (by decide) (fun _ => ?_) (fun c1 => absurd (cmp_s _) c1)
      refine lv_goto (tgt := 2153) hx hb dL_law_1325 (by decide) ?_
      exact hend _ _ _ _ _ hS (lv_sub hl [7, 2] rfl) (Nat.le_of_ble_eq_true rfl) (Nat.le_of_ble_eq_true rfl)
    · refine lv_lconst (v := 1) hx hb dL_law_1314 rfl ?_
      refine lv_goto (tgt := 1319) hx hb dL_law_1315 (by decide) ?_
      rw [show f1 (nI 0).toNatClampNeg = 1 from hf1.trans (hx1.trans (by rw [if_pos (show isUn (xs (nI (0 + 1)).toNatClampNeg) (xs (nI (0 + 2)).toNatClampNeg) = true from bI_nz (by rw [hx2] at c1; exact c1))]))]
      refine W.lcmp hx hb dL_law_1319 ?_
      refine lv_if_eq (tgt := 1325) hx hb dL_law_1320 (by decide) (fun _ => ?_) (fun c1 => absurd (cmp_s _) c1)
      refine lv_goto (tgt := 2153) hx hb dL_law_1325 (by decide) ?_
      exact hend _ _ _ _ _ hS (lv_sub hl [7, 2] rfl) (Nat.le_of_ble_eq_true rfl) (Nat.le_of_ble_eq_true rfl)
  · refine lv_aload_n hx hb dL_law_1253 rfl (lv_at hl 4 rfl) ?_
    refine lv_aload_n hx hb dL_law_1254 rfl (lv_at hl 5 rfl) ?_
    refine lv_iload hx hb dL_law_1255 (lv_at hl 0 rfl) ?_
    refine lv_iconst (v := nI 1) hx hb dL_law_1257 (by decide) ?_
    refine lv_iadd hx hb dL_law_1258 ?_
    rw [nI_add]
    refine va_sld hx hb hX hbl hbA hS (vp_in_nI (by omega) (by omega)) dL_law_1259 ?_
    refine lv_aload_n hx hb dL_law_1260 rfl (lv_at hl 5 rfl) ?_
    refine lv_iload hx hb dL_law_1261 (lv_at hl 0 rfl) ?_
    refine lv_iconst (v := nI 2) hx hb dL_law_1263 (by decide) ?_
    refine lv_iadd hx hb dL_law_1264 ?_
    rw [nI_add]
    refine va_sld hx hb hX hbl hbA hS (vp_in_nI (by omega) (by omega)) dL_law_1265 ?_
    refine lv_aload_n hx hb dL_law_1266 rfl (lv_at hl 2 rfl) ?_
    refine law_w X F h hS (fun f sz => lw_isUnder l hf k1 F.1.2.2.2.1 ob cL f F.2.2.2.2.1 _ _ sz) hl.1 gL_law_L_isUnder rfl (by decide +kernel) (n := 4) ⟨Nat.le_of_ble_eq_true rfl, Nat.le_of_ble_eq_true rfl⟩ ⟨Nat.le_of_ble_eq_true rfl, Nat.le_of_ble_eq_true rfl⟩ (Nat.le_of_ble_eq_true rfl) rfl rfl dL_law_1267 (fun r1 x1 f1 H locs hp1 hf1 hO hP hS => ?_)
    rw [if_neg hg] at hp1
    obtain rfl := hp1
    refine lv_istore hx hb dL_law_1270 hl (by decide) rfl (fun ls hl => ?_)
    have hl : lv_has ls 9 [(6, _), (5, _), (4, _), (3, _), (2, _), (1, _), (0, _)] := hl
    refine lv_aload_n hx hb dL_law_1272 rfl (lv_at hl 4 rfl) ?_
    refine lv_aload_n hx hb dL_law_1273 rfl (lv_at hl 6 rfl) ?_
    refine lv_iload hx hb dL_law_1274 (lv_at hl 1 rfl) ?_
    refine lv_iconst (v := nI 1) hx hb dL_law_1276 (by decide) ?_
    refine lv_iadd hx hb dL_law_1277 ?_
    rw [nI_add]
    refine va_sld hx hb hX hbl hbA hS (vp_in_nI (by omega) (by omega)) dL_law_1278 ?_
    refine lv_aload_n hx hb dL_law_1279 rfl (lv_at hl 6 rfl) ?_
    refine lv_iload hx hb dL_law_1280 (lv_at hl 1 rfl) ?_
    refine lv_iconst (v := nI 2) hx hb dL_law_1282 (by decide) ?_
    refine lv_iadd hx hb dL_law_1283 ?_
    rw [nI_add]
    refine va_sld hx hb hX hbl hbA hS (vp_in_nI (by omega) (by omega)) dL_law_1284 ?_
    refine law_m X F hP hO F.2.2.2.2.2.2.1 hS (ct_X4_isUnder l k2 4 IZ F.1.2.2.2.2.2.2.2 _ _) hl.1 gL_law_X4_isUnder rfl (by decide +kernel) (n := 2) ⟨Nat.le_of_ble_eq_true rfl, Nat.le_of_ble_eq_true rfl⟩ ⟨Nat.le_of_ble_eq_true rfl, Nat.le_of_ble_eq_true rfl⟩ (Nat.le_of_ble_eq_true rfl) rfl rfl dL_law_1285 (fun r2 v2 fs2 H locs hp2 hP hO hS => ?_)
    obtain ⟨I2, hp2, hv2⟩ := hp2
    rw [hv2] at hp2
    rw [if_neg hg] at hp2
    obtain rfl := hp2
    refine lv_istore hx hb dL_law_1288 hl (by decide) rfl (fun ls hl => ?_)
    have hl : lv_has ls 9 [(7, _), (6, _), (5, _), (4, _), (3, _), (2, _), (1, _), (0, _)] := hl
    refine lv_aload_n hx hb dL_law_1290 rfl (lv_at hl 5 rfl) ?_
    refine law_t X F hP hO hS hl.1 ⟨Nat.le_of_ble_eq_true rfl, Nat.le_of_ble_eq_true rfl⟩ ⟨Nat.le_of_ble_eq_true rfl, Nat.le_of_ble_eq_true rfl⟩ (Nat.le_of_ble_eq_true rfl) dL_law_1291 (fun H locs hO hS => ?_)
    refine lv_iload hx hb dL_law_1294 (lv_at hl 1 rfl) ?_
    refine lv_icmp_eq (tgt := 1301) hx hb dL_law_1296 (by decide) (fun _ => ?_) (fun c1 => absurd rfl c1)
    refine lv_iload hx hb dL_law_1301 (lv_at hl 1 rfl) ?_
    refine lv_if_ne (tgt := 1325) hx hb dL_law_1303 (by decide) (fun _ => ?_) (fun c1 => absurd c1 ne_1)
    refine lv_goto (tgt := 2153) hx hb dL_law_1325 (by decide) ?_
    exact hend _ _ _ _ _ hS (lv_sub hl [7, 2] rfl) (Nat.le_of_ble_eq_true rfl) (Nat.le_of_ble_eq_true rfl)
set_option maxHeartbeats 4000000 in
set_option maxRecDepth 100000 in
theorem cs_backs {p : Program} {e : Env} {s : State} {m : MethodId} {below : List Frame} {meth : Method} {c : Code} (l : Launch) (hf : l.stackTraces = false) {b : Nat} {xs : Nat → Int32} {k1 k2 : Sk} {ob od : Nat} {cL cD : ClassId} {H : Heap} {locs : List Loc} {ls : Array Slot} {Q : State → Prop} (X : CallFix p m c cL_law 9 s #[Value.ref b] wsL_law RL) (F : LF s k1 k2 ob od cL cD) (hX : va_X b 5 xs s s.heap) (hbl : b < s.heap.size) (hr : meth.sig.returnType = some .boolean ∧ meth.locks = false) (h : LH H k1 k2 ob od cL cD) (hS : va_S (AL s) s.heap H locs) (hl : lv_has ls 9 [(5, .int (nI 0)), (4, .ref od), (3, .ref ob), (2, .ref (k2.2.1 0)), (1, .ref (k1.2.1 0)), (0, .ref b)]) (hend : LEnd p l e s m b below meth c Q) : W p l e room_1 s m #[Value.ref b] below meth c H locs 200 2000 Q (F0 m 1328 ls []) := by
  have hx := X.1
  have hb := X.2.1
  have hbA : ¬ AL s b := Nat.not_le.mpr hbl
  refine lv_aload_n hx hb dL_law_1328 rfl (lv_at hl 4 rfl) ?_
  refine lv_aload_n hx hb dL_law_1329 rfl (lv_at hl 5 rfl) ?_
  refine lv_iload hx hb dL_law_1330 (lv_at hl 0 rfl) ?_
  refine lv_iconst (v := nI 1) hx hb dL_law_1332 (by decide) ?_
  refine lv_iadd hx hb dL_law_1333 ?_
  rw [nI_add]
  refine va_sld hx hb hX hbl hbA hS (vp_in_nI (by omega) (by omega)) dL_law_1334 ?_
  refine lv_aload_n hx hb dL_law_1335 rfl (lv_at hl 5 rfl) ?_
  refine lv_iload hx hb dL_law_1336 (lv_at hl 0 rfl) ?_
  refine lv_iconst (v := nI 2) hx hb dL_law_1338 (by decide) ?_
  refine lv_iadd hx hb dL_law_1339 ?_
  rw [nI_add]
  refine va_sld hx hb hX hbl hbA hS (vp_in_nI (by omega) (by omega)) dL_law_1340 ?_
  refine lv_aload_n hx hb dL_law_1341 rfl (lv_at hl 2 rfl) ?_
  refine law_w X F h hS (fun f sz => lw_backs l hf k1 F.1.2.2.2.1 ob cL f F.2.2.2.2.1 _ _ sz) hl.1 gL_law_L_backs rfl (by decide +kernel) (n := 4) ⟨Nat.le_of_ble_eq_true rfl, Nat.le_of_ble_eq_true rfl⟩ ⟨Nat.le_of_ble_eq_true rfl, Nat.le_of_ble_eq_true rfl⟩ (Nat.le_of_ble_eq_true rfl) rfl rfl dL_law_1342 (fun r1 x1 f1 H locs hp1 hf1 hO hP hS => ?_)
  obtain rfl : r1 = nI 1 := hp1
  refine lv_istore hx hb dL_law_1345 hl (by decide) rfl (fun ls hl => ?_)
  have hl : lv_has ls 9 [(6, _), (5, _), (4, _), (3, _), (2, _), (1, _), (0, _)] := hl
  refine lv_aload_n hx hb dL_law_1347 rfl (lv_at hl 4 rfl) ?_
  refine lv_aload_n hx hb dL_law_1348 rfl (lv_at hl 6 rfl) ?_
  refine lv_iload hx hb dL_law_1349 (lv_at hl 1 rfl) ?_
  refine lv_iconst (v := nI 1) hx hb dL_law_1351 (by decide) ?_
  refine lv_iadd hx hb dL_law_1352 ?_
  rw [nI_add]
  refine va_sld hx hb hX hbl hbA hS (vp_in_nI (by omega) (by omega)) dL_law_1353 ?_
  refine lv_aload_n hx hb dL_law_1354 rfl (lv_at hl 6 rfl) ?_
  refine lv_iload hx hb dL_law_1355 (lv_at hl 1 rfl) ?_
  refine lv_iconst (v := nI 2) hx hb dL_law_1357 (by decide) ?_
  refine lv_iadd hx hb dL_law_1358 ?_
  rw [nI_add]
  refine va_sld hx hb hX hbl hbA hS (vp_in_nI (by omega) (by omega)) dL_law_1359 ?_
  refine law_m X F hP hO F.2.2.2.2.2.2.1 hS (ct_X4_backs l k2 4 IZ F.1.2.2.2.2.2.2.2 ⟨rfl, rfl⟩ _ _) hl.1 gL_law_X4_backs rfl (by decide +kernel) (n := 2) ⟨Nat.le_of_ble_eq_true rfl, Nat.le_of_ble_eq_true rfl⟩ ⟨Nat.le_of_ble_eq_true rfl, Nat.le_of_ble_eq_true rfl⟩ (Nat.le_of_ble_eq_true rfl) rfl rfl dL_law_1360 (fun r2 v2 fs2 H locs hp2 hP hO hS => ?_)
  obtain ⟨I2, hp2, hv2⟩ := hp2
  have hp2 : v2 = nI 1 := hv2.symm.trans hp2
  subst hp2
  refine lv_istore hx hb dL_law_1363 hl (by decide) rfl (fun ls hl => ?_)
  have hl : lv_has ls 9 [(7, _), (6, _), (5, _), (4, _), (3, _), (2, _), (1, _), (0, _)] := hl
  refine lv_aload_n hx hb dL_law_1365 rfl (lv_at hl 5 rfl) ?_
  refine law_t X F hP hO hS hl.1 ⟨Nat.le_of_ble_eq_true rfl, Nat.le_of_ble_eq_true rfl⟩ ⟨Nat.le_of_ble_eq_true rfl, Nat.le_of_ble_eq_true rfl⟩ (Nat.le_of_ble_eq_true rfl) dL_law_1366 (fun H locs hO hS => ?_)
  refine lv_iload hx hb dL_law_1369 (lv_at hl 1 rfl) ?_
  refine lv_icmp_eq (tgt := 1376) hx hb dL_law_1371 (by decide) (fun _ => ?_) (fun c1 => absurd rfl c1)
  refine lv_iload hx hb dL_law_1376 (lv_at hl 1 rfl) ?_
  refine lv_if_ne (tgt := 1400) hx hb dL_law_1378 (by decide) (fun _ => ?_) (fun c1 => absurd c1 ne_1)
  refine lv_goto (tgt := 2153) hx hb dL_law_1400 (by decide) ?_
  exact hend _ _ _ _ _ hS (lv_sub hl [7, 2] rfl) (Nat.le_of_ble_eq_true rfl) (Nat.le_of_ble_eq_true rfl)
set_option maxHeartbeats 4000000 in
set_option maxRecDepth 100000 in
theorem cs_chains {p : Program} {e : Env} {s : State} {m : MethodId} {below : List Frame} {meth : Method} {c : Code} (l : Launch) (hf : l.stackTraces = false) {b : Nat} {xs : Nat → Int32} {k1 k2 : Sk} {ob od : Nat} {cL cD : ClassId} {H : Heap} {locs : List Loc} {ls : Array Slot} {Q : State → Prop} (X : CallFix p m c cL_law 9 s #[Value.ref b] wsL_law RL) (F : LF s k1 k2 ob od cL cD) (hX : va_X b 5 xs s s.heap) (hbl : b < s.heap.size) (hr : meth.sig.returnType = some .boolean ∧ meth.locks = false) (h : LH H k1 k2 ob od cL cD) (hS : va_S (AL s) s.heap H locs) (hl : lv_has ls 9 [(5, .int (nI 0)), (4, .ref od), (3, .ref ob), (2, .ref (k2.2.1 0)), (1, .ref (k1.2.1 0)), (0, .ref b)]) (hend : LEnd p l e s m b below meth c Q) : W p l e room_1 s m #[Value.ref b] below meth c H locs 200 2000 Q (F0 m 1403 ls []) := by
  have hx := X.1
  have hb := X.2.1
  have hbA : ¬ AL s b := Nat.not_le.mpr hbl
  refine lv_aload_n hx hb dL_law_1403 rfl (lv_at hl 4 rfl) ?_
  refine lv_aload_n hx hb dL_law_1404 rfl (lv_at hl 5 rfl) ?_
  refine lv_iload hx hb dL_law_1405 (lv_at hl 0 rfl) ?_
  refine lv_iconst (v := nI 1) hx hb dL_law_1407 (by decide) ?_
  refine lv_iadd hx hb dL_law_1408 ?_
  rw [nI_add]
  refine va_sld hx hb hX hbl hbA hS (vp_in_nI (by omega) (by omega)) dL_law_1409 ?_
  refine lv_aload_n hx hb dL_law_1410 rfl (lv_at hl 2 rfl) ?_
  refine law_w X F h hS (fun f sz => lw_chains l hf k1 F.1.2.2.2.1 ob cL f F.2.2.2.2.1 _ sz) hl.1 gL_law_L_chains rfl (by decide +kernel) (n := 3) ⟨Nat.le_of_ble_eq_true rfl, Nat.le_of_ble_eq_true rfl⟩ ⟨Nat.le_of_ble_eq_true rfl, Nat.le_of_ble_eq_true rfl⟩ (Nat.le_of_ble_eq_true rfl) rfl rfl dL_law_1411 (fun r1 x1 f1 H locs hp1 hf1 hO hP hS => ?_)
  obtain rfl : r1 = nI 1 := hp1
  refine lv_istore hx hb dL_law_1414 hl (by decide) rfl (fun ls hl => ?_)
  have hl : lv_has ls 9 [(6, _), (5, _), (4, _), (3, _), (2, _), (1, _), (0, _)] := hl
  refine lv_aload_n hx hb dL_law_1416 rfl (lv_at hl 4 rfl) ?_
  refine lv_aload_n hx hb dL_law_1417 rfl (lv_at hl 6 rfl) ?_
  refine lv_iload hx hb dL_law_1418 (lv_at hl 1 rfl) ?_
  refine lv_iconst (v := nI 1) hx hb dL_law_1420 (by decide) ?_
  refine lv_iadd hx hb dL_law_1421 ?_
  rw [nI_add]
  refine va_sld hx hb hX hbl hbA hS (vp_in_nI (by omega) (by omega)) dL_law_1422 ?_
  refine law_m X F hP hO F.2.2.2.2.2.2.1 hS (ct_X4_chains l k2 4 IZ F.1.2.2.2.2.2.2.2 ⟨rfl, rfl⟩ _) hl.1 gL_law_X4_chains rfl (by decide +kernel) (n := 1) ⟨Nat.le_of_ble_eq_true rfl, Nat.le_of_ble_eq_true rfl⟩ ⟨Nat.le_of_ble_eq_true rfl, Nat.le_of_ble_eq_true rfl⟩ (Nat.le_of_ble_eq_true rfl) rfl rfl dL_law_1423 (fun r2 v2 fs2 H locs hp2 hP hO hS => ?_)
  obtain ⟨I2, hp2, hv2⟩ := hp2
  have hp2 : v2 = nI 1 := hv2.symm.trans hp2
  subst hp2
  refine lv_istore hx hb dL_law_1426 hl (by decide) rfl (fun ls hl => ?_)
  have hl : lv_has ls 9 [(7, _), (6, _), (5, _), (4, _), (3, _), (2, _), (1, _), (0, _)] := hl
  refine lv_aload_n hx hb dL_law_1428 rfl (lv_at hl 5 rfl) ?_
  refine law_t X F hP hO hS hl.1 ⟨Nat.le_of_ble_eq_true rfl, Nat.le_of_ble_eq_true rfl⟩ ⟨Nat.le_of_ble_eq_true rfl, Nat.le_of_ble_eq_true rfl⟩ (Nat.le_of_ble_eq_true rfl) dL_law_1429 (fun H locs hO hS => ?_)
  refine lv_iload hx hb dL_law_1432 (lv_at hl 1 rfl) ?_
  refine lv_icmp_eq (tgt := 1439) hx hb dL_law_1434 (by decide) (fun _ => ?_) (fun c1 => absurd rfl c1)
  refine lv_iload hx hb dL_law_1439 (lv_at hl 1 rfl) ?_
  refine lv_if_ne (tgt := 1456) hx hb dL_law_1441 (by decide) (fun _ => ?_) (fun c1 => absurd c1 ne_1)
  refine lv_goto (tgt := 2153) hx hb dL_law_1456 (by decide) ?_
  exact hend _ _ _ _ _ hS (lv_sub hl [7, 2] rfl) (Nat.le_of_ble_eq_true rfl) (Nat.le_of_ble_eq_true rfl)
set_option maxHeartbeats 4000000 in
set_option maxRecDepth 100000 in
theorem cs_verdict {p : Program} {e : Env} {s : State} {m : MethodId} {below : List Frame} {meth : Method} {c : Code} (l : Launch) (hf : l.stackTraces = false) {b : Nat} {xs : Nat → Int32} {k1 k2 : Sk} {ob od : Nat} {cL cD : ClassId} {H : Heap} {locs : List Loc} {ls : Array Slot} {Q : State → Prop} (X : CallFix p m c cL_law 9 s #[Value.ref b] wsL_law RL) (F : LF s k1 k2 ob od cL cD) (hX : va_X b 5 xs s s.heap) (hbl : b < s.heap.size) (hr : meth.sig.returnType = some .boolean ∧ meth.locks = false) (h : LH H k1 k2 ob od cL cD) (hS : va_S (AL s) s.heap H locs) (hl : lv_has ls 9 [(5, .int (nI 0)), (4, .ref od), (3, .ref ob), (2, .ref (k2.2.1 0)), (1, .ref (k1.2.1 0)), (0, .ref b)]) (hend : LEnd p l e s m b below meth c Q) : W p l e room_1 s m #[Value.ref b] below meth c H locs 200 2000 Q (F0 m 1459 ls []) := by
  have hx := X.1
  have hb := X.2.1
  have hbA : ¬ AL s b := Nat.not_le.mpr hbl
  refine lv_aload_n hx hb dL_law_1459 rfl (lv_at hl 4 rfl) ?_
  refine lv_aload_n hx hb dL_law_1460 rfl (lv_at hl 5 rfl) ?_
  refine lv_iload hx hb dL_law_1461 (lv_at hl 0 rfl) ?_
  refine lv_iconst (v := nI 1) hx hb dL_law_1463 (by decide) ?_
  refine lv_iadd hx hb dL_law_1464 ?_
  rw [nI_add]
  refine va_sld hx hb hX hbl hbA hS (vp_in_nI (by omega) (by omega)) dL_law_1465 ?_
  refine lv_aload_n hx hb dL_law_1466 rfl (lv_at hl 5 rfl) ?_
  refine lv_iload hx hb dL_law_1467 (lv_at hl 0 rfl) ?_
  refine lv_iconst (v := nI 2) hx hb dL_law_1469 (by decide) ?_
  refine lv_iadd hx hb dL_law_1470 ?_
  rw [nI_add]
  refine va_sld hx hb hX hbl hbA hS (vp_in_nI (by omega) (by omega)) dL_law_1471 ?_
  refine lv_aload_n hx hb dL_law_1472 rfl (lv_at hl 5 rfl) ?_
  refine lv_iload hx hb dL_law_1473 (lv_at hl 0 rfl) ?_
  refine lv_iconst (v := nI 3) hx hb dL_law_1475 (by decide) ?_
  refine lv_iadd hx hb dL_law_1476 ?_
  rw [nI_add]
  refine va_sld hx hb hX hbl hbA hS (vp_in_nI (by omega) (by omega)) dL_law_1477 ?_
  refine lv_aload_n hx hb dL_law_1478 rfl (lv_at hl 2 rfl) ?_
  refine law_w X F h hS (fun f sz => lw_verdict l hf k1 F.1.2.2.2.1 ob cL f F.2.2.2.2.1 _ _ _ sz) hl.1 gL_law_L_verdict rfl (by decide +kernel) (n := 5) ⟨Nat.le_of_ble_eq_true rfl, Nat.le_of_ble_eq_true rfl⟩ ⟨Nat.le_of_ble_eq_true rfl, Nat.le_of_ble_eq_true rfl⟩ (Nat.le_of_ble_eq_true rfl) rfl rfl dL_law_1479 (fun r1 x1 f1 H locs hp1 hf1 hO hP hS => ?_)
  obtain rfl : r1 = nI 1 := hp1
  refine lv_istore hx hb dL_law_1482 hl (by decide) rfl (fun ls hl => ?_)
  have hl : lv_has ls 9 [(6, _), (5, _), (4, _), (3, _), (2, _), (1, _), (0, _)] := hl
  refine lv_aload_n hx hb dL_law_1484 rfl (lv_at hl 4 rfl) ?_
  refine lv_aload_n hx hb dL_law_1485 rfl (lv_at hl 6 rfl) ?_
  refine lv_iload hx hb dL_law_1486 (lv_at hl 1 rfl) ?_
  refine lv_iconst (v := nI 1) hx hb dL_law_1488 (by decide) ?_
  refine lv_iadd hx hb dL_law_1489 ?_
  rw [nI_add]
  refine va_sld hx hb hX hbl hbA hS (vp_in_nI (by omega) (by omega)) dL_law_1490 ?_
  refine lv_aload_n hx hb dL_law_1491 rfl (lv_at hl 6 rfl) ?_
  refine lv_iload hx hb dL_law_1492 (lv_at hl 1 rfl) ?_
  refine lv_iconst (v := nI 2) hx hb dL_law_1494 (by decide) ?_
  refine lv_iadd hx hb dL_law_1495 ?_
  rw [nI_add]
  refine va_sld hx hb hX hbl hbA hS (vp_in_nI (by omega) (by omega)) dL_law_1496 ?_
  refine lv_aload_n hx hb dL_law_1497 rfl (lv_at hl 6 rfl) ?_
  refine lv_iload hx hb dL_law_1498 (lv_at hl 1 rfl) ?_
  refine lv_iconst (v := nI 3) hx hb dL_law_1500 (by decide) ?_
  refine lv_iadd hx hb dL_law_1501 ?_
  rw [nI_add]
  refine va_sld hx hb hX hbl hbA hS (vp_in_nI (by omega) (by omega)) dL_law_1502 ?_
  refine law_m X F hP hO F.2.2.2.2.2.2.1 hS (ct_X4_verdict l k2 4 IZ F.1.2.2.2.2.2.2.2 ⟨rfl, rfl⟩ _ _ _) hl.1 gL_law_X4_verdict rfl (by decide +kernel) (n := 3) ⟨Nat.le_of_ble_eq_true rfl, Nat.le_of_ble_eq_true rfl⟩ ⟨Nat.le_of_ble_eq_true rfl, Nat.le_of_ble_eq_true rfl⟩ (Nat.le_of_ble_eq_true rfl) rfl rfl dL_law_1503 (fun r2 v2 fs2 H locs hp2 hP hO hS => ?_)
  obtain ⟨I2, hp2, hv2⟩ := hp2
  have hp2 : v2 = nI 1 := hv2.symm.trans hp2
  subst hp2
  refine lv_istore hx hb dL_law_1506 hl (by decide) rfl (fun ls hl => ?_)
  have hl : lv_has ls 9 [(7, _), (6, _), (5, _), (4, _), (3, _), (2, _), (1, _), (0, _)] := hl
  refine lv_aload_n hx hb dL_law_1508 rfl (lv_at hl 5 rfl) ?_
  refine law_t X F hP hO hS hl.1 ⟨Nat.le_of_ble_eq_true rfl, Nat.le_of_ble_eq_true rfl⟩ ⟨Nat.le_of_ble_eq_true rfl, Nat.le_of_ble_eq_true rfl⟩ (Nat.le_of_ble_eq_true rfl) dL_law_1509 (fun H locs hO hS => ?_)
  refine lv_iload hx hb dL_law_1512 (lv_at hl 1 rfl) ?_
  refine lv_icmp_eq (tgt := 1519) hx hb dL_law_1514 (by decide) (fun _ => ?_) (fun c1 => absurd rfl c1)
  refine lv_iload hx hb dL_law_1519 (lv_at hl 1 rfl) ?_
  refine lv_if_ne (tgt := 1536) hx hb dL_law_1521 (by decide) (fun _ => ?_) (fun c1 => absurd c1 ne_1)
  refine lv_goto (tgt := 2153) hx hb dL_law_1536 (by decide) ?_
  exact hend _ _ _ _ _ hS (lv_sub hl [7, 2] rfl) (Nat.le_of_ble_eq_true rfl) (Nat.le_of_ble_eq_true rfl)
set_option maxHeartbeats 4000000 in
set_option maxRecDepth 100000 in
theorem cs_chain {p : Program} {e : Env} {s : State} {m : MethodId} {below : List Frame} {meth : Method} {c : Code} (l : Launch) (hf : l.stackTraces = false) {b : Nat} {xs : Nat → Int32} {k1 k2 : Sk} {ob od : Nat} {cL cD : ClassId} {H : Heap} {locs : List Loc} {ls : Array Slot} {Q : State → Prop} (X : CallFix p m c cL_law 9 s #[Value.ref b] wsL_law RL) (F : LF s k1 k2 ob od cL cD) (hX : va_X b 5 xs s s.heap) (hbl : b < s.heap.size) (hr : meth.sig.returnType = some .boolean ∧ meth.locks = false) (h : LH H k1 k2 ob od cL cD) (hS : va_S (AL s) s.heap H locs) (hl : lv_has ls 9 [(5, .int (nI 0)), (4, .ref od), (3, .ref ob), (2, .ref (k2.2.1 0)), (1, .ref (k1.2.1 0)), (0, .ref b)]) (hend : LEnd p l e s m b below meth c Q) : W p l e room_1 s m #[Value.ref b] below meth c H locs 200 2000 Q (F0 m 1539 ls []) := by
  have hx := X.1
  have hb := X.2.1
  have hbA : ¬ AL s b := Nat.not_le.mpr hbl
  refine lv_aload_n hx hb dL_law_1539 rfl (lv_at hl 4 rfl) ?_
  refine lv_aload_n hx hb dL_law_1540 rfl (lv_at hl 5 rfl) ?_
  refine lv_iload hx hb dL_law_1541 (lv_at hl 0 rfl) ?_
  refine lv_iconst (v := nI 1) hx hb dL_law_1543 (by decide) ?_
  refine lv_iadd hx hb dL_law_1544 ?_
  rw [nI_add]
  refine va_sld hx hb hX hbl hbA hS (vp_in_nI (by omega) (by omega)) dL_law_1545 ?_
  refine lv_aload_n hx hb dL_law_1546 rfl (lv_at hl 5 rfl) ?_
  refine lv_iload hx hb dL_law_1547 (lv_at hl 0 rfl) ?_
  refine lv_iconst (v := nI 2) hx hb dL_law_1549 (by decide) ?_
  refine lv_iadd hx hb dL_law_1550 ?_
  rw [nI_add]
  refine va_sld hx hb hX hbl hbA hS (vp_in_nI (by omega) (by omega)) dL_law_1551 ?_
  refine lv_aload_n hx hb dL_law_1552 rfl (lv_at hl 5 rfl) ?_
  refine lv_iload hx hb dL_law_1553 (lv_at hl 0 rfl) ?_
  refine lv_iconst (v := nI 3) hx hb dL_law_1555 (by decide) ?_
  refine lv_iadd hx hb dL_law_1556 ?_
  rw [nI_add]
  refine va_sld hx hb hX hbl hbA hS (vp_in_nI (by omega) (by omega)) dL_law_1557 ?_
  refine lv_aload_n hx hb dL_law_1558 rfl (lv_at hl 5 rfl) ?_
  refine lv_iload hx hb dL_law_1559 (lv_at hl 0 rfl) ?_
  refine lv_iconst (v := nI 4) hx hb dL_law_1561 (by decide) ?_
  refine lv_iadd hx hb dL_law_1562 ?_
  rw [nI_add]
  refine va_sld hx hb hX hbl hbA hS (vp_in_nI (by omega) (by omega)) dL_law_1563 ?_
  refine lv_aload_n hx hb dL_law_1564 rfl (lv_at hl 2 rfl) ?_
  refine law_w X F h hS (fun f sz => lw_chain l hf k1 F.1.2.2.2.1 ob cL f F.2.2.2.2.1 _ _ _ _ sz) hl.1 gL_law_L_chain rfl (by decide +kernel) (n := 6) ⟨Nat.le_of_ble_eq_true rfl, Nat.le_of_ble_eq_true rfl⟩ ⟨Nat.le_of_ble_eq_true rfl, Nat.le_of_ble_eq_true rfl⟩ (Nat.le_of_ble_eq_true rfl) rfl rfl dL_law_1565 (fun r1 x1 f1 H locs hp1 hf1 hO hP hS => ?_)
  obtain rfl : r1 = nI 1 := hp1
  refine lv_istore hx hb dL_law_1568 hl (by decide) rfl (fun ls hl => ?_)
  have hl : lv_has ls 9 [(6, _), (5, _), (4, _), (3, _), (2, _), (1, _), (0, _)] := hl
  refine lv_aload_n hx hb dL_law_1570 rfl (lv_at hl 4 rfl) ?_
  refine lv_aload_n hx hb dL_law_1571 rfl (lv_at hl 6 rfl) ?_
  refine lv_iload hx hb dL_law_1572 (lv_at hl 1 rfl) ?_
  refine lv_iconst (v := nI 1) hx hb dL_law_1574 (by decide) ?_
  refine lv_iadd hx hb dL_law_1575 ?_
  rw [nI_add]
  refine va_sld hx hb hX hbl hbA hS (vp_in_nI (by omega) (by omega)) dL_law_1576 ?_
  refine lv_aload_n hx hb dL_law_1577 rfl (lv_at hl 6 rfl) ?_
  refine lv_iload hx hb dL_law_1578 (lv_at hl 1 rfl) ?_
  refine lv_iconst (v := nI 2) hx hb dL_law_1580 (by decide) ?_
  refine lv_iadd hx hb dL_law_1581 ?_
  rw [nI_add]
  refine va_sld hx hb hX hbl hbA hS (vp_in_nI (by omega) (by omega)) dL_law_1582 ?_
  refine lv_aload_n hx hb dL_law_1583 rfl (lv_at hl 6 rfl) ?_
  refine lv_iload hx hb dL_law_1584 (lv_at hl 1 rfl) ?_
  refine lv_iconst (v := nI 3) hx hb dL_law_1586 (by decide) ?_
  refine lv_iadd hx hb dL_law_1587 ?_
  rw [nI_add]
  refine va_sld hx hb hX hbl hbA hS (vp_in_nI (by omega) (by omega)) dL_law_1588 ?_
  refine lv_aload_n hx hb dL_law_1589 rfl (lv_at hl 6 rfl) ?_
  refine lv_iload hx hb dL_law_1590 (lv_at hl 1 rfl) ?_
  refine lv_iconst (v := nI 4) hx hb dL_law_1592 (by decide) ?_
  refine lv_iadd hx hb dL_law_1593 ?_
  rw [nI_add]
  refine va_sld hx hb hX hbl hbA hS (vp_in_nI (by omega) (by omega)) dL_law_1594 ?_
  refine law_m X F hP hO F.2.2.2.2.2.2.1 hS (ct_X4_chain l k2 4 IZ F.1.2.2.2.2.2.2.2 ⟨rfl, rfl⟩ _ _ _ _) hl.1 gL_law_X4_chain rfl (by decide +kernel) (n := 4) ⟨Nat.le_of_ble_eq_true rfl, Nat.le_of_ble_eq_true rfl⟩ ⟨Nat.le_of_ble_eq_true rfl, Nat.le_of_ble_eq_true rfl⟩ (Nat.le_of_ble_eq_true rfl) rfl rfl dL_law_1595 (fun r2 v2 fs2 H locs hp2 hP hO hS => ?_)
  obtain ⟨I2, hp2, hv2⟩ := hp2
  have hp2 : v2 = nI 1 := hv2.symm.trans hp2
  subst hp2
  refine lv_istore hx hb dL_law_1598 hl (by decide) rfl (fun ls hl => ?_)
  have hl : lv_has ls 9 [(7, _), (6, _), (5, _), (4, _), (3, _), (2, _), (1, _), (0, _)] := hl
  refine lv_aload_n hx hb dL_law_1600 rfl (lv_at hl 5 rfl) ?_
  refine law_t X F hP hO hS hl.1 ⟨Nat.le_of_ble_eq_true rfl, Nat.le_of_ble_eq_true rfl⟩ ⟨Nat.le_of_ble_eq_true rfl, Nat.le_of_ble_eq_true rfl⟩ (Nat.le_of_ble_eq_true rfl) dL_law_1601 (fun H locs hO hS => ?_)
  refine lv_iload hx hb dL_law_1604 (lv_at hl 1 rfl) ?_
  refine lv_icmp_eq (tgt := 1611) hx hb dL_law_1606 (by decide) (fun _ => ?_) (fun c1 => absurd rfl c1)
  refine lv_iload hx hb dL_law_1611 (lv_at hl 1 rfl) ?_
  refine lv_if_ne (tgt := 1628) hx hb dL_law_1613 (by decide) (fun _ => ?_) (fun c1 => absurd c1 ne_1)
  refine lv_goto (tgt := 2153) hx hb dL_law_1628 (by decide) ?_
  exact hend _ _ _ _ _ hS (lv_sub hl [7, 2] rfl) (Nat.le_of_ble_eq_true rfl) (Nat.le_of_ble_eq_true rfl)
set_option maxHeartbeats 4000000 in
set_option maxRecDepth 100000 in
theorem cs_flawAt {p : Program} {e : Env} {s : State} {m : MethodId} {below : List Frame} {meth : Method} {c : Code} (l : Launch) (hf : l.stackTraces = false) {b : Nat} {xs : Nat → Int32} {k1 k2 : Sk} {ob od : Nat} {cL cD : ClassId} {H : Heap} {locs : List Loc} {ls : Array Slot} {Q : State → Prop} (X : CallFix p m c cL_law 9 s #[Value.ref b] wsL_law RL) (F : LF s k1 k2 ob od cL cD) (hX : va_X b 5 xs s s.heap) (hbl : b < s.heap.size) (hr : meth.sig.returnType = some .boolean ∧ meth.locks = false) (h : LH H k1 k2 ob od cL cD) (hS : va_S (AL s) s.heap H locs) (hl : lv_has ls 9 [(5, .int (nI 0)), (4, .ref od), (3, .ref ob), (2, .ref (k2.2.1 0)), (1, .ref (k1.2.1 0)), (0, .ref b)]) (hend : LEnd p l e s m b below meth c Q) : W p l e room_1 s m #[Value.ref b] below meth c H locs 200 2000 Q (F0 m 1631 ls []) := by
  have hx := X.1
  have hb := X.2.1
  have hbA : ¬ AL s b := Nat.not_le.mpr hbl
  refine lv_aload_n hx hb dL_law_1631 rfl (lv_at hl 4 rfl) ?_
  refine lv_aload_n hx hb dL_law_1632 rfl (lv_at hl 5 rfl) ?_
  refine lv_iload hx hb dL_law_1633 (lv_at hl 0 rfl) ?_
  refine lv_iconst (v := nI 1) hx hb dL_law_1635 (by decide) ?_
  refine lv_iadd hx hb dL_law_1636 ?_
  rw [nI_add]
  refine va_sld hx hb hX hbl hbA hS (vp_in_nI (by omega) (by omega)) dL_law_1637 ?_
  refine lv_aload_n hx hb dL_law_1638 rfl (lv_at hl 5 rfl) ?_
  refine lv_iload hx hb dL_law_1639 (lv_at hl 0 rfl) ?_
  refine lv_iconst (v := nI 2) hx hb dL_law_1641 (by decide) ?_
  refine lv_iadd hx hb dL_law_1642 ?_
  rw [nI_add]
  refine va_sld hx hb hX hbl hbA hS (vp_in_nI (by omega) (by omega)) dL_law_1643 ?_
  refine lv_aload_n hx hb dL_law_1644 rfl (lv_at hl 5 rfl) ?_
  refine lv_iload hx hb dL_law_1645 (lv_at hl 0 rfl) ?_
  refine lv_iconst (v := nI 3) hx hb dL_law_1647 (by decide) ?_
  refine lv_iadd hx hb dL_law_1648 ?_
  rw [nI_add]
  refine va_sld hx hb hX hbl hbA hS (vp_in_nI (by omega) (by omega)) dL_law_1649 ?_
  refine lv_aload_n hx hb dL_law_1650 rfl (lv_at hl 2 rfl) ?_
  refine law_w X F h hS (fun f sz => lw_flawAt l hf k1 F.1.2.2.2.1 ob cL f F.2.2.2.2.1 _ _ _ sz) hl.1 gL_law_L_flawAt rfl (by decide +kernel) (n := 5) ⟨Nat.le_of_ble_eq_true rfl, Nat.le_of_ble_eq_true rfl⟩ ⟨Nat.le_of_ble_eq_true rfl, Nat.le_of_ble_eq_true rfl⟩ (Nat.le_of_ble_eq_true rfl) rfl rfl dL_law_1651 (fun r1 x1 f1 H locs hp1 hf1 hO hP hS => ?_)
  obtain rfl : r1 = nI 1 := hp1
  refine lv_istore hx hb dL_law_1654 hl (by decide) rfl (fun ls hl => ?_)
  have hl : lv_has ls 9 [(6, _), (5, _), (4, _), (3, _), (2, _), (1, _), (0, _)] := hl
  refine lv_aload_n hx hb dL_law_1656 rfl (lv_at hl 4 rfl) ?_
  refine lv_aload_n hx hb dL_law_1657 rfl (lv_at hl 6 rfl) ?_
  refine lv_iload hx hb dL_law_1658 (lv_at hl 1 rfl) ?_
  refine lv_iconst (v := nI 1) hx hb dL_law_1660 (by decide) ?_
  refine lv_iadd hx hb dL_law_1661 ?_
  rw [nI_add]
  refine va_sld hx hb hX hbl hbA hS (vp_in_nI (by omega) (by omega)) dL_law_1662 ?_
  refine lv_aload_n hx hb dL_law_1663 rfl (lv_at hl 6 rfl) ?_
  refine lv_iload hx hb dL_law_1664 (lv_at hl 1 rfl) ?_
  refine lv_iconst (v := nI 2) hx hb dL_law_1666 (by decide) ?_
  refine lv_iadd hx hb dL_law_1667 ?_
  rw [nI_add]
  refine va_sld hx hb hX hbl hbA hS (vp_in_nI (by omega) (by omega)) dL_law_1668 ?_
  refine lv_aload_n hx hb dL_law_1669 rfl (lv_at hl 6 rfl) ?_
  refine lv_iload hx hb dL_law_1670 (lv_at hl 1 rfl) ?_
  refine lv_iconst (v := nI 3) hx hb dL_law_1672 (by decide) ?_
  refine lv_iadd hx hb dL_law_1673 ?_
  rw [nI_add]
  refine va_sld hx hb hX hbl hbA hS (vp_in_nI (by omega) (by omega)) dL_law_1674 ?_
  refine law_m X F hP hO F.2.2.2.2.2.2.1 hS (ct_X4_flawAt l k2 4 IZ F.1.2.2.2.2.2.2.2 ⟨rfl, rfl⟩ _ _ _) hl.1 gL_law_X4_flawAt rfl (by decide +kernel) (n := 3) ⟨Nat.le_of_ble_eq_true rfl, Nat.le_of_ble_eq_true rfl⟩ ⟨Nat.le_of_ble_eq_true rfl, Nat.le_of_ble_eq_true rfl⟩ (Nat.le_of_ble_eq_true rfl) rfl rfl dL_law_1675 (fun r2 v2 fs2 H locs hp2 hP hO hS => ?_)
  obtain ⟨I2, hp2, hv2⟩ := hp2
  have hp2 : v2 = nI 1 := hv2.symm.trans hp2
  subst hp2
  refine lv_istore hx hb dL_law_1678 hl (by decide) rfl (fun ls hl => ?_)
  have hl : lv_has ls 9 [(7, _), (6, _), (5, _), (4, _), (3, _), (2, _), (1, _), (0, _)] := hl
  refine lv_aload_n hx hb dL_law_1680 rfl (lv_at hl 5 rfl) ?_
  refine law_t X F hP hO hS hl.1 ⟨Nat.le_of_ble_eq_true rfl, Nat.le_of_ble_eq_true rfl⟩ ⟨Nat.le_of_ble_eq_true rfl, Nat.le_of_ble_eq_true rfl⟩ (Nat.le_of_ble_eq_true rfl) dL_law_1681 (fun H locs hO hS => ?_)
  refine lv_iload hx hb dL_law_1684 (lv_at hl 1 rfl) ?_
  refine lv_icmp_eq (tgt := 1691) hx hb dL_law_1686 (by decide) (fun _ => ?_) (fun c1 => absurd rfl c1)
  refine lv_iload hx hb dL_law_1691 (lv_at hl 1 rfl) ?_
  refine lv_if_ne (tgt := 1708) hx hb dL_law_1693 (by decide) (fun _ => ?_) (fun c1 => absurd c1 ne_1)
  refine lv_goto (tgt := 2153) hx hb dL_law_1708 (by decide) ?_
  exact hend _ _ _ _ _ hS (lv_sub hl [7, 2] rfl) (Nat.le_of_ble_eq_true rfl) (Nat.le_of_ble_eq_true rfl)
set_option maxHeartbeats 4000000 in
set_option maxRecDepth 100000 in
theorem cs_isOf {p : Program} {e : Env} {s : State} {m : MethodId} {below : List Frame} {meth : Method} {c : Code} (l : Launch) (hf : l.stackTraces = false) {b : Nat} {xs : Nat → Int32} {k1 k2 : Sk} {ob od : Nat} {cL cD : ClassId} {H : Heap} {locs : List Loc} {ls : Array Slot} {Q : State → Prop} (X : CallFix p m c cL_law 9 s #[Value.ref b] wsL_law RL) (F : LF s k1 k2 ob od cL cD) (hX : va_X b 5 xs s s.heap) (hbl : b < s.heap.size) (hr : meth.sig.returnType = some .boolean ∧ meth.locks = false) (h : LH H k1 k2 ob od cL cD) (hS : va_S (AL s) s.heap H locs) (hl : lv_has ls 9 [(5, .int (nI 0)), (4, .ref od), (3, .ref ob), (2, .ref (k2.2.1 0)), (1, .ref (k1.2.1 0)), (0, .ref b)]) (hend : LEnd p l e s m b below meth c Q) : W p l e room_1 s m #[Value.ref b] below meth c H locs 200 2000 Q (F0 m 1711 ls []) := by
  have hx := X.1
  have hb := X.2.1
  have hbA : ¬ AL s b := Nat.not_le.mpr hbl
  by_cases hg : isNm (xs (nI (0 + 1)).toNatClampNeg) = true ∧ isW (xs (nI (0 + 2)).toNatClampNeg) (nI 15) = true ∧ isW (xs (nI (0 + 3)).toNatClampNeg) (nI 999) = true ∧ isW (xs (nI (0 + 4)).toNatClampNeg) (nI 3) = true
  · refine lv_aload_n hx hb dL_law_1711 rfl (lv_at hl 4 rfl) ?_
    refine lv_aload_n hx hb dL_law_1712 rfl (lv_at hl 5 rfl) ?_
    refine lv_iload hx hb dL_law_1713 (lv_at hl 0 rfl) ?_
    refine lv_iconst (v := nI 1) hx hb dL_law_1715 (by decide) ?_
    refine lv_iadd hx hb dL_law_1716 ?_
    rw [nI_add]
    refine va_sld hx hb hX hbl hbA hS (vp_in_nI (by omega) (by omega)) dL_law_1717 ?_
    refine lv_aload_n hx hb dL_law_1718 rfl (lv_at hl 5 rfl) ?_
    refine lv_iload hx hb dL_law_1719 (lv_at hl 0 rfl) ?_
    refine lv_iconst (v := nI 2) hx hb dL_law_1721 (by decide) ?_
    refine lv_iadd hx hb dL_law_1722 ?_
    rw [nI_add]
    refine va_sld hx hb hX hbl hbA hS (vp_in_nI (by omega) (by omega)) dL_law_1723 ?_
    refine lv_aload_n hx hb dL_law_1724 rfl (lv_at hl 5 rfl) ?_
    refine lv_iload hx hb dL_law_1725 (lv_at hl 0 rfl) ?_
    refine lv_iconst (v := nI 3) hx hb dL_law_1727 (by decide) ?_
    refine lv_iadd hx hb dL_law_1728 ?_
    rw [nI_add]
    refine va_sld hx hb hX hbl hbA hS (vp_in_nI (by omega) (by omega)) dL_law_1729 ?_
    refine lv_aload_n hx hb dL_law_1730 rfl (lv_at hl 5 rfl) ?_
    refine lv_iload hx hb dL_law_1731 (lv_at hl 0 rfl) ?_
    refine lv_iconst (v := nI 4) hx hb dL_law_1733 (by decide) ?_
    refine lv_iadd hx hb dL_law_1734 ?_
    rw [nI_add]
    refine va_sld hx hb hX hbl hbA hS (vp_in_nI (by omega) (by omega)) dL_law_1735 ?_
    refine lv_aload_n hx hb dL_law_1736 rfl (lv_at hl 2 rfl) ?_
    refine law_w X F h hS (fun f sz => lw_isOf l hf k1 F.1.2.2.2.1 ob cL f F.2.2.2.2.1 _ _ _ _ sz) hl.1 gL_law_L_isOf rfl (by decide +kernel) (n := 6) ⟨Nat.le_of_ble_eq_true rfl, Nat.le_of_ble_eq_true rfl⟩ ⟨Nat.le_of_ble_eq_true rfl, Nat.le_of_ble_eq_true rfl⟩ (Nat.le_of_ble_eq_true rfl) rfl rfl dL_law_1737 (fun r1 x1 f1 H locs hp1 hf1 hO hP hS => ?_)
    rw [if_pos hg] at hp1
    obtain ⟨rfl, hx1⟩ := hp1
    refine lv_istore hx hb dL_law_1740 hl (by decide) rfl (fun ls hl => ?_)
    have hl : lv_has ls 9 [(6, _), (5, _), (4, _), (3, _), (2, _), (1, _), (0, _)] := hl
    refine lv_aload_n hx hb dL_law_1742 rfl (lv_at hl 4 rfl) ?_
    refine lv_aload_n hx hb dL_law_1743 rfl (lv_at hl 6 rfl) ?_
    refine lv_iload hx hb dL_law_1744 (lv_at hl 1 rfl) ?_
    refine lv_iconst (v := nI 1) hx hb dL_law_1746 (by decide) ?_
    refine lv_iadd hx hb dL_law_1747 ?_
    rw [nI_add]
    refine va_sld hx hb hX hbl hbA hS (vp_in_nI (by omega) (by omega)) dL_law_1748 ?_
    refine lv_aload_n hx hb dL_law_1749 rfl (lv_at hl 6 rfl) ?_
    refine lv_iload hx hb dL_law_1750 (lv_at hl 1 rfl) ?_
    refine lv_iconst (v := nI 2) hx hb dL_law_1752 (by decide) ?_
    refine lv_iadd hx hb dL_law_1753 ?_
    rw [nI_add]
    refine va_sld hx hb hX hbl hbA hS (vp_in_nI (by omega) (by omega)) dL_law_1754 ?_
    refine lv_aload_n hx hb dL_law_1755 rfl (lv_at hl 6 rfl) ?_
    refine lv_iload hx hb dL_law_1756 (lv_at hl 1 rfl) ?_
    refine lv_iconst (v := nI 3) hx hb dL_law_1758 (by decide) ?_
    refine lv_iadd hx hb dL_law_1759 ?_
    rw [nI_add]
    refine va_sld hx hb hX hbl hbA hS (vp_in_nI (by omega) (by omega)) dL_law_1760 ?_
    refine lv_aload_n hx hb dL_law_1761 rfl (lv_at hl 6 rfl) ?_
    refine lv_iload hx hb dL_law_1762 (lv_at hl 1 rfl) ?_
    refine lv_iconst (v := nI 4) hx hb dL_law_1764 (by decide) ?_
    refine lv_iadd hx hb dL_law_1765 ?_
    rw [nI_add]
    refine va_sld hx hb hX hbl hbA hS (vp_in_nI (by omega) (by omega)) dL_law_1766 ?_
    refine law_m X F hP hO F.2.2.2.2.2.2.1 hS (ct_X4_isOf l k2 4 IZ F.1.2.2.2.2.2.2.2 ⟨rfl, rfl⟩ _ _ _ _) hl.1 gL_law_X4_isOf rfl (by decide +kernel) (n := 4) ⟨Nat.le_of_ble_eq_true rfl, Nat.le_of_ble_eq_true rfl⟩ ⟨Nat.le_of_ble_eq_true rfl, Nat.le_of_ble_eq_true rfl⟩ (Nat.le_of_ble_eq_true rfl) rfl rfl dL_law_1767 (fun r2 v2 fs2 H locs hp2 hP hO hS => ?_)
    obtain ⟨I2, hp2, hv2⟩ := hp2
    rw [hv2] at hp2
    rw [if_pos (⟨hg.1, hg.2.1, mom_yes hg.2.2⟩)] at hp2
    obtain ⟨rfl, hx2⟩ := hp2
    refine lv_istore hx hb dL_law_1770 hl (by decide) rfl (fun ls hl => ?_)
    have hl : lv_has ls 9 [(7, _), (6, _), (5, _), (4, _), (3, _), (2, _), (1, _), (0, _)] := hl
    refine lv_aload_n hx hb dL_law_1772 rfl (lv_at hl 5 rfl) ?_
    refine law_t X F hP hO hS hl.1 ⟨Nat.le_of_ble_eq_true rfl, Nat.le_of_ble_eq_true rfl⟩ ⟨Nat.le_of_ble_eq_true rfl, Nat.le_of_ble_eq_true rfl⟩ (Nat.le_of_ble_eq_true rfl) dL_law_1773 (fun H locs hO hS => ?_)
    refine lv_iload hx hb dL_law_1776 (lv_at hl 1 rfl) ?_
    refine lv_icmp_eq (tgt := 1783) hx hb dL_law_1778 (by decide) (fun _ => ?_) (fun c1 => absurd rfl c1)
    refine lv_iload hx hb dL_law_1783 (lv_at hl 1 rfl) ?_
    refine lv_if_ne (tgt := 1807) hx hb dL_law_1785 (by decide) (fun c1 => absurd rfl c1) (fun _ => ?_)
    refine lv_aload_n hx hb dL_law_1788 rfl (lv_at hl 4 rfl) ?_
    refine lv_iconst (v := nI 0) hx hb dL_law_1789 (by decide) ?_
    refine va_lald hx hb F.1.2.2.2.2.1 hO 0 0 rfl rfl (vp_in_nI (by omega) (by omega)) dL_law_1790 ?_
    refine lv_iload hx hb dL_law_1791 (lv_at hl 0 rfl) ?_
    refine lv_if_eq (tgt := 1800) hx hb dL_law_1793 (by decide) (fun c1 => ?_) (fun c1 => ?_)
    · refine lv_lconst (v := 0) hx hb dL_law_1800 rfl ?_
      rw [show f1 (nI 0).toNatClampNeg = 0 from hf1.trans (hx1.trans rfl)]
      refine W.lcmp hx hb dL_law_1801 ?_
      refine lv_if_eq (tgt := 1807) hx hb dL_law_1802 (by decide) (fun _ => ?_) (fun c1 => absurd (cmp_s _) c1)
      refine lv_goto (tgt := 2153) hx hb dL_law_1807 (by decide) ?_
      exact hend _ _ _ _ _ hS (lv_sub hl [7, 2] rfl) (Nat.le_of_ble_eq_true rfl) (Nat.le_of_ble_eq_true rfl)
    · exact absurd hx2 c1
  · refine lv_aload_n hx hb dL_law_1711 rfl (lv_at hl 4 rfl) ?_
    refine lv_aload_n hx hb dL_law_1712 rfl (lv_at hl 5 rfl) ?_
    refine lv_iload hx hb dL_law_1713 (lv_at hl 0 rfl) ?_
    refine lv_iconst (v := nI 1) hx hb dL_law_1715 (by decide) ?_
    refine lv_iadd hx hb dL_law_1716 ?_
    rw [nI_add]
    refine va_sld hx hb hX hbl hbA hS (vp_in_nI (by omega) (by omega)) dL_law_1717 ?_
    refine lv_aload_n hx hb dL_law_1718 rfl (lv_at hl 5 rfl) ?_
    refine lv_iload hx hb dL_law_1719 (lv_at hl 0 rfl) ?_
    refine lv_iconst (v := nI 2) hx hb dL_law_1721 (by decide) ?_
    refine lv_iadd hx hb dL_law_1722 ?_
    rw [nI_add]
    refine va_sld hx hb hX hbl hbA hS (vp_in_nI (by omega) (by omega)) dL_law_1723 ?_
    refine lv_aload_n hx hb dL_law_1724 rfl (lv_at hl 5 rfl) ?_
    refine lv_iload hx hb dL_law_1725 (lv_at hl 0 rfl) ?_
    refine lv_iconst (v := nI 3) hx hb dL_law_1727 (by decide) ?_
    refine lv_iadd hx hb dL_law_1728 ?_
    rw [nI_add]
    refine va_sld hx hb hX hbl hbA hS (vp_in_nI (by omega) (by omega)) dL_law_1729 ?_
    refine lv_aload_n hx hb dL_law_1730 rfl (lv_at hl 5 rfl) ?_
    refine lv_iload hx hb dL_law_1731 (lv_at hl 0 rfl) ?_
    refine lv_iconst (v := nI 4) hx hb dL_law_1733 (by decide) ?_
    refine lv_iadd hx hb dL_law_1734 ?_
    rw [nI_add]
    refine va_sld hx hb hX hbl hbA hS (vp_in_nI (by omega) (by omega)) dL_law_1735 ?_
    refine lv_aload_n hx hb dL_law_1736 rfl (lv_at hl 2 rfl) ?_
    refine law_w X F h hS (fun f sz => lw_isOf l hf k1 F.1.2.2.2.1 ob cL f F.2.2.2.2.1 _ _ _ _ sz) hl.1 gL_law_L_isOf rfl (by decide +kernel) (n := 6) ⟨Nat.le_of_ble_eq_true rfl, Nat.le_of_ble_eq_true rfl⟩ ⟨Nat.le_of_ble_eq_true rfl, Nat.le_of_ble_eq_true rfl⟩ (Nat.le_of_ble_eq_true rfl) rfl rfl dL_law_1737 (fun r1 x1 f1 H locs hp1 hf1 hO hP hS => ?_)
    rw [if_neg hg] at hp1
    obtain rfl := hp1
    refine lv_istore hx hb dL_law_1740 hl (by decide) rfl (fun ls hl => ?_)
    have hl : lv_has ls 9 [(6, _), (5, _), (4, _), (3, _), (2, _), (1, _), (0, _)] := hl
    refine lv_aload_n hx hb dL_law_1742 rfl (lv_at hl 4 rfl) ?_
    refine lv_aload_n hx hb dL_law_1743 rfl (lv_at hl 6 rfl) ?_
    refine lv_iload hx hb dL_law_1744 (lv_at hl 1 rfl) ?_
    refine lv_iconst (v := nI 1) hx hb dL_law_1746 (by decide) ?_
    refine lv_iadd hx hb dL_law_1747 ?_
    rw [nI_add]
    refine va_sld hx hb hX hbl hbA hS (vp_in_nI (by omega) (by omega)) dL_law_1748 ?_
    refine lv_aload_n hx hb dL_law_1749 rfl (lv_at hl 6 rfl) ?_
    refine lv_iload hx hb dL_law_1750 (lv_at hl 1 rfl) ?_
    refine lv_iconst (v := nI 2) hx hb dL_law_1752 (by decide) ?_
    refine lv_iadd hx hb dL_law_1753 ?_
    rw [nI_add]
    refine va_sld hx hb hX hbl hbA hS (vp_in_nI (by omega) (by omega)) dL_law_1754 ?_
    refine lv_aload_n hx hb dL_law_1755 rfl (lv_at hl 6 rfl) ?_
    refine lv_iload hx hb dL_law_1756 (lv_at hl 1 rfl) ?_
    refine lv_iconst (v := nI 3) hx hb dL_law_1758 (by decide) ?_
    refine lv_iadd hx hb dL_law_1759 ?_
    rw [nI_add]
    refine va_sld hx hb hX hbl hbA hS (vp_in_nI (by omega) (by omega)) dL_law_1760 ?_
    refine lv_aload_n hx hb dL_law_1761 rfl (lv_at hl 6 rfl) ?_
    refine lv_iload hx hb dL_law_1762 (lv_at hl 1 rfl) ?_
    refine lv_iconst (v := nI 4) hx hb dL_law_1764 (by decide) ?_
    refine lv_iadd hx hb dL_law_1765 ?_
    rw [nI_add]
    refine va_sld hx hb hX hbl hbA hS (vp_in_nI (by omega) (by omega)) dL_law_1766 ?_
    refine law_m X F hP hO F.2.2.2.2.2.2.1 hS (ct_X4_isOf l k2 4 IZ F.1.2.2.2.2.2.2.2 ⟨rfl, rfl⟩ _ _ _ _) hl.1 gL_law_X4_isOf rfl (by decide +kernel) (n := 4) ⟨Nat.le_of_ble_eq_true rfl, Nat.le_of_ble_eq_true rfl⟩ ⟨Nat.le_of_ble_eq_true rfl, Nat.le_of_ble_eq_true rfl⟩ (Nat.le_of_ble_eq_true rfl) rfl rfl dL_law_1767 (fun r2 v2 fs2 H locs hp2 hP hO hS => ?_)
    obtain ⟨I2, hp2, hv2⟩ := hp2
    rw [hv2] at hp2
    rw [if_neg (fun z => hg ⟨z.1, z.2.1, mom_of z.2.2⟩)] at hp2
    obtain rfl := hp2
    refine lv_istore hx hb dL_law_1770 hl (by decide) rfl (fun ls hl => ?_)
    have hl : lv_has ls 9 [(7, _), (6, _), (5, _), (4, _), (3, _), (2, _), (1, _), (0, _)] := hl
    refine lv_aload_n hx hb dL_law_1772 rfl (lv_at hl 5 rfl) ?_
    refine law_t X F hP hO hS hl.1 ⟨Nat.le_of_ble_eq_true rfl, Nat.le_of_ble_eq_true rfl⟩ ⟨Nat.le_of_ble_eq_true rfl, Nat.le_of_ble_eq_true rfl⟩ (Nat.le_of_ble_eq_true rfl) dL_law_1773 (fun H locs hO hS => ?_)
    refine lv_iload hx hb dL_law_1776 (lv_at hl 1 rfl) ?_
    refine lv_icmp_eq (tgt := 1783) hx hb dL_law_1778 (by decide) (fun _ => ?_) (fun c1 => absurd rfl c1)
    refine lv_iload hx hb dL_law_1783 (lv_at hl 1 rfl) ?_
    refine lv_if_ne (tgt := 1807) hx hb dL_law_1785 (by decide) (fun _ => ?_) (fun c1 => absurd c1 ne_1)
    refine lv_goto (tgt := 2153) hx hb dL_law_1807 (by decide) ?_
    exact hend _ _ _ _ _ hS (lv_sub hl [7, 2] rfl) (Nat.le_of_ble_eq_true rfl) (Nat.le_of_ble_eq_true rfl)
set_option maxHeartbeats 4000000 in
set_option maxRecDepth 100000 in
theorem cs_meanChain {p : Program} {e : Env} {s : State} {m : MethodId} {below : List Frame} {meth : Method} {c : Code} (l : Launch) (hf : l.stackTraces = false) {b : Nat} {xs : Nat → Int32} {k1 k2 : Sk} {ob od : Nat} {cL cD : ClassId} {H : Heap} {locs : List Loc} {ls : Array Slot} {Q : State → Prop} (X : CallFix p m c cL_law 9 s #[Value.ref b] wsL_law RL) (F : LF s k1 k2 ob od cL cD) (hX : va_X b 5 xs s s.heap) (hbl : b < s.heap.size) (hr : meth.sig.returnType = some .boolean ∧ meth.locks = false) (h : LH H k1 k2 ob od cL cD) (hS : va_S (AL s) s.heap H locs) (hl : lv_has ls 9 [(5, .int (nI 0)), (4, .ref od), (3, .ref ob), (2, .ref (k2.2.1 0)), (1, .ref (k1.2.1 0)), (0, .ref b)]) (hend : LEnd p l e s m b below meth c Q) : W p l e room_1 s m #[Value.ref b] below meth c H locs 200 2000 Q (F0 m 1810 ls []) := by
  have hx := X.1
  have hb := X.2.1
  have hbA : ¬ AL s b := Nat.not_le.mpr hbl
  by_cases hg : isW (xs (nI (0 + 1)).toNatClampNeg) (nI 999) = true ∧ isW (xs (nI (0 + 2)).toNatClampNeg) (nI 3) = true
  · refine lv_aload_n hx hb dL_law_1810 rfl (lv_at hl 4 rfl) ?_
    refine lv_aload_n hx hb dL_law_1811 rfl (lv_at hl 5 rfl) ?_
    refine lv_iload hx hb dL_law_1812 (lv_at hl 0 rfl) ?_
    refine lv_iconst (v := nI 1) hx hb dL_law_1814 (by decide) ?_
    refine lv_iadd hx hb dL_law_1815 ?_
    rw [nI_add]
    refine va_sld hx hb hX hbl hbA hS (vp_in_nI (by omega) (by omega)) dL_law_1816 ?_
    refine lv_aload_n hx hb dL_law_1817 rfl (lv_at hl 5 rfl) ?_
    refine lv_iload hx hb dL_law_1818 (lv_at hl 0 rfl) ?_
    refine lv_iconst (v := nI 2) hx hb dL_law_1820 (by decide) ?_
    refine lv_iadd hx hb dL_law_1821 ?_
    rw [nI_add]
    refine va_sld hx hb hX hbl hbA hS (vp_in_nI (by omega) (by omega)) dL_law_1822 ?_
    refine lv_aload hx hb dL_law_1823 (lv_at hl 1 rfl) ?_
    refine law_wD X F h hS (fun f sz => lw_meanChain l hf k1 F.1.2.2.2.1 od cD f F.2.2.2.2.2.1 _ _ sz) hl.1 gL_law_L_meanChain rfl (by decide +kernel) (n := 4) ⟨Nat.le_of_ble_eq_true rfl, Nat.le_of_ble_eq_true rfl⟩ ⟨Nat.le_of_ble_eq_true rfl, Nat.le_of_ble_eq_true rfl⟩ (Nat.le_of_ble_eq_true rfl) rfl rfl dL_law_1825 (fun r1 x1 f1 H locs hp1 hf1 hO hP hS => ?_)
    rw [if_pos hg] at hp1
    obtain ⟨rfl, hx1⟩ := hp1
    refine lv_istore hx hb dL_law_1828 hl (by decide) rfl (fun ls hl => ?_)
    have hl : lv_has ls 9 [(6, _), (5, _), (4, _), (3, _), (2, _), (1, _), (0, _)] := hl
    refine lv_aload_n hx hb dL_law_1830 rfl (lv_at hl 4 rfl) ?_
    refine lv_aload_n hx hb dL_law_1831 rfl (lv_at hl 6 rfl) ?_
    refine lv_iload hx hb dL_law_1832 (lv_at hl 1 rfl) ?_
    refine lv_iconst (v := nI 1) hx hb dL_law_1834 (by decide) ?_
    refine lv_iadd hx hb dL_law_1835 ?_
    rw [nI_add]
    refine va_sld hx hb hX hbl hbA hS (vp_in_nI (by omega) (by omega)) dL_law_1836 ?_
    refine lv_aload_n hx hb dL_law_1837 rfl (lv_at hl 6 rfl) ?_
    refine lv_iload hx hb dL_law_1838 (lv_at hl 1 rfl) ?_
    refine lv_iconst (v := nI 2) hx hb dL_law_1840 (by decide) ?_
    refine lv_iadd hx hb dL_law_1841 ?_
    rw [nI_add]
    refine va_sld hx hb hX hbl hbA hS (vp_in_nI (by omega) (by omega)) dL_law_1842 ?_
    refine law_mD X F hP hO F.2.2.2.2.2.2.2 hS (ct_X4_meanChain l k2 4 IZ F.1.2.2.2.2.2.2.2 ⟨rfl, rfl⟩ _ _) hl.1 gL_law_X4_meanChain rfl (by decide +kernel) (n := 2) ⟨Nat.le_of_ble_eq_true rfl, Nat.le_of_ble_eq_true rfl⟩ ⟨Nat.le_of_ble_eq_true rfl, Nat.le_of_ble_eq_true rfl⟩ (Nat.le_of_ble_eq_true rfl) rfl rfl dL_law_1843 (fun r2 v2 fs2 H locs hp2 hP hO hS => ?_)
    obtain ⟨I2, hp2, hv2⟩ := hp2
    rw [hv2] at hp2
    rw [if_pos (mom_yes hg)] at hp2
    obtain ⟨rfl, hx2⟩ := hp2
    refine lv_dstore hx hb dL_law_1846 hl (by decide) rfl (fun ls hl => ?_)
    have hl : lv_has ls 9 [(7, _), (6, _), (5, _), (4, _), (3, _), (2, _), (1, _), (0, _)] := hl
    refine lv_aload_n hx hb dL_law_1848 rfl (lv_at hl 5 rfl) ?_
    refine law_t X F hP hO hS hl.1 ⟨Nat.le_of_ble_eq_true rfl, Nat.le_of_ble_eq_true rfl⟩ ⟨Nat.le_of_ble_eq_true rfl, Nat.le_of_ble_eq_true rfl⟩ (Nat.le_of_ble_eq_true rfl) dL_law_1849 (fun H locs hO hS => ?_)
    refine lv_iload hx hb dL_law_1852 (lv_at hl 1 rfl) ?_
    refine lv_icmp_eq (tgt := 1859) hx hb dL_law_1854 (by decide) (fun _ => ?_) (fun c1 => absurd rfl c1)
    refine lv_iload hx hb dL_law_1859 (lv_at hl 1 rfl) ?_
    refine lv_if_ne (tgt := 1896) hx hb dL_law_1861 (by decide) (fun c1 => absurd rfl c1) (fun _ => ?_)
    refine lv_aload hx hb dL_law_1864 (lv_at hl 3 rfl) ?_
    refine lv_iconst (v := nI 0) hx hb dL_law_1866 (by decide) ?_
    refine va_dald hx hb F.1.2.2.2.2.2.1 hO 0 0 rfl rfl (vp_in_nI (by omega) (by omega)) dL_law_1867 ?_
    rw [show f1 (nI 0).toNatClampNeg = FP.dconst0 from hf1.trans hx1]
    refine lv_dload hx hb dL_law_1868 (lv_at hl 0 rfl) ?_
    rw [hx2]
    refine lv_dcmp hx hb dL_law_1870 ?_
    refine lv_if_eq (tgt := 1896) hx hb dL_law_1871 (by decide) (fun _ => ?_) (fun c1 => absurd dc_0 c1)
    refine lv_goto (tgt := 2153) hx hb dL_law_1896 (by decide) ?_
    exact hend _ _ _ _ _ hS (lv_sub hl [7, 2] rfl) (Nat.le_of_ble_eq_true rfl) (Nat.le_of_ble_eq_true rfl)
  · refine lv_aload_n hx hb dL_law_1810 rfl (lv_at hl 4 rfl) ?_
    refine lv_aload_n hx hb dL_law_1811 rfl (lv_at hl 5 rfl) ?_
    refine lv_iload hx hb dL_law_1812 (lv_at hl 0 rfl) ?_
    refine lv_iconst (v := nI 1) hx hb dL_law_1814 (by decide) ?_
    refine lv_iadd hx hb dL_law_1815 ?_
    rw [nI_add]
    refine va_sld hx hb hX hbl hbA hS (vp_in_nI (by omega) (by omega)) dL_law_1816 ?_
    refine lv_aload_n hx hb dL_law_1817 rfl (lv_at hl 5 rfl) ?_
    refine lv_iload hx hb dL_law_1818 (lv_at hl 0 rfl) ?_
    refine lv_iconst (v := nI 2) hx hb dL_law_1820 (by decide) ?_
    refine lv_iadd hx hb dL_law_1821 ?_
    rw [nI_add]
    refine va_sld hx hb hX hbl hbA hS (vp_in_nI (by omega) (by omega)) dL_law_1822 ?_
    refine lv_aload hx hb dL_law_1823 (lv_at hl 1 rfl) ?_
    refine law_wD X F h hS (fun f sz => lw_meanChain l hf k1 F.1.2.2.2.1 od cD f F.2.2.2.2.2.1 _ _ sz) hl.1 gL_law_L_meanChain rfl (by decide +kernel) (n := 4) ⟨Nat.le_of_ble_eq_true rfl, Nat.le_of_ble_eq_true rfl⟩ ⟨Nat.le_of_ble_eq_true rfl, Nat.le_of_ble_eq_true rfl⟩ (Nat.le_of_ble_eq_true rfl) rfl rfl dL_law_1825 (fun r1 x1 f1 H locs hp1 hf1 hO hP hS => ?_)
    rw [if_neg hg] at hp1
    obtain rfl := hp1
    refine lv_istore hx hb dL_law_1828 hl (by decide) rfl (fun ls hl => ?_)
    have hl : lv_has ls 9 [(6, _), (5, _), (4, _), (3, _), (2, _), (1, _), (0, _)] := hl
    refine lv_aload_n hx hb dL_law_1830 rfl (lv_at hl 4 rfl) ?_
    refine lv_aload_n hx hb dL_law_1831 rfl (lv_at hl 6 rfl) ?_
    refine lv_iload hx hb dL_law_1832 (lv_at hl 1 rfl) ?_
    refine lv_iconst (v := nI 1) hx hb dL_law_1834 (by decide) ?_
    refine lv_iadd hx hb dL_law_1835 ?_
    rw [nI_add]
    refine va_sld hx hb hX hbl hbA hS (vp_in_nI (by omega) (by omega)) dL_law_1836 ?_
    refine lv_aload_n hx hb dL_law_1837 rfl (lv_at hl 6 rfl) ?_
    refine lv_iload hx hb dL_law_1838 (lv_at hl 1 rfl) ?_
    refine lv_iconst (v := nI 2) hx hb dL_law_1840 (by decide) ?_
    refine lv_iadd hx hb dL_law_1841 ?_
    rw [nI_add]
    refine va_sld hx hb hX hbl hbA hS (vp_in_nI (by omega) (by omega)) dL_law_1842 ?_
    refine law_mD X F hP hO F.2.2.2.2.2.2.2 hS (ct_X4_meanChain l k2 4 IZ F.1.2.2.2.2.2.2.2 ⟨rfl, rfl⟩ _ _) hl.1 gL_law_X4_meanChain rfl (by decide +kernel) (n := 2) ⟨Nat.le_of_ble_eq_true rfl, Nat.le_of_ble_eq_true rfl⟩ ⟨Nat.le_of_ble_eq_true rfl, Nat.le_of_ble_eq_true rfl⟩ (Nat.le_of_ble_eq_true rfl) rfl rfl dL_law_1843 (fun r2 v2 fs2 H locs hp2 hP hO hS => ?_)
    obtain ⟨I2, hp2, hv2⟩ := hp2
    rw [hv2] at hp2
    rw [if_neg (fun z => hg (mom_of z))] at hp2
    obtain rfl := hp2
    refine lv_dstore hx hb dL_law_1846 hl (by decide) rfl (fun ls hl => ?_)
    have hl : lv_has ls 9 [(7, _), (6, _), (5, _), (4, _), (3, _), (2, _), (1, _), (0, _)] := hl
    refine lv_aload_n hx hb dL_law_1848 rfl (lv_at hl 5 rfl) ?_
    refine law_t X F hP hO hS hl.1 ⟨Nat.le_of_ble_eq_true rfl, Nat.le_of_ble_eq_true rfl⟩ ⟨Nat.le_of_ble_eq_true rfl, Nat.le_of_ble_eq_true rfl⟩ (Nat.le_of_ble_eq_true rfl) dL_law_1849 (fun H locs hO hS => ?_)
    refine lv_iload hx hb dL_law_1852 (lv_at hl 1 rfl) ?_
    refine lv_icmp_eq (tgt := 1859) hx hb dL_law_1854 (by decide) (fun _ => ?_) (fun c1 => absurd rfl c1)
    refine lv_iload hx hb dL_law_1859 (lv_at hl 1 rfl) ?_
    refine lv_if_ne (tgt := 1896) hx hb dL_law_1861 (by decide) (fun _ => ?_) (fun c1 => absurd c1 ne_1)
    refine lv_goto (tgt := 2153) hx hb dL_law_1896 (by decide) ?_
    exact hend _ _ _ _ _ hS (lv_sub hl [7, 2] rfl) (Nat.le_of_ble_eq_true rfl) (Nat.le_of_ble_eq_true rfl)
set_option maxHeartbeats 4000000 in
set_option maxRecDepth 100000 in
theorem cs_holdsTo {p : Program} {e : Env} {s : State} {m : MethodId} {below : List Frame} {meth : Method} {c : Code} (l : Launch) (hf : l.stackTraces = false) {b : Nat} {xs : Nat → Int32} {k1 k2 : Sk} {ob od : Nat} {cL cD : ClassId} {H : Heap} {locs : List Loc} {ls : Array Slot} {Q : State → Prop} (X : CallFix p m c cL_law 9 s #[Value.ref b] wsL_law RL) (F : LF s k1 k2 ob od cL cD) (hX : va_X b 5 xs s s.heap) (hbl : b < s.heap.size) (hr : meth.sig.returnType = some .boolean ∧ meth.locks = false) (h : LH H k1 k2 ob od cL cD) (hS : va_S (AL s) s.heap H locs) (hl : lv_has ls 9 [(5, .int (nI 0)), (4, .ref od), (3, .ref ob), (2, .ref (k2.2.1 0)), (1, .ref (k1.2.1 0)), (0, .ref b)]) (hend : LEnd p l e s m b below meth c Q) : W p l e room_1 s m #[Value.ref b] below meth c H locs 200 2000 Q (F0 m 1899 ls []) := by
  have hx := X.1
  have hb := X.2.1
  have hbA : ¬ AL s b := Nat.not_le.mpr hbl
  refine lv_aload_n hx hb dL_law_1899 rfl (lv_at hl 4 rfl) ?_
  refine lv_aload_n hx hb dL_law_1900 rfl (lv_at hl 5 rfl) ?_
  refine lv_iload hx hb dL_law_1901 (lv_at hl 0 rfl) ?_
  refine lv_iconst (v := nI 1) hx hb dL_law_1903 (by decide) ?_
  refine lv_iadd hx hb dL_law_1904 ?_
  rw [nI_add]
  refine va_sld hx hb hX hbl hbA hS (vp_in_nI (by omega) (by omega)) dL_law_1905 ?_
  refine lv_aload_n hx hb dL_law_1906 rfl (lv_at hl 5 rfl) ?_
  refine lv_iload hx hb dL_law_1907 (lv_at hl 0 rfl) ?_
  refine lv_iconst (v := nI 2) hx hb dL_law_1909 (by decide) ?_
  refine lv_iadd hx hb dL_law_1910 ?_
  rw [nI_add]
  refine va_sld hx hb hX hbl hbA hS (vp_in_nI (by omega) (by omega)) dL_law_1911 ?_
  refine lv_aload_n hx hb dL_law_1912 rfl (lv_at hl 5 rfl) ?_
  refine lv_iload hx hb dL_law_1913 (lv_at hl 0 rfl) ?_
  refine lv_iconst (v := nI 3) hx hb dL_law_1915 (by decide) ?_
  refine lv_iadd hx hb dL_law_1916 ?_
  rw [nI_add]
  refine va_sld hx hb hX hbl hbA hS (vp_in_nI (by omega) (by omega)) dL_law_1917 ?_
  refine lv_aload_n hx hb dL_law_1918 rfl (lv_at hl 2 rfl) ?_
  refine law_w X F h hS (fun f sz => lw_holdsTo l hf k1 F.1.2.2.2.1 ob cL f F.2.2.2.2.1 _ _ _ sz) hl.1 gL_law_L_holdsTo rfl (by decide +kernel) (n := 5) ⟨Nat.le_of_ble_eq_true rfl, Nat.le_of_ble_eq_true rfl⟩ ⟨Nat.le_of_ble_eq_true rfl, Nat.le_of_ble_eq_true rfl⟩ (Nat.le_of_ble_eq_true rfl) rfl rfl dL_law_1919 (fun r1 x1 f1 H locs hp1 hf1 hO hP hS => ?_)
  obtain rfl : r1 = nI 1 := hp1
  refine lv_istore hx hb dL_law_1922 hl (by decide) rfl (fun ls hl => ?_)
  have hl : lv_has ls 9 [(6, _), (5, _), (4, _), (3, _), (2, _), (1, _), (0, _)] := hl
  refine lv_aload_n hx hb dL_law_1924 rfl (lv_at hl 4 rfl) ?_
  refine lv_aload_n hx hb dL_law_1925 rfl (lv_at hl 6 rfl) ?_
  refine lv_iload hx hb dL_law_1926 (lv_at hl 1 rfl) ?_
  refine lv_iconst (v := nI 1) hx hb dL_law_1928 (by decide) ?_
  refine lv_iadd hx hb dL_law_1929 ?_
  rw [nI_add]
  refine va_sld hx hb hX hbl hbA hS (vp_in_nI (by omega) (by omega)) dL_law_1930 ?_
  refine lv_aload_n hx hb dL_law_1931 rfl (lv_at hl 6 rfl) ?_
  refine lv_iload hx hb dL_law_1932 (lv_at hl 1 rfl) ?_
  refine lv_iconst (v := nI 2) hx hb dL_law_1934 (by decide) ?_
  refine lv_iadd hx hb dL_law_1935 ?_
  rw [nI_add]
  refine va_sld hx hb hX hbl hbA hS (vp_in_nI (by omega) (by omega)) dL_law_1936 ?_
  refine lv_aload_n hx hb dL_law_1937 rfl (lv_at hl 6 rfl) ?_
  refine lv_iload hx hb dL_law_1938 (lv_at hl 1 rfl) ?_
  refine lv_iconst (v := nI 3) hx hb dL_law_1940 (by decide) ?_
  refine lv_iadd hx hb dL_law_1941 ?_
  rw [nI_add]
  refine va_sld hx hb hX hbl hbA hS (vp_in_nI (by omega) (by omega)) dL_law_1942 ?_
  refine law_m X F hP hO F.2.2.2.2.2.2.1 hS (ct_X4_holdsTo l k2 4 IZ F.1.2.2.2.2.2.2.2 ⟨rfl, rfl⟩ _ _ _) hl.1 gL_law_X4_holdsTo rfl (by decide +kernel) (n := 3) ⟨Nat.le_of_ble_eq_true rfl, Nat.le_of_ble_eq_true rfl⟩ ⟨Nat.le_of_ble_eq_true rfl, Nat.le_of_ble_eq_true rfl⟩ (Nat.le_of_ble_eq_true rfl) rfl rfl dL_law_1943 (fun r2 v2 fs2 H locs hp2 hP hO hS => ?_)
  obtain ⟨I2, hp2, hv2⟩ := hp2
  have hp2 : v2 = nI 1 := hv2.symm.trans hp2
  subst hp2
  refine lv_istore hx hb dL_law_1946 hl (by decide) rfl (fun ls hl => ?_)
  have hl : lv_has ls 9 [(7, _), (6, _), (5, _), (4, _), (3, _), (2, _), (1, _), (0, _)] := hl
  refine lv_aload_n hx hb dL_law_1948 rfl (lv_at hl 5 rfl) ?_
  refine law_t X F hP hO hS hl.1 ⟨Nat.le_of_ble_eq_true rfl, Nat.le_of_ble_eq_true rfl⟩ ⟨Nat.le_of_ble_eq_true rfl, Nat.le_of_ble_eq_true rfl⟩ (Nat.le_of_ble_eq_true rfl) dL_law_1949 (fun H locs hO hS => ?_)
  refine lv_iload hx hb dL_law_1952 (lv_at hl 1 rfl) ?_
  refine lv_icmp_eq (tgt := 1959) hx hb dL_law_1954 (by decide) (fun _ => ?_) (fun c1 => absurd rfl c1)
  refine lv_iload hx hb dL_law_1959 (lv_at hl 1 rfl) ?_
  refine lv_if_ne (tgt := 1976) hx hb dL_law_1961 (by decide) (fun _ => ?_) (fun c1 => absurd c1 ne_1)
  refine lv_goto (tgt := 2153) hx hb dL_law_1976 (by decide) ?_
  exact hend _ _ _ _ _ hS (lv_sub hl [7, 2] rfl) (Nat.le_of_ble_eq_true rfl) (Nat.le_of_ble_eq_true rfl)
set_option maxHeartbeats 4000000 in
set_option maxRecDepth 100000 in
theorem cs_otherwise {p : Program} {e : Env} {s : State} {m : MethodId} {below : List Frame} {meth : Method} {c : Code} (l : Launch) (hf : l.stackTraces = false) {b : Nat} {xs : Nat → Int32} {k1 k2 : Sk} {ob od : Nat} {cL cD : ClassId} {H : Heap} {locs : List Loc} {ls : Array Slot} {Q : State → Prop} (X : CallFix p m c cL_law 9 s #[Value.ref b] wsL_law RL) (F : LF s k1 k2 ob od cL cD) (hX : va_X b 5 xs s s.heap) (hbl : b < s.heap.size) (hr : meth.sig.returnType = some .boolean ∧ meth.locks = false) (h : LH H k1 k2 ob od cL cD) (hS : va_S (AL s) s.heap H locs) (hl : lv_has ls 9 [(5, .int (nI 0)), (4, .ref od), (3, .ref ob), (2, .ref (k2.2.1 0)), (1, .ref (k1.2.1 0)), (0, .ref b)]) (hend : LEnd p l e s m b below meth c Q) : W p l e room_1 s m #[Value.ref b] below meth c H locs 200 2000 Q (F0 m 1979 ls []) := by
  have hx := X.1
  have hb := X.2.1
  have hbA : ¬ AL s b := Nat.not_le.mpr hbl
  refine lv_aload_n hx hb dL_law_1979 rfl (lv_at hl 4 rfl) ?_
  refine lv_aload_n hx hb dL_law_1980 rfl (lv_at hl 5 rfl) ?_
  refine lv_iload hx hb dL_law_1981 (lv_at hl 0 rfl) ?_
  refine lv_iconst (v := nI 1) hx hb dL_law_1983 (by decide) ?_
  refine lv_iadd hx hb dL_law_1984 ?_
  rw [nI_add]
  refine va_sld hx hb hX hbl hbA hS (vp_in_nI (by omega) (by omega)) dL_law_1985 ?_
  refine lv_aload_n hx hb dL_law_1986 rfl (lv_at hl 5 rfl) ?_
  refine lv_iload hx hb dL_law_1987 (lv_at hl 0 rfl) ?_
  refine lv_iconst (v := nI 2) hx hb dL_law_1989 (by decide) ?_
  refine lv_iadd hx hb dL_law_1990 ?_
  rw [nI_add]
  refine va_sld hx hb hX hbl hbA hS (vp_in_nI (by omega) (by omega)) dL_law_1991 ?_
  refine lv_aload_n hx hb dL_law_1992 rfl (lv_at hl 5 rfl) ?_
  refine lv_iload hx hb dL_law_1993 (lv_at hl 0 rfl) ?_
  refine lv_iconst (v := nI 3) hx hb dL_law_1995 (by decide) ?_
  refine lv_iadd hx hb dL_law_1996 ?_
  rw [nI_add]
  refine va_sld hx hb hX hbl hbA hS (vp_in_nI (by omega) (by omega)) dL_law_1997 ?_
  refine lv_aload_n hx hb dL_law_1998 rfl (lv_at hl 2 rfl) ?_
  refine law_w X F h hS (fun f sz => lw_otherwise l hf k1 F.1.2.2.2.1 ob cL f F.2.2.2.2.1 _ _ _ sz) hl.1 gL_law_L_otherwise rfl (by decide +kernel) (n := 5) ⟨Nat.le_of_ble_eq_true rfl, Nat.le_of_ble_eq_true rfl⟩ ⟨Nat.le_of_ble_eq_true rfl, Nat.le_of_ble_eq_true rfl⟩ (Nat.le_of_ble_eq_true rfl) rfl rfl dL_law_1999 (fun r1 x1 f1 H locs hp1 hf1 hO hP hS => ?_)
  obtain rfl : r1 = nI 1 := hp1
  refine lv_istore hx hb dL_law_2002 hl (by decide) rfl (fun ls hl => ?_)
  have hl : lv_has ls 9 [(6, _), (5, _), (4, _), (3, _), (2, _), (1, _), (0, _)] := hl
  refine lv_aload_n hx hb dL_law_2004 rfl (lv_at hl 4 rfl) ?_
  refine lv_aload_n hx hb dL_law_2005 rfl (lv_at hl 6 rfl) ?_
  refine lv_iload hx hb dL_law_2006 (lv_at hl 1 rfl) ?_
  refine lv_iconst (v := nI 1) hx hb dL_law_2008 (by decide) ?_
  refine lv_iadd hx hb dL_law_2009 ?_
  rw [nI_add]
  refine va_sld hx hb hX hbl hbA hS (vp_in_nI (by omega) (by omega)) dL_law_2010 ?_
  refine lv_aload_n hx hb dL_law_2011 rfl (lv_at hl 6 rfl) ?_
  refine lv_iload hx hb dL_law_2012 (lv_at hl 1 rfl) ?_
  refine lv_iconst (v := nI 2) hx hb dL_law_2014 (by decide) ?_
  refine lv_iadd hx hb dL_law_2015 ?_
  rw [nI_add]
  refine va_sld hx hb hX hbl hbA hS (vp_in_nI (by omega) (by omega)) dL_law_2016 ?_
  refine lv_aload_n hx hb dL_law_2017 rfl (lv_at hl 6 rfl) ?_
  refine lv_iload hx hb dL_law_2018 (lv_at hl 1 rfl) ?_
  refine lv_iconst (v := nI 3) hx hb dL_law_2020 (by decide) ?_
  refine lv_iadd hx hb dL_law_2021 ?_
  rw [nI_add]
  refine va_sld hx hb hX hbl hbA hS (vp_in_nI (by omega) (by omega)) dL_law_2022 ?_
  refine law_m X F hP hO F.2.2.2.2.2.2.1 hS (ct_X4_otherwise l k2 4 IZ F.1.2.2.2.2.2.2.2 ⟨rfl, rfl⟩ _ _ _) hl.1 gL_law_X4_otherwise rfl (by decide +kernel) (n := 3) ⟨Nat.le_of_ble_eq_true rfl, Nat.le_of_ble_eq_true rfl⟩ ⟨Nat.le_of_ble_eq_true rfl, Nat.le_of_ble_eq_true rfl⟩ (Nat.le_of_ble_eq_true rfl) rfl rfl dL_law_2023 (fun r2 v2 fs2 H locs hp2 hP hO hS => ?_)
  obtain ⟨I2, hp2, hv2⟩ := hp2
  have hp2 : v2 = nI 1 := hv2.symm.trans hp2
  subst hp2
  refine lv_istore hx hb dL_law_2026 hl (by decide) rfl (fun ls hl => ?_)
  have hl : lv_has ls 9 [(7, _), (6, _), (5, _), (4, _), (3, _), (2, _), (1, _), (0, _)] := hl
  refine lv_aload_n hx hb dL_law_2028 rfl (lv_at hl 5 rfl) ?_
  refine law_t X F hP hO hS hl.1 ⟨Nat.le_of_ble_eq_true rfl, Nat.le_of_ble_eq_true rfl⟩ ⟨Nat.le_of_ble_eq_true rfl, Nat.le_of_ble_eq_true rfl⟩ (Nat.le_of_ble_eq_true rfl) dL_law_2029 (fun H locs hO hS => ?_)
  refine lv_iload hx hb dL_law_2032 (lv_at hl 1 rfl) ?_
  refine lv_icmp_eq (tgt := 2039) hx hb dL_law_2034 (by decide) (fun _ => ?_) (fun c1 => absurd rfl c1)
  refine lv_iload hx hb dL_law_2039 (lv_at hl 1 rfl) ?_
  refine lv_if_ne (tgt := 2056) hx hb dL_law_2041 (by decide) (fun _ => ?_) (fun c1 => absurd c1 ne_1)
  refine lv_goto (tgt := 2153) hx hb dL_law_2056 (by decide) ?_
  exact hend _ _ _ _ _ hS (lv_sub hl [7, 2] rfl) (Nat.le_of_ble_eq_true rfl) (Nat.le_of_ble_eq_true rfl)
set_option maxHeartbeats 4000000 in
set_option maxRecDepth 100000 in
theorem cs_stolen {p : Program} {e : Env} {s : State} {m : MethodId} {below : List Frame} {meth : Method} {c : Code} (l : Launch) (hf : l.stackTraces = false) {b : Nat} {xs : Nat → Int32} {k1 k2 : Sk} {ob od : Nat} {cL cD : ClassId} {H : Heap} {locs : List Loc} {ls : Array Slot} {Q : State → Prop} (X : CallFix p m c cL_law 9 s #[Value.ref b] wsL_law RL) (F : LF s k1 k2 ob od cL cD) (hX : va_X b 5 xs s s.heap) (hbl : b < s.heap.size) (hr : meth.sig.returnType = some .boolean ∧ meth.locks = false) (h : LH H k1 k2 ob od cL cD) (hS : va_S (AL s) s.heap H locs) (hl : lv_has ls 9 [(5, .int (nI 0)), (4, .ref od), (3, .ref ob), (2, .ref (k2.2.1 0)), (1, .ref (k1.2.1 0)), (0, .ref b)]) (hend : LEnd p l e s m b below meth c Q) : W p l e room_1 s m #[Value.ref b] below meth c H locs 200 2000 Q (F0 m 2059 ls []) := by
  have hx := X.1
  have hb := X.2.1
  have hbA : ¬ AL s b := Nat.not_le.mpr hbl
  by_cases hg : isW (xs (nI (0 + 1)).toNatClampNeg) (nI 15) = true ∧ isW (xs (nI (0 + 2)).toNatClampNeg) (nI 999) = true ∧ isW (xs (nI (0 + 3)).toNatClampNeg) (nI 3) = true
  · refine lv_aload_n hx hb dL_law_2059 rfl (lv_at hl 4 rfl) ?_
    refine lv_aload_n hx hb dL_law_2060 rfl (lv_at hl 5 rfl) ?_
    refine lv_iload hx hb dL_law_2061 (lv_at hl 0 rfl) ?_
    refine lv_iconst (v := nI 1) hx hb dL_law_2063 (by decide) ?_
    refine lv_iadd hx hb dL_law_2064 ?_
    rw [nI_add]
    refine va_sld hx hb hX hbl hbA hS (vp_in_nI (by omega) (by omega)) dL_law_2065 ?_
    refine lv_aload_n hx hb dL_law_2066 rfl (lv_at hl 5 rfl) ?_
    refine lv_iload hx hb dL_law_2067 (lv_at hl 0 rfl) ?_
    refine lv_iconst (v := nI 2) hx hb dL_law_2069 (by decide) ?_
    refine lv_iadd hx hb dL_law_2070 ?_
    rw [nI_add]
    refine va_sld hx hb hX hbl hbA hS (vp_in_nI (by omega) (by omega)) dL_law_2071 ?_
    refine lv_aload_n hx hb dL_law_2072 rfl (lv_at hl 5 rfl) ?_
    refine lv_iload hx hb dL_law_2073 (lv_at hl 0 rfl) ?_
    refine lv_iconst (v := nI 3) hx hb dL_law_2075 (by decide) ?_
    refine lv_iadd hx hb dL_law_2076 ?_
    rw [nI_add]
    refine va_sld hx hb hX hbl hbA hS (vp_in_nI (by omega) (by omega)) dL_law_2077 ?_
    refine lv_aload_n hx hb dL_law_2078 rfl (lv_at hl 2 rfl) ?_
    refine law_w X F h hS (fun f sz => lw_stolen l hf k1 F.1.2.2.2.1 ob cL f F.2.2.2.2.1 _ _ _ sz) hl.1 gL_law_L_stolen rfl (by decide +kernel) (n := 5) ⟨Nat.le_of_ble_eq_true rfl, Nat.le_of_ble_eq_true rfl⟩ ⟨Nat.le_of_ble_eq_true rfl, Nat.le_of_ble_eq_true rfl⟩ (Nat.le_of_ble_eq_true rfl) rfl rfl dL_law_2079 (fun r1 x1 f1 H locs hp1 hf1 hO hP hS => ?_)
    rw [if_pos hg] at hp1
    obtain ⟨rfl, hx1⟩ := hp1
    refine lv_istore hx hb dL_law_2082 hl (by decide) rfl (fun ls hl => ?_)
    have hl : lv_has ls 9 [(6, _), (5, _), (4, _), (3, _), (2, _), (1, _), (0, _)] := hl
    refine lv_aload_n hx hb dL_law_2084 rfl (lv_at hl 4 rfl) ?_
    refine lv_aload_n hx hb dL_law_2085 rfl (lv_at hl 6 rfl) ?_
    refine lv_iload hx hb dL_law_2086 (lv_at hl 1 rfl) ?_
    refine lv_iconst (v := nI 1) hx hb dL_law_2088 (by decide) ?_
    refine lv_iadd hx hb dL_law_2089 ?_
    rw [nI_add]
    refine va_sld hx hb hX hbl hbA hS (vp_in_nI (by omega) (by omega)) dL_law_2090 ?_
    refine lv_aload_n hx hb dL_law_2091 rfl (lv_at hl 6 rfl) ?_
    refine lv_iload hx hb dL_law_2092 (lv_at hl 1 rfl) ?_
    refine lv_iconst (v := nI 2) hx hb dL_law_2094 (by decide) ?_
    refine lv_iadd hx hb dL_law_2095 ?_
    rw [nI_add]
    refine va_sld hx hb hX hbl hbA hS (vp_in_nI (by omega) (by omega)) dL_law_2096 ?_
    refine lv_aload_n hx hb dL_law_2097 rfl (lv_at hl 6 rfl) ?_
    refine lv_iload hx hb dL_law_2098 (lv_at hl 1 rfl) ?_
    refine lv_iconst (v := nI 3) hx hb dL_law_2100 (by decide) ?_
    refine lv_iadd hx hb dL_law_2101 ?_
    rw [nI_add]
    refine va_sld hx hb hX hbl hbA hS (vp_in_nI (by omega) (by omega)) dL_law_2102 ?_
    refine law_m X F hP hO F.2.2.2.2.2.2.1 hS (ct_X4_stolen l k2 4 IZ F.1.2.2.2.2.2.2.2 ⟨rfl, rfl⟩ _ _ _) hl.1 gL_law_X4_stolen rfl (by decide +kernel) (n := 3) ⟨Nat.le_of_ble_eq_true rfl, Nat.le_of_ble_eq_true rfl⟩ ⟨Nat.le_of_ble_eq_true rfl, Nat.le_of_ble_eq_true rfl⟩ (Nat.le_of_ble_eq_true rfl) rfl rfl dL_law_2103 (fun r2 v2 fs2 H locs hp2 hP hO hS => ?_)
    obtain ⟨I2, hp2, hv2⟩ := hp2
    rw [hv2] at hp2
    rw [if_pos (⟨hg.1, mom_yes hg.2⟩)] at hp2
    obtain ⟨rfl, hx2⟩ := hp2
    refine lv_istore hx hb dL_law_2106 hl (by decide) rfl (fun ls hl => ?_)
    have hl : lv_has ls 9 [(7, _), (6, _), (5, _), (4, _), (3, _), (2, _), (1, _), (0, _)] := hl
    refine lv_aload_n hx hb dL_law_2108 rfl (lv_at hl 5 rfl) ?_
    refine law_t X F hP hO hS hl.1 ⟨Nat.le_of_ble_eq_true rfl, Nat.le_of_ble_eq_true rfl⟩ ⟨Nat.le_of_ble_eq_true rfl, Nat.le_of_ble_eq_true rfl⟩ (Nat.le_of_ble_eq_true rfl) dL_law_2109 (fun H locs hO hS => ?_)
    refine lv_iload hx hb dL_law_2112 (lv_at hl 1 rfl) ?_
    refine lv_icmp_eq (tgt := 2119) hx hb dL_law_2114 (by decide) (fun _ => ?_) (fun c1 => absurd rfl c1)
    refine lv_iload hx hb dL_law_2119 (lv_at hl 1 rfl) ?_
    refine lv_if_ne (tgt := 2136) hx hb dL_law_2121 (by decide) (fun c1 => absurd rfl c1) (fun _ => ?_)
    refine lv_aload_n hx hb dL_law_2124 rfl (lv_at hl 4 rfl) ?_
    refine lv_iconst (v := nI 0) hx hb dL_law_2125 (by decide) ?_
    refine va_lald hx hb F.1.2.2.2.2.1 hO 0 0 rfl rfl (vp_in_nI (by omega) (by omega)) dL_law_2126 ?_
    refine lv_iload hx hb dL_law_2127 (lv_at hl 0 rfl) ?_
    refine lv_i2l hx hb dL_law_2129 rfl ?_
    rw [show f1 (nI 0).toNatClampNeg = r2.toInt64 from hf1.trans (hx1.trans (by rw [hx2]))]
    refine W.lcmp hx hb dL_law_2130 ?_
    refine lv_if_eq (tgt := 2136) hx hb dL_law_2131 (by decide) (fun _ => ?_) (fun c1 => absurd (cmp_s _) c1)
    refine lv_goto (tgt := 2153) hx hb dL_law_2136 (by decide) ?_
    exact hend _ _ _ _ _ hS (lv_sub hl [7, 2] rfl) (Nat.le_of_ble_eq_true rfl) (Nat.le_of_ble_eq_true rfl)
  · refine lv_aload_n hx hb dL_law_2059 rfl (lv_at hl 4 rfl) ?_
    refine lv_aload_n hx hb dL_law_2060 rfl (lv_at hl 5 rfl) ?_
    refine lv_iload hx hb dL_law_2061 (lv_at hl 0 rfl) ?_
    refine lv_iconst (v := nI 1) hx hb dL_law_2063 (by decide) ?_
    refine lv_iadd hx hb dL_law_2064 ?_
    rw [nI_add]
    refine va_sld hx hb hX hbl hbA hS (vp_in_nI (by omega) (by omega)) dL_law_2065 ?_
    refine lv_aload_n hx hb dL_law_2066 rfl (lv_at hl 5 rfl) ?_
    refine lv_iload hx hb dL_law_2067 (lv_at hl 0 rfl) ?_
    refine lv_iconst (v := nI 2) hx hb dL_law_2069 (by decide) ?_
    refine lv_iadd hx hb dL_law_2070 ?_
    rw [nI_add]
    refine va_sld hx hb hX hbl hbA hS (vp_in_nI (by omega) (by omega)) dL_law_2071 ?_
    refine lv_aload_n hx hb dL_law_2072 rfl (lv_at hl 5 rfl) ?_
    refine lv_iload hx hb dL_law_2073 (lv_at hl 0 rfl) ?_
    refine lv_iconst (v := nI 3) hx hb dL_law_2075 (by decide) ?_
    refine lv_iadd hx hb dL_law_2076 ?_
    rw [nI_add]
    refine va_sld hx hb hX hbl hbA hS (vp_in_nI (by omega) (by omega)) dL_law_2077 ?_
    refine lv_aload_n hx hb dL_law_2078 rfl (lv_at hl 2 rfl) ?_
    refine law_w X F h hS (fun f sz => lw_stolen l hf k1 F.1.2.2.2.1 ob cL f F.2.2.2.2.1 _ _ _ sz) hl.1 gL_law_L_stolen rfl (by decide +kernel) (n := 5) ⟨Nat.le_of_ble_eq_true rfl, Nat.le_of_ble_eq_true rfl⟩ ⟨Nat.le_of_ble_eq_true rfl, Nat.le_of_ble_eq_true rfl⟩ (Nat.le_of_ble_eq_true rfl) rfl rfl dL_law_2079 (fun r1 x1 f1 H locs hp1 hf1 hO hP hS => ?_)
    rw [if_neg hg] at hp1
    obtain rfl := hp1
    refine lv_istore hx hb dL_law_2082 hl (by decide) rfl (fun ls hl => ?_)
    have hl : lv_has ls 9 [(6, _), (5, _), (4, _), (3, _), (2, _), (1, _), (0, _)] := hl
    refine lv_aload_n hx hb dL_law_2084 rfl (lv_at hl 4 rfl) ?_
    refine lv_aload_n hx hb dL_law_2085 rfl (lv_at hl 6 rfl) ?_
    refine lv_iload hx hb dL_law_2086 (lv_at hl 1 rfl) ?_
    refine lv_iconst (v := nI 1) hx hb dL_law_2088 (by decide) ?_
    refine lv_iadd hx hb dL_law_2089 ?_
    rw [nI_add]
    refine va_sld hx hb hX hbl hbA hS (vp_in_nI (by omega) (by omega)) dL_law_2090 ?_
    refine lv_aload_n hx hb dL_law_2091 rfl (lv_at hl 6 rfl) ?_
    refine lv_iload hx hb dL_law_2092 (lv_at hl 1 rfl) ?_
    refine lv_iconst (v := nI 2) hx hb dL_law_2094 (by decide) ?_
    refine lv_iadd hx hb dL_law_2095 ?_
    rw [nI_add]
    refine va_sld hx hb hX hbl hbA hS (vp_in_nI (by omega) (by omega)) dL_law_2096 ?_
    refine lv_aload_n hx hb dL_law_2097 rfl (lv_at hl 6 rfl) ?_
    refine lv_iload hx hb dL_law_2098 (lv_at hl 1 rfl) ?_
    refine lv_iconst (v := nI 3) hx hb dL_law_2100 (by decide) ?_
    refine lv_iadd hx hb dL_law_2101 ?_
    rw [nI_add]
    refine va_sld hx hb hX hbl hbA hS (vp_in_nI (by omega) (by omega)) dL_law_2102 ?_
    refine law_m X F hP hO F.2.2.2.2.2.2.1 hS (ct_X4_stolen l k2 4 IZ F.1.2.2.2.2.2.2.2 ⟨rfl, rfl⟩ _ _ _) hl.1 gL_law_X4_stolen rfl (by decide +kernel) (n := 3) ⟨Nat.le_of_ble_eq_true rfl, Nat.le_of_ble_eq_true rfl⟩ ⟨Nat.le_of_ble_eq_true rfl, Nat.le_of_ble_eq_true rfl⟩ (Nat.le_of_ble_eq_true rfl) rfl rfl dL_law_2103 (fun r2 v2 fs2 H locs hp2 hP hO hS => ?_)
    obtain ⟨I2, hp2, hv2⟩ := hp2
    rw [hv2] at hp2
    rw [if_neg (fun z => hg ⟨z.1, mom_of z.2⟩)] at hp2
    obtain rfl := hp2
    refine lv_istore hx hb dL_law_2106 hl (by decide) rfl (fun ls hl => ?_)
    have hl : lv_has ls 9 [(7, _), (6, _), (5, _), (4, _), (3, _), (2, _), (1, _), (0, _)] := hl
    refine lv_aload_n hx hb dL_law_2108 rfl (lv_at hl 5 rfl) ?_
    refine law_t X F hP hO hS hl.1 ⟨Nat.le_of_ble_eq_true rfl, Nat.le_of_ble_eq_true rfl⟩ ⟨Nat.le_of_ble_eq_true rfl, Nat.le_of_ble_eq_true rfl⟩ (Nat.le_of_ble_eq_true rfl) dL_law_2109 (fun H locs hO hS => ?_)
    refine lv_iload hx hb dL_law_2112 (lv_at hl 1 rfl) ?_
    refine lv_icmp_eq (tgt := 2119) hx hb dL_law_2114 (by decide) (fun _ => ?_) (fun c1 => absurd rfl c1)
    refine lv_iload hx hb dL_law_2119 (lv_at hl 1 rfl) ?_
    refine lv_if_ne (tgt := 2136) hx hb dL_law_2121 (by decide) (fun _ => ?_) (fun c1 => absurd c1 ne_1)
    refine lv_goto (tgt := 2153) hx hb dL_law_2136 (by decide) ?_
    exact hend _ _ _ _ _ hS (lv_sub hl [7, 2] rfl) (Nat.le_of_ble_eq_true rfl) (Nat.le_of_ble_eq_true rfl)
set_option maxHeartbeats 4000000 in
set_option maxRecDepth 100000 in
theorem cs_digest {p : Program} {e : Env} {s : State} {m : MethodId} {below : List Frame} {meth : Method} {c : Code} (l : Launch) (hf : l.stackTraces = false) {b : Nat} {xs : Nat → Int32} {k1 k2 : Sk} {ob od : Nat} {cL cD : ClassId} {H : Heap} {locs : List Loc} {ls : Array Slot} {Q : State → Prop} (X : CallFix p m c cL_law 9 s #[Value.ref b] wsL_law RL) (F : LF s k1 k2 ob od cL cD) (hX : va_X b 5 xs s s.heap) (hbl : b < s.heap.size) (hr : meth.sig.returnType = some .boolean ∧ meth.locks = false) (h : LH H k1 k2 ob od cL cD) (hS : va_S (AL s) s.heap H locs) (hl : lv_has ls 9 [(5, .int (nI 0)), (4, .ref od), (3, .ref ob), (2, .ref (k2.2.1 0)), (1, .ref (k1.2.1 0)), (0, .ref b)]) (hend : LEnd p l e s m b below meth c Q) : W p l e room_1 s m #[Value.ref b] below meth c H locs 200 2000 Q (F0 m 2139 ls []) := by
  have hx := X.1
  have hb := X.2.1
  have hbA : ¬ AL s b := Nat.not_le.mpr hbl
  refine lv_aload_n hx hb dL_law_2139 rfl (lv_at hl 4 rfl) ?_
  refine law_xL X F h hS (ct_X3_digest l k1 98 I0 F.1.2.2.2.1 0 (by omega) rfl 0 (by omega) rfl ⟨false, rfl⟩) hl.1 gL_law_X3_digest rfl (by decide +kernel) (n := 0) ⟨Nat.le_of_ble_eq_true rfl, Nat.le_of_ble_eq_true rfl⟩ ⟨Nat.le_of_ble_eq_true rfl, Nat.le_of_ble_eq_true rfl⟩ (Nat.le_of_ble_eq_true rfl) rfl rfl dL_law_2140 (fun r1 f1 H locs hp1 hO hP hS => ?_)
  obtain ⟨I1, hp1, -⟩ := hp1
  refine lv_aload_n hx hb dL_law_2143 rfl (lv_at hl 3 rfl) ?_
  refine law_bL (XX := fun _ => HN) X F hP hO F.2.2.2.2.2.2.1 hS (fun sz => je_digest l k2 F.1.2.2.2.2.2.2.2 sz) (fun a U g mk q => HN.same (u := U) (U := U.calling g mk a) rfl q) (fun U hU hW => HN.go hW F.2.1.2) hl.1 gL_law_X4_digest rfl (by decide +kernel) (n := 0) ⟨Nat.le_of_ble_eq_true rfl, Nat.le_of_ble_eq_true rfl⟩ ⟨Nat.le_of_ble_eq_true rfl, Nat.le_of_ble_eq_true rfl⟩ (Nat.le_of_ble_eq_true rfl) rfl rfl dL_law_2144 (fun r2 v2 fs2 H locs hp2 hP hO hS => ?_)
  rw [hp1, dg_0, hp2.2]
  refine W.lcmp hx hb dL_law_2147 ?_
  refine lv_if_eq (tgt := 2153) hx hb dL_law_2148 (by decide) (fun _ => ?_) (fun c1 => absurd (cmp_s _) c1)
  exact hend _ _ _ _ _ hS (lv_sub hl [5, 0] rfl) (Nat.le_of_ble_eq_true rfl) (Nat.le_of_ble_eq_true rfl)
