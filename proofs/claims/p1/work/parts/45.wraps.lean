/-! 45: the law's calls of the room: what is thrown is caught, what is answered goes to a row of one -/
theorem va_S.wider {A B : Nat → Prop} {H0 H : Heap} {locs : List Loc} (h : va_S A H0 H locs) (hAB : ∀ q, A q → B q) : va_S B H0 H locs := ⟨h.1, fun q h1 h2 => h.2.1 q h1 (fun z => h2 (hAB q z)), fun q hq => hAB _ (h.2.2 q hq)⟩
abbrev AO (k : Sk) (ob sz : Nat) : Nat → Prop := fun q => AX k 98 sz q ∨ q = ob
abbrev oL (ob : Nat) (cL : ClassId) (f : Nat → Int64) : va_W := [(ob, .inl (cL, 1, .inr (.inl f)))]
abbrev oD (ob : Nat) (cL : ClassId) (f : Nat → UInt64) : va_W := [(ob, .inl (cL, 1, .inr (.inr (.inr (.inl f)))))]
abbrev PcW (k : Sk) (ob : Nat) (cL : ClassId) (ty : FieldType) (e : va_E) (sz : Nat) (av : List Value) : Array Value → State → Prop := va_Pc av (fun U => U.heap.size = sz ∧ va_P k.1 clX (Wd k 98 I0) U.heap ∧ va_K k.1 clX (tyK k) U ∧ Tb U ∧ TX (AX k 98 sz) U ∧ va_P k.1 clX [(ob, e)] U.heap ∧ va_K k.1 clX [(cL, ty)] U)
theorem pcW_blind (k : Sk) (ob : Nat) (cL : ClassId) (ty : FieldType) (e : va_E) (sz : Nat) (av : List Value) : FrameBlind (PcW k ob cL ty e sz av) := by
  rintro a U g mk ⟨q0, q1, qP, qK, qT, qX, qO, qL⟩
  exact ⟨q0, q1, qP, va_K.moved (u := U) (U := U.calling g mk a) (Vm.Alike.refl U.vm) qK, Tb.same (u := U) (U := U.calling g mk a) rfl qT, TX.same (u := U) (U := U.calling g mk a) rfl rfl qX, qO, va_K.moved (u := U) (U := U.calling g mk a) (Vm.Alike.refl U.vm) qL⟩
abbrev BL (k : Sk) (ob : Nat) (cL : ClassId) : Int64 → State → Prop := fun x t => ∃ f : Nat → Int64, f 0 = x ∧ va_P k.1 clX (oL ob cL f) t.heap
abbrev BD (k : Sk) (ob : Nat) (cL : ClassId) : UInt64 → State → Prop := fun x t => ∃ f : Nat → UInt64, f 0 = x ∧ va_P k.1 clX (oD ob cL f) t.heap
abbrev XW (A : Nat → Prop) : String → State → State → Prop := vx_X (fun _ : Unit => False) (fun _ _ _ => True) A
theorem isLt_0 (x : Int32) : isLt 0 x = false := by
  unfold isLt
  by_cases a : x < 0
  · rw [if_pos a]
  · rw [if_neg a, if_pos]
    rw [Int32.lt_iff_toInt_lt] at a
    rw [Int32.le_iff_toInt_le]
    have e1 : (0 : Int32).toInt = 0 := rfl
    have e2 : (nI 0).toInt = 0 := rfl
    omega
theorem isLs_0 (x : Int32) : x < 0 ∨ (¬ x < 0 ∧ ¬ x < I0 0 5) := by
  by_cases h : x < 0
  · exact Or.inl h
  · exact Or.inr ⟨h, h⟩
theorem isW_at {a M : Int32} {n : Nat} (hM : M.toInt = n) (h : isW a M = true) : ∃ j : Nat, j ≤ n ∧ a = nI j := by
  unfold isW at h
  by_cases h1 : a < 0
  · rw [if_pos h1] at h; exact absurd h (by decide)
  · by_cases h2 : M < a
    · rw [if_neg h1, if_pos h2] at h; exact absurd h (by decide)
    · exact nI_of2 hM h1 (fa_nlt h2)
theorem mn_0 {j : Nat} (h : j ≤ 3) : mnF (vw I0) 0 0 j = nI 0 := by
  rcases (show j = 0 ∨ j = 1 ∨ j = 2 ∨ j = 3 by omega) with rfl | rfl | rfl | rfl <;> rfl
theorem dg_0 : dgF (vw I0) 0 0 = ((((58102 * 31 + 0) * 31 + 0) * 31 + 0) * 31 + 0) := by
  show dgC (vw I0) 0 0 4 = _
  simp only [dgC, mn_0 (show 0 ≤ 3 by omega), mn_0 (show 1 ≤ 3 by omega), mn_0 (show 2 ≤ 3 by omega), mn_0 (show 3 ≤ 3 by omega)]
  rfl
theorem mc_0 (t u : Int32) : mcF (vw I0) 0 0 t u = FP.dconst0 := if_pos rfl
theorem io_0 (a key t u : Int32) : (ioO (vw I0) 0 0 a key t u).isSome = false := rfl
theorem st_0 (y t u : Int32) : stN (vw I0) 0 0 y t u 0 = 0 := rfl
section RW
variable {p : Program} {l : Launch} {e : Env} {R : Room} {s : State} {m : MethodId} {args : Array Value} {below : List Frame} {meth : Method} {c : Code} {H : Heap} {locs : List Loc} {cells slots : Nat}
variable {cc : ByteArray} {nL : Nat} {Ts : List Cond} {own : String} {k : Sk} {M : Nat} {A : Nat → Prop} {I : IS} {pc : Nat} {ls : Array Slot} {rest : List Value} {Q : State → Prop}
/-- a wrapper: from its entry; S, B: what it leaves in the row -/
theorem mtW_of {S : Type} {B : S → State → Prop} {y : MethodName} {ws ws' : List Cond} {d : Nat} {av : List Value} {cc : ByteArray} {maxL sz ob : Nat} {cL : ClassId} {ty : FieldType} {e9 : va_E} {hh : List (Nat × Nat × Nat × Nat)} {post : Int32 → S → Prop} (hJ : Ij k 98) (hne : ∀ n, n < 98 → k.2.1 n ≠ ob) (hy : plainName y.cls = true) (hw : ws = Cond.codeWith y cc maxL (some .int) hh :: ws') (hlen : (lg_sl av).length ≤ maxL)
    (body : ∀ (p : Program) (e : Env) (s : State) (m : MethodId) (args : Array Value) (below : List Frame) (meth : Method) (c : Code) (ls : Array Slot), CX p s m args c cc maxL ws y.cls k 98 (AX k 98 s.heap.size) → HX k 98 (AX k 98 s.heap.size) s I0 s.heap [] → TX (AX k 98 s.heap.size) s → va_P k.1 clX [(ob, e9)] s.heap → va_K k.1 clX [(cL, ty)] s → ¬ AX k 98 s.heap.size ob → c.exceptionTable.toList = tableOf hh → (meth.sig.returnType = (some .int) ∧ meth.locks = false) → lv_has ls maxL (lv_args 0 av) → W p l e (RmA d 1 6) s m args below meth c s.heap [] 0 0 (vx_MQ below (va_Qi post B (AO k ob s.heap.size)) (XW (AO k ob s.heap.size)) args s 1 6 (AO k ob s.heap.size)) (F0 m 0 ls [])) :
    vx_Met l y ws (RmA d 1 6) (PcW k ob cL ty e9 sz av) (va_Qi post B (AO k ob sz)) (XW (AO k ob sz)) 1 6 (AO k ob sz) := by
  refine vx_ofWH (cc := cc) (maxL := maxL) (ret := some .int) hy hw ?_
  intro p e s m args below meth c s₁ B9 hml hv
  obtain ⟨rfl, rfl, hP, hK, hT, hX, hO, hL⟩ := hv
  have hts := atoms_spec (ws := ws) B9.pre
  have htab := vx_table (x := y) B9 (hts _ (by rw [hw]; exact List.mem_cons_self))
  have hown : s.vm.findClass y.cls = some m.cls := findClass_of_methodNamed B9.named
  have hl := lv_entry av (n := maxL) hlen
  rw [lg_entry_eq]
  exact body p e s m av.toArray below meth c _ ⟨⟨B9.exec, B9.bytes, hml, hown, hts⟩, hT, hK, hJ, fun n h => Or.inl ⟨n, h, rfl⟩, fun q h => Or.inr h⟩ ⟨hP, va_S.rf⟩ hX hO hL (fun z => z.elim (fun ⟨n, h1, h2⟩ => hne n h1 h2.symm) (fun z => absurd (va_P_lt hO) (Nat.not_lt.mpr z))) htab ⟨B9.returns, B9.notSynchronized⟩ hl
theorem r_xVI {y : MethodName} {bytes : ByteArray} {maxL index d2 n : Nat} {ret : Option FieldType} {ws ws' : List Cond} {As : List Value} {E : String} {st0 : List Value} {C : vw_C} {ci : Nat} {fs : List Value} (C0 : CX p s m args c cc nL Ts own k M A) (h : HX k M A s I H locs) (hX : TX A s) (hls : ls.size = nL) (o : Nat) (ho : o < M) (he : ceX k o (I o) = .inr (ci, fs)) (hci : clX[ci]? = some C) (hM : TtI l y ws d2 (.ref (k.2.1 o) :: As) k M I E) (hG : GoodIn Ts (wsV own index C.1 y ws)) (hw : ws = Cond.code y bytes maxL ret :: ws') (hd : y.cls = C.1 ∧ y.cls ≠ "java/lang/invoke/MethodHandle" ∧ y.cls ≠ "java/lang/invoke/VarHandle" ∧ (parseMethodDescriptor y.desc).map (fun d => d.parameters.length) = some n)
    (hR : d2 + 1 ≤ R.frames ∧ 8 + (maxL + 11) + 64 * d2 ≤ R.locals) (hc9 : cells + 1 ≤ R.cells ∧ slots + 6 ≤ R.slots) (hrest : (rest.map fun v => v.category).sum ≤ 8) (hn : As.length = n) (hst : st0 = As.reverse ++ .ref (k.2.1 o) :: rest) (hdg : decode cc pc = .ok (.invokevirtual index, 3))
    (kk : ∀ (q9 : Addr) (ce : Cell) (H1 : Heap) (locs1 : List Loc), HX k M A s I H1 locs1 → H1[q9]? = some ce → ce.vm = .none → s.vm.findClass E = some ce.cls → vx_W p l e R s m args below meth c H1 locs1 (cells + 1) (slots + 6) Q (F0 m pc ls rest) q9) :
    W p l e R s m args below meth c H locs cells slots Q (F0 m pc ls st0) := by
  have hA := hx_free C0 h
  refine vx_calli (vx_runV (As := As) (rest := rest) C0.1 (hM H.size) (cwV n C0.1.2.2.2.2 hG hw rfl rfl hd hR) ⟨pcT_blind k M I H.size _, hx_recv C0 h ho he hci, fun U hU hW => ⟨rfl, by rw [hU], by rw [hU]; exact h.1, va_K.moved hW.alike C0.2.2.1, Tb.warm hW C0.2.1, hx_T C0 h hX hU hW⟩⟩ rfl hn hls hst (lv_room hrest) hdg hc9) h.2 (fun q _ hq => hA q hq) hA (fun q _ hq => hA q hq) (fun E9 ce q9 u t H1 locs1 ht hvm _ hb hz hkp hS hc1 hc2 hc3 => ?_) (fun r u t H1 locs1 _ _ hp => hp.elim)
  refine kk q9 ce H1 locs1 ⟨by rw [← ht]; exact hb.2, hS⟩ hc1 hc2 ?_
  rw [← hb.1]
  exact hc3
theorem r_xVD {y : MethodName} {bytes : ByteArray} {maxL index d2 n : Nat} {ret : Option FieldType} {ws ws' : List Cond} {As : List Value} {E : String} {st0 : List Value} {C : vw_C} {ci : Nat} {fs : List Value} (C0 : CX p s m args c cc nL Ts own k M A) (h : HX k M A s I H locs) (hX : TX A s) (hls : ls.size = nL) (o : Nat) (ho : o < M) (he : ceX k o (I o) = .inr (ci, fs)) (hci : clX[ci]? = some C) (hM : TtD l y ws d2 (.ref (k.2.1 o) :: As) k M I E) (hG : GoodIn Ts (wsV own index C.1 y ws)) (hw : ws = Cond.code y bytes maxL ret :: ws') (hd : y.cls = C.1 ∧ y.cls ≠ "java/lang/invoke/MethodHandle" ∧ y.cls ≠ "java/lang/invoke/VarHandle" ∧ (parseMethodDescriptor y.desc).map (fun d => d.parameters.length) = some n)
    (hR : d2 + 1 ≤ R.frames ∧ 8 + (maxL + 11) + 64 * d2 ≤ R.locals) (hc9 : cells + 1 ≤ R.cells ∧ slots + 6 ≤ R.slots) (hrest : (rest.map fun v => v.category).sum ≤ 8) (hn : As.length = n) (hst : st0 = As.reverse ++ .ref (k.2.1 o) :: rest) (hdg : decode cc pc = .ok (.invokevirtual index, 3))
    (kk : ∀ (q9 : Addr) (ce : Cell) (H1 : Heap) (locs1 : List Loc), HX k M A s I H1 locs1 → H1[q9]? = some ce → ce.vm = .none → s.vm.findClass E = some ce.cls → vx_W p l e R s m args below meth c H1 locs1 (cells + 1) (slots + 6) Q (F0 m pc ls rest) q9) :
    W p l e R s m args below meth c H locs cells slots Q (F0 m pc ls st0) := by
  have hA := hx_free C0 h
  refine vx_calld (vx_runV (As := As) (rest := rest) C0.1 (hM H.size) (cwV n C0.1.2.2.2.2 hG hw rfl rfl hd hR) ⟨pcT_blind k M I H.size _, hx_recv C0 h ho he hci, fun U hU hW => ⟨rfl, by rw [hU], by rw [hU]; exact h.1, va_K.moved hW.alike C0.2.2.1, Tb.warm hW C0.2.1, hx_T C0 h hX hU hW⟩⟩ rfl hn hls hst (lv_room hrest) hdg hc9) h.2 (fun q _ hq => hA q hq) hA (fun q _ hq => hA q hq) (fun E9 ce q9 u t H1 locs1 ht hvm _ hb hz hkp hS hc1 hc2 hc3 => ?_) (fun r u t H1 locs1 _ _ hp => hp.elim)
  refine kk q9 ce H1 locs1 ⟨by rw [← ht]; exact hb.2, hS⟩ hc1 hc2 ?_
  rw [← hb.1]
  exact hc3
/-- the answer into the row -/
theorem w_last {ob : Nat} {cL : ClassId} {f : Nat → Int64} {x : Int64} (C0 : CX p s m args c cc nL Ts own k 98 A) (h : HX k 98 A s I H locs) (hO : va_P k.1 clX (oL ob cL f) s.heap) (hL : va_K k.1 clX [(cL, .long)] s) (hn : ¬ A ob) (hdg : decode cc pc = .ok (.lastore, 1))
    (kk : ∀ (H1 : Heap) (locs1 : List Loc) (f1 : Nat → Int64), f1 0 = x → va_P k.1 clX (oL ob cL f1) H1 → va_S (fun q => A q ∨ q = ob) s.heap H1 locs1 → W p l e R s m args below meth c H1 locs1 cells slots Q (F0 m (pc + 1) ls rest)) : W p l e R s m args below meth c H locs cells slots Q (F0 m pc ls (.long x :: .int (nI 0) :: .ref ob :: rest)) := by
  have hS := h.2.wider (B := fun q => A q ∨ q = ob) (fun q z => Or.inl z)
  have hD : va_D (fun q => A q ∨ q = ob) (oL ob cL f) := ⟨fun i j p q hi hj _ => by
    have a1 := (List.getElem?_eq_some_iff.mp hi).1
    have a2 := (List.getElem?_eq_some_iff.mp hj).1
    simp at a1 a2
    omega, fun j q hj => by
    cases j with
    | zero => cases hj; exact Or.inr rfl
    | succ j => simp at hj⟩
  exact va_last C0.1.1 C0.1.2.1 hL (va_P_S1 hO h.2 hn) hD hS 0 0 rfl rfl (vp_in_nI (by omega) (by omega)) hdg (fun H1 locs1 hP _ hS => kk H1 locs1 _ (if_pos rfl) hP hS)
theorem w_dast {ob : Nat} {cL : ClassId} {f : Nat → UInt64} {x : UInt64} (C0 : CX p s m args c cc nL Ts own k 98 A) (h : HX k 98 A s I H locs) (hO : va_P k.1 clX (oD ob cL f) s.heap) (hL : va_K k.1 clX [(cL, .double)] s) (hn : ¬ A ob) (hdg : decode cc pc = .ok (.dastore, 1))
    (kk : ∀ (H1 : Heap) (locs1 : List Loc) (f1 : Nat → UInt64), f1 0 = x → va_P k.1 clX (oD ob cL f1) H1 → va_S (fun q => A q ∨ q = ob) s.heap H1 locs1 → W p l e R s m args below meth c H1 locs1 cells slots Q (F0 m (pc + 1) ls rest)) : W p l e R s m args below meth c H locs cells slots Q (F0 m pc ls (.double x :: .int (nI 0) :: .ref ob :: rest)) := by
  have hS := h.2.wider (B := fun q => A q ∨ q = ob) (fun q z => Or.inl z)
  have hD : va_D (fun q => A q ∨ q = ob) (oD ob cL f) := ⟨fun i j p q hi hj _ => by
    have a1 := (List.getElem?_eq_some_iff.mp hi).1
    have a2 := (List.getElem?_eq_some_iff.mp hj).1
    simp at a1 a2
    omega, fun j q hj => by
    cases j with
    | zero => cases hj; exact Or.inr rfl
    | succ j => simp at hj⟩
  exact va_dast C0.1.1 C0.1.2.1 hL (va_P_S1 hO h.2 hn) hD hS 0 0 rfl rfl (vp_in_nI (by omega) (by omega)) hdg (fun H1 locs1 hP _ hS => kk H1 locs1 _ (if_pos rfl) hP hS)
theorem w_iret {S : Type} {B : S → State → Prop} {A9 : Nat → Prop} {XC : String → State → State → Prop} {post : Int32 → S → Prop} {v : Int32} (u : S) (C0 : CX p s m args c cc nL Ts own k 98 A) (hS : va_S A9 s.heap H locs) (hB : ∀ t : State, t.heap = H → B u t) (hr : meth.sig.returnType = some .int ∧ meth.locks = false) (hc : cells ≤ 1 ∧ slots ≤ 6) (hdg : decode cc pc = .ok (.ireturn, 1)) (hp : post v u) : W p l e R s m args below meth c H locs cells slots (vx_MQ below (va_Qi post B A9) XC args s 1 6 A9) (F0 m pc ls [.int v]) := by
  refine W.widen hc.1 hc.2 (vx_ret ?_)
  exact W.iret C0.1.1 C0.1.2.1 hr.1 (fun t ht hW => ⟨⟨_, u, rfl, hp, hB t ht⟩, hS.F ht⟩) hS.2.2 hdg hr.2
end RW
theorem mom_no {a b : Bool} (h : ¬ (a = true ∧ b = true)) : a = false ∨ b = false := by
  cases a with
  | false => exact Or.inl rfl
  | true => cases b with
    | false => exact Or.inr rfl
    | true => exact absurd ⟨rfl, rfl⟩ h
set_option maxHeartbeats 4000000 in
set_option maxRecDepth 100000 in
theorem lw_letter (l : Launch) (hf : l.stackTraces = false) (k : Sk) (hJ : Ij k 98) (ob : Nat) (cL : ClassId) (f : Nat → Int64) (hne : ∀ n, n < 98 → k.2.1 n ≠ ob) (a0 a1 a2 a3 : Int32) (sz : Nat) : vx_Met l yL_letter wsL_letter (RmA 14 1 6) (PcW k ob cL .long (.inl (cL, 1, .inr (.inl f))) sz [.ref (k.2.1 0), .int a0, .int a1, .int a2, .int a3, .ref ob]) (va_Qi (fun (r : Int32) (x : Int64) => if isNm a0 = true ∧ isNm a1 = true ∧ isW a2 (nI 15) = true ∧ isW a3 (nI 30) = true then r = nI 0 ∧ x = (nI 0).toInt64 else r = nI 1) (BL k ob cL) (AO k ob sz)) (XW (AO k ob sz)) 1 6 (AO k ob sz) := by
  refine mtW_of (cc := cL_letter) (maxL := 7) (hh := [(0, 14, 17, 13), (0, 14, 21, 15)]) hJ hne (by decide) rfl (Nat.le_of_ble_eq_true rfl) ?_
  intro p e s m args below meth c ls C0 h hX hO hL hno htab hr hl
  have hx := C0.1.1
  have hb := C0.1.2.1
  have hown := C0.1.2.2.2.1
  have hts := C0.1.2.2.2.2
  have hl : lv_has ls 7 [(0, _), (1, _), (2, _), (3, _), (4, _), (5, _)] := hl
  by_cases hg : isNm a0 = true ∧ isNm a1 = true ∧ isW a2 (nI 15) = true ∧ isW a3 (nI 30) = true
  · refine lv_aload hx hb dL_letter_0 (lv_at hl 5 rfl) ?_
    refine lv_iconst (v := nI 0) hx hb dL_letter_2 (by decide) ?_
    refine lv_aload_n hx hb dL_letter_3 rfl (lv_at hl 0 rfl) ?_
    refine lv_iload_n hx hb dL_letter_4 rfl (lv_at hl 1 rfl) ?_
    refine lv_iload_n hx hb dL_letter_5 rfl (lv_at hl 2 rfl) ?_
    refine lv_iload_n hx hb dL_letter_6 rfl (lv_at hl 3 rfl) ?_
    refine lv_iload hx hb dL_letter_7 (lv_at hl 4 rfl) ?_
    refine r_cVI C0 h hl.1 _ (by omega) (ce0 k _) rfl (ct_X3_letter l k 98 _ hJ 0 rfl (by omega) _ _ _ _ hg.1 hg.2.1 hg.2.2.1 hg.2.2.2) gL_letter_X3_letter rfl (by decide +kernel) (n := 4) ⟨Nat.le_of_ble_eq_true rfl, Nat.le_of_ble_eq_true rfl⟩ ⟨Nat.zero_le _, Nat.zero_le _⟩ (Nat.le_of_ble_eq_true rfl) rfl rfl dL_letter_9 (fun rv I9 H locs hp h => ?_)
    obtain ⟨rfl, -⟩ := hp
    refine lv_i2l hx hb dL_letter_12 rfl ?_
    refine w_last C0 h hO hL hno dL_letter_13 (fun H locs f1 hf1 hO1 hS1 => ?_)
    refine lv_goto (tgt := 25) hx hb dL_letter_14 (by decide) ?_
    refine lv_iconst (v := nI 0) hx hb dL_letter_25 (by decide) ?_
    exact w_iret (f1 0) C0 hS1 (fun t ht => ⟨f1, rfl, by rw [ht]; exact hO1⟩) hr ⟨Nat.le_of_ble_eq_true rfl, Nat.le_of_ble_eq_true rfl⟩ dL_letter_26 (by rw [if_pos hg]; exact ⟨rfl, hf1⟩)
  · refine lv_aload hx hb dL_letter_0 (lv_at hl 5 rfl) ?_
    refine lv_iconst (v := nI 0) hx hb dL_letter_2 (by decide) ?_
    refine lv_aload_n hx hb dL_letter_3 rfl (lv_at hl 0 rfl) ?_
    refine lv_iload_n hx hb dL_letter_4 rfl (lv_at hl 1 rfl) ?_
    refine lv_iload_n hx hb dL_letter_5 rfl (lv_at hl 2 rfl) ?_
    refine lv_iload_n hx hb dL_letter_6 rfl (lv_at hl 3 rfl) ?_
    refine lv_iload hx hb dL_letter_7 (lv_at hl 4 rfl) ?_
    refine r_xVI C0 h hX hl.1 _ (by omega) (ce0 k _) rfl (th_X3_letter_arg l hf k 98 _ hJ _ _ _ _ hg) gL_letter_X3_letter rfl (by decide +kernel) (n := 4) ⟨Nat.le_of_ble_eq_true rfl, Nat.le_of_ble_eq_true rfl⟩ ⟨Nat.le_of_ble_eq_true rfl, Nat.le_of_ble_eq_true rfl⟩ (Nat.le_of_ble_eq_true rfl) rfl rfl dL_letter_9 (fun q9 ce9 H locs h hc1 hc2 hc3 => ?_)
    refine vx_catch (own := RL) (name := sIA) hown [] ⟨0, 14, 17, 13⟩ (tableOf ([(0, 14, 17, 13), (0, 14, 21, 15)].drop 1)) (htab.trans rfl) (fun z hz => absurd hz List.not_mem_nil) (by decide) (by decide) (hts (.classLink RL 13 sIA) (by decide +kernel)) (va_Nw.use rfl (hX.1.2.2.2 (208, 212, sIA) (by decide))) hc1 hc2 hc3 ?_
    refine lv_astore hx hb dL_letter_17 hl (by decide) rfl (fun ls hl => ?_)
    refine lv_iconst (v := nI 1) hx hb dL_letter_19 (by decide) ?_
    exact w_iret (f 0) C0 (h.2.wider (fun q z => Or.inl z)) (fun t ht => ⟨f, rfl, by rw [ht]; exact va_P_S1 hO h.2 hno⟩) hr ⟨Nat.le_of_ble_eq_true rfl, Nat.le_of_ble_eq_true rfl⟩ dL_letter_20 (by rw [if_neg hg])
set_option maxHeartbeats 4000000 in
set_option maxRecDepth 100000 in
theorem lw_times (l : Launch) (hf : l.stackTraces = false) (k : Sk) (hJ : Ij k 98) (ob : Nat) (cL : ClassId) (f : Nat → Int64) (hne : ∀ n, n < 98 → k.2.1 n ≠ ob) (a0 a1 a2 : Int32) (sz : Nat) : vx_Met l yL_times wsL_times (RmA 14 1 6) (PcW k ob cL .long (.inl (cL, 1, .inr (.inl f))) sz [.ref (k.2.1 0), .int a0, .int a1, .int a2, .ref ob]) (va_Qi (fun (r : Int32) (_ : Int64) => r = nI 1) (BL k ob cL) (AO k ob sz)) (XW (AO k ob sz)) 1 6 (AO k ob sz) := by
  refine mtW_of (cc := cL_times) (maxL := 6) (hh := [(0, 12, 15, 21), (0, 12, 19, 13)]) hJ hne (by decide) rfl (Nat.le_of_ble_eq_true rfl) ?_
  intro p e s m args below meth c ls C0 h hX hO hL hno htab hr hl
  have hx := C0.1.1
  have hb := C0.1.2.1
  have hown := C0.1.2.2.2.1
  have hts := C0.1.2.2.2.2
  have hl : lv_has ls 6 [(0, _), (1, _), (2, _), (3, _), (4, _)] := hl
  refine lv_aload hx hb dL_times_0 (lv_at hl 4 rfl) ?_
  refine lv_iconst (v := nI 0) hx hb dL_times_2 (by decide) ?_
  refine lv_aload_n hx hb dL_times_3 rfl (lv_at hl 0 rfl) ?_
  refine lv_iload_n hx hb dL_times_4 rfl (lv_at hl 1 rfl) ?_
  refine lv_iload_n hx hb dL_times_5 rfl (lv_at hl 2 rfl) ?_
  refine lv_iload_n hx hb dL_times_6 rfl (lv_at hl 3 rfl) ?_
  refine r_xVI C0 h hX hl.1 _ (by omega) (ce0 k _) rfl (th_X3_times_no l hf k 98 _ hJ 0 rfl _ (isLt_0 _) _ _) gL_times_X3_times rfl (by decide +kernel) (n := 3) ⟨Nat.le_of_ble_eq_true rfl, Nat.le_of_ble_eq_true rfl⟩ ⟨Nat.le_of_ble_eq_true rfl, Nat.le_of_ble_eq_true rfl⟩ (Nat.le_of_ble_eq_true rfl) rfl rfl dL_times_7 (fun q9 ce9 H locs h hc1 hc2 hc3 => ?_)
  refine vx_catch (own := RL) (name := sIO) hown [] ⟨0, 12, 15, 21⟩ (tableOf ([(0, 12, 15, 21), (0, 12, 19, 13)].drop 1)) (htab.trans rfl) (fun z hz => absurd hz List.not_mem_nil) (by decide) (by decide) (hts (.classLink RL 21 sIO) (by decide +kernel)) (va_Nw.use rfl (hX.1.2.2.2 (216, 220, sIO) (by decide))) hc1 hc2 hc3 ?_
  refine lv_astore hx hb dL_times_15 hl (by decide) rfl (fun ls hl => ?_)
  refine lv_iconst (v := nI 1) hx hb dL_times_17 (by decide) ?_
  exact w_iret (f 0) C0 (h.2.wider (fun q z => Or.inl z)) (fun t ht => ⟨f, rfl, by rw [ht]; exact va_P_S1 hO h.2 hno⟩) hr ⟨Nat.le_of_ble_eq_true rfl, Nat.le_of_ble_eq_true rfl⟩ dL_times_18 rfl
set_option maxHeartbeats 4000000 in
set_option maxRecDepth 100000 in
theorem lw_master (l : Launch) (hf : l.stackTraces = false) (k : Sk) (hJ : Ij k 98) (ob : Nat) (cL : ClassId) (f : Nat → Int64) (hne : ∀ n, n < 98 → k.2.1 n ≠ ob) (a0 a1 a2 : Int32) (sz : Nat) : vx_Met l yL_master wsL_master (RmA 14 1 6) (PcW k ob cL .long (.inl (cL, 1, .inr (.inl f))) sz [.ref (k.2.1 0), .int a0, .int a1, .int a2, .ref ob]) (va_Qi (fun (r : Int32) (_ : Int64) => r = nI 1) (BL k ob cL) (AO k ob sz)) (XW (AO k ob sz)) 1 6 (AO k ob sz) := by
  refine mtW_of (cc := cL_master) (maxL := 6) (hh := [(0, 12, 15, 21), (0, 12, 19, 13)]) hJ hne (by decide) rfl (Nat.le_of_ble_eq_true rfl) ?_
  intro p e s m args below meth c ls C0 h hX hO hL hno htab hr hl
  have hx := C0.1.1
  have hb := C0.1.2.1
  have hown := C0.1.2.2.2.1
  have hts := C0.1.2.2.2.2
  have hl : lv_has ls 6 [(0, _), (1, _), (2, _), (3, _), (4, _)] := hl
  refine lv_aload hx hb dL_master_0 (lv_at hl 4 rfl) ?_
  refine lv_iconst (v := nI 0) hx hb dL_master_2 (by decide) ?_
  refine lv_aload_n hx hb dL_master_3 rfl (lv_at hl 0 rfl) ?_
  refine lv_iload_n hx hb dL_master_4 rfl (lv_at hl 1 rfl) ?_
  refine lv_iload_n hx hb dL_master_5 rfl (lv_at hl 2 rfl) ?_
  refine lv_iload_n hx hb dL_master_6 rfl (lv_at hl 3 rfl) ?_
  refine r_xVI C0 h hX hl.1 _ (by omega) (ce0 k _) rfl (th_X3_master_no l hf k 98 _ hJ 0 rfl _ (isLt_0 _) _ _) gL_master_X3_master rfl (by decide +kernel) (n := 3) ⟨Nat.le_of_ble_eq_true rfl, Nat.le_of_ble_eq_true rfl⟩ ⟨Nat.le_of_ble_eq_true rfl, Nat.le_of_ble_eq_true rfl⟩ (Nat.le_of_ble_eq_true rfl) rfl rfl dL_master_7 (fun q9 ce9 H locs h hc1 hc2 hc3 => ?_)
  refine vx_catch (own := RL) (name := sIO) hown [] ⟨0, 12, 15, 21⟩ (tableOf ([(0, 12, 15, 21), (0, 12, 19, 13)].drop 1)) (htab.trans rfl) (fun z hz => absurd hz List.not_mem_nil) (by decide) (by decide) (hts (.classLink RL 21 sIO) (by decide +kernel)) (va_Nw.use rfl (hX.1.2.2.2 (216, 220, sIO) (by decide))) hc1 hc2 hc3 ?_
  refine lv_astore hx hb dL_master_15 hl (by decide) rfl (fun ls hl => ?_)
  refine lv_iconst (v := nI 1) hx hb dL_master_17 (by decide) ?_
  exact w_iret (f 0) C0 (h.2.wider (fun q z => Or.inl z)) (fun t ht => ⟨f, rfl, by rw [ht]; exact va_P_S1 hO h.2 hno⟩) hr ⟨Nat.le_of_ble_eq_true rfl, Nat.le_of_ble_eq_true rfl⟩ dL_master_18 rfl
set_option maxHeartbeats 4000000 in
set_option maxRecDepth 100000 in
theorem lw_good (l : Launch) (hf : l.stackTraces = false) (k : Sk) (hJ : Ij k 98) (ob : Nat) (cL : ClassId) (f : Nat → Int64) (hne : ∀ n, n < 98 → k.2.1 n ≠ ob) (a0 a1 a2 : Int32) (sz : Nat) : vx_Met l yL_good wsL_good (RmA 14 1 6) (PcW k ob cL .long (.inl (cL, 1, .inr (.inl f))) sz [.ref (k.2.1 0), .int a0, .int a1, .int a2, .ref ob]) (va_Qi (fun (r : Int32) (_ : Int64) => r = nI 1) (BL k ob cL) (AO k ob sz)) (XW (AO k ob sz)) 1 6 (AO k ob sz) := by
  refine mtW_of (cc := cL_good) (maxL := 6) (hh := [(0, 12, 15, 21), (0, 12, 19, 13)]) hJ hne (by decide) rfl (Nat.le_of_ble_eq_true rfl) ?_
  intro p e s m args below meth c ls C0 h hX hO hL hno htab hr hl
  have hx := C0.1.1
  have hb := C0.1.2.1
  have hown := C0.1.2.2.2.1
  have hts := C0.1.2.2.2.2
  have hl : lv_has ls 6 [(0, _), (1, _), (2, _), (3, _), (4, _)] := hl
  refine lv_aload hx hb dL_good_0 (lv_at hl 4 rfl) ?_
  refine lv_iconst (v := nI 0) hx hb dL_good_2 (by decide) ?_
  refine lv_aload_n hx hb dL_good_3 rfl (lv_at hl 0 rfl) ?_
  refine lv_iload_n hx hb dL_good_4 rfl (lv_at hl 1 rfl) ?_
  refine lv_iload_n hx hb dL_good_5 rfl (lv_at hl 2 rfl) ?_
  refine lv_iload_n hx hb dL_good_6 rfl (lv_at hl 3 rfl) ?_
  refine r_xVI C0 h hX hl.1 _ (by omega) (ce0 k _) rfl (th_X3_good_no l hf k 98 _ hJ 0 rfl _ (isLt_0 _) _ _) gL_good_X3_good rfl (by decide +kernel) (n := 3) ⟨Nat.le_of_ble_eq_true rfl, Nat.le_of_ble_eq_true rfl⟩ ⟨Nat.le_of_ble_eq_true rfl, Nat.le_of_ble_eq_true rfl⟩ (Nat.le_of_ble_eq_true rfl) rfl rfl dL_good_7 (fun q9 ce9 H locs h hc1 hc2 hc3 => ?_)
  refine vx_catch (own := RL) (name := sIO) hown [] ⟨0, 12, 15, 21⟩ (tableOf ([(0, 12, 15, 21), (0, 12, 19, 13)].drop 1)) (htab.trans rfl) (fun z hz => absurd hz List.not_mem_nil) (by decide) (by decide) (hts (.classLink RL 21 sIO) (by decide +kernel)) (va_Nw.use rfl (hX.1.2.2.2 (216, 220, sIO) (by decide))) hc1 hc2 hc3 ?_
  refine lv_astore hx hb dL_good_15 hl (by decide) rfl (fun ls hl => ?_)
  refine lv_iconst (v := nI 1) hx hb dL_good_17 (by decide) ?_
  exact w_iret (f 0) C0 (h.2.wider (fun q z => Or.inl z)) (fun t ht => ⟨f, rfl, by rw [ht]; exact va_P_S1 hO h.2 hno⟩) hr ⟨Nat.le_of_ble_eq_true rfl, Nat.le_of_ble_eq_true rfl⟩ dL_good_18 rfl
set_option maxHeartbeats 4000000 in
set_option maxRecDepth 100000 in
theorem lw_sign (l : Launch) (hf : l.stackTraces = false) (k : Sk) (hJ : Ij k 98) (ob : Nat) (cL : ClassId) (f : Nat → Int64) (hne : ∀ n, n < 98 → k.2.1 n ≠ ob) (a0 a1 : Int32) (sz : Nat) : vx_Met l yL_sign wsL_sign (RmA 14 1 6) (PcW k ob cL .long (.inl (cL, 1, .inr (.inl f))) sz [.ref (k.2.1 0), .int a0, .int a1, .ref ob]) (va_Qi (fun (r : Int32) (_ : Int64) => r = nI 1) (BL k ob cL) (AO k ob sz)) (XW (AO k ob sz)) 1 6 (AO k ob sz) := by
  refine mtW_of (cc := cL_sign) (maxL := 5) (hh := [(0, 10, 13, 21), (0, 10, 17, 13)]) hJ hne (by decide) rfl (Nat.le_of_ble_eq_true rfl) ?_
  intro p e s m args below meth c ls C0 h hX hO hL hno htab hr hl
  have hx := C0.1.1
  have hb := C0.1.2.1
  have hown := C0.1.2.2.2.1
  have hts := C0.1.2.2.2.2
  have hl : lv_has ls 5 [(0, _), (1, _), (2, _), (3, _)] := hl
  refine lv_aload_n hx hb dL_sign_0 rfl (lv_at hl 3 rfl) ?_
  refine lv_iconst (v := nI 0) hx hb dL_sign_1 (by decide) ?_
  refine lv_aload_n hx hb dL_sign_2 rfl (lv_at hl 0 rfl) ?_
  refine lv_iload_n hx hb dL_sign_3 rfl (lv_at hl 1 rfl) ?_
  refine lv_iload_n hx hb dL_sign_4 rfl (lv_at hl 2 rfl) ?_
  refine r_xVI C0 h hX hl.1 _ (by omega) (ce0 k _) rfl (th_X3_sign_no l hf k 98 _ hJ 0 rfl _ (isLt_0 _) _) gL_sign_X3_sign rfl (by decide +kernel) (n := 2) ⟨Nat.le_of_ble_eq_true rfl, Nat.le_of_ble_eq_true rfl⟩ ⟨Nat.le_of_ble_eq_true rfl, Nat.le_of_ble_eq_true rfl⟩ (Nat.le_of_ble_eq_true rfl) rfl rfl dL_sign_5 (fun q9 ce9 H locs h hc1 hc2 hc3 => ?_)
  refine vx_catch (own := RL) (name := sIO) hown [] ⟨0, 10, 13, 21⟩ (tableOf ([(0, 10, 13, 21), (0, 10, 17, 13)].drop 1)) (htab.trans rfl) (fun z hz => absurd hz List.not_mem_nil) (by decide) (by decide) (hts (.classLink RL 21 sIO) (by decide +kernel)) (va_Nw.use rfl (hX.1.2.2.2 (216, 220, sIO) (by decide))) hc1 hc2 hc3 ?_
  refine lv_astore hx hb dL_sign_13 hl (by decide) rfl (fun ls hl => ?_)
  refine lv_iconst (v := nI 1) hx hb dL_sign_15 (by decide) ?_
  exact w_iret (f 0) C0 (h.2.wider (fun q z => Or.inl z)) (fun t ht => ⟨f, rfl, by rw [ht]; exact va_P_S1 hO h.2 hno⟩) hr ⟨Nat.le_of_ble_eq_true rfl, Nat.le_of_ble_eq_true rfl⟩ dL_sign_16 rfl
set_option maxHeartbeats 4000000 in
set_option maxRecDepth 100000 in
theorem lw_anchor (l : Launch) (hf : l.stackTraces = false) (k : Sk) (hJ : Ij k 98) (ob : Nat) (cL : ClassId) (f : Nat → Int64) (hne : ∀ n, n < 98 → k.2.1 n ≠ ob) (a0 a1 : Int32) (sz : Nat) : vx_Met l yL_anchor wsL_anchor (RmA 14 1 6) (PcW k ob cL .long (.inl (cL, 1, .inr (.inl f))) sz [.ref (k.2.1 0), .int a0, .int a1, .ref ob]) (va_Qi (fun (r : Int32) (_ : Int64) => r = nI 1) (BL k ob cL) (AO k ob sz)) (XW (AO k ob sz)) 1 6 (AO k ob sz) := by
  refine mtW_of (cc := cL_anchor) (maxL := 5) (hh := [(0, 10, 13, 21)]) hJ hne (by decide) rfl (Nat.le_of_ble_eq_true rfl) ?_
  intro p e s m args below meth c ls C0 h hX hO hL hno htab hr hl
  have hx := C0.1.1
  have hb := C0.1.2.1
  have hown := C0.1.2.2.2.1
  have hts := C0.1.2.2.2.2
  have hl : lv_has ls 5 [(0, _), (1, _), (2, _), (3, _)] := hl
  refine lv_aload_n hx hb dL_anchor_0 rfl (lv_at hl 3 rfl) ?_
  refine lv_iconst (v := nI 0) hx hb dL_anchor_1 (by decide) ?_
  refine lv_aload_n hx hb dL_anchor_2 rfl (lv_at hl 0 rfl) ?_
  refine lv_iload_n hx hb dL_anchor_3 rfl (lv_at hl 1 rfl) ?_
  refine lv_iload_n hx hb dL_anchor_4 rfl (lv_at hl 2 rfl) ?_
  refine r_xVI C0 h hX hl.1 _ (by omega) (ce0 k _) rfl (th_X3_anchor_no l hf k 98 _ hJ 0 rfl _ (isLt_0 _) _) gL_anchor_X3_anchor rfl (by decide +kernel) (n := 2) ⟨Nat.le_of_ble_eq_true rfl, Nat.le_of_ble_eq_true rfl⟩ ⟨Nat.le_of_ble_eq_true rfl, Nat.le_of_ble_eq_true rfl⟩ (Nat.le_of_ble_eq_true rfl) rfl rfl dL_anchor_5 (fun q9 ce9 H locs h hc1 hc2 hc3 => ?_)
  refine vx_catch (own := RL) (name := sIO) hown [] ⟨0, 10, 13, 21⟩ (tableOf ([(0, 10, 13, 21)].drop 1)) (htab.trans rfl) (fun z hz => absurd hz List.not_mem_nil) (by decide) (by decide) (hts (.classLink RL 21 sIO) (by decide +kernel)) (va_Nw.use rfl (hX.1.2.2.2 (216, 220, sIO) (by decide))) hc1 hc2 hc3 ?_
  refine lv_astore hx hb dL_anchor_13 hl (by decide) rfl (fun ls hl => ?_)
  refine lv_iconst (v := nI 1) hx hb dL_anchor_15 (by decide) ?_
  exact w_iret (f 0) C0 (h.2.wider (fun q z => Or.inl z)) (fun t ht => ⟨f, rfl, by rw [ht]; exact va_P_S1 hO h.2 hno⟩) hr ⟨Nat.le_of_ble_eq_true rfl, Nat.le_of_ble_eq_true rfl⟩ dL_anchor_16 rfl
set_option maxHeartbeats 4000000 in
set_option maxRecDepth 100000 in
theorem lw_list (l : Launch) (hf : l.stackTraces = false) (k : Sk) (hJ : Ij k 98) (ob : Nat) (cL : ClassId) (f : Nat → Int64) (hne : ∀ n, n < 98 → k.2.1 n ≠ ob) (a0 a1 a2 : Int32) (sz : Nat) : vx_Met l yL_list wsL_list (RmA 14 1 6) (PcW k ob cL .long (.inl (cL, 1, .inr (.inl f))) sz [.ref (k.2.1 0), .int a0, .int a1, .int a2, .ref ob]) (va_Qi (fun (r : Int32) (x : Int64) => if isNm a0 = true ∧ isW a1 (nI 999) = true ∧ isW a2 (nI 999) = true ∧ a1 ≤ a2 then r = nI 0 ∧ x = (nI 0).toInt64 else r = nI 1) (BL k ob cL) (AO k ob sz)) (XW (AO k ob sz)) 1 6 (AO k ob sz) := by
  refine mtW_of (cc := cL_list) (maxL := 6) (hh := [(0, 12, 15, 13), (0, 12, 19, 15)]) hJ hne (by decide) rfl (Nat.le_of_ble_eq_true rfl) ?_
  intro p e s m args below meth c ls C0 h hX hO hL hno htab hr hl
  have hx := C0.1.1
  have hb := C0.1.2.1
  have hown := C0.1.2.2.2.1
  have hts := C0.1.2.2.2.2
  have hl : lv_has ls 6 [(0, _), (1, _), (2, _), (3, _), (4, _)] := hl
  by_cases hg : isNm a0 = true ∧ isW a1 (nI 999) = true ∧ isW a2 (nI 999) = true ∧ a1 ≤ a2
  · refine lv_aload hx hb dL_list_0 (lv_at hl 4 rfl) ?_
    refine lv_iconst (v := nI 0) hx hb dL_list_2 (by decide) ?_
    refine lv_aload_n hx hb dL_list_3 rfl (lv_at hl 0 rfl) ?_
    refine lv_iload_n hx hb dL_list_4 rfl (lv_at hl 1 rfl) ?_
    refine lv_iload_n hx hb dL_list_5 rfl (lv_at hl 2 rfl) ?_
    refine lv_iload_n hx hb dL_list_6 rfl (lv_at hl 3 rfl) ?_
    refine r_cVI C0 h hl.1 _ (by omega) (ce0 k _) rfl (ct_X3_list l k 98 _ hJ 0 rfl (by omega) _ _ _ hg.1 hg.2.1 hg.2.2.1 hg.2.2.2) gL_list_X3_list rfl (by decide +kernel) (n := 3) ⟨Nat.le_of_ble_eq_true rfl, Nat.le_of_ble_eq_true rfl⟩ ⟨Nat.zero_le _, Nat.zero_le _⟩ (Nat.le_of_ble_eq_true rfl) rfl rfl dL_list_7 (fun rv I9 H locs hp h => ?_)
    obtain ⟨rfl, -⟩ := hp
    refine lv_i2l hx hb dL_list_10 rfl ?_
    refine w_last C0 h hO hL hno dL_list_11 (fun H locs f1 hf1 hO1 hS1 => ?_)
    refine lv_goto (tgt := 23) hx hb dL_list_12 (by decide) ?_
    refine lv_iconst (v := nI 0) hx hb dL_list_23 (by decide) ?_
    exact w_iret (f1 0) C0 hS1 (fun t ht => ⟨f1, rfl, by rw [ht]; exact hO1⟩) hr ⟨Nat.le_of_ble_eq_true rfl, Nat.le_of_ble_eq_true rfl⟩ dL_list_24 (by rw [if_pos hg]; exact ⟨rfl, hf1⟩)
  · refine lv_aload hx hb dL_list_0 (lv_at hl 4 rfl) ?_
    refine lv_iconst (v := nI 0) hx hb dL_list_2 (by decide) ?_
    refine lv_aload_n hx hb dL_list_3 rfl (lv_at hl 0 rfl) ?_
    refine lv_iload_n hx hb dL_list_4 rfl (lv_at hl 1 rfl) ?_
    refine lv_iload_n hx hb dL_list_5 rfl (lv_at hl 2 rfl) ?_
    refine lv_iload_n hx hb dL_list_6 rfl (lv_at hl 3 rfl) ?_
    refine r_xVI C0 h hX hl.1 _ (by omega) (ce0 k _) rfl (th_X3_list_arg l hf k 98 _ hJ _ _ _ hg) gL_list_X3_list rfl (by decide +kernel) (n := 3) ⟨Nat.le_of_ble_eq_true rfl, Nat.le_of_ble_eq_true rfl⟩ ⟨Nat.le_of_ble_eq_true rfl, Nat.le_of_ble_eq_true rfl⟩ (Nat.le_of_ble_eq_true rfl) rfl rfl dL_list_7 (fun q9 ce9 H locs h hc1 hc2 hc3 => ?_)
    refine vx_catch (own := RL) (name := sIA) hown [] ⟨0, 12, 15, 13⟩ (tableOf ([(0, 12, 15, 13), (0, 12, 19, 15)].drop 1)) (htab.trans rfl) (fun z hz => absurd hz List.not_mem_nil) (by decide) (by decide) (hts (.classLink RL 13 sIA) (by decide +kernel)) (va_Nw.use rfl (hX.1.2.2.2 (208, 212, sIA) (by decide))) hc1 hc2 hc3 ?_
    refine lv_astore hx hb dL_list_15 hl (by decide) rfl (fun ls hl => ?_)
    refine lv_iconst (v := nI 1) hx hb dL_list_17 (by decide) ?_
    exact w_iret (f 0) C0 (h.2.wider (fun q z => Or.inl z)) (fun t ht => ⟨f, rfl, by rw [ht]; exact va_P_S1 hO h.2 hno⟩) hr ⟨Nat.le_of_ble_eq_true rfl, Nat.le_of_ble_eq_true rfl⟩ dL_list_18 (by rw [if_neg hg])
set_option maxHeartbeats 4000000 in
set_option maxRecDepth 100000 in
theorem lw_call (l : Launch) (hf : l.stackTraces = false) (k : Sk) (hJ : Ij k 98) (ob : Nat) (cL : ClassId) (f : Nat → Int64) (hne : ∀ n, n < 98 → k.2.1 n ≠ ob) (a0 a1 : Int32) (sz : Nat) : vx_Met l yL_call wsL_call (RmA 14 1 6) (PcW k ob cL .long (.inl (cL, 1, .inr (.inl f))) sz [.ref (k.2.1 0), .int a0, .int a1, .ref ob]) (va_Qi (fun (r : Int32) (_ : Int64) => r = nI 1) (BL k ob cL) (AO k ob sz)) (XW (AO k ob sz)) 1 6 (AO k ob sz) := by
  refine mtW_of (cc := cL_call) (maxL := 5) (hh := [(0, 10, 13, 21), (0, 10, 17, 13)]) hJ hne (by decide) rfl (Nat.le_of_ble_eq_true rfl) ?_
  intro p e s m args below meth c ls C0 h hX hO hL hno htab hr hl
  have hx := C0.1.1
  have hb := C0.1.2.1
  have hown := C0.1.2.2.2.1
  have hts := C0.1.2.2.2.2
  have hl : lv_has ls 5 [(0, _), (1, _), (2, _), (3, _)] := hl
  refine lv_aload_n hx hb dL_call_0 rfl (lv_at hl 3 rfl) ?_
  refine lv_iconst (v := nI 0) hx hb dL_call_1 (by decide) ?_
  refine lv_aload_n hx hb dL_call_2 rfl (lv_at hl 0 rfl) ?_
  refine lv_iload_n hx hb dL_call_3 rfl (lv_at hl 1 rfl) ?_
  refine lv_iload_n hx hb dL_call_4 rfl (lv_at hl 2 rfl) ?_
  refine r_xVI C0 h hX hl.1 _ (by omega) (ce0 k _) rfl (th_X3_call_no l hf k 98 _ hJ _ (isLs_0 _) _) gL_call_X3_call rfl (by decide +kernel) (n := 2) ⟨Nat.le_of_ble_eq_true rfl, Nat.le_of_ble_eq_true rfl⟩ ⟨Nat.le_of_ble_eq_true rfl, Nat.le_of_ble_eq_true rfl⟩ (Nat.le_of_ble_eq_true rfl) rfl rfl dL_call_5 (fun q9 ce9 H locs h hc1 hc2 hc3 => ?_)
  refine vx_catch (own := RL) (name := sIO) hown [] ⟨0, 10, 13, 21⟩ (tableOf ([(0, 10, 13, 21), (0, 10, 17, 13)].drop 1)) (htab.trans rfl) (fun z hz => absurd hz List.not_mem_nil) (by decide) (by decide) (hts (.classLink RL 21 sIO) (by decide +kernel)) (va_Nw.use rfl (hX.1.2.2.2 (216, 220, sIO) (by decide))) hc1 hc2 hc3 ?_
  refine lv_astore hx hb dL_call_13 hl (by decide) rfl (fun ls hl => ?_)
  refine lv_iconst (v := nI 1) hx hb dL_call_15 (by decide) ?_
  exact w_iret (f 0) C0 (h.2.wider (fun q z => Or.inl z)) (fun t ht => ⟨f, rfl, by rw [ht]; exact va_P_S1 hO h.2 hno⟩) hr ⟨Nat.le_of_ble_eq_true rfl, Nat.le_of_ble_eq_true rfl⟩ dL_call_16 rfl
set_option maxHeartbeats 4000000 in
set_option maxRecDepth 100000 in
theorem lw_signList (l : Launch) (hf : l.stackTraces = false) (k : Sk) (hJ : Ij k 98) (ob : Nat) (cL : ClassId) (f : Nat → Int64) (hne : ∀ n, n < 98 → k.2.1 n ≠ ob) (a0 a1 : Int32) (sz : Nat) : vx_Met l yL_signList wsL_signList (RmA 14 1 6) (PcW k ob cL .long (.inl (cL, 1, .inr (.inl f))) sz [.ref (k.2.1 0), .int a0, .int a1, .ref ob]) (va_Qi (fun (r : Int32) (_ : Int64) => r = nI 1) (BL k ob cL) (AO k ob sz)) (XW (AO k ob sz)) 1 6 (AO k ob sz) := by
  refine mtW_of (cc := cL_signList) (maxL := 5) (hh := [(0, 10, 13, 21), (0, 10, 17, 13)]) hJ hne (by decide) rfl (Nat.le_of_ble_eq_true rfl) ?_
  intro p e s m args below meth c ls C0 h hX hO hL hno htab hr hl
  have hx := C0.1.1
  have hb := C0.1.2.1
  have hown := C0.1.2.2.2.1
  have hts := C0.1.2.2.2.2
  have hl : lv_has ls 5 [(0, _), (1, _), (2, _), (3, _)] := hl
  refine lv_aload_n hx hb dL_signList_0 rfl (lv_at hl 3 rfl) ?_
  refine lv_iconst (v := nI 0) hx hb dL_signList_1 (by decide) ?_
  refine lv_aload_n hx hb dL_signList_2 rfl (lv_at hl 0 rfl) ?_
  refine lv_iload_n hx hb dL_signList_3 rfl (lv_at hl 1 rfl) ?_
  refine lv_iload_n hx hb dL_signList_4 rfl (lv_at hl 2 rfl) ?_
  refine r_xVI C0 h hX hl.1 _ (by omega) (ce0 k _) rfl (th_X3_signList_no l hf k 98 _ hJ _ (isLs_0 _) _) gL_signList_X3_signList rfl (by decide +kernel) (n := 2) ⟨Nat.le_of_ble_eq_true rfl, Nat.le_of_ble_eq_true rfl⟩ ⟨Nat.le_of_ble_eq_true rfl, Nat.le_of_ble_eq_true rfl⟩ (Nat.le_of_ble_eq_true rfl) rfl rfl dL_signList_5 (fun q9 ce9 H locs h hc1 hc2 hc3 => ?_)
  refine vx_catch (own := RL) (name := sIO) hown [] ⟨0, 10, 13, 21⟩ (tableOf ([(0, 10, 13, 21), (0, 10, 17, 13)].drop 1)) (htab.trans rfl) (fun z hz => absurd hz List.not_mem_nil) (by decide) (by decide) (hts (.classLink RL 21 sIO) (by decide +kernel)) (va_Nw.use rfl (hX.1.2.2.2 (216, 220, sIO) (by decide))) hc1 hc2 hc3 ?_
  refine lv_astore hx hb dL_signList_13 hl (by decide) rfl (fun ls hl => ?_)
  refine lv_iconst (v := nI 1) hx hb dL_signList_15 (by decide) ?_
  exact w_iret (f 0) C0 (h.2.wider (fun q z => Or.inl z)) (fun t ht => ⟨f, rfl, by rw [ht]; exact va_P_S1 hO h.2 hno⟩) hr ⟨Nat.le_of_ble_eq_true rfl, Nat.le_of_ble_eq_true rfl⟩ dL_signList_16 rfl
set_option maxHeartbeats 4000000 in
set_option maxRecDepth 100000 in
theorem lw_many (l : Launch) (hf : l.stackTraces = false) (k : Sk) (hJ : Ij k 98) (ob : Nat) (cL : ClassId) (f : Nat → Int64) (hne : ∀ n, n < 98 → k.2.1 n ≠ ob) (a0 : Int32) (sz : Nat) : vx_Met l yL_many wsL_many (RmA 14 1 6) (PcW k ob cL .long (.inl (cL, 1, .inr (.inl f))) sz [.ref (k.2.1 0), .int a0, .ref ob]) (va_Qi (fun (r : Int32) (x : Int64) => if isW a0 (nI 3) = true then r = nI 0 ∧ x = (nI 0).toInt64 else r = nI 1) (BL k ob cL) (AO k ob sz)) (XW (AO k ob sz)) 1 6 (AO k ob sz) := by
  refine mtW_of (cc := cL_many) (maxL := 4) (hh := [(0, 9, 12, 13)]) hJ hne (by decide) rfl (Nat.le_of_ble_eq_true rfl) ?_
  intro p e s m args below meth c ls C0 h hX hO hL hno htab hr hl
  have hx := C0.1.1
  have hb := C0.1.2.1
  have hown := C0.1.2.2.2.1
  have hts := C0.1.2.2.2.2
  have hl : lv_has ls 4 [(0, _), (1, _), (2, _)] := hl
  by_cases hg : isW a0 (nI 3) = true
  · obtain ⟨j, hj, rfl⟩ := isW_at (n := 3) (by decide) hg
    refine lv_aload_n hx hb dL_many_0 rfl (lv_at hl 2 rfl) ?_
    refine lv_iconst (v := nI 0) hx hb dL_many_1 (by decide) ?_
    refine lv_aload_n hx hb dL_many_2 rfl (lv_at hl 0 rfl) ?_
    refine lv_iload_n hx hb dL_many_3 rfl (lv_at hl 1 rfl) ?_
    refine r_cVI C0 h hl.1 _ (by omega) (ce0 k _) rfl (ct_X3_many l k 98 _ hJ 0 (by omega) rfl 0 (by omega) rfl j hj) gL_many_X3_many rfl (by decide +kernel) (n := 1) ⟨Nat.le_of_ble_eq_true rfl, Nat.le_of_ble_eq_true rfl⟩ ⟨Nat.zero_le _, Nat.zero_le _⟩ (Nat.le_of_ble_eq_true rfl) rfl rfl dL_many_4 (fun rv I9 H locs hp h => ?_)
    obtain ⟨rfl, -⟩ := hp
    refine lv_i2l hx hb dL_many_7 rfl ?_
    refine w_last C0 h hO hL hno dL_many_8 (fun H locs f1 hf1 hO1 hS1 => ?_)
    refine lv_goto (tgt := 15) hx hb dL_many_9 (by decide) ?_
    refine lv_iconst (v := nI 0) hx hb dL_many_15 (by decide) ?_
    exact w_iret (f1 0) C0 hS1 (fun t ht => ⟨f1, rfl, by rw [ht]; exact hO1⟩) hr ⟨Nat.le_of_ble_eq_true rfl, Nat.le_of_ble_eq_true rfl⟩ dL_many_16 (by rw [if_pos hg]; exact ⟨rfl, by rw [hf1, mn_0 hj]⟩)
  · refine lv_aload_n hx hb dL_many_0 rfl (lv_at hl 2 rfl) ?_
    refine lv_iconst (v := nI 0) hx hb dL_many_1 (by decide) ?_
    refine lv_aload_n hx hb dL_many_2 rfl (lv_at hl 0 rfl) ?_
    refine lv_iload_n hx hb dL_many_3 rfl (lv_at hl 1 rfl) ?_
    refine r_xVI C0 h hX hl.1 _ (by omega) (ce0 k _) rfl (th_X3_many_arg l hf k 98 _ hJ _ (Bool.eq_false_iff.mpr hg)) gL_many_X3_many rfl (by decide +kernel) (n := 1) ⟨Nat.le_of_ble_eq_true rfl, Nat.le_of_ble_eq_true rfl⟩ ⟨Nat.le_of_ble_eq_true rfl, Nat.le_of_ble_eq_true rfl⟩ (Nat.le_of_ble_eq_true rfl) rfl rfl dL_many_4 (fun q9 ce9 H locs h hc1 hc2 hc3 => ?_)
    refine vx_catch (own := RL) (name := sIA) hown [] ⟨0, 9, 12, 13⟩ (tableOf ([(0, 9, 12, 13)].drop 1)) (htab.trans rfl) (fun z hz => absurd hz List.not_mem_nil) (by decide) (by decide) (hts (.classLink RL 13 sIA) (by decide +kernel)) (va_Nw.use rfl (hX.1.2.2.2 (208, 212, sIA) (by decide))) hc1 hc2 hc3 ?_
    refine lv_astore_n hx hb dL_many_12 rfl hl (by decide) rfl (fun ls hl => ?_)
    refine lv_iconst (v := nI 1) hx hb dL_many_13 (by decide) ?_
    exact w_iret (f 0) C0 (h.2.wider (fun q z => Or.inl z)) (fun t ht => ⟨f, rfl, by rw [ht]; exact va_P_S1 hO h.2 hno⟩) hr ⟨Nat.le_of_ble_eq_true rfl, Nat.le_of_ble_eq_true rfl⟩ dL_many_14 (by rw [if_neg hg])
set_option maxHeartbeats 4000000 in
set_option maxRecDepth 100000 in
theorem lw_ofLetter (l : Launch) (hf : l.stackTraces = false) (k : Sk) (hJ : Ij k 98) (ob : Nat) (cL : ClassId) (f : Nat → Int64) (hne : ∀ n, n < 98 → k.2.1 n ≠ ob) (a0 a1 : Int32) (sz : Nat) : vx_Met l yL_ofLetter wsL_ofLetter (RmA 14 1 6) (PcW k ob cL .long (.inl (cL, 1, .inr (.inl f))) sz [.ref (k.2.1 0), .int a0, .int a1, .ref ob]) (va_Qi (fun (r : Int32) (_ : Int64) => r = nI 1) (BL k ob cL) (AO k ob sz)) (XW (AO k ob sz)) 1 6 (AO k ob sz) := by
  refine mtW_of (cc := cL_ofLetter) (maxL := 5) (hh := [(0, 10, 13, 21), (0, 10, 17, 13)]) hJ hne (by decide) rfl (Nat.le_of_ble_eq_true rfl) ?_
  intro p e s m args below meth c ls C0 h hX hO hL hno htab hr hl
  have hx := C0.1.1
  have hb := C0.1.2.1
  have hown := C0.1.2.2.2.1
  have hts := C0.1.2.2.2.2
  have hl : lv_has ls 5 [(0, _), (1, _), (2, _), (3, _)] := hl
  refine lv_aload_n hx hb dL_ofLetter_0 rfl (lv_at hl 3 rfl) ?_
  refine lv_iconst (v := nI 0) hx hb dL_ofLetter_1 (by decide) ?_
  refine lv_aload_n hx hb dL_ofLetter_2 rfl (lv_at hl 0 rfl) ?_
  refine lv_iload_n hx hb dL_ofLetter_3 rfl (lv_at hl 1 rfl) ?_
  refine lv_iload_n hx hb dL_ofLetter_4 rfl (lv_at hl 2 rfl) ?_
  refine r_xVI C0 h hX hl.1 _ (by omega) (ce0 k _) rfl (th_X3_ofLetter_no l hf k 98 _ hJ 0 rfl _ (isLt_0 _) _) gL_ofLetter_X3_ofLetter rfl (by decide +kernel) (n := 2) ⟨Nat.le_of_ble_eq_true rfl, Nat.le_of_ble_eq_true rfl⟩ ⟨Nat.le_of_ble_eq_true rfl, Nat.le_of_ble_eq_true rfl⟩ (Nat.le_of_ble_eq_true rfl) rfl rfl dL_ofLetter_5 (fun q9 ce9 H locs h hc1 hc2 hc3 => ?_)
  refine vx_catch (own := RL) (name := sIO) hown [] ⟨0, 10, 13, 21⟩ (tableOf ([(0, 10, 13, 21), (0, 10, 17, 13)].drop 1)) (htab.trans rfl) (fun z hz => absurd hz List.not_mem_nil) (by decide) (by decide) (hts (.classLink RL 21 sIO) (by decide +kernel)) (va_Nw.use rfl (hX.1.2.2.2 (216, 220, sIO) (by decide))) hc1 hc2 hc3 ?_
  refine lv_astore hx hb dL_ofLetter_13 hl (by decide) rfl (fun ls hl => ?_)
  refine lv_iconst (v := nI 1) hx hb dL_ofLetter_15 (by decide) ?_
  exact w_iret (f 0) C0 (h.2.wider (fun q z => Or.inl z)) (fun t ht => ⟨f, rfl, by rw [ht]; exact va_P_S1 hO h.2 hno⟩) hr ⟨Nat.le_of_ble_eq_true rfl, Nat.le_of_ble_eq_true rfl⟩ dL_ofLetter_16 rfl
set_option maxHeartbeats 4000000 in
set_option maxRecDepth 100000 in
theorem lw_ofList (l : Launch) (hf : l.stackTraces = false) (k : Sk) (hJ : Ij k 98) (ob : Nat) (cL : ClassId) (f : Nat → Int64) (hne : ∀ n, n < 98 → k.2.1 n ≠ ob) (a0 a1 : Int32) (sz : Nat) : vx_Met l yL_ofList wsL_ofList (RmA 14 1 6) (PcW k ob cL .long (.inl (cL, 1, .inr (.inl f))) sz [.ref (k.2.1 0), .int a0, .int a1, .ref ob]) (va_Qi (fun (r : Int32) (_ : Int64) => r = nI 1) (BL k ob cL) (AO k ob sz)) (XW (AO k ob sz)) 1 6 (AO k ob sz) := by
  refine mtW_of (cc := cL_ofList) (maxL := 5) (hh := [(0, 10, 13, 21), (0, 10, 17, 13)]) hJ hne (by decide) rfl (Nat.le_of_ble_eq_true rfl) ?_
  intro p e s m args below meth c ls C0 h hX hO hL hno htab hr hl
  have hx := C0.1.1
  have hb := C0.1.2.1
  have hown := C0.1.2.2.2.1
  have hts := C0.1.2.2.2.2
  have hl : lv_has ls 5 [(0, _), (1, _), (2, _), (3, _)] := hl
  refine lv_aload_n hx hb dL_ofList_0 rfl (lv_at hl 3 rfl) ?_
  refine lv_iconst (v := nI 0) hx hb dL_ofList_1 (by decide) ?_
  refine lv_aload_n hx hb dL_ofList_2 rfl (lv_at hl 0 rfl) ?_
  refine lv_iload_n hx hb dL_ofList_3 rfl (lv_at hl 1 rfl) ?_
  refine lv_iload_n hx hb dL_ofList_4 rfl (lv_at hl 2 rfl) ?_
  refine r_xVI C0 h hX hl.1 _ (by omega) (ce0 k _) rfl (th_X3_ofList_no l hf k 98 _ hJ _ _ (isLs_0 _)) gL_ofList_X3_ofList rfl (by decide +kernel) (n := 2) ⟨Nat.le_of_ble_eq_true rfl, Nat.le_of_ble_eq_true rfl⟩ ⟨Nat.le_of_ble_eq_true rfl, Nat.le_of_ble_eq_true rfl⟩ (Nat.le_of_ble_eq_true rfl) rfl rfl dL_ofList_5 (fun q9 ce9 H locs h hc1 hc2 hc3 => ?_)
  refine vx_catch (own := RL) (name := sIO) hown [] ⟨0, 10, 13, 21⟩ (tableOf ([(0, 10, 13, 21), (0, 10, 17, 13)].drop 1)) (htab.trans rfl) (fun z hz => absurd hz List.not_mem_nil) (by decide) (by decide) (hts (.classLink RL 21 sIO) (by decide +kernel)) (va_Nw.use rfl (hX.1.2.2.2 (216, 220, sIO) (by decide))) hc1 hc2 hc3 ?_
  refine lv_astore hx hb dL_ofList_13 hl (by decide) rfl (fun ls hl => ?_)
  refine lv_iconst (v := nI 1) hx hb dL_ofList_15 (by decide) ?_
  exact w_iret (f 0) C0 (h.2.wider (fun q z => Or.inl z)) (fun t ht => ⟨f, rfl, by rw [ht]; exact va_P_S1 hO h.2 hno⟩) hr ⟨Nat.le_of_ble_eq_true rfl, Nat.le_of_ble_eq_true rfl⟩ dL_ofList_16 rfl
set_option maxHeartbeats 4000000 in
set_option maxRecDepth 100000 in
theorem lw_signed (l : Launch) (hf : l.stackTraces = false) (k : Sk) (hJ : Ij k 98) (ob : Nat) (cL : ClassId) (f : Nat → Int64) (hne : ∀ n, n < 98 → k.2.1 n ≠ ob) (a0 a1 : Int32) (sz : Nat) : vx_Met l yL_signed wsL_signed (RmA 14 1 6) (PcW k ob cL .long (.inl (cL, 1, .inr (.inl f))) sz [.ref (k.2.1 0), .int a0, .int a1, .ref ob]) (va_Qi (fun (r : Int32) (x : Int64) => if isW a0 (nI 15) = true ∧ isW a1 (nI 996) = true then r = nI 0 ∧ x = (sealF a1 a0).toInt64 else r = nI 1) (BL k ob cL) (AO k ob sz)) (XW (AO k ob sz)) 1 6 (AO k ob sz) := by
  refine mtW_of (cc := cL_signed) (maxL := 5) (hh := [(0, 10, 13, 13)]) hJ hne (by decide) rfl (Nat.le_of_ble_eq_true rfl) ?_
  intro p e s m args below meth c ls C0 h hX hO hL hno htab hr hl
  have hx := C0.1.1
  have hb := C0.1.2.1
  have hown := C0.1.2.2.2.1
  have hts := C0.1.2.2.2.2
  have hl : lv_has ls 5 [(0, _), (1, _), (2, _), (3, _)] := hl
  by_cases hg : isW a0 (nI 15) = true ∧ isW a1 (nI 996) = true
  · refine lv_aload_n hx hb dL_signed_0 rfl (lv_at hl 3 rfl) ?_
    refine lv_iconst (v := nI 0) hx hb dL_signed_1 (by decide) ?_
    refine lv_aload_n hx hb dL_signed_2 rfl (lv_at hl 0 rfl) ?_
    refine lv_iload_n hx hb dL_signed_3 rfl (lv_at hl 1 rfl) ?_
    refine lv_iload_n hx hb dL_signed_4 rfl (lv_at hl 2 rfl) ?_
    refine r_cVI C0 h hl.1 _ (by omega) (ce0 k _) rfl (ct_X3_signed l k 98 _ hJ _ _ hg.1 hg.2) gL_signed_X3_signed rfl (by decide +kernel) (n := 2) ⟨Nat.le_of_ble_eq_true rfl, Nat.le_of_ble_eq_true rfl⟩ ⟨Nat.zero_le _, Nat.zero_le _⟩ (Nat.le_of_ble_eq_true rfl) rfl rfl dL_signed_5 (fun rv I9 H locs hp h => ?_)
    obtain ⟨rfl, -⟩ := hp
    refine lv_i2l hx hb dL_signed_8 rfl ?_
    refine w_last C0 h hO hL hno dL_signed_9 (fun H locs f1 hf1 hO1 hS1 => ?_)
    refine lv_goto (tgt := 17) hx hb dL_signed_10 (by decide) ?_
    refine lv_iconst (v := nI 0) hx hb dL_signed_17 (by decide) ?_
    exact w_iret (f1 0) C0 hS1 (fun t ht => ⟨f1, rfl, by rw [ht]; exact hO1⟩) hr ⟨Nat.le_of_ble_eq_true rfl, Nat.le_of_ble_eq_true rfl⟩ dL_signed_18 (by rw [if_pos hg]; exact ⟨rfl, hf1⟩)
  · refine lv_aload_n hx hb dL_signed_0 rfl (lv_at hl 3 rfl) ?_
    refine lv_iconst (v := nI 0) hx hb dL_signed_1 (by decide) ?_
    refine lv_aload_n hx hb dL_signed_2 rfl (lv_at hl 0 rfl) ?_
    refine lv_iload_n hx hb dL_signed_3 rfl (lv_at hl 1 rfl) ?_
    refine lv_iload_n hx hb dL_signed_4 rfl (lv_at hl 2 rfl) ?_
    refine r_xVI C0 h hX hl.1 _ (by omega) (ce0 k _) rfl (th_X3_signed_arg l hf k 98 _ hJ _ _ hg) gL_signed_X3_signed rfl (by decide +kernel) (n := 2) ⟨Nat.le_of_ble_eq_true rfl, Nat.le_of_ble_eq_true rfl⟩ ⟨Nat.le_of_ble_eq_true rfl, Nat.le_of_ble_eq_true rfl⟩ (Nat.le_of_ble_eq_true rfl) rfl rfl dL_signed_5 (fun q9 ce9 H locs h hc1 hc2 hc3 => ?_)
    refine vx_catch (own := RL) (name := sIA) hown [] ⟨0, 10, 13, 13⟩ (tableOf ([(0, 10, 13, 13)].drop 1)) (htab.trans rfl) (fun z hz => absurd hz List.not_mem_nil) (by decide) (by decide) (hts (.classLink RL 13 sIA) (by decide +kernel)) (va_Nw.use rfl (hX.1.2.2.2 (208, 212, sIA) (by decide))) hc1 hc2 hc3 ?_
    refine lv_astore hx hb dL_signed_13 hl (by decide) rfl (fun ls hl => ?_)
    refine lv_iconst (v := nI 1) hx hb dL_signed_15 (by decide) ?_
    exact w_iret (f 0) C0 (h.2.wider (fun q z => Or.inl z)) (fun t ht => ⟨f, rfl, by rw [ht]; exact va_P_S1 hO h.2 hno⟩) hr ⟨Nat.le_of_ble_eq_true rfl, Nat.le_of_ble_eq_true rfl⟩ dL_signed_16 (by rw [if_neg hg])
set_option maxHeartbeats 4000000 in
set_option maxRecDepth 100000 in
theorem lw_signer (l : Launch) (hf : l.stackTraces = false) (k : Sk) (hJ : Ij k 98) (ob : Nat) (cL : ClassId) (f : Nat → Int64) (hne : ∀ n, n < 98 → k.2.1 n ≠ ob) (a0 a1 : Int32) (sz : Nat) : vx_Met l yL_signer wsL_signer (RmA 14 1 6) (PcW k ob cL .long (.inl (cL, 1, .inr (.inl f))) sz [.ref (k.2.1 0), .int a0, .int a1, .ref ob]) (va_Qi (fun (r : Int32) (x : Int64) => if isW a0 (nI 996) = true ∧ isW a1 (nI 996) = true then r = nI 0 ∧ x = (opI (fdF (fun q => decide (sealF a1 (nI q) = a0)) 16 0)).toInt64 else r = nI 1) (BL k ob cL) (AO k ob sz)) (XW (AO k ob sz)) 1 6 (AO k ob sz) := by
  refine mtW_of (cc := cL_signer) (maxL := 5) (hh := [(0, 10, 13, 13)]) hJ hne (by decide) rfl (Nat.le_of_ble_eq_true rfl) ?_
  intro p e s m args below meth c ls C0 h hX hO hL hno htab hr hl
  have hx := C0.1.1
  have hb := C0.1.2.1
  have hown := C0.1.2.2.2.1
  have hts := C0.1.2.2.2.2
  have hl : lv_has ls 5 [(0, _), (1, _), (2, _), (3, _)] := hl
  by_cases hg : isW a0 (nI 996) = true ∧ isW a1 (nI 996) = true
  · refine lv_aload_n hx hb dL_signer_0 rfl (lv_at hl 3 rfl) ?_
    refine lv_iconst (v := nI 0) hx hb dL_signer_1 (by decide) ?_
    refine lv_aload_n hx hb dL_signer_2 rfl (lv_at hl 0 rfl) ?_
    refine lv_iload_n hx hb dL_signer_3 rfl (lv_at hl 1 rfl) ?_
    refine lv_iload_n hx hb dL_signer_4 rfl (lv_at hl 2 rfl) ?_
    refine r_cVI C0 h hl.1 _ (by omega) (ce0 k _) rfl (ct_X3_signer l k 98 _ hJ _ _ hg.1 hg.2) gL_signer_X3_signer rfl (by decide +kernel) (n := 2) ⟨Nat.le_of_ble_eq_true rfl, Nat.le_of_ble_eq_true rfl⟩ ⟨Nat.zero_le _, Nat.zero_le _⟩ (Nat.le_of_ble_eq_true rfl) rfl rfl dL_signer_5 (fun rv I9 H locs hp h => ?_)
    obtain ⟨rfl, -⟩ := hp
    refine lv_i2l hx hb dL_signer_8 rfl ?_
    refine w_last C0 h hO hL hno dL_signer_9 (fun H locs f1 hf1 hO1 hS1 => ?_)
    refine lv_goto (tgt := 17) hx hb dL_signer_10 (by decide) ?_
    refine lv_iconst (v := nI 0) hx hb dL_signer_17 (by decide) ?_
    exact w_iret (f1 0) C0 hS1 (fun t ht => ⟨f1, rfl, by rw [ht]; exact hO1⟩) hr ⟨Nat.le_of_ble_eq_true rfl, Nat.le_of_ble_eq_true rfl⟩ dL_signer_18 (by rw [if_pos hg]; exact ⟨rfl, hf1⟩)
  · refine lv_aload_n hx hb dL_signer_0 rfl (lv_at hl 3 rfl) ?_
    refine lv_iconst (v := nI 0) hx hb dL_signer_1 (by decide) ?_
    refine lv_aload_n hx hb dL_signer_2 rfl (lv_at hl 0 rfl) ?_
    refine lv_iload_n hx hb dL_signer_3 rfl (lv_at hl 1 rfl) ?_
    refine lv_iload_n hx hb dL_signer_4 rfl (lv_at hl 2 rfl) ?_
    refine r_xVI C0 h hX hl.1 _ (by omega) (ce0 k _) rfl (th_X3_signer_arg l hf k 98 _ hJ _ _ hg) gL_signer_X3_signer rfl (by decide +kernel) (n := 2) ⟨Nat.le_of_ble_eq_true rfl, Nat.le_of_ble_eq_true rfl⟩ ⟨Nat.le_of_ble_eq_true rfl, Nat.le_of_ble_eq_true rfl⟩ (Nat.le_of_ble_eq_true rfl) rfl rfl dL_signer_5 (fun q9 ce9 H locs h hc1 hc2 hc3 => ?_)
    refine vx_catch (own := RL) (name := sIA) hown [] ⟨0, 10, 13, 13⟩ (tableOf ([(0, 10, 13, 13)].drop 1)) (htab.trans rfl) (fun z hz => absurd hz List.not_mem_nil) (by decide) (by decide) (hts (.classLink RL 13 sIA) (by decide +kernel)) (va_Nw.use rfl (hX.1.2.2.2 (208, 212, sIA) (by decide))) hc1 hc2 hc3 ?_
    refine lv_astore hx hb dL_signer_13 hl (by decide) rfl (fun ls hl => ?_)
    refine lv_iconst (v := nI 1) hx hb dL_signer_15 (by decide) ?_
    exact w_iret (f 0) C0 (h.2.wider (fun q z => Or.inl z)) (fun t ht => ⟨f, rfl, by rw [ht]; exact va_P_S1 hO h.2 hno⟩) hr ⟨Nat.le_of_ble_eq_true rfl, Nat.le_of_ble_eq_true rfl⟩ dL_signer_16 (by rw [if_neg hg])
set_option maxHeartbeats 4000000 in
set_option maxRecDepth 100000 in
theorem lw_isUnder (l : Launch) (hf : l.stackTraces = false) (k : Sk) (hJ : Ij k 98) (ob : Nat) (cL : ClassId) (f : Nat → Int64) (hne : ∀ n, n < 98 → k.2.1 n ≠ ob) (a0 a1 : Int32) (sz : Nat) : vx_Met l yL_isUnder wsL_isUnder (RmA 14 1 6) (PcW k ob cL .long (.inl (cL, 1, .inr (.inl f))) sz [.ref (k.2.1 0), .int a0, .int a1, .ref ob]) (va_Qi (fun (r : Int32) (x : Int64) => if isNm a0 = true ∧ isN0 a1 = true then r = nI 0 ∧ x = (if isUn a0 a1 = true then 1 else 0) else r = nI 1) (BL k ob cL) (AO k ob sz)) (XW (AO k ob sz)) 1 6 (AO k ob sz) := by
  refine mtW_of (cc := cL_isUnder) (maxL := 5) (hh := [(0, 17, 20, 13)]) hJ hne (by decide) rfl (Nat.le_of_ble_eq_true rfl) ?_
  intro p e s m args below meth c ls C0 h hX hO hL hno htab hr hl
  have hx := C0.1.1
  have hb := C0.1.2.1
  have hown := C0.1.2.2.2.1
  have hts := C0.1.2.2.2.2
  have hl : lv_has ls 5 [(0, _), (1, _), (2, _), (3, _)] := hl
  by_cases hg : isNm a0 = true ∧ isN0 a1 = true
  · refine lv_aload_n hx hb dL_isUnder_0 rfl (lv_at hl 3 rfl) ?_
    refine lv_iconst (v := nI 0) hx hb dL_isUnder_1 (by decide) ?_
    refine lv_aload_n hx hb dL_isUnder_2 rfl (lv_at hl 0 rfl) ?_
    refine lv_iload_n hx hb dL_isUnder_3 rfl (lv_at hl 1 rfl) ?_
    refine lv_iload_n hx hb dL_isUnder_4 rfl (lv_at hl 2 rfl) ?_
    refine r_cVI C0 h hl.1 _ (by omega) (ce0 k _) rfl (ct_X3_isUnder l k 98 _ hJ _ _ hg.1 hg.2) gL_isUnder_X3_isUnder rfl (by decide +kernel) (n := 2) ⟨Nat.le_of_ble_eq_true rfl, Nat.le_of_ble_eq_true rfl⟩ ⟨Nat.zero_le _, Nat.zero_le _⟩ (Nat.le_of_ble_eq_true rfl) rfl rfl dL_isUnder_5 (fun rv I9 H locs hp h => ?_)
    obtain ⟨rfl, -⟩ := hp
    refine lv_if_eq (tgt := 15) hx hb dL_isUnder_8 (by decide) (fun c_1 => ?_) (fun c_1 => ?_)
    · refine lv_lconst (v := 0) hx hb dL_isUnder_15 rfl ?_
      refine w_last C0 h hO hL hno dL_isUnder_16 (fun H locs f1 hf1 hO1 hS1 => ?_)
      refine lv_goto (tgt := 24) hx hb dL_isUnder_17 (by decide) ?_
      refine lv_iconst (v := nI 0) hx hb dL_isUnder_24 (by decide) ?_
      exact w_iret (f1 0) C0 hS1 (fun t ht => ⟨f1, rfl, by rw [ht]; exact hO1⟩) hr ⟨Nat.le_of_ble_eq_true rfl, Nat.le_of_ble_eq_true rfl⟩ dL_isUnder_25 (by rw [if_pos hg]; exact ⟨rfl, by rw [hf1, if_neg (show ¬ isUn a0 a1 = true by rw [bI_z c_1]; decide)]⟩)
    · refine lv_lconst (v := 1) hx hb dL_isUnder_11 rfl ?_
      refine lv_goto (tgt := 16) hx hb dL_isUnder_12 (by decide) ?_
      refine w_last C0 h hO hL hno dL_isUnder_16 (fun H locs f1 hf1 hO1 hS1 => ?_)
      refine lv_goto (tgt := 24) hx hb dL_isUnder_17 (by decide) ?_
      refine lv_iconst (v := nI 0) hx hb dL_isUnder_24 (by decide) ?_
      exact w_iret (f1 0) C0 hS1 (fun t ht => ⟨f1, rfl, by rw [ht]; exact hO1⟩) hr ⟨Nat.le_of_ble_eq_true rfl, Nat.le_of_ble_eq_true rfl⟩ dL_isUnder_25 (by rw [if_pos hg]; exact ⟨rfl, by rw [hf1, if_pos (bI_nz c_1)]⟩)
  · refine lv_aload_n hx hb dL_isUnder_0 rfl (lv_at hl 3 rfl) ?_
    refine lv_iconst (v := nI 0) hx hb dL_isUnder_1 (by decide) ?_
    refine lv_aload_n hx hb dL_isUnder_2 rfl (lv_at hl 0 rfl) ?_
    refine lv_iload_n hx hb dL_isUnder_3 rfl (lv_at hl 1 rfl) ?_
    refine lv_iload_n hx hb dL_isUnder_4 rfl (lv_at hl 2 rfl) ?_
    refine r_xVI C0 h hX hl.1 _ (by omega) (ce0 k _) rfl (th_X3_isUnder_arg l hf k 98 _ hJ _ _ hg) gL_isUnder_X3_isUnder rfl (by decide +kernel) (n := 2) ⟨Nat.le_of_ble_eq_true rfl, Nat.le_of_ble_eq_true rfl⟩ ⟨Nat.le_of_ble_eq_true rfl, Nat.le_of_ble_eq_true rfl⟩ (Nat.le_of_ble_eq_true rfl) rfl rfl dL_isUnder_5 (fun q9 ce9 H locs h hc1 hc2 hc3 => ?_)
    refine vx_catch (own := RL) (name := sIA) hown [] ⟨0, 17, 20, 13⟩ (tableOf ([(0, 17, 20, 13)].drop 1)) (htab.trans rfl) (fun z hz => absurd hz List.not_mem_nil) (by decide) (by decide) (hts (.classLink RL 13 sIA) (by decide +kernel)) (va_Nw.use rfl (hX.1.2.2.2 (208, 212, sIA) (by decide))) hc1 hc2 hc3 ?_
    refine lv_astore hx hb dL_isUnder_20 hl (by decide) rfl (fun ls hl => ?_)
    refine lv_iconst (v := nI 1) hx hb dL_isUnder_22 (by decide) ?_
    exact w_iret (f 0) C0 (h.2.wider (fun q z => Or.inl z)) (fun t ht => ⟨f, rfl, by rw [ht]; exact va_P_S1 hO h.2 hno⟩) hr ⟨Nat.le_of_ble_eq_true rfl, Nat.le_of_ble_eq_true rfl⟩ dL_isUnder_23 (by rw [if_neg hg])
set_option maxHeartbeats 4000000 in
set_option maxRecDepth 100000 in
theorem lw_backs (l : Launch) (hf : l.stackTraces = false) (k : Sk) (hJ : Ij k 98) (ob : Nat) (cL : ClassId) (f : Nat → Int64) (hne : ∀ n, n < 98 → k.2.1 n ≠ ob) (a0 a1 : Int32) (sz : Nat) : vx_Met l yL_backs wsL_backs (RmA 14 1 6) (PcW k ob cL .long (.inl (cL, 1, .inr (.inl f))) sz [.ref (k.2.1 0), .int a0, .int a1, .ref ob]) (va_Qi (fun (r : Int32) (_ : Int64) => r = nI 1) (BL k ob cL) (AO k ob sz)) (XW (AO k ob sz)) 1 6 (AO k ob sz) := by
  refine mtW_of (cc := cL_backs) (maxL := 5) (hh := [(0, 17, 20, 21)]) hJ hne (by decide) rfl (Nat.le_of_ble_eq_true rfl) ?_
  intro p e s m args below meth c ls C0 h hX hO hL hno htab hr hl
  have hx := C0.1.1
  have hb := C0.1.2.1
  have hown := C0.1.2.2.2.1
  have hts := C0.1.2.2.2.2
  have hl : lv_has ls 5 [(0, _), (1, _), (2, _), (3, _)] := hl
  refine lv_aload_n hx hb dL_backs_0 rfl (lv_at hl 3 rfl) ?_
  refine lv_iconst (v := nI 0) hx hb dL_backs_1 (by decide) ?_
  refine lv_aload_n hx hb dL_backs_2 rfl (lv_at hl 0 rfl) ?_
  refine lv_iload_n hx hb dL_backs_3 rfl (lv_at hl 1 rfl) ?_
  refine lv_iload_n hx hb dL_backs_4 rfl (lv_at hl 2 rfl) ?_
  refine r_xVI C0 h hX hl.1 _ (by omega) (ce0 k _) rfl (th_X3_backs_no l hf k 98 _ hJ 0 rfl _ (isLt_0 _) _) gL_backs_X3_backs rfl (by decide +kernel) (n := 2) ⟨Nat.le_of_ble_eq_true rfl, Nat.le_of_ble_eq_true rfl⟩ ⟨Nat.le_of_ble_eq_true rfl, Nat.le_of_ble_eq_true rfl⟩ (Nat.le_of_ble_eq_true rfl) rfl rfl dL_backs_5 (fun q9 ce9 H locs h hc1 hc2 hc3 => ?_)
  refine vx_catch (own := RL) (name := sIO) hown [] ⟨0, 17, 20, 21⟩ (tableOf ([(0, 17, 20, 21)].drop 1)) (htab.trans rfl) (fun z hz => absurd hz List.not_mem_nil) (by decide) (by decide) (hts (.classLink RL 21 sIO) (by decide +kernel)) (va_Nw.use rfl (hX.1.2.2.2 (216, 220, sIO) (by decide))) hc1 hc2 hc3 ?_
  refine lv_astore hx hb dL_backs_20 hl (by decide) rfl (fun ls hl => ?_)
  refine lv_iconst (v := nI 1) hx hb dL_backs_22 (by decide) ?_
  exact w_iret (f 0) C0 (h.2.wider (fun q z => Or.inl z)) (fun t ht => ⟨f, rfl, by rw [ht]; exact va_P_S1 hO h.2 hno⟩) hr ⟨Nat.le_of_ble_eq_true rfl, Nat.le_of_ble_eq_true rfl⟩ dL_backs_23 rfl
set_option maxHeartbeats 4000000 in
set_option maxRecDepth 100000 in
theorem lw_chains (l : Launch) (hf : l.stackTraces = false) (k : Sk) (hJ : Ij k 98) (ob : Nat) (cL : ClassId) (f : Nat → Int64) (hne : ∀ n, n < 98 → k.2.1 n ≠ ob) (a0 : Int32) (sz : Nat) : vx_Met l yL_chains wsL_chains (RmA 14 1 6) (PcW k ob cL .long (.inl (cL, 1, .inr (.inl f))) sz [.ref (k.2.1 0), .int a0, .ref ob]) (va_Qi (fun (r : Int32) (_ : Int64) => r = nI 1) (BL k ob cL) (AO k ob sz)) (XW (AO k ob sz)) 1 6 (AO k ob sz) := by
  refine mtW_of (cc := cL_chains) (maxL := 4) (hh := [(0, 9, 12, 21)]) hJ hne (by decide) rfl (Nat.le_of_ble_eq_true rfl) ?_
  intro p e s m args below meth c ls C0 h hX hO hL hno htab hr hl
  have hx := C0.1.1
  have hb := C0.1.2.1
  have hown := C0.1.2.2.2.1
  have hts := C0.1.2.2.2.2
  have hl : lv_has ls 4 [(0, _), (1, _), (2, _)] := hl
  refine lv_aload_n hx hb dL_chains_0 rfl (lv_at hl 2 rfl) ?_
  refine lv_iconst (v := nI 0) hx hb dL_chains_1 (by decide) ?_
  refine lv_aload_n hx hb dL_chains_2 rfl (lv_at hl 0 rfl) ?_
  refine lv_iload_n hx hb dL_chains_3 rfl (lv_at hl 1 rfl) ?_
  refine r_xVI C0 h hX hl.1 _ (by omega) (ce0 k _) rfl (th_X3_chains_no l hf k 98 _ hJ 0 rfl _ (isLt_0 _)) gL_chains_X3_chains rfl (by decide +kernel) (n := 1) ⟨Nat.le_of_ble_eq_true rfl, Nat.le_of_ble_eq_true rfl⟩ ⟨Nat.le_of_ble_eq_true rfl, Nat.le_of_ble_eq_true rfl⟩ (Nat.le_of_ble_eq_true rfl) rfl rfl dL_chains_4 (fun q9 ce9 H locs h hc1 hc2 hc3 => ?_)
  refine vx_catch (own := RL) (name := sIO) hown [] ⟨0, 9, 12, 21⟩ (tableOf ([(0, 9, 12, 21)].drop 1)) (htab.trans rfl) (fun z hz => absurd hz List.not_mem_nil) (by decide) (by decide) (hts (.classLink RL 21 sIO) (by decide +kernel)) (va_Nw.use rfl (hX.1.2.2.2 (216, 220, sIO) (by decide))) hc1 hc2 hc3 ?_
  refine lv_astore_n hx hb dL_chains_12 rfl hl (by decide) rfl (fun ls hl => ?_)
  refine lv_iconst (v := nI 1) hx hb dL_chains_13 (by decide) ?_
  exact w_iret (f 0) C0 (h.2.wider (fun q z => Or.inl z)) (fun t ht => ⟨f, rfl, by rw [ht]; exact va_P_S1 hO h.2 hno⟩) hr ⟨Nat.le_of_ble_eq_true rfl, Nat.le_of_ble_eq_true rfl⟩ dL_chains_14 rfl
set_option maxHeartbeats 4000000 in
set_option maxRecDepth 100000 in
theorem lw_verdict (l : Launch) (hf : l.stackTraces = false) (k : Sk) (hJ : Ij k 98) (ob : Nat) (cL : ClassId) (f : Nat → Int64) (hne : ∀ n, n < 98 → k.2.1 n ≠ ob) (a0 a1 a2 : Int32) (sz : Nat) : vx_Met l yL_verdict wsL_verdict (RmA 14 1 6) (PcW k ob cL .long (.inl (cL, 1, .inr (.inl f))) sz [.ref (k.2.1 0), .int a0, .int a1, .int a2, .ref ob]) (va_Qi (fun (r : Int32) (_ : Int64) => r = nI 1) (BL k ob cL) (AO k ob sz)) (XW (AO k ob sz)) 1 6 (AO k ob sz) := by
  refine mtW_of (cc := cL_verdict) (maxL := 6) (hh := [(0, 12, 15, 21), (0, 12, 19, 13)]) hJ hne (by decide) rfl (Nat.le_of_ble_eq_true rfl) ?_
  intro p e s m args below meth c ls C0 h hX hO hL hno htab hr hl
  have hx := C0.1.1
  have hb := C0.1.2.1
  have hown := C0.1.2.2.2.1
  have hts := C0.1.2.2.2.2
  have hl : lv_has ls 6 [(0, _), (1, _), (2, _), (3, _), (4, _)] := hl
  refine lv_aload hx hb dL_verdict_0 (lv_at hl 4 rfl) ?_
  refine lv_iconst (v := nI 0) hx hb dL_verdict_2 (by decide) ?_
  refine lv_aload_n hx hb dL_verdict_3 rfl (lv_at hl 0 rfl) ?_
  refine lv_iload_n hx hb dL_verdict_4 rfl (lv_at hl 1 rfl) ?_
  refine lv_iload_n hx hb dL_verdict_5 rfl (lv_at hl 2 rfl) ?_
  refine lv_iload_n hx hb dL_verdict_6 rfl (lv_at hl 3 rfl) ?_
  refine r_xVI C0 h hX hl.1 _ (by omega) (ce0 k _) rfl (th_X3_verdict_no l hf k 98 _ hJ 0 rfl _ (isLt_0 _) _ _) gL_verdict_X3_verdict rfl (by decide +kernel) (n := 3) ⟨Nat.le_of_ble_eq_true rfl, Nat.le_of_ble_eq_true rfl⟩ ⟨Nat.le_of_ble_eq_true rfl, Nat.le_of_ble_eq_true rfl⟩ (Nat.le_of_ble_eq_true rfl) rfl rfl dL_verdict_7 (fun q9 ce9 H locs h hc1 hc2 hc3 => ?_)
  refine vx_catch (own := RL) (name := sIO) hown [] ⟨0, 12, 15, 21⟩ (tableOf ([(0, 12, 15, 21), (0, 12, 19, 13)].drop 1)) (htab.trans rfl) (fun z hz => absurd hz List.not_mem_nil) (by decide) (by decide) (hts (.classLink RL 21 sIO) (by decide +kernel)) (va_Nw.use rfl (hX.1.2.2.2 (216, 220, sIO) (by decide))) hc1 hc2 hc3 ?_
  refine lv_astore hx hb dL_verdict_15 hl (by decide) rfl (fun ls hl => ?_)
  refine lv_iconst (v := nI 1) hx hb dL_verdict_17 (by decide) ?_
  exact w_iret (f 0) C0 (h.2.wider (fun q z => Or.inl z)) (fun t ht => ⟨f, rfl, by rw [ht]; exact va_P_S1 hO h.2 hno⟩) hr ⟨Nat.le_of_ble_eq_true rfl, Nat.le_of_ble_eq_true rfl⟩ dL_verdict_18 rfl
set_option maxHeartbeats 4000000 in
set_option maxRecDepth 100000 in
theorem lw_chain (l : Launch) (hf : l.stackTraces = false) (k : Sk) (hJ : Ij k 98) (ob : Nat) (cL : ClassId) (f : Nat → Int64) (hne : ∀ n, n < 98 → k.2.1 n ≠ ob) (a0 a1 a2 a3 : Int32) (sz : Nat) : vx_Met l yL_chain wsL_chain (RmA 14 1 6) (PcW k ob cL .long (.inl (cL, 1, .inr (.inl f))) sz [.ref (k.2.1 0), .int a0, .int a1, .int a2, .int a3, .ref ob]) (va_Qi (fun (r : Int32) (_ : Int64) => r = nI 1) (BL k ob cL) (AO k ob sz)) (XW (AO k ob sz)) 1 6 (AO k ob sz) := by
  refine mtW_of (cc := cL_chain) (maxL := 7) (hh := [(0, 14, 17, 21), (0, 14, 21, 13)]) hJ hne (by decide) rfl (Nat.le_of_ble_eq_true rfl) ?_
  intro p e s m args below meth c ls C0 h hX hO hL hno htab hr hl
  have hx := C0.1.1
  have hb := C0.1.2.1
  have hown := C0.1.2.2.2.1
  have hts := C0.1.2.2.2.2
  have hl : lv_has ls 7 [(0, _), (1, _), (2, _), (3, _), (4, _), (5, _)] := hl
  refine lv_aload hx hb dL_chain_0 (lv_at hl 5 rfl) ?_
  refine lv_iconst (v := nI 0) hx hb dL_chain_2 (by decide) ?_
  refine lv_aload_n hx hb dL_chain_3 rfl (lv_at hl 0 rfl) ?_
  refine lv_iload_n hx hb dL_chain_4 rfl (lv_at hl 1 rfl) ?_
  refine lv_iload_n hx hb dL_chain_5 rfl (lv_at hl 2 rfl) ?_
  refine lv_iload_n hx hb dL_chain_6 rfl (lv_at hl 3 rfl) ?_
  refine lv_iload hx hb dL_chain_7 (lv_at hl 4 rfl) ?_
  refine r_xVI C0 h hX hl.1 _ (by omega) (ce0 k _) rfl (th_X3_chain_no l hf k 98 _ hJ 0 rfl _ (isLt_0 _) _ _ _) gL_chain_X3_chain rfl (by decide +kernel) (n := 4) ⟨Nat.le_of_ble_eq_true rfl, Nat.le_of_ble_eq_true rfl⟩ ⟨Nat.le_of_ble_eq_true rfl, Nat.le_of_ble_eq_true rfl⟩ (Nat.le_of_ble_eq_true rfl) rfl rfl dL_chain_9 (fun q9 ce9 H locs h hc1 hc2 hc3 => ?_)
  refine vx_catch (own := RL) (name := sIO) hown [] ⟨0, 14, 17, 21⟩ (tableOf ([(0, 14, 17, 21), (0, 14, 21, 13)].drop 1)) (htab.trans rfl) (fun z hz => absurd hz List.not_mem_nil) (by decide) (by decide) (hts (.classLink RL 21 sIO) (by decide +kernel)) (va_Nw.use rfl (hX.1.2.2.2 (216, 220, sIO) (by decide))) hc1 hc2 hc3 ?_
  refine lv_astore hx hb dL_chain_17 hl (by decide) rfl (fun ls hl => ?_)
  refine lv_iconst (v := nI 1) hx hb dL_chain_19 (by decide) ?_
  exact w_iret (f 0) C0 (h.2.wider (fun q z => Or.inl z)) (fun t ht => ⟨f, rfl, by rw [ht]; exact va_P_S1 hO h.2 hno⟩) hr ⟨Nat.le_of_ble_eq_true rfl, Nat.le_of_ble_eq_true rfl⟩ dL_chain_20 rfl
set_option maxHeartbeats 4000000 in
set_option maxRecDepth 100000 in
theorem lw_flawAt (l : Launch) (hf : l.stackTraces = false) (k : Sk) (hJ : Ij k 98) (ob : Nat) (cL : ClassId) (f : Nat → Int64) (hne : ∀ n, n < 98 → k.2.1 n ≠ ob) (a0 a1 a2 : Int32) (sz : Nat) : vx_Met l yL_flawAt wsL_flawAt (RmA 14 1 6) (PcW k ob cL .long (.inl (cL, 1, .inr (.inl f))) sz [.ref (k.2.1 0), .int a0, .int a1, .int a2, .ref ob]) (va_Qi (fun (r : Int32) (_ : Int64) => r = nI 1) (BL k ob cL) (AO k ob sz)) (XW (AO k ob sz)) 1 6 (AO k ob sz) := by
  refine mtW_of (cc := cL_flawAt) (maxL := 6) (hh := [(0, 12, 15, 21), (0, 12, 19, 13)]) hJ hne (by decide) rfl (Nat.le_of_ble_eq_true rfl) ?_
  intro p e s m args below meth c ls C0 h hX hO hL hno htab hr hl
  have hx := C0.1.1
  have hb := C0.1.2.1
  have hown := C0.1.2.2.2.1
  have hts := C0.1.2.2.2.2
  have hl : lv_has ls 6 [(0, _), (1, _), (2, _), (3, _), (4, _)] := hl
  refine lv_aload hx hb dL_flawAt_0 (lv_at hl 4 rfl) ?_
  refine lv_iconst (v := nI 0) hx hb dL_flawAt_2 (by decide) ?_
  refine lv_aload_n hx hb dL_flawAt_3 rfl (lv_at hl 0 rfl) ?_
  refine lv_iload_n hx hb dL_flawAt_4 rfl (lv_at hl 1 rfl) ?_
  refine lv_iload_n hx hb dL_flawAt_5 rfl (lv_at hl 2 rfl) ?_
  refine lv_iload_n hx hb dL_flawAt_6 rfl (lv_at hl 3 rfl) ?_
  refine r_xVI C0 h hX hl.1 _ (by omega) (ce0 k _) rfl (th_X3_flawAt_no l hf k 98 _ hJ 0 rfl _ (isLt_0 _) _ _) gL_flawAt_X3_flawAt rfl (by decide +kernel) (n := 3) ⟨Nat.le_of_ble_eq_true rfl, Nat.le_of_ble_eq_true rfl⟩ ⟨Nat.le_of_ble_eq_true rfl, Nat.le_of_ble_eq_true rfl⟩ (Nat.le_of_ble_eq_true rfl) rfl rfl dL_flawAt_7 (fun q9 ce9 H locs h hc1 hc2 hc3 => ?_)
  refine vx_catch (own := RL) (name := sIO) hown [] ⟨0, 12, 15, 21⟩ (tableOf ([(0, 12, 15, 21), (0, 12, 19, 13)].drop 1)) (htab.trans rfl) (fun z hz => absurd hz List.not_mem_nil) (by decide) (by decide) (hts (.classLink RL 21 sIO) (by decide +kernel)) (va_Nw.use rfl (hX.1.2.2.2 (216, 220, sIO) (by decide))) hc1 hc2 hc3 ?_
  refine lv_astore hx hb dL_flawAt_15 hl (by decide) rfl (fun ls hl => ?_)
  refine lv_iconst (v := nI 1) hx hb dL_flawAt_17 (by decide) ?_
  exact w_iret (f 0) C0 (h.2.wider (fun q z => Or.inl z)) (fun t ht => ⟨f, rfl, by rw [ht]; exact va_P_S1 hO h.2 hno⟩) hr ⟨Nat.le_of_ble_eq_true rfl, Nat.le_of_ble_eq_true rfl⟩ dL_flawAt_18 rfl
set_option maxHeartbeats 4000000 in
set_option maxRecDepth 100000 in
theorem lw_isOf (l : Launch) (hf : l.stackTraces = false) (k : Sk) (hJ : Ij k 98) (ob : Nat) (cL : ClassId) (f : Nat → Int64) (hne : ∀ n, n < 98 → k.2.1 n ≠ ob) (a0 a1 a2 a3 : Int32) (sz : Nat) : vx_Met l yL_isOf wsL_isOf (RmA 14 1 6) (PcW k ob cL .long (.inl (cL, 1, .inr (.inl f))) sz [.ref (k.2.1 0), .int a0, .int a1, .int a2, .int a3, .ref ob]) (va_Qi (fun (r : Int32) (x : Int64) => if isNm a0 = true ∧ isW a1 (nI 15) = true ∧ isW a2 (nI 999) = true ∧ isW a3 (nI 3) = true then r = nI 0 ∧ x = 0 else r = nI 1) (BL k ob cL) (AO k ob sz)) (XW (AO k ob sz)) 1 6 (AO k ob sz) := by
  refine mtW_of (cc := cL_isOf) (maxL := 7) (hh := [(0, 21, 24, 13)]) hJ hne (by decide) rfl (Nat.le_of_ble_eq_true rfl) ?_
  intro p e s m args below meth c ls C0 h hX hO hL hno htab hr hl
  have hx := C0.1.1
  have hb := C0.1.2.1
  have hown := C0.1.2.2.2.1
  have hts := C0.1.2.2.2.2
  have hl : lv_has ls 7 [(0, _), (1, _), (2, _), (3, _), (4, _), (5, _)] := hl
  by_cases hg : isNm a0 = true ∧ isW a1 (nI 15) = true ∧ isW a2 (nI 999) = true ∧ isW a3 (nI 3) = true
  · refine lv_aload hx hb dL_isOf_0 (lv_at hl 5 rfl) ?_
    refine lv_iconst (v := nI 0) hx hb dL_isOf_2 (by decide) ?_
    refine lv_aload_n hx hb dL_isOf_3 rfl (lv_at hl 0 rfl) ?_
    refine lv_iload_n hx hb dL_isOf_4 rfl (lv_at hl 1 rfl) ?_
    refine lv_iload_n hx hb dL_isOf_5 rfl (lv_at hl 2 rfl) ?_
    refine lv_iload_n hx hb dL_isOf_6 rfl (lv_at hl 3 rfl) ?_
    refine lv_iload hx hb dL_isOf_7 (lv_at hl 4 rfl) ?_
    refine r_cVI C0 h hl.1 _ (by omega) (ce0 k _) rfl (ct_X3_isOf l k 98 _ hJ 0 (by omega) rfl 0 (by omega) rfl ⟨false, rfl⟩ _ _ _ _ hg.1 hg.2.1 hg.2.2.1 hg.2.2.2) gL_isOf_X3_isOf rfl (by decide +kernel) (n := 4) ⟨Nat.le_of_ble_eq_true rfl, Nat.le_of_ble_eq_true rfl⟩ ⟨Nat.zero_le _, Nat.zero_le _⟩ (Nat.le_of_ble_eq_true rfl) rfl rfl dL_isOf_9 (fun rv I9 H locs hp h => ?_)
    obtain ⟨rfl, -⟩ := hp
    refine lv_if_eq (tgt := 19) hx hb dL_isOf_12 (by decide) (fun c_1 => ?_) (fun c_1 => ?_)
    · refine lv_lconst (v := 0) hx hb dL_isOf_19 rfl ?_
      refine w_last C0 h hO hL hno dL_isOf_20 (fun H locs f1 hf1 hO1 hS1 => ?_)
      refine lv_goto (tgt := 28) hx hb dL_isOf_21 (by decide) ?_
      refine lv_iconst (v := nI 0) hx hb dL_isOf_28 (by decide) ?_
      exact w_iret (f1 0) C0 hS1 (fun t ht => ⟨f1, rfl, by rw [ht]; exact hO1⟩) hr ⟨Nat.le_of_ble_eq_true rfl, Nat.le_of_ble_eq_true rfl⟩ dL_isOf_29 (by rw [if_pos hg]; exact ⟨rfl, hf1⟩)
    · exact absurd ((congrArg bI (io_0 a0 a1 a2 a3)).trans rfl) c_1
  · by_cases h1 : isNm a0 = true ∧ isW a1 (nI 15) = true
    · refine lv_aload hx hb dL_isOf_0 (lv_at hl 5 rfl) ?_
      refine lv_iconst (v := nI 0) hx hb dL_isOf_2 (by decide) ?_
      refine lv_aload_n hx hb dL_isOf_3 rfl (lv_at hl 0 rfl) ?_
      refine lv_iload_n hx hb dL_isOf_4 rfl (lv_at hl 1 rfl) ?_
      refine lv_iload_n hx hb dL_isOf_5 rfl (lv_at hl 2 rfl) ?_
      refine lv_iload_n hx hb dL_isOf_6 rfl (lv_at hl 3 rfl) ?_
      refine lv_iload hx hb dL_isOf_7 (lv_at hl 4 rfl) ?_
      refine r_xVI C0 h hX hl.1 _ (by omega) (ce0 k _) rfl (th_X3_isOf_mom l hf k 98 _ hJ _ _ _ _ h1.1 h1.2 (mom_no (fun z => hg ⟨h1.1, h1.2, z⟩))) gL_isOf_X3_isOf rfl (by decide +kernel) (n := 4) ⟨Nat.le_of_ble_eq_true rfl, Nat.le_of_ble_eq_true rfl⟩ ⟨Nat.le_of_ble_eq_true rfl, Nat.le_of_ble_eq_true rfl⟩ (Nat.le_of_ble_eq_true rfl) rfl rfl dL_isOf_9 (fun q9 ce9 H locs h hc1 hc2 hc3 => ?_)
      refine vx_catch (own := RL) (name := sIA) hown [] ⟨0, 21, 24, 13⟩ (tableOf ([(0, 21, 24, 13)].drop 1)) (htab.trans rfl) (fun z hz => absurd hz List.not_mem_nil) (by decide) (by decide) (hts (.classLink RL 13 sIA) (by decide +kernel)) (va_Nw.use rfl (hX.1.2.2.2 (208, 212, sIA) (by decide))) hc1 hc2 hc3 ?_
      refine lv_astore hx hb dL_isOf_24 hl (by decide) rfl (fun ls hl => ?_)
      refine lv_iconst (v := nI 1) hx hb dL_isOf_26 (by decide) ?_
      exact w_iret (f 0) C0 (h.2.wider (fun q z => Or.inl z)) (fun t ht => ⟨f, rfl, by rw [ht]; exact va_P_S1 hO h.2 hno⟩) hr ⟨Nat.le_of_ble_eq_true rfl, Nat.le_of_ble_eq_true rfl⟩ dL_isOf_27 (by rw [if_neg hg])
    · refine lv_aload hx hb dL_isOf_0 (lv_at hl 5 rfl) ?_
      refine lv_iconst (v := nI 0) hx hb dL_isOf_2 (by decide) ?_
      refine lv_aload_n hx hb dL_isOf_3 rfl (lv_at hl 0 rfl) ?_
      refine lv_iload_n hx hb dL_isOf_4 rfl (lv_at hl 1 rfl) ?_
      refine lv_iload_n hx hb dL_isOf_5 rfl (lv_at hl 2 rfl) ?_
      refine lv_iload_n hx hb dL_isOf_6 rfl (lv_at hl 3 rfl) ?_
      refine lv_iload hx hb dL_isOf_7 (lv_at hl 4 rfl) ?_
      refine r_xVI C0 h hX hl.1 _ (by omega) (ce0 k _) rfl (th_X3_isOf_arg l hf k 98 _ hJ _ _ _ _ h1) gL_isOf_X3_isOf rfl (by decide +kernel) (n := 4) ⟨Nat.le_of_ble_eq_true rfl, Nat.le_of_ble_eq_true rfl⟩ ⟨Nat.le_of_ble_eq_true rfl, Nat.le_of_ble_eq_true rfl⟩ (Nat.le_of_ble_eq_true rfl) rfl rfl dL_isOf_9 (fun q9 ce9 H locs h hc1 hc2 hc3 => ?_)
      refine vx_catch (own := RL) (name := sIA) hown [] ⟨0, 21, 24, 13⟩ (tableOf ([(0, 21, 24, 13)].drop 1)) (htab.trans rfl) (fun z hz => absurd hz List.not_mem_nil) (by decide) (by decide) (hts (.classLink RL 13 sIA) (by decide +kernel)) (va_Nw.use rfl (hX.1.2.2.2 (208, 212, sIA) (by decide))) hc1 hc2 hc3 ?_
      refine lv_astore hx hb dL_isOf_24 hl (by decide) rfl (fun ls hl => ?_)
      refine lv_iconst (v := nI 1) hx hb dL_isOf_26 (by decide) ?_
      exact w_iret (f 0) C0 (h.2.wider (fun q z => Or.inl z)) (fun t ht => ⟨f, rfl, by rw [ht]; exact va_P_S1 hO h.2 hno⟩) hr ⟨Nat.le_of_ble_eq_true rfl, Nat.le_of_ble_eq_true rfl⟩ dL_isOf_27 (by rw [if_neg hg])
set_option maxHeartbeats 4000000 in
set_option maxRecDepth 100000 in
theorem lw_meanChain (l : Launch) (hf : l.stackTraces = false) (k : Sk) (hJ : Ij k 98) (ob : Nat) (cL : ClassId) (f : Nat → UInt64) (hne : ∀ n, n < 98 → k.2.1 n ≠ ob) (a0 a1 : Int32) (sz : Nat) : vx_Met l yL_meanChain wsL_meanChain (RmA 14 1 6) (PcW k ob cL .double (.inl (cL, 1, .inr (.inr (.inr (.inl f))))) sz [.ref (k.2.1 0), .int a0, .int a1, .ref ob]) (va_Qi (fun (r : Int32) (x : UInt64) => if isW a0 (nI 999) = true ∧ isW a1 (nI 3) = true then r = nI 0 ∧ x = FP.dconst0 else r = nI 1) (BD k ob cL) (AO k ob sz)) (XW (AO k ob sz)) 1 6 (AO k ob sz) := by
  refine mtW_of (cc := cL_meanChain) (maxL := 5) (hh := [(0, 9, 12, 13)]) hJ hne (by decide) rfl (Nat.le_of_ble_eq_true rfl) ?_
  intro p e s m args below meth c ls C0 h hX hO hL hno htab hr hl
  have hx := C0.1.1
  have hb := C0.1.2.1
  have hown := C0.1.2.2.2.1
  have hts := C0.1.2.2.2.2
  have hl : lv_has ls 5 [(0, _), (1, _), (2, _), (3, _)] := hl
  by_cases hg : isW a0 (nI 999) = true ∧ isW a1 (nI 3) = true
  · refine lv_aload_n hx hb dL_meanChain_0 rfl (lv_at hl 3 rfl) ?_
    refine lv_iconst (v := nI 0) hx hb dL_meanChain_1 (by decide) ?_
    refine lv_aload_n hx hb dL_meanChain_2 rfl (lv_at hl 0 rfl) ?_
    refine lv_iload_n hx hb dL_meanChain_3 rfl (lv_at hl 1 rfl) ?_
    refine lv_iload_n hx hb dL_meanChain_4 rfl (lv_at hl 2 rfl) ?_
    refine r_cVD C0 h hl.1 _ (by omega) (ce0 k _) rfl (ct_X3_meanChain l k 98 _ hJ 0 (by omega) rfl 0 (by omega) rfl ⟨false, rfl⟩ _ _ hg.1 hg.2) gL_meanChain_X3_meanChain rfl (by decide +kernel) (n := 2) ⟨Nat.le_of_ble_eq_true rfl, Nat.le_of_ble_eq_true rfl⟩ ⟨Nat.zero_le _, Nat.zero_le _⟩ (Nat.le_of_ble_eq_true rfl) rfl rfl dL_meanChain_5 (fun rv I9 H locs hp h => ?_)
    obtain ⟨rfl, -⟩ := hp
    refine w_dast C0 h hO hL hno dL_meanChain_8 (fun H locs f1 hf1 hO1 hS1 => ?_)
    refine lv_goto (tgt := 16) hx hb dL_meanChain_9 (by decide) ?_
    refine lv_iconst (v := nI 0) hx hb dL_meanChain_16 (by decide) ?_
    exact w_iret (f1 0) C0 hS1 (fun t ht => ⟨f1, rfl, by rw [ht]; exact hO1⟩) hr ⟨Nat.le_of_ble_eq_true rfl, Nat.le_of_ble_eq_true rfl⟩ dL_meanChain_17 (by rw [if_pos hg]; exact ⟨rfl, by rw [hf1, mc_0]⟩)
  · refine lv_aload_n hx hb dL_meanChain_0 rfl (lv_at hl 3 rfl) ?_
    refine lv_iconst (v := nI 0) hx hb dL_meanChain_1 (by decide) ?_
    refine lv_aload_n hx hb dL_meanChain_2 rfl (lv_at hl 0 rfl) ?_
    refine lv_iload_n hx hb dL_meanChain_3 rfl (lv_at hl 1 rfl) ?_
    refine lv_iload_n hx hb dL_meanChain_4 rfl (lv_at hl 2 rfl) ?_
    refine r_xVD C0 h hX hl.1 _ (by omega) (ce0 k _) rfl (th_X3_meanChain_mom l hf k 98 _ hJ _ _ (mom_no hg)) gL_meanChain_X3_meanChain rfl (by decide +kernel) (n := 2) ⟨Nat.le_of_ble_eq_true rfl, Nat.le_of_ble_eq_true rfl⟩ ⟨Nat.le_of_ble_eq_true rfl, Nat.le_of_ble_eq_true rfl⟩ (Nat.le_of_ble_eq_true rfl) rfl rfl dL_meanChain_5 (fun q9 ce9 H locs h hc1 hc2 hc3 => ?_)
    refine vx_catch (own := RL) (name := sIA) hown [] ⟨0, 9, 12, 13⟩ (tableOf ([(0, 9, 12, 13)].drop 1)) (htab.trans rfl) (fun z hz => absurd hz List.not_mem_nil) (by decide) (by decide) (hts (.classLink RL 13 sIA) (by decide +kernel)) (va_Nw.use rfl (hX.1.2.2.2 (208, 212, sIA) (by decide))) hc1 hc2 hc3 ?_
    refine lv_astore hx hb dL_meanChain_12 hl (by decide) rfl (fun ls hl => ?_)
    refine lv_iconst (v := nI 1) hx hb dL_meanChain_14 (by decide) ?_
    exact w_iret (f 0) C0 (h.2.wider (fun q z => Or.inl z)) (fun t ht => ⟨f, rfl, by rw [ht]; exact va_P_S1 hO h.2 hno⟩) hr ⟨Nat.le_of_ble_eq_true rfl, Nat.le_of_ble_eq_true rfl⟩ dL_meanChain_15 (by rw [if_neg hg])
set_option maxHeartbeats 4000000 in
set_option maxRecDepth 100000 in
theorem lw_holdsTo (l : Launch) (hf : l.stackTraces = false) (k : Sk) (hJ : Ij k 98) (ob : Nat) (cL : ClassId) (f : Nat → Int64) (hne : ∀ n, n < 98 → k.2.1 n ≠ ob) (a0 a1 a2 : Int32) (sz : Nat) : vx_Met l yL_holdsTo wsL_holdsTo (RmA 14 1 6) (PcW k ob cL .long (.inl (cL, 1, .inr (.inl f))) sz [.ref (k.2.1 0), .int a0, .int a1, .int a2, .ref ob]) (va_Qi (fun (r : Int32) (_ : Int64) => r = nI 1) (BL k ob cL) (AO k ob sz)) (XW (AO k ob sz)) 1 6 (AO k ob sz) := by
  refine mtW_of (cc := cL_holdsTo) (maxL := 6) (hh := [(0, 12, 15, 21), (0, 12, 19, 13)]) hJ hne (by decide) rfl (Nat.le_of_ble_eq_true rfl) ?_
  intro p e s m args below meth c ls C0 h hX hO hL hno htab hr hl
  have hx := C0.1.1
  have hb := C0.1.2.1
  have hown := C0.1.2.2.2.1
  have hts := C0.1.2.2.2.2
  have hl : lv_has ls 6 [(0, _), (1, _), (2, _), (3, _), (4, _)] := hl
  refine lv_aload hx hb dL_holdsTo_0 (lv_at hl 4 rfl) ?_
  refine lv_iconst (v := nI 0) hx hb dL_holdsTo_2 (by decide) ?_
  refine lv_aload_n hx hb dL_holdsTo_3 rfl (lv_at hl 0 rfl) ?_
  refine lv_iload_n hx hb dL_holdsTo_4 rfl (lv_at hl 1 rfl) ?_
  refine lv_iload_n hx hb dL_holdsTo_5 rfl (lv_at hl 2 rfl) ?_
  refine lv_iload_n hx hb dL_holdsTo_6 rfl (lv_at hl 3 rfl) ?_
  refine r_xVI C0 h hX hl.1 _ (by omega) (ce0 k _) rfl (th_X3_holdsTo_no l hf k 98 _ hJ 0 rfl _ (isLt_0 _) _ _) gL_holdsTo_X3_holdsTo rfl (by decide +kernel) (n := 3) ⟨Nat.le_of_ble_eq_true rfl, Nat.le_of_ble_eq_true rfl⟩ ⟨Nat.le_of_ble_eq_true rfl, Nat.le_of_ble_eq_true rfl⟩ (Nat.le_of_ble_eq_true rfl) rfl rfl dL_holdsTo_7 (fun q9 ce9 H locs h hc1 hc2 hc3 => ?_)
  refine vx_catch (own := RL) (name := sIO) hown [] ⟨0, 12, 15, 21⟩ (tableOf ([(0, 12, 15, 21), (0, 12, 19, 13)].drop 1)) (htab.trans rfl) (fun z hz => absurd hz List.not_mem_nil) (by decide) (by decide) (hts (.classLink RL 21 sIO) (by decide +kernel)) (va_Nw.use rfl (hX.1.2.2.2 (216, 220, sIO) (by decide))) hc1 hc2 hc3 ?_
  refine lv_astore hx hb dL_holdsTo_15 hl (by decide) rfl (fun ls hl => ?_)
  refine lv_iconst (v := nI 1) hx hb dL_holdsTo_17 (by decide) ?_
  exact w_iret (f 0) C0 (h.2.wider (fun q z => Or.inl z)) (fun t ht => ⟨f, rfl, by rw [ht]; exact va_P_S1 hO h.2 hno⟩) hr ⟨Nat.le_of_ble_eq_true rfl, Nat.le_of_ble_eq_true rfl⟩ dL_holdsTo_18 rfl
set_option maxHeartbeats 4000000 in
set_option maxRecDepth 100000 in
theorem lw_otherwise (l : Launch) (hf : l.stackTraces = false) (k : Sk) (hJ : Ij k 98) (ob : Nat) (cL : ClassId) (f : Nat → Int64) (hne : ∀ n, n < 98 → k.2.1 n ≠ ob) (a0 a1 a2 : Int32) (sz : Nat) : vx_Met l yL_otherwise wsL_otherwise (RmA 14 1 6) (PcW k ob cL .long (.inl (cL, 1, .inr (.inl f))) sz [.ref (k.2.1 0), .int a0, .int a1, .int a2, .ref ob]) (va_Qi (fun (r : Int32) (_ : Int64) => r = nI 1) (BL k ob cL) (AO k ob sz)) (XW (AO k ob sz)) 1 6 (AO k ob sz) := by
  refine mtW_of (cc := cL_otherwise) (maxL := 6) (hh := [(0, 12, 15, 21), (0, 12, 19, 13)]) hJ hne (by decide) rfl (Nat.le_of_ble_eq_true rfl) ?_
  intro p e s m args below meth c ls C0 h hX hO hL hno htab hr hl
  have hx := C0.1.1
  have hb := C0.1.2.1
  have hown := C0.1.2.2.2.1
  have hts := C0.1.2.2.2.2
  have hl : lv_has ls 6 [(0, _), (1, _), (2, _), (3, _), (4, _)] := hl
  refine lv_aload hx hb dL_otherwise_0 (lv_at hl 4 rfl) ?_
  refine lv_iconst (v := nI 0) hx hb dL_otherwise_2 (by decide) ?_
  refine lv_aload_n hx hb dL_otherwise_3 rfl (lv_at hl 0 rfl) ?_
  refine lv_iload_n hx hb dL_otherwise_4 rfl (lv_at hl 1 rfl) ?_
  refine lv_iload_n hx hb dL_otherwise_5 rfl (lv_at hl 2 rfl) ?_
  refine lv_iload_n hx hb dL_otherwise_6 rfl (lv_at hl 3 rfl) ?_
  refine r_xVI C0 h hX hl.1 _ (by omega) (ce0 k _) rfl (th_X3_otherwise_no l hf k 98 _ hJ 0 rfl _ (isLt_0 _) _ _) gL_otherwise_X3_otherwise rfl (by decide +kernel) (n := 3) ⟨Nat.le_of_ble_eq_true rfl, Nat.le_of_ble_eq_true rfl⟩ ⟨Nat.le_of_ble_eq_true rfl, Nat.le_of_ble_eq_true rfl⟩ (Nat.le_of_ble_eq_true rfl) rfl rfl dL_otherwise_7 (fun q9 ce9 H locs h hc1 hc2 hc3 => ?_)
  refine vx_catch (own := RL) (name := sIO) hown [] ⟨0, 12, 15, 21⟩ (tableOf ([(0, 12, 15, 21), (0, 12, 19, 13)].drop 1)) (htab.trans rfl) (fun z hz => absurd hz List.not_mem_nil) (by decide) (by decide) (hts (.classLink RL 21 sIO) (by decide +kernel)) (va_Nw.use rfl (hX.1.2.2.2 (216, 220, sIO) (by decide))) hc1 hc2 hc3 ?_
  refine lv_astore hx hb dL_otherwise_15 hl (by decide) rfl (fun ls hl => ?_)
  refine lv_iconst (v := nI 1) hx hb dL_otherwise_17 (by decide) ?_
  exact w_iret (f 0) C0 (h.2.wider (fun q z => Or.inl z)) (fun t ht => ⟨f, rfl, by rw [ht]; exact va_P_S1 hO h.2 hno⟩) hr ⟨Nat.le_of_ble_eq_true rfl, Nat.le_of_ble_eq_true rfl⟩ dL_otherwise_18 rfl
set_option maxHeartbeats 4000000 in
set_option maxRecDepth 100000 in
theorem lw_stolen (l : Launch) (hf : l.stackTraces = false) (k : Sk) (hJ : Ij k 98) (ob : Nat) (cL : ClassId) (f : Nat → Int64) (hne : ∀ n, n < 98 → k.2.1 n ≠ ob) (a0 a1 a2 : Int32) (sz : Nat) : vx_Met l yL_stolen wsL_stolen (RmA 14 1 6) (PcW k ob cL .long (.inl (cL, 1, .inr (.inl f))) sz [.ref (k.2.1 0), .int a0, .int a1, .int a2, .ref ob]) (va_Qi (fun (r : Int32) (x : Int64) => if isW a0 (nI 15) = true ∧ isW a1 (nI 999) = true ∧ isW a2 (nI 3) = true then r = nI 0 ∧ x = (nI 0).toInt64 else r = nI 1) (BL k ob cL) (AO k ob sz)) (XW (AO k ob sz)) 1 6 (AO k ob sz) := by
  refine mtW_of (cc := cL_stolen) (maxL := 6) (hh := [(0, 12, 15, 13)]) hJ hne (by decide) rfl (Nat.le_of_ble_eq_true rfl) ?_
  intro p e s m args below meth c ls C0 h hX hO hL hno htab hr hl
  have hx := C0.1.1
  have hb := C0.1.2.1
  have hown := C0.1.2.2.2.1
  have hts := C0.1.2.2.2.2
  have hl : lv_has ls 6 [(0, _), (1, _), (2, _), (3, _), (4, _)] := hl
  by_cases hg : isW a0 (nI 15) = true ∧ isW a1 (nI 999) = true ∧ isW a2 (nI 3) = true
  · refine lv_aload hx hb dL_stolen_0 (lv_at hl 4 rfl) ?_
    refine lv_iconst (v := nI 0) hx hb dL_stolen_2 (by decide) ?_
    refine lv_aload_n hx hb dL_stolen_3 rfl (lv_at hl 0 rfl) ?_
    refine lv_iload_n hx hb dL_stolen_4 rfl (lv_at hl 1 rfl) ?_
    refine lv_iload_n hx hb dL_stolen_5 rfl (lv_at hl 2 rfl) ?_
    refine lv_iload_n hx hb dL_stolen_6 rfl (lv_at hl 3 rfl) ?_
    refine r_cVI C0 h hl.1 _ (by omega) (ce0 k _) rfl (ct_X3_stolen l k 98 _ hJ 0 (by omega) rfl 0 (by omega) rfl ⟨false, rfl⟩ _ hg.1 _ _ hg.2.1 hg.2.2) gL_stolen_X3_stolen rfl (by decide +kernel) (n := 3) ⟨Nat.le_of_ble_eq_true rfl, Nat.le_of_ble_eq_true rfl⟩ ⟨Nat.zero_le _, Nat.zero_le _⟩ (Nat.le_of_ble_eq_true rfl) rfl rfl dL_stolen_7 (fun rv I9 H locs hp h => ?_)
    obtain ⟨rfl, -⟩ := hp
    refine lv_i2l hx hb dL_stolen_10 rfl ?_
    refine w_last C0 h hO hL hno dL_stolen_11 (fun H locs f1 hf1 hO1 hS1 => ?_)
    refine lv_goto (tgt := 19) hx hb dL_stolen_12 (by decide) ?_
    refine lv_iconst (v := nI 0) hx hb dL_stolen_19 (by decide) ?_
    exact w_iret (f1 0) C0 hS1 (fun t ht => ⟨f1, rfl, by rw [ht]; exact hO1⟩) hr ⟨Nat.le_of_ble_eq_true rfl, Nat.le_of_ble_eq_true rfl⟩ dL_stolen_20 (by rw [if_pos hg]; exact ⟨rfl, by rw [hf1, st_0]⟩)
  · by_cases h1 : isW a0 (nI 15) = true
    · refine lv_aload hx hb dL_stolen_0 (lv_at hl 4 rfl) ?_
      refine lv_iconst (v := nI 0) hx hb dL_stolen_2 (by decide) ?_
      refine lv_aload_n hx hb dL_stolen_3 rfl (lv_at hl 0 rfl) ?_
      refine lv_iload_n hx hb dL_stolen_4 rfl (lv_at hl 1 rfl) ?_
      refine lv_iload_n hx hb dL_stolen_5 rfl (lv_at hl 2 rfl) ?_
      refine lv_iload_n hx hb dL_stolen_6 rfl (lv_at hl 3 rfl) ?_
      refine r_xVI C0 h hX hl.1 _ (by omega) (ce0 k _) rfl (th_X3_stolen_mom l hf k 98 _ hJ _ _ _ h1 (mom_no (fun z => hg ⟨h1, z⟩))) gL_stolen_X3_stolen rfl (by decide +kernel) (n := 3) ⟨Nat.le_of_ble_eq_true rfl, Nat.le_of_ble_eq_true rfl⟩ ⟨Nat.le_of_ble_eq_true rfl, Nat.le_of_ble_eq_true rfl⟩ (Nat.le_of_ble_eq_true rfl) rfl rfl dL_stolen_7 (fun q9 ce9 H locs h hc1 hc2 hc3 => ?_)
      refine vx_catch (own := RL) (name := sIA) hown [] ⟨0, 12, 15, 13⟩ (tableOf ([(0, 12, 15, 13)].drop 1)) (htab.trans rfl) (fun z hz => absurd hz List.not_mem_nil) (by decide) (by decide) (hts (.classLink RL 13 sIA) (by decide +kernel)) (va_Nw.use rfl (hX.1.2.2.2 (208, 212, sIA) (by decide))) hc1 hc2 hc3 ?_
      refine lv_astore hx hb dL_stolen_15 hl (by decide) rfl (fun ls hl => ?_)
      refine lv_iconst (v := nI 1) hx hb dL_stolen_17 (by decide) ?_
      exact w_iret (f 0) C0 (h.2.wider (fun q z => Or.inl z)) (fun t ht => ⟨f, rfl, by rw [ht]; exact va_P_S1 hO h.2 hno⟩) hr ⟨Nat.le_of_ble_eq_true rfl, Nat.le_of_ble_eq_true rfl⟩ dL_stolen_18 (by rw [if_neg hg])
    · refine lv_aload hx hb dL_stolen_0 (lv_at hl 4 rfl) ?_
      refine lv_iconst (v := nI 0) hx hb dL_stolen_2 (by decide) ?_
      refine lv_aload_n hx hb dL_stolen_3 rfl (lv_at hl 0 rfl) ?_
      refine lv_iload_n hx hb dL_stolen_4 rfl (lv_at hl 1 rfl) ?_
      refine lv_iload_n hx hb dL_stolen_5 rfl (lv_at hl 2 rfl) ?_
      refine lv_iload_n hx hb dL_stolen_6 rfl (lv_at hl 3 rfl) ?_
      refine r_xVI C0 h hX hl.1 _ (by omega) (ce0 k _) rfl (th_X3_stolen_key l hf k 98 _ hJ _ _ _ (Bool.eq_false_iff.mpr h1)) gL_stolen_X3_stolen rfl (by decide +kernel) (n := 3) ⟨Nat.le_of_ble_eq_true rfl, Nat.le_of_ble_eq_true rfl⟩ ⟨Nat.le_of_ble_eq_true rfl, Nat.le_of_ble_eq_true rfl⟩ (Nat.le_of_ble_eq_true rfl) rfl rfl dL_stolen_7 (fun q9 ce9 H locs h hc1 hc2 hc3 => ?_)
      refine vx_catch (own := RL) (name := sIA) hown [] ⟨0, 12, 15, 13⟩ (tableOf ([(0, 12, 15, 13)].drop 1)) (htab.trans rfl) (fun z hz => absurd hz List.not_mem_nil) (by decide) (by decide) (hts (.classLink RL 13 sIA) (by decide +kernel)) (va_Nw.use rfl (hX.1.2.2.2 (208, 212, sIA) (by decide))) hc1 hc2 hc3 ?_
      refine lv_astore hx hb dL_stolen_15 hl (by decide) rfl (fun ls hl => ?_)
      refine lv_iconst (v := nI 1) hx hb dL_stolen_17 (by decide) ?_
      exact w_iret (f 0) C0 (h.2.wider (fun q z => Or.inl z)) (fun t ht => ⟨f, rfl, by rw [ht]; exact va_P_S1 hO h.2 hno⟩) hr ⟨Nat.le_of_ble_eq_true rfl, Nat.le_of_ble_eq_true rfl⟩ dL_stolen_18 (by rw [if_neg hg])
