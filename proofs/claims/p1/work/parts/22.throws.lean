/-! 22: what a throw stands on, and the methods that refuse (launches without stack traces) -/
abbrev exN : List String := ["java/lang/RuntimeException", "java/lang/Exception"]
abbrev exI (C : String) : MethodName := ⟨C, "<init>", "(Ljava/lang/String;)V"⟩
abbrev sIA : String := "java/lang/IllegalArgumentException"
abbrev sIS : String := "java/lang/IllegalStateException"
abbrev sIO : String := "java/lang/IndexOutOfBoundsException"
/-- the class's place, its constructor's place, its name -/
abbrev exQ : List (Nat × Nat × String) := [(208, 212, sIA), (52, 56, sIS), (216, 220, sIO)]
abbrev txS : List (Nat × String) := [(210, "an argument is out of its range"), (54, "there is no room for another letter"), (122, "there is no room for another list"), (218, "there is no such letter"), (221, "there is no such list")]
def TX (A : Nat → Prop) (U : State) : Prop := (va_Nw (.declares (exI "java/lang/RuntimeException")) U ∧ va_Nw (.declares (exI "java/lang/Exception")) U ∧ va_Nw (.declares (exI "java/lang/Throwable")) U ∧ ∀ q ∈ exQ, va_Nw (.castable q.2.2 q.2.2) U) ∧ (vx_Zq Bundle.tN "UNASSIGNED_STACK" Bundle.steD A U U.heap ∧ vx_Zq Bundle.tN "SUPPRESSED_SENTINEL" Bundle.listD A U U.heap) ∧ ∀ q ∈ txS, ∃ a, vk_R RX3 q.1 q.2 a U
theorem vx_Zq.same {C n d : String} {A : Nat → Prop} {u U : State} {H : Heap} (hv : u.vm = U.vm) (h : vx_Zq C n d A u H) : vx_Zq C n d A U H := h.moved (by rw [hv]; exact Vm.Alike.refl _)
theorem TX.same {A : Nat → Prop} {u U : State} (hv : u.vm = U.vm) (hh : u.heap = U.heap) (h : TX A u) : TX A U := by
  obtain ⟨⟨h1, h2, h3, h4⟩, ⟨h5, h6⟩, h7⟩ := h
  refine ⟨⟨va_Nw.same rfl hv h1, va_Nw.same rfl hv h2, va_Nw.same rfl hv h3, fun q hq => va_Nw.same rfl hv (h4 q hq)⟩, ⟨?_, ?_⟩, fun q hq => ?_⟩
  · rw [← hh]; exact h5.same hv
  · rw [← hh]; exact h6.same hv
  · obtain ⟨a, ha⟩ := h7 q hq
    exact ⟨a, vk_R.same hv.symm ha⟩
/-- another heap, in which what lies outside of A is as it was -/
theorem TX.go {A B : Nat → Prop} {s U : State} (h : TX A s) (hW : s.WarmedH U.vm) (hk : ∀ a : Nat, a < s.heap.size → ¬ A a → U.heap[a]? = s.heap[a]?) (hAB : ∀ q, B q → A q) : TX B U := by
  obtain ⟨⟨h1, h2, h3, h4⟩, ⟨h5, h6⟩, h7⟩ := h
  refine ⟨⟨va_Nw.warmD hW h1, va_Nw.warmD hW h2, va_Nw.warmD hW h3, fun q hq => va_Nw.warmC hW (h4 q hq)⟩, ⟨((h5.moved hW.alike).kept hk).narrow hAB, ((h6.moved hW.alike).kept hk).narrow hAB⟩, fun q hq => ?_⟩
  obtain ⟨a, ha⟩ := h7 q hq
  exact ⟨a, vk_R.warm hW ha⟩
theorem ex_ok : ∀ q ∈ exQ, Bundle.fit q.2.2 = true ∧ (∀ w ∈ (vx_atS RX3 q.2.1 q.2.2 exN).filter (fun w => !goodWord w), w ∈ [Cond.declares (exI "java/lang/RuntimeException"), Cond.declares (exI "java/lang/Exception"), Cond.declares (exI "java/lang/Throwable"), Cond.castable q.2.2 q.2.2]) ∧ (∀ w ∈ Cond.classLink RX3 q.1 q.2.2 :: Cond.initialized q.2.2 :: vx_atS RX3 q.2.1 q.2.2 exN, vx_ot w = true) := by decide +kernel
theorem exN_ok : ∀ n ∈ exN, Bundle.fit n = true := by decide +kernel
abbrev PcT (k : Sk) (M : Nat) (I : IS) (sz : Nat) (av : List Value) : Array Value → State → Prop := va_Pc av (fun U => U.heap.size = sz ∧ va_P k.1 clX (Wd k M I) U.heap ∧ va_K k.1 clX (tyK k) U ∧ Tb U ∧ TX (AX k M sz) U)
theorem pcT_blind (k : Sk) (M : Nat) (I : IS) (sz : Nat) (av : List Value) : FrameBlind (PcT k M I sz av) := by
  rintro a U g mk ⟨q0, q1, qP, qK, qT, qX⟩
  exact ⟨q0, q1, qP, va_K.moved (u := U) (U := U.calling g mk a) (Vm.Alike.refl U.vm) qK, Tb.same (u := U) (U := U.calling g mk a) rfl qT, TX.same (u := U) (U := U.calling g mk a) rfl rfl qX⟩
/-- it was thrown, and the cells are as they were -/
abbrev XT (k : Sk) (M : Nat) (I : IS) (E : String) (A : Nat → Prop) : String → State → State → Prop := vx_X (fun _ : Unit => True) (fun E' _ t => E' = E ∧ va_P k.1 clX (Wd k M I) t.heap) A
abbrev TtI (l : Launch) (y : MethodName) (ws : List Cond) (d : Nat) (av : List Value) (k : Sk) (M : Nat) (I : IS) (E : String) : Prop := ∀ sz : Nat, vx_Met l y ws (RmA d 1 6) (PcT k M I sz av) (va_Qi (fun (_ : Int32) (_ : IS) => False) (EnX k M) (AX k M sz)) (XT k M I E (AX k M sz)) 1 6 (AX k M sz)
abbrev TtV (l : Launch) (y : MethodName) (ws : List Cond) (d : Nat) (av : List Value) (k : Sk) (M : Nat) (I : IS) (E : String) : Prop := ∀ sz : Nat, vx_Met l y ws (RmA d 1 6) (PcT k M I sz av) (va_Qv (fun (_ : IS) => False) (EnX k M) (AX k M sz)) (XT k M I E (AX k M sz)) 1 6 (AX k M sz)
theorem mtT_of {l : Launch} {y : MethodName} {ws ws' : List Cond} {d : Nat} {av : List Value} {k : Sk} {M : Nat} {I : IS} {E : String} {cc : ByteArray} {maxL sz : Nat} {ret : Option FieldType} {Qc : Array Value → State → Outcome → State → Prop} (hJ : Ij k M) (hy : plainName y.cls = true) (hw : ws = Cond.code y cc maxL ret :: ws') (hlen : (lg_sl av).length ≤ maxL)
    (body : ∀ (p : Program) (e : Env) (s : State) (m : MethodId) (args : Array Value) (below : List Frame) (meth : Method) (c : Code) (A : Nat → Prop) (ls : Array Slot), CX p s m args c cc maxL ws y.cls k M A → HX k M A s I s.heap [] → TX A s → ((∀ x ∈ c.exceptionTable.toList, False) ∧ meth.locks = false) → lv_has ls maxL (lv_args 0 av) → W p l e (RmA d 1 6) s m args below meth c s.heap [] 0 0 (vx_MQ below Qc (XT k M I E A) args s 1 6 A) (F0 m 0 ls [])) :
    vx_Met l y ws (RmA d 1 6) (PcT k M I sz av) Qc (XT k M I E (AX k M sz)) 1 6 (AX k M sz) := by
  refine vx_ofW (cc := cc) (maxL := maxL) (ret := ret) hy hw ?_
  intro p e s m args below meth c s₁ B hml htab hv
  obtain ⟨rfl, rfl, hP, hK, hT, hX⟩ := hv
  have hts := atoms_spec (ws := ws) B.pre
  have hown : s.vm.findClass y.cls = some m.cls := findClass_of_methodNamed B.named
  have hl := lv_entry av (n := maxL) hlen
  rw [lg_entry_eq]
  exact body p e s m av.toArray below meth c (AX k M s.heap.size) _ ⟨⟨B.exec, B.bytes, hml, hown, hts⟩, hT, hK, hJ, fun n h => Or.inl ⟨n, h, rfl⟩, fun q h => Or.inr h⟩ ⟨hP, va_S.rf⟩ hX ⟨htab, B.notSynchronized⟩ hl
section RT
variable {p : Program} {l : Launch} {e : Env} {R : Room} {s : State} {m : MethodId} {args : Array Value} {below : List Frame} {meth : Method} {c : Code} {H : Heap} {locs : List Loc} {cells slots : Nat}
variable {cc : ByteArray} {nL : Nat} {Ts : List Cond} {own : String} {k : Sk} {M : Nat} {A : Nat → Prop} {I : IS} {pc : Nat} {ls : Array Slot} {rest : List Value} {Qc : Array Value → State → Outcome → State → Prop}
theorem hx_T (C0 : CX p s m args c cc nL Ts own k M A) (h : HX k M A s I H locs) (hX : TX A s) {U : State} (hU : U.heap = H) (hW : s.WarmedH U.vm) : TX (AX k M H.size) U := hX.go hW (fun a h1 h2 => by rw [hU]; exact h.2.2.1 a h1 h2) (hx_free C0 h)
/-- new E(text), thrown -/
theorem r_throw {E tx : String} {ik is ic d : Nat} (C0 : CX p s m args c cc nL Ts RX3 k M A) (h : HX k M A s I H locs) (hX : TX A s) (hls : ls.size = nL) (hl : l.stackTraces = false) (hE : (ik, ic, E) ∈ exQ) (hq : (is, tx) ∈ txS)
    (hk : Cond.classLink RX3 ik E ∈ Ts) (hini : Cond.initialized E ∈ Ts) (hin : ∀ w ∈ (vx_atS RX3 ic E exN).filter goodWord, w ∈ Ts) (hr : (∀ x ∈ c.exceptionTable.toList, False) ∧ meth.locks = false) (hd : 6 ≤ d)
    (d0 : decode cc pc = .ok (.new ik, 3)) (d3 : decode cc (pc + 3) = .ok (.dup, 1)) (d4 : decode cc (pc + 4) = .ok (.ldc is, 2)) (d6 : decode cc (pc + 6) = .ok (.invokespecial ic, 3)) (d9 : decode cc (pc + 9) = .ok (.athrow, 1)) :
    W p l e (RmA d 1 6) s m args below meth c H locs 0 0 (vx_MQ below Qc (XT k M I E A) args s 1 6 A) (F0 m pc ls []) := by
  obtain ⟨⟨x1, x2, x3, x4⟩, ⟨x5, x6⟩, x7⟩ := hX
  obtain ⟨sa, hsa⟩ := x7 _ hq
  obtain ⟨f1, f2, f3⟩ := ex_ok _ hE
  have hts := C0.1.2.2.2.2
  refine vx_throwS C0.1.1 C0.1.2.1 hl C0.1.2.2.2.1 f1 exN_ok (hts _ hk) (hts _ hini) hsa (vx_hat (fun w hw => hts w (hin w hw)) f2 (vx_c (va_Nw.use rfl x1) (vx_c (va_Nw.use rfl x2) (vx_c (va_Nw.use rfl x3) (vx_c (va_Nw.use rfl (x4 _ hE)) vx_n))))) f3 x5 x6 h.2 (hls.trans C0.1.2.2.1.symm) d0 d3 d4 d6 d9 (fun x hx => (hr.1 x hx).elim) ?_ ?_ ?_ ?_ hr.2 ?_ h.2.2.2 ?_ ?_
  · show 2 + 3 < d; omega
  · show 0 + (13 * (2 + 1) + 43) ≤ 64 * d; omega
  · exact Nat.le_refl _
  · exact Nat.le_refl _
  · intro t hv hz hk9
    refine ⟨(), trivial, ⟨rfl, fun n q hq9 => ?_⟩, ?_⟩
    · exact (h.1 n q hq9).kept (hk9 _ (h.1 n q hq9).lt)
    · exact ⟨Nat.le_trans h.2.1 hz, fun q h1 h2 => by rw [hk9 q (Nat.lt_of_lt_of_le h1 h.2.1)]; exact h.2.2.1 q h1 h2⟩
  · exact Nat.le_refl _
  · exact Nat.le_refl _
/-- a callee has thrown, and nothing here catches it -/
theorem r_out {E E' : String} {ce : Cell} {q9 : Addr} {d cl9 sl9 : Nat} (hr : (∀ x ∈ c.exceptionTable.toList, False) ∧ meth.locks = false) (hE : E' = E) (hP : va_P k.1 clX (Wd k M I) H) (hS : va_S A s.heap H locs) (hcell : H[q9]? = some ce) (hv : ce.vm = .none) (hcl : s.vm.findClass E' = some ce.cls) (hc : cl9 ≤ 1 ∧ sl9 ≤ 6) :
    vx_W p l e (RmA d 1 6) s m args below meth c H locs cl9 sl9 (vx_MQ below Qc (XT k M I E A) args s 1 6 A) (F0 m pc ls rest) q9 :=
  vx_out (fun x hx => (hr.1 x hx).elim) hr.2 hcell hv hcl (fun t ht ha => ⟨(), trivial, ⟨hE, by rw [ht]; exact hP⟩, hS.F ht⟩) hS.2.2 hc.1 hc.2
/-- a call of a method of the room that refuses -/
theorem r_tVV {y : MethodName} {bytes : ByteArray} {maxL index d d2 n : Nat} {ret : Option FieldType} {ws ws' : List Cond} {As : List Value} {E : String} {st0 : List Value} {C : vw_C} {ci : Nat} {fs : List Value} (C0 : CX p s m args c cc nL Ts own k M A) (h : HX k M A s I H locs) (hX : TX A s) (hr : (∀ x ∈ c.exceptionTable.toList, False) ∧ meth.locks = false) (hls : ls.size = nL) (o : Nat) (ho : o < M) (he : ceX k o (I o) = .inr (ci, fs)) (hci : clX[ci]? = some C) (hM : TtV l y ws d2 (.ref (k.2.1 o) :: As) k M I E) (hG : GoodIn Ts (wsV own index C.1 y ws)) (hw : ws = Cond.code y bytes maxL ret :: ws') (hd : y.cls = C.1 ∧ y.cls ≠ "java/lang/invoke/MethodHandle" ∧ y.cls ≠ "java/lang/invoke/VarHandle" ∧ (parseMethodDescriptor y.desc).map (fun d => d.parameters.length) = some n)
    (hR : d2 + 1 ≤ d ∧ 8 + (maxL + 11) + 64 * d2 ≤ 64 * d) (hrest : (rest.map fun v => v.category).sum ≤ 8) (hn : As.length = n) (hst : st0 = As.reverse ++ .ref (k.2.1 o) :: rest) (hdg : decode cc pc = .ok (.invokevirtual index, 3)) :
    W p l e (RmA d 1 6) s m args below meth c H locs 0 0 (vx_MQ below Qc (XT k M I E A) args s 1 6 A) (F0 m pc ls st0) := by
  have hA := hx_free C0 h
  refine vx_callv (vx_runV (As := As) (rest := rest) C0.1 (hM H.size) (cwV n C0.1.2.2.2.2 hG hw rfl rfl hd hR) ⟨pcT_blind k M I H.size _, hx_recv C0 h ho he hci, fun U hU hW => ⟨rfl, by rw [hU], by rw [hU]; exact h.1, va_K.moved hW.alike C0.2.2.1, Tb.warm hW C0.2.1, hx_T C0 h hX hU hW⟩⟩ rfl hn hls hst (lv_room hrest) hdg ⟨Nat.le_refl _, Nat.le_refl _⟩) h.2 (fun q _ hq => hA q hq) hA (fun q _ hq => hA q hq) (fun E9 ce q9 u t H1 locs1 ht hvm _ hb hz hkp hS hc1 hc2 hc3 => ?_) (fun u t H1 locs1 _ _ hp => hp.elim)
  exact r_out hr hb.1 (by rw [← ht]; exact hb.2) hS hc1 hc2 hc3 ⟨Nat.le_refl _, Nat.le_refl _⟩
theorem r_tSV {y : MethodName} {bytes : ByteArray} {maxL index d d2 n : Nat} {ret : Option FieldType} {ws ws' : List Cond} {As : List Value} {E : String} {st0 : List Value} (C0 : CX p s m args c cc nL Ts own k M A) (h : HX k M A s I H locs) (hX : TX A s) (hr : (∀ x ∈ c.exceptionTable.toList, False) ∧ meth.locks = false) (hls : ls.size = nL) (hM : TtV l y ws d2 As k M I E) (hG : GoodIn Ts (va_wsS own index y ws)) (hw : ws = Cond.code y bytes maxL ret :: ws') (hd : y.cls ≠ "java/lang/invoke/MethodHandle" ∧ y.cls ≠ "java/lang/invoke/VarHandle" ∧ (parseMethodDescriptor y.desc).map (fun d => d.parameters.length) = some n)
    (hR : d2 + 1 ≤ d ∧ 8 + (maxL + 11) + 64 * d2 ≤ 64 * d) (hrest : (rest.map fun v => v.category).sum ≤ 8) (hn : As.length = n) (hst : st0 = As.reverse ++ rest) (hdg : decode cc pc = .ok (.invokestatic index, 3)) :
    W p l e (RmA d 1 6) s m args below meth c H locs 0 0 (vx_MQ below Qc (XT k M I E A) args s 1 6 A) (F0 m pc ls st0) := by
  have hA := hx_free C0 h
  refine vx_callv (vx_runS (As := As) (rest := rest) C0.1 (hM H.size) (va_cwS n C0.1.2.2.2.2 hG hw rfl rfl hd hR) ⟨pcT_blind k M I H.size _, fun U hU hW => ⟨rfl, by rw [hU], by rw [hU]; exact h.1, va_K.moved hW.alike C0.2.2.1, Tb.warm hW C0.2.1, hx_T C0 h hX hU hW⟩⟩ rfl hn hls hst (lv_room hrest) hdg ⟨Nat.le_refl _, Nat.le_refl _⟩) h.2 (fun q _ hq => hA q hq) hA (fun q _ hq => hA q hq) (fun E9 ce q9 u t H1 locs1 ht hvm _ hb hz hkp hS hc1 hc2 hc3 => ?_) (fun u t H1 locs1 _ _ hp => hp.elim)
  exact r_out hr hb.1 (by rw [← ht]; exact hb.2) hS hc1 hc2 hc3 ⟨Nat.le_refl _, Nat.le_refl _⟩
end RT
set_option maxHeartbeats 4000000 in
set_option maxRecDepth 100000 in
theorem th_X3_refuseUnless (l : Launch) (hf : l.stackTraces = false) (k : Sk) (M : Nat) (I : IS) (hJ : Ij k M) : TtV l yX3_refuseUnless wsX3_refuseUnless 6 [.int 0] k M I sIA := by
  intro sz
  refine mtT_of (cc := cX3_refuseUnless) (maxL := 1) (ret := none) hJ (by decide) rfl (Nat.le_of_ble_eq_true rfl) ?_
  intro p e s m args below meth c A ls C0 h hX hr hl
  have hx := C0.1.1
  have hb := C0.1.2.1
  have hM98 : 98 ≤ M := hJ.1
  have hl : lv_has ls 1 [(0, .int 0)] := hl
  refine lv_iload_n hx hb dX3_refuseUnless_0 rfl (lv_at hl 0 rfl) ?_
  refine lv_if_ne (tgt := 14) hx hb dX3_refuseUnless_1 (by decide) (fun c1 => absurd rfl c1) (fun _ => ?_)
  exact r_throw C0 h hX hl.1 hf (ik := 208) (ic := 212) (is := 210) (by decide) (List.mem_of_getElem? (i := 0) rfl) (by decide +kernel) (by decide +kernel) (by decide +kernel) hr (Nat.le_refl _) dX3_refuseUnless_4 dX3_refuseUnless_7 dX3_refuseUnless_8 dX3_refuseUnless_10 dX3_refuseUnless_13
set_option maxHeartbeats 4000000 in
set_option maxRecDepth 100000 in
theorem th_X3_refuseUnlessList (l : Launch) (hf : l.stackTraces = false) (k : Sk) (M : Nat) (I : IS) (hJ : Ij k M) (x : Int32) (hno : x < 0 ∨ (¬ x < 0 ∧ ¬ x < I 0 5)) : TtV l yX3_refuseUnlessList wsX3_refuseUnlessList 6 [.ref (k.2.1 0), .int x] k M I sIO := by
  intro sz
  refine mtT_of (cc := cX3_refuseUnlessList) (maxL := 2) (ret := none) hJ (by decide) rfl (Nat.le_of_ble_eq_true rfl) ?_
  intro p e s m args below meth c A ls C0 h hX hr hl
  have hx := C0.1.1
  have hb := C0.1.2.1
  have hM98 : 98 ≤ M := hJ.1
  have hinX3 : ∀ w ∈ u_ws RX3 TX3 7, w ∈ wsX3_refuseUnlessList := by decide +kernel
  have hl : lv_has ls 2 [(0, .ref (k.2.1 0)), (1, .int x)] := hl
  refine lv_iload_n hx hb dX3_refuseUnlessList_0 rfl (lv_at hl 1 rfl) ?_
  have hend : W p l e (RmA 6 1 6) s m args below meth c s.heap [] 0 0 (vx_MQ below (va_Qv (fun (_ : IS) => False) (EnX k M) (AX k M sz)) (XT k M I sIO A) args s 1 6 A) (F0 m 12 ls []) := r_throw C0 h hX hl.1 hf (ik := 216) (ic := 220) (is := 221) (by decide) (List.mem_of_getElem? (i := 4) rfl) (by decide +kernel) (by decide +kernel) (by decide +kernel) hr (Nat.le_refl _) dX3_refuseUnlessList_12 dX3_refuseUnlessList_15 dX3_refuseUnlessList_16 dX3_refuseUnlessList_18 dX3_refuseUnlessList_21
  refine lv_if_lt (tgt := 12) hx hb dX3_refuseUnlessList_1 (by decide) (fun c1 => hend) (fun c1 => ?_)
  refine lv_iload_n hx hb dX3_refuseUnlessList_4 rfl (lv_at hl 1 rfl) ?_
  refine lv_aload_n hx hb dX3_refuseUnlessList_5 rfl (lv_at hl 0 rfl) ?_
  refine r_get (T := TX3) (N := 7) C0 h _ (by omega) (ce0 k _) hinX3 rfl 5 (by decide) (by decide +kernel) rfl rfl dX3_refuseUnlessList_6 ?_
  refine lv_icmp_lt (tgt := 22) hx hb dX3_refuseUnlessList_9 (by decide) (fun c2 => ?_) (fun c2 => hend)
  rcases hno with z | ⟨-, z⟩
  · exact absurd z c1
  · exact absurd c2 z
