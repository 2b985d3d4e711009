/-! 37: the law's act: draws, steps of the room, its names, its handlers -/
/-- below(x >> s, n) -/
def dr (x : Int32) (s n : Nat) : Nat := blN (x >>> (nI s &&& 31)) n
theorem dr_lt (x : Int32) (s : Nat) {n : Nat} (h : 0 < n) : dr x s n < n := blN_lt _ h
theorem bl_dr (x : Int32) (s : Nat) {n : Nat} (h : 0 < n) (hn : n < 2 ^ 31) : blF (x >>> (nI s &&& 31)) (nI n) = nI (dr x s n) := bl_at _ h hn
/-- the six names, at cell 98 -/
def NmH (I : IS) : Prop := I 98 0 = nI 1 ∧ I 98 1 = nI 2 ∧ I 98 2 = nI 11 ∧ I 98 3 = nI 12 ∧ I 98 4 = nI 112 ∧ I 98 5 = nI 21
theorem NmH.go {I I' : IS} (h : NmH I) (e : ∀ q, I' 98 q = I 98 q) : NmH I' := by
  unfold NmH
  rw [e, e, e, e, e, e]
  exact h
theorem NmH.nm {I : IS} (h : NmH I) {j : Nat} (hj : j < 6) : isNm (I 98 j) = true ∧ ∃ w, w ≤ 9999 ∧ I 98 j = nI w := by
  obtain ⟨h0, h1, h2, h3, h4, h5⟩ := h
  obtain ⟨n0, n1, n2, n3, n4, n5⟩ := isNm_six
  rcases (show j = 0 ∨ j = 1 ∨ j = 2 ∨ j = 3 ∨ j = 4 ∨ j = 5 by omega) with rfl | rfl | rfl | rfl | rfl | rfl
  · rw [h0]; exact ⟨n0, 1, by omega, rfl⟩
  · rw [h1]; exact ⟨n1, 2, by omega, rfl⟩
  · rw [h2]; exact ⟨n2, 11, by omega, rfl⟩
  · rw [h3]; exact ⟨n3, 12, by omega, rfl⟩
  · rw [h4]; exact ⟨n4, 112, by omega, rfl⟩
  · rw [h5]; exact ⟨n5, 21, by omega, rfl⟩
theorem ln98 : lnX 98 = 6 := rfl
theorem isA_98 : isA 98 := Or.inr (Or.inr (Or.inr (Or.inr (Or.inr (by omega)))))
/-- the room and the names, as the law acts -/
def RA (cn lcn : Nat) (I : IS) : Prop := RmI I cn lcn ∧ NmH I
section RAs
variable {I I' : IS} {cn lcn i : Nat}
theorem RA.c1 (h : RA cn lcn I) : 1 ≤ cn := h.1.1
theorem RA.c20 (h : RA cn lcn I) : cn ≤ 20 := h.1.2.1
theorem RA.l8 (h : RA cn lcn I) : lcn ≤ 8 := h.1.2.2.1
theorem RA.n4 (h : RA cn lcn I) : I 0 4 = nI cn := h.1.2.2.2.1
theorem RA.n5 (h : RA cn lcn I) : I 0 5 = nI lcn := h.1.2.2.2.2.1
theorem RA.st (h : RA cn lcn I) : ∃ b, I 0 6 = bI b := h.1.2.2.2.2.2.1
theorem RA.ltI (h : RA cn lcn I) (hi : i < cn) : LetI (I (10 + i)) := h.1.2.2.2.2.2.2.1 i hi
theorem RA.ask (h : RA cn lcn I) (hv : vw I' = vw I) : RA cn lcn I' := ⟨h.1.ask hv, h.2.go (fun q => vw_use hv rfl)⟩
theorem RA.rq (h : RA cn lcn I) : RQ (vw I) cn lcn I := ⟨rfl, h.1⟩
theorem RA.rq' {X : IS} (h : RA cn lcn I) (hX : vw I = X) (h' : RQ X cn lcn I') : RA cn lcn I' := h.ask (h'.1.trans hX.symm)
theorem up98 (I : IS) {n : Nat} (j : Nat) (v : Int32) (h : n ≠ 98) (q : Nat) : up2 I n j v 98 q = I 98 q := up2_n _ _ _ _ (Ne.symm h)
theorem RA.newL {a : Int32} {κ d b : Nat} (h : RA cn lcn I) (hc : cn < 20) (hb : b < cn) (ha : isNm a = true ∧ ∃ w, w ≤ 9999 ∧ a = nI w) (hκ : κ < 4) (hd : d < 5) (e : I' = up2 (up2 (up2 (up2 (up2 I (10 + cn) 0 a) (10 + cn) 1 (I (10 + b) 0)) (10 + cn) 2 (nI κ)) (10 + cn) 3 (nI d)) 0 4 (nI (cn + 1))) : RA (cn + 1) lcn I' ∧ I' (10 + b) 0 = I' (10 + cn) 1 := by
  subst e
  have hL := h.ltI hb
  refine ⟨⟨h.1.newLetter hc ha.1 hL.1 ha.2 (hL.2.2.2.2.2.2 0 (by omega)) hκ (by omega), h.2.go (fun q => ?_)⟩, ?_⟩
  · rw [up98 _ _ _ (by omega), up98 _ _ _ (by omega), up98 _ _ _ (by omega), up98 _ _ _ (by omega), up98 _ _ _ (by omega)]
  · rw [up2_n _ _ _ _ (by omega), up2_n _ _ _ _ (by omega), up2_n _ _ _ _ (by omega), up2_n _ _ _ _ (by omega), up2_n _ _ _ _ (by omega), up2_n _ _ _ _ (by omega), up2_f _ _ _ _ (by omega), up2_f _ _ _ _ (by omega), up2_s]
theorem RA.mst {bb : Bool} {w : Nat} (h : RA cn lcn I) (hi : i < cn) (hw : w ≤ 9999) (e : I' = up2 (up2 I (10 + i) 6 (bI bb)) (10 + i) 7 (nI w)) : RA cn lcn I' ∧ ∀ a q, q ≠ 6 → q ≠ 7 → I' a q = I a q := by
  have hc9 := h.c20
  subst e
  exact ⟨⟨(h.1.flag hi (Or.inl rfl) bb).small hi (by omega) hw, h.2.go (fun q => by rw [up98 _ _ _ (by omega), up98 _ _ _ (by omega)])⟩, fun a q h1 h2 => by rw [up2_q _ _ _ _ _ h2, up2_q _ _ _ _ _ h1]⟩
theorem RA.tms {f t : Nat} (h : RA cn lcn I) (hi : i < cn) (hf : f ≤ 9999) (ht : t ≤ 9999) (e : I' = up2 (up2 I (10 + i) 4 (nI f)) (10 + i) 5 (nI t)) : RA cn lcn I' := by
  have hc9 := h.c20
  subst e
  exact ⟨(h.1.small hi (by omega) hf).small hi (by omega) ht, h.2.go (fun q => by rw [up98 _ _ _ (by omega), up98 _ _ _ (by omega)])⟩
theorem RA.god {f : Nat} {v : Int32} (h : RA cn lcn I) (hi : i < cn) (hf : f ≤ 9999) (h0 : isN0 v = true) (hv : ∃ w, w ≤ 9999 ∧ v = nI w) (e : I' = up2 (up2 I (10 + i) 8 (nI f)) (10 + i) 9 v) : RA cn lcn I' := by
  have hc9 := h.c20
  obtain ⟨w, hw, rfl⟩ := hv
  subst e
  exact ⟨(h.1.small hi (by omega) hf).bound hi hw h0, h.2.go (fun q => by rw [up98 _ _ _ (by omega), up98 _ _ _ (by omega)])⟩
theorem RA.sgn {v : Int32} (h : RA cn lcn I) (hi : i < cn) (e : I' = up2 I (10 + i) 10 v) : RA cn lcn I' := by
  have hc9 := h.c20
  subst e
  exact ⟨h.1.seal hi, h.2.go (fun q => up98 _ _ _ (by omega) q)⟩
theorem RA.anc {bb : Bool} (h : RA cn lcn I) (hi : i < cn) (e : I' = up2 I (10 + i) 11 (bI bb)) : RA cn lcn I' := by
  have hc9 := h.c20
  subst e
  exact ⟨h.1.flag hi (Or.inr rfl) bb, h.2.go (fun q => up98 _ _ _ (by omega) q)⟩
theorem RA.newC {a f t : Int32} (h : RA cn lcn I) (hc : lcn < 8) (e : I' = up2 (up2 (up2 (up2 I (30 + lcn) 0 a) (30 + lcn) 1 f) (30 + lcn) 2 t) 0 5 (nI (lcn + 1))) : RA cn (lcn + 1) I' := by
  subst e
  refine ⟨h.1.newList hc a f t, h.2.go (fun q => ?_)⟩
  rw [up98 _ _ _ (by omega), up98 _ _ _ (by omega), up98 _ _ _ (by omega), up98 _ _ _ (by omega)]
theorem RA.lst {j q9 : Nat} {v : Int32} (h : RA cn lcn I) (hj : j < 8) (e : I' = up2 I (30 + j) q9 v) : RA cn lcn I' := by
  subst e
  exact ⟨h.1.list30, h.2.go (fun q => up98 _ _ _ (by omega) q)⟩
theorem RA.stt {bb : Bool} (h : RA cn lcn I) (e : I' = up2 I 0 6 (bI bb)) : RA cn lcn I' := by
  subst e
  exact ⟨h.1.setStrict bb, h.2.go (fun q => up98 _ _ _ (by omega) q)⟩
end RAs
/-- what the law stands on, beside TX: an IllegalStateException is no IndexOutOfBoundsException -/
def TL (A : Nat → Prop) (U : State) : Prop := TX A U ∧ va_Nc sIS sIO U
theorem TL.same {A : Nat → Prop} {u U : State} (hv : u.vm = U.vm) (hh : u.heap = U.heap) (h : TL A u) : TL A U := ⟨h.1.same hv hh, h.2.moved (by rw [hv]; exact Vm.Alike.refl _)⟩
theorem TL.go {A B : Nat → Prop} {s U : State} (h : TL A s) (hW : s.WarmedH U.vm) (hk : ∀ a : Nat, a < s.heap.size → ¬ A a → U.heap[a]? = s.heap[a]?) (hAB : ∀ q, B q → A q) : TL B U := ⟨h.1.go hW hk hAB, h.2.moved hW.alike⟩
abbrev PcTL (k : Sk) (M : Nat) (I : IS) (sz : Nat) (av : List Value) : Array Value → State → Prop := va_Pc av (fun U => U.heap.size = sz ∧ va_P k.1 clX (Wd k M I) U.heap ∧ va_K k.1 clX (tyK k) U ∧ Tb U ∧ TL (AX k M sz) U)
theorem pcTL_blind (k : Sk) (M : Nat) (I : IS) (sz : Nat) (av : List Value) : FrameBlind (PcTL k M I sz av) := by
  rintro a U g mk ⟨q0, q1, qP, qK, qT, qX⟩
  exact ⟨q0, q1, qP, va_K.moved (u := U) (U := U.calling g mk a) (Vm.Alike.refl U.vm) qK, Tb.same (u := U) (U := U.calling g mk a) rfl qT, TL.same (u := U) (U := U.calling g mk a) rfl rfl qX⟩
/-- nothing is thrown -/
abbrev XN (A : Nat → Prop) : String → State → State → Prop := vx_X (fun _ : Unit => False) (fun _ _ _ => True) A
section RLs
variable {p : Program} {l : Launch} {e : Env} {R : Room} {s : State} {m : MethodId} {args : Array Value} {below : List Frame} {meth : Method} {c : Code} {H : Heap} {locs : List Loc} {cells slots : Nat}
variable {cc : ByteArray} {nL : Nat} {Ts : List Cond} {own : String} {k : Sk} {M : Nat} {A : Nat → Prop} {I : IS} {pc : Nat} {ls : Array Slot} {rest : List Value} {Q : State → Prop}
/-- a method with handlers that returns a truth, over the room -/
theorem mtL_ofH {y : MethodName} {ws ws' : List Cond} {d : Nat} {av : List Value} {cc : ByteArray} {maxL sz : Nat} {hh : List (Nat × Nat × Nat × Nat)} {post : Int32 → IS → Prop} (hJ : Ij k M) (hy : plainName y.cls = true) (hw : ws = Cond.codeWith y cc maxL (some .boolean) hh :: ws') (hlen : (lg_sl av).length ≤ maxL)
    (body : ∀ (p : Program) (e : Env) (s : State) (m : MethodId) (args : Array Value) (below : List Frame) (meth : Method) (c : Code) (A : Nat → Prop) (ls : Array Slot), CX p s m args c cc maxL ws y.cls k M A → HX k M A s I s.heap [] → TL A s → c.exceptionTable.toList = tableOf hh → (meth.sig.returnType = (some .boolean) ∧ meth.locks = false) → lv_has ls maxL (lv_args 0 av) → W p l e (RmA d 1 6) s m args below meth c s.heap [] 0 0 (vx_MQ below (va_Qi post (EnX k M) A) (XN A) args s 1 6 A) (F0 m 0 ls [])) :
    vx_Met l y ws (RmA d 1 6) (PcTL k M I sz av) (va_Qi post (EnX k M) (AX k M sz)) (XN (AX k M sz)) 1 6 (AX k M sz) := by
  refine vx_ofWH (cc := cc) (maxL := maxL) (ret := some .boolean) hy hw ?_
  intro p e s m args below meth c s₁ B hml hv
  obtain ⟨rfl, rfl, hP, hK, hT, hX⟩ := hv
  have hts := atoms_spec (ws := ws) B.pre
  have htab := vx_table (x := y) B (hts _ (by rw [hw]; exact List.mem_cons_self))
  have hown : s.vm.findClass y.cls = some m.cls := findClass_of_methodNamed B.named
  have hl := lv_entry av (n := maxL) hlen
  rw [lg_entry_eq]
  exact body p e s m av.toArray below meth c (AX k M s.heap.size) _ ⟨⟨B.exec, B.bytes, hml, hown, hts⟩, hT, hK, hJ, fun n h => Or.inl ⟨n, h, rfl⟩, fun q h => Or.inr h⟩ ⟨hP, va_S.rf⟩ hX htab ⟨B.returns, B.notSynchronized⟩ hl
theorem r_zretX {post : Int32 → IS → Prop} {v : Int32} {XC : String → State → State → Prop} (C0 : CX p s m args c cc nL Ts own k M A) (h : HX k M A s I H locs) (hr : meth.sig.returnType = some .boolean ∧ meth.locks = false) (hc : cells ≤ 1 ∧ slots ≤ 6) (hdg : decode cc pc = .ok (.ireturn, 1)) (hb : ∃ b, v = bI b) (hp : post v I) : W p l e R s m args below meth c H locs cells slots (vx_MQ below (va_Qi post (EnX k M) A) XC args s 1 6 A) (F0 m pc ls [.int v]) := by
  obtain ⟨b, rfl⟩ := hb
  refine W.widen hc.1 hc.2 (vx_ret ?_)
  exact W.zret C0.1.1 C0.1.2.1 hr.1 (nar_bI b) (fun t ht hW => ⟨⟨_, I, rfl, hp, by show va_P _ _ _ t.heap; rw [ht]; exact h.1⟩, h.2.F ht⟩) h.2.2.2 hdg hr.2
/-- a call of a method of the room that throws -/
theorem r_xVI {y : MethodName} {bytes : ByteArray} {maxL index d2 n : Nat} {ret : Option FieldType} {ws ws' : List Cond} {As : List Value} {E : String} {st0 : List Value} {C : vw_C} {ci : Nat} {fs : List Value} (C0 : CX p s m args c cc nL Ts own k M A) (h : HX k M A s I H locs) (hX : TX A s) (hls : ls.size = nL) (o : Nat) (ho : o < M) (he : ceX k o (I o) = .inr (ci, fs)) (hci : clX[ci]? = some C) (hM : TtI l y ws d2 (.ref (k.2.1 o) :: As) k M I E) (hG : GoodIn Ts (wsV own index C.1 y ws)) (hw : ws = Cond.code y bytes maxL ret :: ws') (hd : y.cls = C.1 ∧ y.cls ≠ "java/lang/invoke/MethodHandle" ∧ y.cls ≠ "java/lang/invoke/VarHandle" ∧ (parseMethodDescriptor y.desc).map (fun d => d.parameters.length) = some n)
    (hR : d2 + 1 ≤ R.frames ∧ 8 + (maxL + 11) + 64 * d2 ≤ R.locals) (hc9 : cells + 1 ≤ R.cells ∧ slots + 6 ≤ R.slots) (hrest : (rest.map fun v => v.category).sum ≤ 8) (hn : As.length = n) (hst : st0 = As.reverse ++ .ref (k.2.1 o) :: rest) (hdg : decode cc pc = .ok (.invokevirtual index, 3))
    (kk : ∀ (q9 : Addr) (ce : Cell) (H1 : Heap) (locs1 : List Loc), HX k M A s I H1 locs1 → H1[q9]? = some ce → ce.vm = .none → s.vm.findClass E = some ce.cls → vx_W p l e R s m args below meth c H1 locs1 (cells + 1) (slots + 6) Q (F0 m pc ls rest) q9) :
    W p l e R s m args below meth c H locs cells slots Q (F0 m pc ls st0) := by
  have hA := hx_free C0 h
  refine vx_calli (vx_runV (As := As) (rest := rest) C0.1 (hM H.size) (cwV n C0.1.2.2.2.2 hG hw rfl rfl hd hR) ⟨pcT_blind k M I H.size _, hx_recv C0 h ho he hci, fun U hU hW => ⟨rfl, by rw [hU], by rw [hU]; exact h.1, va_K.moved hW.alike C0.2.2.1, Tb.warm hW C0.2.1, hx_T C0 h hX hU hW⟩⟩ rfl hn hls hst (lv_room hrest) hdg hc9) h.2 (fun q _ hq => hA q hq) hA (fun q _ hq => hA q hq) (fun E9 ce q9 u t H1 locs1 ht hvm _ hb hz hkp hS hc1 hc2 hc3 => ?_) (fun r u t H1 locs1 _ _ hp => hp.elim)
  refine kk q9 ce H1 locs1 ⟨by rw [← ht]; exact hb.2, hS⟩ hc1 hc2 ?_
  rw [← hb.1]
  exact hc3
end RLs
/-- the law's handlers -/
abbrev hhA : List (Nat × Nat × Nat × Nat) := [(18, 126, 701, 98), (127, 203, 701, 98), (204, 249, 701, 98), (250, 296, 701, 98), (297, 353, 701, 98), (354, 426, 701, 98), (427, 489, 701, 98), (490, 565, 701, 98), (566, 658, 701, 98), (659, 700, 701, 98), (18, 126, 720, 100), (127, 203, 720, 100), (204, 249, 720, 100), (250, 296, 720, 100), (297, 353, 720, 100), (354, 426, 720, 100), (427, 489, 720, 100), (490, 565, 720, 100), (566, 658, 720, 100), (659, 700, 720, 100)]
theorem pass_118 : ∀ z ∈ tableOf (hhA.take 10), covers z 118 = false ∨ z.catchType = 98 := by decide
theorem pass_521 : ∀ z ∈ tableOf (hhA.take 17), covers z 521 = false ∨ z.catchType = 98 := by decide
theorem pass_576 : ∀ z ∈ tableOf (hhA.take 8), covers z 576 = false := by decide
theorem py11 (f : Nat → Int32) : pyL f 11 = prLf f := rfl
theorem py12f {f : Nat → Int32} (h : f 11 = bI false) : pyL f 12 = nI 0 := by
  unfold pyL
  rw [if_neg (by decide), if_neg (by decide), if_pos rfl, h]
  exact if_pos rfl
theorem py12t {f : Nat → Int32} (h : f 11 = bI true) : pyL f 12 = nI 1 := by
  unfold pyL
  rw [if_neg (by decide), if_neg (by decide), if_pos rfl, h]
  exact if_neg (by decide)
theorem pc_at (f : Nat → Int32) {w : Nat} (h : w ≠ 5) : pyC f w = f w := if_neg h
