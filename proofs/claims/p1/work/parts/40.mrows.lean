/-! 40: the reference's cells, numbered: 0 the object (0 thrown, 3 isStrict), 1 letters, 2 lists, 3 found (0 modCount, 1 size); k.2.1 at M is the shared empty row -/
abbrev clM : List vw_C := [(RX4, TX4, 8), (RJx4a65c, TJx4a65c, 3), (RJx35411, TJx35411, 4)]
def ceM (k : Sk) (M : Nat) (n : Nat) (f : Nat → Int32) : va_E :=
  if n = 0 then .inr (0, [.int (f 0), .ref (k.2.1 1), .ref (k.2.1 2), .int (f 3), .null, .null, .ref (k.2.1 3), .long 0])
  else .inr (1, [.int (f 0), .ref (k.2.1 M), .int (f 2)])
def Wm (k : Sk) (M : Nat) (I : IS) : va_W := (List.range M).map (fun n => (k.2.1 n, ceM k M n (I n)))
def tyM (_ : Sk) : List (ClassId × FieldType) := []
/-- the addresses are apart -/
def IjM (k : Sk) (M : Nat) : Prop := 4 ≤ M ∧ ∀ i j, i < M → j < M → k.2.1 i = k.2.1 j → i = j
def TbM (_ : State) : Prop := True
theorem TbM.warm {s U : State} (_ : s.WarmedH U.vm) (_ : TbM s) : TbM U := trivial
theorem TbM.same {u U : State} (_ : u.vm = U.vm) (_ : TbM u) : TbM U := trivial
theorem cm0 (k : Sk) (M : Nat) (f : Nat → Int32) : ceM k M 0 f = .inr (0, [.int (f 0), .ref (k.2.1 1), .ref (k.2.1 2), .int (f 3), .null, .null, .ref (k.2.1 3), .long 0]) := rfl
theorem cm1 (k : Sk) (M : Nat) {n : Nat} (f : Nat → Int32) (h : n ≠ 0) : ceM k M n f = .inr (1, [.int (f 0), .ref (k.2.1 M), .int (f 2)]) := if_neg h
def AXm (k : Sk) (M sz : Nat) : Nat → Prop := fun q => (∃ n, n < M ∧ q = k.2.1 n) ∨ sz ≤ q
theorem wm_at (k : Sk) {M : Nat} (I : IS) {n : Nat} (h : n < M) : (Wm k M I)[n]? = some (k.2.1 n, ceM k M n (I n)) := by
  simp [Wm, List.getElem?_map, List.getElem?_range h]
theorem wm_in (k : Sk) {M : Nat} (I : IS) {n : Nat} {q : Nat × va_E} (h : (Wm k M I)[n]? = some q) : n < M ∧ q = (k.2.1 n, ceM k M n (I n)) := by
  have h1 : n < M := by
    have := (List.getElem?_eq_some_iff.mp h).1
    simpa [Wm] using this
  rw [wm_at k I h1] at h
  exact ⟨h1, (Option.some.inj h).symm⟩
theorem wm_set (k : Sk) {M : Nat} (I : IS) {n : Nat} (h : n < M) (j : Nat) (v : Int32) : (Wm k M I).set n (k.2.1 n, ceM k M n (upd (I n) j v)) = Wm k M (up2 I n j v) := by
  apply List.ext_getElem?
  intro i
  by_cases hi : i = n
  · subst hi
    rw [List.getElem?_set_self (by simpa [Wm] using h), wm_at k _ h, up2_at]
  · rw [List.getElem?_set_ne (Ne.symm hi)]
    by_cases hM : i < M
    · rw [wm_at k _ hM, wm_at k _ hM, up2_ne I j v hi]
    · rw [List.getElem?_eq_none (by simpa [Wm] using Nat.not_lt.mp hM), List.getElem?_eq_none (by simpa [Wm] using Nat.not_lt.mp hM)]
theorem wm_D {k : Sk} {M : Nat} {I : IS} {A : Nat → Prop} (hJ : IjM k M) (hA : ∀ n, n < M → A (k.2.1 n)) : va_D A (Wm k M I) := by
  refine ⟨fun i j p q hi hj e => ?_, fun i q hq => ?_⟩
  · obtain ⟨h1, rfl⟩ := wm_in k I hi
    obtain ⟨h2, rfl⟩ := wm_in k I hj
    exact hJ.2 i j h1 h2 e
  · obtain ⟨h1, rfl⟩ := wm_in k I hq
    exact hA i h1
section RBm
variable {p : Program} {l : Launch} {e : Env} {R : Room} {s : State} {m : MethodId} {args : Array Value} {below : List Frame} {meth : Method} {c : Code} {H : Heap} {locs : List Loc} {cells slots : Nat} {Q : State → Prop}
variable {cc : ByteArray} {nL : Nat} {Ts : List Cond} {own : String} {k : Sk} {M : Nat} {A : Nat → Prop} {I : IS} {pc : Nat} {ls : Array Slot} {rest : List Value}
/-- what stays through a method: the machine, the words, the tables, the addresses, what may be changed -/
abbrev CXm (p : Program) (s : State) (m : MethodId) (args : Array Value) (c : Code) (cc : ByteArray) (nL : Nat) (Ts : List Cond) (own : String) (k : Sk) (M : Nat) (A : Nat → Prop) : Prop :=
  CallFix p m c cc nL s args Ts own ∧ TbM s ∧ va_K k.1 clM (tyM k) s ∧ IjM k M ∧ (∀ n, n < M → A (k.2.1 n)) ∧ (∀ q, s.heap.size ≤ q → A q)
/-- what moves: the heap holds I, and nothing else was changed -/
abbrev HXm (k : Sk) (M : Nat) (A : Nat → Prop) (s : State) (I : IS) (H : Heap) (locs : List Loc) : Prop := va_P k.1 clM (Wm k M I) H ∧ va_S A s.heap H locs
theorem m_get {ref C : String} {T : u_T} {N ci index : Nat} (C0 : CXm p s m args c cc nL Ts own k M A) (h : HXm k M A s I H locs) (n : Nat) (hn : n < M) {fs : List Value} (he : ceM k M n (I n) = .inr (ci, fs)) (hin : ∀ w ∈ u_ws C T N, w ∈ Ts) (hc : clM[ci]? = some (C, T, N)) (j : Nat) (hj : j < N) (hl : Cond.fieldLink own index ref (T j).2.1 (T j).2.2.1 ∈ Ts) (href : (T j).1 = ref) {v : Value} (hv : fs[j]? = some v) (hdg : decode cc pc = .ok (.getfield index, 3))
    (kk : W p l e R s m args below meth c H locs cells slots Q (F0 m (pc + 3) ls (v :: rest))) : W p l e R s m args below meth c H locs cells slots Q (F0 m pc ls (.ref (k.2.1 n) :: rest)) := by
  obtain ⟨⟨hx, hb, hml, hown, hts⟩, hT, hK, hJ, hA, hAs⟩ := C0
  subst href
  exact va_get (ci := ci) (fs := fs) (C := C) (T := T) (N := N) (Ts := Ts) hx hb hts hin hown hK h.1 n (by rw [wm_at k I hn, he]) hc j hj (hts _ hl) (fun _ h9 => h9) hv hdg kk
theorem m_put {ref C : String} {T : u_T} {N ci index : Nat} {ty0 : Nat → FieldType} (C0 : CXm p s m args c cc nL Ts own k M A) (h : HXm k M A s I H locs) (n : Nat) (hn : n < M) {fs : List Value} (he : ceM k M n (I n) = .inr (ci, fs)) (hin : ∀ w ∈ u_ws C T N, w ∈ Ts) (hty : ∀ k, k < N → parseFieldDescriptor (T k).2.2.1 = some (ty0 k)) (hnm : ∀ a, a < N → ∀ b, b < N → a ≠ b → (T a).2.1 ≠ (T b).2.1) (hc : clM[ci]? = some (C, T, N)) (j : Nat) (hj : j < N) (hl : Cond.fieldLink own index ref (T j).2.1 (T j).2.2.1 ∈ Ts) (href : (T j).1 = ref) (hfin : (T j).2.2.2 = false) {v : Int32}
    (hn1 : narrow (ty0 j) (.int v) = .int v) (hfit : fits (ty0 j) (.int v) = true) (hlen : j < fs.length) (hset : ceM k M n (upd (I n) j v) = .inr (ci, fs.set j (.int v))) (hdg : decode cc pc = .ok (.putfield index, 3))
    (kk : ∀ (H1 : Heap) (locs1 : List Loc), HXm k M A s (up2 I n j v) H1 locs1 → W p l e R s m args below meth c H1 locs1 cells slots Q (F0 m (pc + 3) ls rest)) : W p l e R s m args below meth c H locs cells slots Q (F0 m pc ls (.int v :: .ref (k.2.1 n) :: rest)) := by
  obtain ⟨⟨hx, hb, hml, hown, hts⟩, hT, hK, hJ, hA, hAs⟩ := C0
  subst href
  refine va_put (ci := ci) (fs := fs) (C := C) (T := T) (N := N) (Ts := Ts) (ty := ty0 j) (v := .int v) hx hb hts hin ty0 hty hnm hown hK h.1 (wm_D hJ hA) h.2 n (by rw [wm_at k I hn, he]) hc j hj (hts _ hl) (fun _ h9 => h9) hfin (hty j hj) hn1 hfit hlen hdg (fun H1 locs1 hP1 _ hS1 => kk H1 locs1 ⟨?_, hS1⟩)
  rw [← hset, wm_set k I hn] at hP1
  exact hP1
end RBm
abbrev PcM (k : Sk) (M : Nat) (I : IS) (sz : Nat) (av : List Value) : Array Value → State → Prop := va_Pc av (fun U => U.heap.size = sz ∧ va_P k.1 clM (Wm k M I) U.heap ∧ va_K k.1 clM (tyM k) U ∧ TbM U)
abbrev EnM (k : Sk) (M : Nat) : IS → State → Prop := fun I' t => va_P k.1 clM (Wm k M I') t.heap
theorem pcM_blind (k : Sk) (M : Nat) (I : IS) (sz : Nat) (av : List Value) : FrameBlind (PcM k M I sz av) := by
  rintro a U g mk ⟨q0, q1, qP, qK, qT⟩
  exact ⟨q0, q1, qP, va_K.moved (u := U) (U := U.calling g mk a) (Vm.Alike.refl U.vm) qK, TbM.same (u := U) (U := U.calling g mk a) rfl qT⟩
theorem aM_eq (k : Sk) (M sz : Nat) {A : Nat → Prop} (hA : ∀ n, n < M → A (k.2.1 n)) (hs : ∀ q, sz ≤ q → A q) : ∀ q, AXm k M sz q → A q := by
  rintro q (⟨n, h1, rfl⟩ | h)
  · exact hA n h1
  · exact hs q h

/-- returning Int32 -/
abbrev MmI (l : Launch) (y : MethodName) (ws : List Cond) (d : Nat) (av : List Value) (k : Sk) (M : Nat) (I : IS) (post : Int32 → IS → Prop) : Prop := ∀ sz : Nat, Met l y ws (Rm d) (PcM k M I sz av) (va_Qi post (EnM k M) (AXm k M sz)) 0 0 (AXm k M sz)
theorem mmI_of {l : Launch} {y : MethodName} {ws ws' : List Cond} {d : Nat} {av : List Value} {k : Sk} {M : Nat} {I : IS} {post : Int32 → IS → Prop} {cc : ByteArray} {maxL : Nat} (hJ : IjM k M) (hy : plainName y.cls = true) (hw : ws = Cond.code y cc maxL (some .int) :: ws') (hlen : (lg_sl av).length ≤ maxL)
    (body : ∀ (p : Program) (e : Env) (s : State) (m : MethodId) (args : Array Value) (below : List Frame) (meth : Method) (c : Code) (A : Nat → Prop) (ls : Array Slot), CXm p s m args c cc maxL ws y.cls k M A → HXm k M A s I s.heap [] → (meth.sig.returnType = (some .int) ∧ meth.locks = false) → lv_has ls maxL (lv_args 0 av) → W p l e (Rm d) s m args below meth c s.heap [] 0 0 (MQ below (va_Qi post (EnM k M) A) args s 0 0 A) (F0 m 0 ls [])) : MmI l y ws d av k M I post := by
  intro sz
  refine Met.ofW (cc := cc) (maxL := maxL) (ret := some .int) hy hw ?_
  intro p e s m args below meth c s₁ B hml hv
  obtain ⟨rfl, rfl, hP, hK, hT⟩ := hv
  have hts := atoms_spec (ws := ws) B.pre
  have hown : s.vm.findClass y.cls = some m.cls := findClass_of_methodNamed B.named
  have hl := lv_entry av (n := maxL) hlen
  rw [lg_entry_eq]
  exact body p e s m av.toArray below meth c (AXm k M s.heap.size) _ ⟨⟨B.exec, B.bytes, hml, hown, hts⟩, hT, hK, hJ, fun n h => Or.inl ⟨n, h, rfl⟩, fun q h => Or.inr h⟩ ⟨hP, va_S.rf⟩ ⟨B.returns, B.notSynchronized⟩ hl
theorem mmIz_of {l : Launch} {y : MethodName} {ws ws' : List Cond} {d : Nat} {av : List Value} {k : Sk} {M : Nat} {I : IS} {post : Int32 → IS → Prop} {cc : ByteArray} {maxL : Nat} (hJ : IjM k M) (hy : plainName y.cls = true) (hw : ws = Cond.code y cc maxL (some .boolean) :: ws') (hlen : (lg_sl av).length ≤ maxL)
    (body : ∀ (p : Program) (e : Env) (s : State) (m : MethodId) (args : Array Value) (below : List Frame) (meth : Method) (c : Code) (A : Nat → Prop) (ls : Array Slot), CXm p s m args c cc maxL ws y.cls k M A → HXm k M A s I s.heap [] → (meth.sig.returnType = (some .boolean) ∧ meth.locks = false) → lv_has ls maxL (lv_args 0 av) → W p l e (Rm d) s m args below meth c s.heap [] 0 0 (MQ below (va_Qi post (EnM k M) A) args s 0 0 A) (F0 m 0 ls [])) : MmI l y ws d av k M I post := by
  intro sz
  refine Met.ofW (cc := cc) (maxL := maxL) (ret := some .boolean) hy hw ?_
  intro p e s m args below meth c s₁ B hml hv
  obtain ⟨rfl, rfl, hP, hK, hT⟩ := hv
  have hts := atoms_spec (ws := ws) B.pre
  have hown : s.vm.findClass y.cls = some m.cls := findClass_of_methodNamed B.named
  have hl := lv_entry av (n := maxL) hlen
  rw [lg_entry_eq]
  exact body p e s m av.toArray below meth c (AXm k M s.heap.size) _ ⟨⟨B.exec, B.bytes, hml, hown, hts⟩, hT, hK, hJ, fun n h => Or.inl ⟨n, h, rfl⟩, fun q h => Or.inr h⟩ ⟨hP, va_S.rf⟩ ⟨B.returns, B.notSynchronized⟩ hl
/-- returning Int64 -/
abbrev MmL (l : Launch) (y : MethodName) (ws : List Cond) (d : Nat) (av : List Value) (k : Sk) (M : Nat) (I : IS) (post : Int64 → IS → Prop) : Prop := ∀ sz : Nat, Met l y ws (Rm d) (PcM k M I sz av) (va_Ql post (EnM k M) (AXm k M sz)) 0 0 (AXm k M sz)
theorem mmL_of {l : Launch} {y : MethodName} {ws ws' : List Cond} {d : Nat} {av : List Value} {k : Sk} {M : Nat} {I : IS} {post : Int64 → IS → Prop} {cc : ByteArray} {maxL : Nat} (hJ : IjM k M) (hy : plainName y.cls = true) (hw : ws = Cond.code y cc maxL (some .long) :: ws') (hlen : (lg_sl av).length ≤ maxL)
    (body : ∀ (p : Program) (e : Env) (s : State) (m : MethodId) (args : Array Value) (below : List Frame) (meth : Method) (c : Code) (A : Nat → Prop) (ls : Array Slot), CXm p s m args c cc maxL ws y.cls k M A → HXm k M A s I s.heap [] → (meth.sig.returnType = (some .long) ∧ meth.locks = false) → lv_has ls maxL (lv_args 0 av) → W p l e (Rm d) s m args below meth c s.heap [] 0 0 (MQ below (va_Ql post (EnM k M) A) args s 0 0 A) (F0 m 0 ls [])) : MmL l y ws d av k M I post := by
  intro sz
  refine Met.ofW (cc := cc) (maxL := maxL) (ret := some .long) hy hw ?_
  intro p e s m args below meth c s₁ B hml hv
  obtain ⟨rfl, rfl, hP, hK, hT⟩ := hv
  have hts := atoms_spec (ws := ws) B.pre
  have hown : s.vm.findClass y.cls = some m.cls := findClass_of_methodNamed B.named
  have hl := lv_entry av (n := maxL) hlen
  rw [lg_entry_eq]
  exact body p e s m av.toArray below meth c (AXm k M s.heap.size) _ ⟨⟨B.exec, B.bytes, hml, hown, hts⟩, hT, hK, hJ, fun n h => Or.inl ⟨n, h, rfl⟩, fun q h => Or.inr h⟩ ⟨hP, va_S.rf⟩ ⟨B.returns, B.notSynchronized⟩ hl
/-- returning UInt64 -/
abbrev MmD (l : Launch) (y : MethodName) (ws : List Cond) (d : Nat) (av : List Value) (k : Sk) (M : Nat) (I : IS) (post : UInt64 → IS → Prop) : Prop := ∀ sz : Nat, Met l y ws (Rm d) (PcM k M I sz av) (va_Qd post (EnM k M) (AXm k M sz)) 0 0 (AXm k M sz)
theorem mmD_of {l : Launch} {y : MethodName} {ws ws' : List Cond} {d : Nat} {av : List Value} {k : Sk} {M : Nat} {I : IS} {post : UInt64 → IS → Prop} {cc : ByteArray} {maxL : Nat} (hJ : IjM k M) (hy : plainName y.cls = true) (hw : ws = Cond.code y cc maxL (some .double) :: ws') (hlen : (lg_sl av).length ≤ maxL)
    (body : ∀ (p : Program) (e : Env) (s : State) (m : MethodId) (args : Array Value) (below : List Frame) (meth : Method) (c : Code) (A : Nat → Prop) (ls : Array Slot), CXm p s m args c cc maxL ws y.cls k M A → HXm k M A s I s.heap [] → (meth.sig.returnType = (some .double) ∧ meth.locks = false) → lv_has ls maxL (lv_args 0 av) → W p l e (Rm d) s m args below meth c s.heap [] 0 0 (MQ below (va_Qd post (EnM k M) A) args s 0 0 A) (F0 m 0 ls [])) : MmD l y ws d av k M I post := by
  intro sz
  refine Met.ofW (cc := cc) (maxL := maxL) (ret := some .double) hy hw ?_
  intro p e s m args below meth c s₁ B hml hv
  obtain ⟨rfl, rfl, hP, hK, hT⟩ := hv
  have hts := atoms_spec (ws := ws) B.pre
  have hown : s.vm.findClass y.cls = some m.cls := findClass_of_methodNamed B.named
  have hl := lv_entry av (n := maxL) hlen
  rw [lg_entry_eq]
  exact body p e s m av.toArray below meth c (AXm k M s.heap.size) _ ⟨⟨B.exec, B.bytes, hml, hown, hts⟩, hT, hK, hJ, fun n h => Or.inl ⟨n, h, rfl⟩, fun q h => Or.inr h⟩ ⟨hP, va_S.rf⟩ ⟨B.returns, B.notSynchronized⟩ hl
/-- returning nothing -/
abbrev MmV (l : Launch) (y : MethodName) (ws : List Cond) (d : Nat) (av : List Value) (k : Sk) (M : Nat) (I : IS) (post : IS → Prop) : Prop := ∀ sz : Nat, Met l y ws (Rm d) (PcM k M I sz av) (va_Qv post (EnM k M) (AXm k M sz)) 0 0 (AXm k M sz)
theorem mmV_of {l : Launch} {y : MethodName} {ws ws' : List Cond} {d : Nat} {av : List Value} {k : Sk} {M : Nat} {I : IS} {post : IS → Prop} {cc : ByteArray} {maxL : Nat} (hJ : IjM k M) (hy : plainName y.cls = true) (hw : ws = Cond.code y cc maxL (none) :: ws') (hlen : (lg_sl av).length ≤ maxL)
    (body : ∀ (p : Program) (e : Env) (s : State) (m : MethodId) (args : Array Value) (below : List Frame) (meth : Method) (c : Code) (A : Nat → Prop) (ls : Array Slot), CXm p s m args c cc maxL ws y.cls k M A → HXm k M A s I s.heap [] → (meth.sig.returnType = (none) ∧ meth.locks = false) → lv_has ls maxL (lv_args 0 av) → W p l e (Rm d) s m args below meth c s.heap [] 0 0 (MQ below (va_Qv post (EnM k M) A) args s 0 0 A) (F0 m 0 ls [])) : MmV l y ws d av k M I post := by
  intro sz
  refine Met.ofW (cc := cc) (maxL := maxL) (ret := none) hy hw ?_
  intro p e s m args below meth c s₁ B hml hv
  obtain ⟨rfl, rfl, hP, hK, hT⟩ := hv
  have hts := atoms_spec (ws := ws) B.pre
  have hown : s.vm.findClass y.cls = some m.cls := findClass_of_methodNamed B.named
  have hl := lv_entry av (n := maxL) hlen
  rw [lg_entry_eq]
  exact body p e s m av.toArray below meth c (AXm k M s.heap.size) _ ⟨⟨B.exec, B.bytes, hml, hown, hts⟩, hT, hK, hJ, fun n h => Or.inl ⟨n, h, rfl⟩, fun q h => Or.inr h⟩ ⟨hP, va_S.rf⟩ ⟨B.returns, B.notSynchronized⟩ hl
section RCm
variable {p : Program} {l : Launch} {e : Env} {R : Room} {s : State} {m : MethodId} {args : Array Value} {below : List Frame} {meth : Method} {c : Code} {H : Heap} {locs : List Loc} {cells slots : Nat} {Q : State → Prop}
variable {cc : ByteArray} {nL : Nat} {Ts : List Cond} {own : String} {k : Sk} {M : Nat} {A : Nat → Prop} {I : IS} {pc : Nat} {ls : Array Slot} {rest : List Value}
theorem m_iret {post : Int32 → IS → Prop} {v : Int32} (C0 : CXm p s m args c cc nL Ts own k M A) (h : HXm k M A s I H locs) (hr : meth.sig.returnType = some .int ∧ meth.locks = false) (hdg : decode cc pc = .ok (.ireturn, 1)) (hp : post v I) : W p l e R s m args below meth c H locs 0 0 (MQ below (va_Qi post (EnM k M) A) args s 0 0 A) (F0 m pc ls [.int v]) :=
  W.iret C0.1.1 C0.1.2.1 hr.1 (fun t ht hW => ⟨⟨v, I, rfl, hp, by show va_P _ _ _ t.heap; rw [ht]; exact h.1⟩, h.2.F ht⟩) h.2.2.2 hdg hr.2
theorem m_zret {post : Int32 → IS → Prop} {v : Int32} (C0 : CXm p s m args c cc nL Ts own k M A) (h : HXm k M A s I H locs) (hr : meth.sig.returnType = some .boolean ∧ meth.locks = false) (hdg : decode cc pc = .ok (.ireturn, 1)) (hb : ∃ b, v = bI b) (hp : post v I) : W p l e R s m args below meth c H locs 0 0 (MQ below (va_Qi post (EnM k M) A) args s 0 0 A) (F0 m pc ls [.int v]) := by
  obtain ⟨b, rfl⟩ := hb
  exact W.zret C0.1.1 C0.1.2.1 hr.1 (nar_bI b) (fun t ht hW => ⟨⟨_, I, rfl, hp, by show va_P _ _ _ t.heap; rw [ht]; exact h.1⟩, h.2.F ht⟩) h.2.2.2 hdg hr.2
theorem m_lret {post : Int64 → IS → Prop} {v : Int64} (C0 : CXm p s m args c cc nL Ts own k M A) (h : HXm k M A s I H locs) (hr : meth.sig.returnType = some .long ∧ meth.locks = false) (hdg : decode cc pc = .ok (.lreturn, 1)) (hp : post v I) : W p l e R s m args below meth c H locs 0 0 (MQ below (va_Ql post (EnM k M) A) args s 0 0 A) (F0 m pc ls [.long v]) :=
  W.lret C0.1.1 C0.1.2.1 hr.1 (fun t ht hW => ⟨⟨v, I, rfl, hp, by show va_P _ _ _ t.heap; rw [ht]; exact h.1⟩, h.2.F ht⟩) h.2.2.2 hdg hr.2
theorem m_dret {post : UInt64 → IS → Prop} {v : UInt64} (C0 : CXm p s m args c cc nL Ts own k M A) (h : HXm k M A s I H locs) (hr : meth.sig.returnType = some .double ∧ meth.locks = false) (hdg : decode cc pc = .ok (.dreturn, 1)) (hp : post v I) : W p l e R s m args below meth c H locs 0 0 (MQ below (va_Qd post (EnM k M) A) args s 0 0 A) (F0 m pc ls [.double v]) :=
  W.dret C0.1.1 C0.1.2.1 hr.1 (fun t ht hW => ⟨⟨v, I, rfl, hp, by show va_P _ _ _ t.heap; rw [ht]; exact h.1⟩, h.2.F ht⟩) h.2.2.2 hdg hr.2
theorem m_vret {post : IS → Prop} (C0 : CXm p s m args c cc nL Ts own k M A) (h : HXm k M A s I H locs) (hr : meth.sig.returnType = none ∧ meth.locks = false) (hdg : decode cc pc = .ok (.return_, 1)) (hp : post I) : W p l e R s m args below meth c H locs 0 0 (MQ below (va_Qv post (EnM k M) A) args s 0 0 A) (F0 m pc ls []) :=
  W.vret C0.1.1 C0.1.2.1 hr.1 (fun t ht hW => ⟨⟨I, rfl, hp, by show va_P _ _ _ t.heap; rw [ht]; exact h.1⟩, h.2.F ht⟩) h.2.2.2 hdg hr.2
theorem hm_pre (C0 : CXm p s m args c cc nL Ts own k M A) (h : HXm k M A s I H locs) (av : List Value) : ∀ U : State, U.heap = H → s.WarmedH U.vm → PcM k M I H.size av av.toArray U := fun U hU hW => ⟨rfl, by rw [hU], by rw [hU]; exact h.1, va_K.moved hW.alike C0.2.2.1, TbM.warm hW C0.2.1⟩
theorem hm_free (C0 : CXm p s m args c cc nL Ts own k M A) (h : HXm k M A s I H locs) : ∀ q, AXm k M H.size q → A q := aM_eq k M H.size C0.2.2.2.2.1 (fun q hq => C0.2.2.2.2.2 q (Nat.le_trans h.2.1 hq))
theorem hm_recv (C0 : CXm p s m args c cc nL Ts own k M A) (h : HXm k M A s I H locs) {n ci : Nat} {fs : List Value} {C : vw_C} (hn : n < M) (he : ceM k M n (I n) = .inr (ci, fs)) (hc : clM[ci]? = some C) : ∃ cell : Cell, H[k.2.1 n]? = some cell ∧ cell.vm.isStatics = false ∧ s.vm.findClass C.1 = some cell.cls := va_recv C0.2.2.1 h.1 hc (by rw [wm_at k I hn, he])

theorem m_cSI {y : MethodName} {bytes : ByteArray} {maxL index d n : Nat} {ret : Option FieldType} {ws ws' : List Cond} {As : List Value} {post : Int32 → IS → Prop} {st0 : List Value} (C0 : CXm p s m args c cc nL Ts own k M A) (h : HXm k M A s I H locs) (hls : ls.size = nL) (hM : MmI l y ws d As k M I post) (hG : GoodIn Ts (va_wsS own index y ws)) (hw : ws = Cond.code y bytes maxL ret :: ws') (hd : y.cls ≠ "java/lang/invoke/MethodHandle" ∧ y.cls ≠ "java/lang/invoke/VarHandle" ∧ (parseMethodDescriptor y.desc).map (fun d => d.parameters.length) = some n)
    (hR : d + 1 ≤ R.frames ∧ 8 + (maxL + 11) + 64 * d ≤ R.locals) (hc9 : cells ≤ R.cells ∧ slots ≤ R.slots) (hrest : (rest.map fun v => v.category).sum ≤ 8) (hn : As.length = n) (hst : st0 = As.reverse ++ rest) (hdg : decode cc pc = .ok (.invokestatic index, 3)) (kk : ∀ (r : Int32) (I' : IS) (H1 : Heap) (locs1 : List Loc), post r I' → HXm k M A s I' H1 locs1 → W p l e R s m args below meth c H1 locs1 cells slots Q (F0 m (pc + 3) ls (.int r :: rest))) : W p l e R s m args below meth c H locs cells slots Q (F0 m pc ls st0) := by
  have hA := hm_free C0 h
  refine va_calli (va_runS (As := As) (rest := rest) C0.1 (hM H.size) (va_cwS n C0.1.2.2.2.2 hG hw rfl rfl hd hR) ⟨pcM_blind k M I H.size As, hm_pre C0 h As⟩ rfl hn hls hst (lv_room hrest) hdg hc9) h.2 (fun q _ hq => hA q hq) hA (fun r I' t H1 locs1 ht hvm hp hb hz hkp hS => ?_)
  exact kk r I' H1 locs1 hp ⟨by rw [← ht]; exact hb, hS⟩
theorem m_cVI {y : MethodName} {bytes : ByteArray} {maxL index d n : Nat} {ret : Option FieldType} {ws ws' : List Cond} {As : List Value} {post : Int32 → IS → Prop} {st0 : List Value} {C : vw_C} {ci : Nat} {fs : List Value} (C0 : CXm p s m args c cc nL Ts own k M A) (h : HXm k M A s I H locs) (hls : ls.size = nL) (o : Nat) (ho : o < M) (he : ceM k M o (I o) = .inr (ci, fs)) (hci : clM[ci]? = some C) (hM : MmI l y ws d (.ref (k.2.1 o) :: As) k M I post) (hG : GoodIn Ts (wsV own index C.1 y ws)) (hw : ws = Cond.code y bytes maxL ret :: ws') (hd : y.cls = C.1 ∧ y.cls ≠ "java/lang/invoke/MethodHandle" ∧ y.cls ≠ "java/lang/invoke/VarHandle" ∧ (parseMethodDescriptor y.desc).map (fun d => d.parameters.length) = some n)
    (hR : d + 1 ≤ R.frames ∧ 8 + (maxL + 11) + 64 * d ≤ R.locals) (hc9 : cells ≤ R.cells ∧ slots ≤ R.slots) (hrest : (rest.map fun v => v.category).sum ≤ 8) (hn : As.length = n) (hst : st0 = As.reverse ++ .ref (k.2.1 o) :: rest) (hdg : decode cc pc = .ok (.invokevirtual index, 3)) (kk : ∀ (r : Int32) (I' : IS) (H1 : Heap) (locs1 : List Loc), post r I' → HXm k M A s I' H1 locs1 → W p l e R s m args below meth c H1 locs1 cells slots Q (F0 m (pc + 3) ls (.int r :: rest))) : W p l e R s m args below meth c H locs cells slots Q (F0 m pc ls st0) := by
  have hA := hm_free C0 h
  refine va_calli (va_runV (As := As) (rest := rest) C0.1 (hM H.size) (cwV n C0.1.2.2.2.2 hG hw rfl rfl hd hR) ⟨pcM_blind k M I H.size _, hm_recv C0 h ho he hci, hm_pre C0 h _⟩ rfl hn hls hst (lv_room hrest) hdg hc9) h.2 (fun q _ hq => hA q hq) hA (fun r I' t H1 locs1 ht hvm hp hb hz hkp hS => ?_)
  exact kk r I' H1 locs1 hp ⟨by rw [← ht]; exact hb, hS⟩
theorem m_cSL {y : MethodName} {bytes : ByteArray} {maxL index d n : Nat} {ret : Option FieldType} {ws ws' : List Cond} {As : List Value} {post : Int64 → IS → Prop} {st0 : List Value} (C0 : CXm p s m args c cc nL Ts own k M A) (h : HXm k M A s I H locs) (hls : ls.size = nL) (hM : MmL l y ws d As k M I post) (hG : GoodIn Ts (va_wsS own index y ws)) (hw : ws = Cond.code y bytes maxL ret :: ws') (hd : y.cls ≠ "java/lang/invoke/MethodHandle" ∧ y.cls ≠ "java/lang/invoke/VarHandle" ∧ (parseMethodDescriptor y.desc).map (fun d => d.parameters.length) = some n)
    (hR : d + 1 ≤ R.frames ∧ 8 + (maxL + 11) + 64 * d ≤ R.locals) (hc9 : cells ≤ R.cells ∧ slots ≤ R.slots) (hrest : (rest.map fun v => v.category).sum ≤ 8) (hn : As.length = n) (hst : st0 = As.reverse ++ rest) (hdg : decode cc pc = .ok (.invokestatic index, 3)) (kk : ∀ (r : Int64) (I' : IS) (H1 : Heap) (locs1 : List Loc), post r I' → HXm k M A s I' H1 locs1 → W p l e R s m args below meth c H1 locs1 cells slots Q (F0 m (pc + 3) ls (.long r :: rest))) : W p l e R s m args below meth c H locs cells slots Q (F0 m pc ls st0) := by
  have hA := hm_free C0 h
  refine va_calll (va_runS (As := As) (rest := rest) C0.1 (hM H.size) (va_cwS n C0.1.2.2.2.2 hG hw rfl rfl hd hR) ⟨pcM_blind k M I H.size As, hm_pre C0 h As⟩ rfl hn hls hst (lv_room hrest) hdg hc9) h.2 (fun q _ hq => hA q hq) hA (fun r I' t H1 locs1 ht hvm hp hb hz hkp hS => ?_)
  exact kk r I' H1 locs1 hp ⟨by rw [← ht]; exact hb, hS⟩
theorem m_cVL {y : MethodName} {bytes : ByteArray} {maxL index d n : Nat} {ret : Option FieldType} {ws ws' : List Cond} {As : List Value} {post : Int64 → IS → Prop} {st0 : List Value} {C : vw_C} {ci : Nat} {fs : List Value} (C0 : CXm p s m args c cc nL Ts own k M A) (h : HXm k M A s I H locs) (hls : ls.size = nL) (o : Nat) (ho : o < M) (he : ceM k M o (I o) = .inr (ci, fs)) (hci : clM[ci]? = some C) (hM : MmL l y ws d (.ref (k.2.1 o) :: As) k M I post) (hG : GoodIn Ts (wsV own index C.1 y ws)) (hw : ws = Cond.code y bytes maxL ret :: ws') (hd : y.cls = C.1 ∧ y.cls ≠ "java/lang/invoke/MethodHandle" ∧ y.cls ≠ "java/lang/invoke/VarHandle" ∧ (parseMethodDescriptor y.desc).map (fun d => d.parameters.length) = some n)
    (hR : d + 1 ≤ R.frames ∧ 8 + (maxL + 11) + 64 * d ≤ R.locals) (hc9 : cells ≤ R.cells ∧ slots ≤ R.slots) (hrest : (rest.map fun v => v.category).sum ≤ 8) (hn : As.length = n) (hst : st0 = As.reverse ++ .ref (k.2.1 o) :: rest) (hdg : decode cc pc = .ok (.invokevirtual index, 3)) (kk : ∀ (r : Int64) (I' : IS) (H1 : Heap) (locs1 : List Loc), post r I' → HXm k M A s I' H1 locs1 → W p l e R s m args below meth c H1 locs1 cells slots Q (F0 m (pc + 3) ls (.long r :: rest))) : W p l e R s m args below meth c H locs cells slots Q (F0 m pc ls st0) := by
  have hA := hm_free C0 h
  refine va_calll (va_runV (As := As) (rest := rest) C0.1 (hM H.size) (cwV n C0.1.2.2.2.2 hG hw rfl rfl hd hR) ⟨pcM_blind k M I H.size _, hm_recv C0 h ho he hci, hm_pre C0 h _⟩ rfl hn hls hst (lv_room hrest) hdg hc9) h.2 (fun q _ hq => hA q hq) hA (fun r I' t H1 locs1 ht hvm hp hb hz hkp hS => ?_)
  exact kk r I' H1 locs1 hp ⟨by rw [← ht]; exact hb, hS⟩
theorem m_cSD {y : MethodName} {bytes : ByteArray} {maxL index d n : Nat} {ret : Option FieldType} {ws ws' : List Cond} {As : List Value} {post : UInt64 → IS → Prop} {st0 : List Value} (C0 : CXm p s m args c cc nL Ts own k M A) (h : HXm k M A s I H locs) (hls : ls.size = nL) (hM : MmD l y ws d As k M I post) (hG : GoodIn Ts (va_wsS own index y ws)) (hw : ws = Cond.code y bytes maxL ret :: ws') (hd : y.cls ≠ "java/lang/invoke/MethodHandle" ∧ y.cls ≠ "java/lang/invoke/VarHandle" ∧ (parseMethodDescriptor y.desc).map (fun d => d.parameters.length) = some n)
    (hR : d + 1 ≤ R.frames ∧ 8 + (maxL + 11) + 64 * d ≤ R.locals) (hc9 : cells ≤ R.cells ∧ slots ≤ R.slots) (hrest : (rest.map fun v => v.category).sum ≤ 8) (hn : As.length = n) (hst : st0 = As.reverse ++ rest) (hdg : decode cc pc = .ok (.invokestatic index, 3)) (kk : ∀ (r : UInt64) (I' : IS) (H1 : Heap) (locs1 : List Loc), post r I' → HXm k M A s I' H1 locs1 → W p l e R s m args below meth c H1 locs1 cells slots Q (F0 m (pc + 3) ls (.double r :: rest))) : W p l e R s m args below meth c H locs cells slots Q (F0 m pc ls st0) := by
  have hA := hm_free C0 h
  refine va_calld (va_runS (As := As) (rest := rest) C0.1 (hM H.size) (va_cwS n C0.1.2.2.2.2 hG hw rfl rfl hd hR) ⟨pcM_blind k M I H.size As, hm_pre C0 h As⟩ rfl hn hls hst (lv_room hrest) hdg hc9) h.2 (fun q _ hq => hA q hq) hA (fun r I' t H1 locs1 ht hvm hp hb hz hkp hS => ?_)
  exact kk r I' H1 locs1 hp ⟨by rw [← ht]; exact hb, hS⟩
theorem m_cVD {y : MethodName} {bytes : ByteArray} {maxL index d n : Nat} {ret : Option FieldType} {ws ws' : List Cond} {As : List Value} {post : UInt64 → IS → Prop} {st0 : List Value} {C : vw_C} {ci : Nat} {fs : List Value} (C0 : CXm p s m args c cc nL Ts own k M A) (h : HXm k M A s I H locs) (hls : ls.size = nL) (o : Nat) (ho : o < M) (he : ceM k M o (I o) = .inr (ci, fs)) (hci : clM[ci]? = some C) (hM : MmD l y ws d (.ref (k.2.1 o) :: As) k M I post) (hG : GoodIn Ts (wsV own index C.1 y ws)) (hw : ws = Cond.code y bytes maxL ret :: ws') (hd : y.cls = C.1 ∧ y.cls ≠ "java/lang/invoke/MethodHandle" ∧ y.cls ≠ "java/lang/invoke/VarHandle" ∧ (parseMethodDescriptor y.desc).map (fun d => d.parameters.length) = some n)
    (hR : d + 1 ≤ R.frames ∧ 8 + (maxL + 11) + 64 * d ≤ R.locals) (hc9 : cells ≤ R.cells ∧ slots ≤ R.slots) (hrest : (rest.map fun v => v.category).sum ≤ 8) (hn : As.length = n) (hst : st0 = As.reverse ++ .ref (k.2.1 o) :: rest) (hdg : decode cc pc = .ok (.invokevirtual index, 3)) (kk : ∀ (r : UInt64) (I' : IS) (H1 : Heap) (locs1 : List Loc), post r I' → HXm k M A s I' H1 locs1 → W p l e R s m args below meth c H1 locs1 cells slots Q (F0 m (pc + 3) ls (.double r :: rest))) : W p l e R s m args below meth c H locs cells slots Q (F0 m pc ls st0) := by
  have hA := hm_free C0 h
  refine va_calld (va_runV (As := As) (rest := rest) C0.1 (hM H.size) (cwV n C0.1.2.2.2.2 hG hw rfl rfl hd hR) ⟨pcM_blind k M I H.size _, hm_recv C0 h ho he hci, hm_pre C0 h _⟩ rfl hn hls hst (lv_room hrest) hdg hc9) h.2 (fun q _ hq => hA q hq) hA (fun r I' t H1 locs1 ht hvm hp hb hz hkp hS => ?_)
  exact kk r I' H1 locs1 hp ⟨by rw [← ht]; exact hb, hS⟩
theorem m_cSV {y : MethodName} {bytes : ByteArray} {maxL index d n : Nat} {ret : Option FieldType} {ws ws' : List Cond} {As : List Value} {post : IS → Prop} {st0 : List Value} (C0 : CXm p s m args c cc nL Ts own k M A) (h : HXm k M A s I H locs) (hls : ls.size = nL) (hM : MmV l y ws d As k M I post) (hG : GoodIn Ts (va_wsS own index y ws)) (hw : ws = Cond.code y bytes maxL ret :: ws') (hd : y.cls ≠ "java/lang/invoke/MethodHandle" ∧ y.cls ≠ "java/lang/invoke/VarHandle" ∧ (parseMethodDescriptor y.desc).map (fun d => d.parameters.length) = some n)
    (hR : d + 1 ≤ R.frames ∧ 8 + (maxL + 11) + 64 * d ≤ R.locals) (hc9 : cells ≤ R.cells ∧ slots ≤ R.slots) (hrest : (rest.map fun v => v.category).sum ≤ 8) (hn : As.length = n) (hst : st0 = As.reverse ++ rest) (hdg : decode cc pc = .ok (.invokestatic index, 3)) (kk : ∀ (I' : IS) (H1 : Heap) (locs1 : List Loc), post I' → HXm k M A s I' H1 locs1 → W p l e R s m args below meth c H1 locs1 cells slots Q (F0 m (pc + 3) ls rest)) : W p l e R s m args below meth c H locs cells slots Q (F0 m pc ls st0) := by
  have hA := hm_free C0 h
  refine va_callv (va_runS (As := As) (rest := rest) C0.1 (hM H.size) (va_cwS n C0.1.2.2.2.2 hG hw rfl rfl hd hR) ⟨pcM_blind k M I H.size As, hm_pre C0 h As⟩ rfl hn hls hst (lv_room hrest) hdg hc9) h.2 (fun q _ hq => hA q hq) hA (fun I' t H1 locs1 ht hvm hp hb hz hkp hS => ?_)
  exact kk I' H1 locs1 hp ⟨by rw [← ht]; exact hb, hS⟩
theorem m_cVV {y : MethodName} {bytes : ByteArray} {maxL index d n : Nat} {ret : Option FieldType} {ws ws' : List Cond} {As : List Value} {post : IS → Prop} {st0 : List Value} {C : vw_C} {ci : Nat} {fs : List Value} (C0 : CXm p s m args c cc nL Ts own k M A) (h : HXm k M A s I H locs) (hls : ls.size = nL) (o : Nat) (ho : o < M) (he : ceM k M o (I o) = .inr (ci, fs)) (hci : clM[ci]? = some C) (hM : MmV l y ws d (.ref (k.2.1 o) :: As) k M I post) (hG : GoodIn Ts (wsV own index C.1 y ws)) (hw : ws = Cond.code y bytes maxL ret :: ws') (hd : y.cls = C.1 ∧ y.cls ≠ "java/lang/invoke/MethodHandle" ∧ y.cls ≠ "java/lang/invoke/VarHandle" ∧ (parseMethodDescriptor y.desc).map (fun d => d.parameters.length) = some n)
    (hR : d + 1 ≤ R.frames ∧ 8 + (maxL + 11) + 64 * d ≤ R.locals) (hc9 : cells ≤ R.cells ∧ slots ≤ R.slots) (hrest : (rest.map fun v => v.category).sum ≤ 8) (hn : As.length = n) (hst : st0 = As.reverse ++ .ref (k.2.1 o) :: rest) (hdg : decode cc pc = .ok (.invokevirtual index, 3)) (kk : ∀ (I' : IS) (H1 : Heap) (locs1 : List Loc), post I' → HXm k M A s I' H1 locs1 → W p l e R s m args below meth c H1 locs1 cells slots Q (F0 m (pc + 3) ls rest)) : W p l e R s m args below meth c H locs cells slots Q (F0 m pc ls st0) := by
  have hA := hm_free C0 h
  refine va_callv (va_runV (As := As) (rest := rest) C0.1 (hM H.size) (cwV n C0.1.2.2.2.2 hG hw rfl rfl hd hR) ⟨pcM_blind k M I H.size _, hm_recv C0 h ho he hci, hm_pre C0 h _⟩ rfl hn hls hst (lv_room hrest) hdg hc9) h.2 (fun q _ hq => hA q hq) hA (fun I' t H1 locs1 ht hvm hp hb hz hkp hS => ?_)
  exact kk I' H1 locs1 hp ⟨by rw [← ht]; exact hb, hS⟩
end RCm
