/-! 02: the room as a list of numbered cells, at addresses that never change; what changes are ints: I n j, the int at place j of cell n -/
abbrev clX : List vw_C := [(RX0, TX0, 6), (RX1, TX1, 7), (RX2, TX2, 12), (RX3, TX3, 7)]
/-- class numbers and slots; the cells' addresses; the array classes: 0 int[], 1 Letter[], 2 CallList[], 3 int[][] -/
abbrev Sk : Type := va_G × (Nat → Nat) × (Nat → ClassId)
abbrev IS : Type := Nat → Nat → Int32
def up2 (I : IS) (n j : Nat) (v : Int32) : IS := fun a => if a = n then upd (I n) j v else I a
theorem up2_at (I : IS) (n j : Nat) (v : Int32) : up2 I n j v n = upd (I n) j v := if_pos rfl
theorem up2_ne (I : IS) {n a : Nat} (j : Nat) (v : Int32) (h : a ≠ n) : up2 I n j v a = I a := if_neg h
def lnX (n : Nat) : Nat := if n = 4 then 20 else if n = 5 then 20 else if n = 8 then 60 else 6
theorem lnX_le (n : Nat) : lnX n ≤ 60 := by
  unfold lnX
  repeat' split
  all_goals omega
def fO (k : Sk) (f : Nat → Int32) : List Value := [.ref (k.2.1 1), .ref (k.2.1 2), .ref (k.2.1 3), .ref (k.2.1 4), .int (f 4), .int (f 5), .int (f 6)]
def fB (k : Sk) (f : Nat → Int32) : List Value := [.ref (k.2.1 5), .ref (k.2.1 6), .ref (k.2.1 7), .ref (k.2.1 8), .ref (k.2.1 9), .int (f 5), .int (f 6)]
def fL (f : Nat → Int32) : List Value := [.int (f 0), .int (f 1), .int (f 2), .int (f 3), .int (f 4), .int (f 5), .int (f 6), .int (f 7), .int (f 8), .int (f 9), .int (f 10), .int (f 11)]
def fC (f : Nat → Int32) : List Value := [.int (f 0), .int (f 1), .int (f 2), .int (f 3), .int (f 4), .int (f 5)]
def ceX (k : Sk) (n : Nat) (f : Nat → Int32) : va_E :=
  if n = 0 then .inr (3, fO k f)
  else if n = 1 then .inl (k.2.2 1, 20, .inr (.inr (.inr (.inr (fun i => if i < 20 then some (k.2.1 (10 + i)) else none)))))
  else if n = 2 then .inl (k.2.2 2, 8, .inr (.inr (.inr (.inr (fun i => if i < 8 then some (k.2.1 (30 + i)) else none)))))
  else if n = 3 then .inr (1, fB k f)
  else if n = 7 then .inl (k.2.2 3, 60, .inr (.inr (.inr (.inr (fun i => if i < 60 then some (k.2.1 (38 + i)) else none)))))
  else if n < 10 then .inl (k.2.2 0, lnX n, .inl f)
  else if n < 30 then .inr (2, fL f)
  else if n < 38 then .inr (0, fC f)
  else .inl (k.2.2 0, 6, .inl f)
def Wd (k : Sk) (M : Nat) (I : IS) : va_W := (List.range M).map (fun n => (k.2.1 n, ceX k n (I n)))
def tyK (k : Sk) : List (ClassId × FieldType) := [(k.2.2 0, .int), (k.2.2 1, .object "SignetRoom$Letter"), (k.2.2 2, .object "SignetRoom$CallList"), (k.2.2 3, .array .int)]
/-- the addresses are apart -/
def Ij (k : Sk) (M : Nat) : Prop := 98 ≤ M ∧ ∀ i j, i < M → j < M → k.2.1 i = k.2.1 j → i = j
def AX (k : Sk) (M sz : Nat) : Nat → Prop := fun q => (∃ n, n < M ∧ q = k.2.1 n) ∨ sz ≤ q
def Tb (U : State) : Prop := (∀ q ∈ nfX, va_Nw (.fieldLinkNest q.1 q.2.1 q.2.2.1 q.2.2.2.1 q.2.2.2.2 RX3) U) ∧ (∀ q ∈ nmX, va_Nw (.methodLinkNest q.1 q.2.1 q.2.2 RX3) U)
theorem Tb.warm {s U : State} (hW : s.WarmedH U.vm) (h : Tb s) : Tb U := ⟨fun q hq => va_Nw.warmF hW (h.1 q hq), fun q hq => va_Nw.warmM hW (h.2 q hq)⟩
theorem Tb.same {u U : State} (h : u.vm = U.vm) (hZ : Tb u) : Tb U := ⟨fun q hq => va_Nw.same rfl h (hZ.1 q hq), fun q hq => va_Nw.same rfl h (hZ.2 q hq)⟩
theorem wd_at (k : Sk) {M : Nat} (I : IS) {n : Nat} (h : n < M) : (Wd k M I)[n]? = some (k.2.1 n, ceX k n (I n)) := by
  simp [Wd, List.getElem?_map, List.getElem?_range h]
theorem wd_in (k : Sk) {M : Nat} (I : IS) {n : Nat} {q : Nat × va_E} (h : (Wd k M I)[n]? = some q) : n < M ∧ q = (k.2.1 n, ceX k n (I n)) := by
  have h1 : n < M := by
    have := (List.getElem?_eq_some_iff.mp h).1
    simpa [Wd] using this
  rw [wd_at k I h1] at h
  exact ⟨h1, (Option.some.inj h).symm⟩
theorem wd_set (k : Sk) {M : Nat} (I : IS) {n : Nat} (h : n < M) (j : Nat) (v : Int32) : (Wd k M I).set n (k.2.1 n, ceX k n (upd (I n) j v)) = Wd k M (up2 I n j v) := by
  apply List.ext_getElem?
  intro i
  by_cases hi : i = n
  · subst hi
    rw [List.getElem?_set_self (by simpa [Wd] using h), wd_at k _ h, up2_at]
  · rw [List.getElem?_set_ne (Ne.symm hi)]
    by_cases hM : i < M
    · rw [wd_at k _ hM, wd_at k _ hM, up2_ne I j v hi]
    · rw [List.getElem?_eq_none (by simpa [Wd] using Nat.not_lt.mp hM), List.getElem?_eq_none (by simpa [Wd] using Nat.not_lt.mp hM)]
theorem wd_D {k : Sk} {M : Nat} {I : IS} {A : Nat → Prop} (hJ : Ij k M) (hA : ∀ n, n < M → A (k.2.1 n)) : va_D A (Wd k M I) := by
  refine ⟨fun i j p q hi hj e => ?_, fun i q hq => ?_⟩
  · obtain ⟨h1, rfl⟩ := wd_in k I hi
    obtain ⟨h2, rfl⟩ := wd_in k I hj
    exact hJ.2 i j h1 h2 e
  · obtain ⟨h1, rfl⟩ := wd_in k I hq
    exact hA i h1
theorem ce0 (k : Sk) (f : Nat → Int32) : ceX k 0 f = .inr (3, fO k f) := rfl
theorem ce1 (k : Sk) (f : Nat → Int32) : ceX k 1 f = .inl (k.2.2 1, 20, .inr (.inr (.inr (.inr (fun i => if i < 20 then some (k.2.1 (10 + i)) else none))))) := rfl
theorem ce2 (k : Sk) (f : Nat → Int32) : ceX k 2 f = .inl (k.2.2 2, 8, .inr (.inr (.inr (.inr (fun i => if i < 8 then some (k.2.1 (30 + i)) else none))))) := rfl
theorem ce3 (k : Sk) (f : Nat → Int32) : ceX k 3 f = .inr (1, fB k f) := rfl
theorem ce7 (k : Sk) (f : Nat → Int32) : ceX k 7 f = .inl (k.2.2 3, 60, .inr (.inr (.inr (.inr (fun i => if i < 60 then some (k.2.1 (38 + i)) else none))))) := rfl
theorem ceL (k : Sk) (f : Nat → Int32) {i : Nat} (h : i < 20) : ceX k (10 + i) f = .inr (2, fL f) := by
  unfold ceX
  rw [if_neg (by omega), if_neg (by omega), if_neg (by omega), if_neg (by omega), if_neg (by omega), if_neg (by omega), if_pos (by omega)]
theorem ceC (k : Sk) (f : Nat → Int32) {i : Nat} (h : i < 8) : ceX k (30 + i) f = .inr (0, fC f) := by
  unfold ceX
  rw [if_neg (by omega), if_neg (by omega), if_neg (by omega), if_neg (by omega), if_neg (by omega), if_neg (by omega), if_neg (by omega), if_pos (by omega)]
/-- an int array: which cells are one, and how long -/
def isA (n : Nat) : Prop := n = 4 ∨ n = 5 ∨ n = 6 ∨ n = 8 ∨ n = 9 ∨ 38 ≤ n
theorem ceA (k : Sk) (f : Nat → Int32) {n : Nat} (h : isA n) : ceX k n f = .inl (k.2.2 0, lnX n, .inl f) := by
  rcases h with rfl | rfl | rfl | rfl | rfl | h
  · rfl
  · rfl
  · rfl
  · rfl
  · rfl
  · unfold ceX lnX
    rw [if_neg (by omega), if_neg (by omega), if_neg (by omega), if_neg (by omega), if_neg (by omega), if_neg (by omega), if_neg (by omega), if_neg (by omega), if_neg (by omega), if_neg (by omega), if_neg (by omega)]
section RB
variable {p : Program} {l : Launch} {e : Env} {R : Room} {s : State} {m : MethodId} {args : Array Value} {below : List Frame} {meth : Method} {c : Code} {H : Heap} {locs : List Loc} {cells slots : Nat} {Q : State → Prop}
variable {cc : ByteArray} {nL : Nat} {Ts : List Cond} {own : String} {k : Sk} {M : Nat} {A : Nat → Prop} {I : IS} {pc : Nat} {ls : Array Slot} {rest : List Value}
/-- what stays through a method: the machine, the words, the tables, the addresses, what may be changed -/
abbrev CX (p : Program) (s : State) (m : MethodId) (args : Array Value) (c : Code) (cc : ByteArray) (nL : Nat) (Ts : List Cond) (own : String) (k : Sk) (M : Nat) (A : Nat → Prop) : Prop :=
  CallFix p m c cc nL s args Ts own ∧ Tb s ∧ va_K k.1 clX (tyK k) s ∧ Ij k M ∧ (∀ n, n < M → A (k.2.1 n)) ∧ (∀ q, s.heap.size ≤ q → A q)
/-- what moves: the heap holds I, and nothing else was changed -/
abbrev HX (k : Sk) (M : Nat) (A : Nat → Prop) (s : State) (I : IS) (H : Heap) (locs : List Loc) : Prop := va_P k.1 clX (Wd k M I) H ∧ va_S A s.heap H locs
theorem r_get {ref C : String} {T : u_T} {N ci index : Nat} (C0 : CX p s m args c cc nL Ts own k M A) (h : HX k M A s I H locs) (n : Nat) (hn : n < M) {fs : List Value} (he : ceX k n (I n) = .inr (ci, fs)) (hin : ∀ w ∈ u_ws C T N, w ∈ Ts) (hc : clX[ci]? = some (C, T, N)) (j : Nat) (hj : j < N) (hl : Cond.fieldLink own index ref (T j).2.1 (T j).2.2.1 ∈ Ts) (href : (T j).1 = ref) {v : Value} (hv : fs[j]? = some v) (hdg : decode cc pc = .ok (.getfield index, 3))
    (kk : W p l e R s m args below meth c H locs cells slots Q (F0 m (pc + 3) ls (v :: rest))) : W p l e R s m args below meth c H locs cells slots Q (F0 m pc ls (.ref (k.2.1 n) :: rest)) := by
  obtain ⟨⟨hx, hb, hml, hown, hts⟩, hT, hK, hJ, hA, hAs⟩ := C0
  subst href
  exact va_get (ci := ci) (fs := fs) (C := C) (T := T) (N := N) (Ts := Ts) hx hb hts hin hown hK h.1 n (by rw [wd_at k I hn, he]) hc j hj (hts _ hl) (fun _ h9 => h9) hv hdg kk
theorem r_getN {ref C : String} {T : u_T} {N ci index : Nat} (C0 : CX p s m args c cc nL Ts own k M A) (h : HX k M A s I H locs) (n : Nat) (hn : n < M) {fs : List Value} (he : ceX k n (I n) = .inr (ci, fs)) (hin : ∀ w ∈ u_ws C T N, w ∈ Ts) (hc : clX[ci]? = some (C, T, N)) (j : Nat) (hj : j < N) (hl : (own, index, ref, (T j).2.1, (T j).2.2.1) ∈ nfX) (href : (T j).1 = ref) {v : Value} (hv : fs[j]? = some v) (hdg : decode cc pc = .ok (.getfield index, 3))
    (kk : W p l e R s m args below meth c H locs cells slots Q (F0 m (pc + 3) ls (v :: rest))) : W p l e R s m args below meth c H locs cells slots Q (F0 m pc ls (.ref (k.2.1 n) :: rest)) := by
  obtain ⟨⟨hx, hb, hml, hown, hts⟩, hT, hK, hJ, hA, hAs⟩ := C0
  subst href
  exact va_getN (ci := ci) (fs := fs) (C := C) (T := T) (N := N) (Ts := Ts) hx hb hts hin hown hK h.1 n (by rw [wd_at k I hn, he]) hc j hj (va_Nw.use rfl (hT.1 _ hl)) (fun _ h9 => h9) hv hdg kk
theorem r_put {ref C : String} {T : u_T} {N ci index : Nat} {ty0 : Nat → FieldType} (C0 : CX p s m args c cc nL Ts own k M A) (h : HX k M A s I H locs) (n : Nat) (hn : n < M) {fs : List Value} (he : ceX k n (I n) = .inr (ci, fs)) (hin : ∀ w ∈ u_ws C T N, w ∈ Ts) (hty : ∀ k, k < N → parseFieldDescriptor (T k).2.2.1 = some (ty0 k)) (hnm : ∀ a, a < N → ∀ b, b < N → a ≠ b → (T a).2.1 ≠ (T b).2.1) (hc : clX[ci]? = some (C, T, N)) (j : Nat) (hj : j < N) (hl : Cond.fieldLink own index ref (T j).2.1 (T j).2.2.1 ∈ Ts) (href : (T j).1 = ref) (hfin : (T j).2.2.2 = false) {v : Int32}
    (hn1 : narrow (ty0 j) (.int v) = .int v) (hfit : fits (ty0 j) (.int v) = true) (hlen : j < fs.length) (hset : ceX k n (upd (I n) j v) = .inr (ci, fs.set j (.int v))) (hdg : decode cc pc = .ok (.putfield index, 3))
    (kk : ∀ (H1 : Heap) (locs1 : List Loc), HX k M A s (up2 I n j v) H1 locs1 → W p l e R s m args below meth c H1 locs1 cells slots Q (F0 m (pc + 3) ls rest)) : W p l e R s m args below meth c H locs cells slots Q (F0 m pc ls (.int v :: .ref (k.2.1 n) :: rest)) := by
  obtain ⟨⟨hx, hb, hml, hown, hts⟩, hT, hK, hJ, hA, hAs⟩ := C0
  subst href
  refine va_put (ci := ci) (fs := fs) (C := C) (T := T) (N := N) (Ts := Ts) (ty := ty0 j) (v := .int v) hx hb hts hin ty0 hty hnm hown hK h.1 (wd_D hJ hA) h.2 n (by rw [wd_at k I hn, he]) hc j hj (hts _ hl) (fun _ h9 => h9) hfin (hty j hj) hn1 hfit hlen hdg (fun H1 locs1 hP1 _ hS1 => kk H1 locs1 ⟨?_, hS1⟩)
  rw [← hset, wd_set k I hn] at hP1
  exact hP1
theorem r_putN {ref C : String} {T : u_T} {N ci index : Nat} {ty0 : Nat → FieldType} (C0 : CX p s m args c cc nL Ts own k M A) (h : HX k M A s I H locs) (n : Nat) (hn : n < M) {fs : List Value} (he : ceX k n (I n) = .inr (ci, fs)) (hin : ∀ w ∈ u_ws C T N, w ∈ Ts) (hty : ∀ k, k < N → parseFieldDescriptor (T k).2.2.1 = some (ty0 k)) (hnm : ∀ a, a < N → ∀ b, b < N → a ≠ b → (T a).2.1 ≠ (T b).2.1) (hc : clX[ci]? = some (C, T, N)) (j : Nat) (hj : j < N) (hl : (own, index, ref, (T j).2.1, (T j).2.2.1) ∈ nfX) (href : (T j).1 = ref) (hfin : (T j).2.2.2 = false) {v : Int32}
    (hn1 : narrow (ty0 j) (.int v) = .int v) (hfit : fits (ty0 j) (.int v) = true) (hlen : j < fs.length) (hset : ceX k n (upd (I n) j v) = .inr (ci, fs.set j (.int v))) (hdg : decode cc pc = .ok (.putfield index, 3))
    (kk : ∀ (H1 : Heap) (locs1 : List Loc), HX k M A s (up2 I n j v) H1 locs1 → W p l e R s m args below meth c H1 locs1 cells slots Q (F0 m (pc + 3) ls rest)) : W p l e R s m args below meth c H locs cells slots Q (F0 m pc ls (.int v :: .ref (k.2.1 n) :: rest)) := by
  obtain ⟨⟨hx, hb, hml, hown, hts⟩, hT, hK, hJ, hA, hAs⟩ := C0
  subst href
  refine va_putN (ci := ci) (fs := fs) (C := C) (T := T) (N := N) (Ts := Ts) (ty := ty0 j) (v := .int v) hx hb hts hin ty0 hty hnm hown hK h.1 (wd_D hJ hA) h.2 n (by rw [wd_at k I hn, he]) hc j hj (va_Nw.use rfl (hT.1 _ hl)) (fun _ h9 => h9) hfin (hty j hj) hn1 hfit hlen hdg (fun H1 locs1 hP1 _ hS1 => kk H1 locs1 ⟨?_, hS1⟩)
  rw [← hset, wd_set k I hn] at hP1
  exact hP1
theorem r_iald (C0 : CX p s m args c cc nL Ts own k M A) (h : HX k M A s I H locs) (n : Nat) (hn : n < M) (ha : isA n) (i : Nat) (hi : i < lnX n) (hdg : decode cc pc = .ok (.iaload, 1))
    (kk : W p l e R s m args below meth c H locs cells slots Q (F0 m (pc + 1) ls (.int (I n i) :: rest))) : W p l e R s m args below meth c H locs cells slots Q (F0 m pc ls (.int (nI i) :: .ref (k.2.1 n) :: rest)) := by
  obtain ⟨⟨hx, hb, hml, hown, hts⟩, hT, hK, hJ, hA, hAs⟩ := C0
  have hl := lnX_le n
  refine va_iald (n := lnX n) (f := I n) hx hb hK h.1 n 0 (by rw [wd_at k I hn, ceA k _ ha]) rfl (vp_in_nI hi (by omega)) hdg ?_
  rw [nI_clamp (by omega)]
  exact kk
theorem r_iast (C0 : CX p s m args c cc nL Ts own k M A) (h : HX k M A s I H locs) (n : Nat) (hn : n < M) (ha : isA n) (i : Nat) (hi : i < lnX n) {v : Int32} (hdg : decode cc pc = .ok (.iastore, 1))
    (kk : ∀ (H1 : Heap) (locs1 : List Loc), HX k M A s (up2 I n i v) H1 locs1 → W p l e R s m args below meth c H1 locs1 cells slots Q (F0 m (pc + 1) ls rest)) : W p l e R s m args below meth c H locs cells slots Q (F0 m pc ls (.int v :: .int (nI i) :: .ref (k.2.1 n) :: rest)) := by
  obtain ⟨⟨hx, hb, hml, hown, hts⟩, hT, hK, hJ, hA, hAs⟩ := C0
  have hl := lnX_le n
  refine va_iast (n := lnX n) (f := I n) hx hb hK h.1 (wd_D hJ hA) h.2 n 0 (by rw [wd_at k I hn, ceA k _ ha]) rfl (vp_in_nI hi (by omega)) hdg (fun H1 locs1 hP1 _ hS1 => kk H1 locs1 ⟨?_, hS1⟩)
  rw [nI_clamp (by omega), ← ceA k _ ha, wd_set k I hn] at hP1
  exact hP1
theorem r_aaldL (C0 : CX p s m args c cc nL Ts own k M A) (h : HX k M A s I H locs) (i : Nat) (hi : i < 20) (hdg : decode cc pc = .ok (.aaload, 1))
    (kk : W p l e R s m args below meth c H locs cells slots Q (F0 m (pc + 1) ls (.ref (k.2.1 (10 + i)) :: rest))) : W p l e R s m args below meth c H locs cells slots Q (F0 m pc ls (.int (nI i) :: .ref (k.2.1 1) :: rest)) := by
  obtain ⟨⟨hx, hb, hml, hown, hts⟩, hT, hK, hJ, hA, hAs⟩ := C0
  refine va_aldq (n := 20) (C := "SignetRoom$Letter") hx hb hK h.1 1 1 (by rw [wd_at k I (by have := hJ.1; omega), ce1]) rfl (vp_in_nI hi (by omega)) hdg ?_
  rw [nI_clamp (by omega), if_pos hi]
  exact kk
theorem r_aaldC (C0 : CX p s m args c cc nL Ts own k M A) (h : HX k M A s I H locs) (i : Nat) (hi : i < 8) (hdg : decode cc pc = .ok (.aaload, 1))
    (kk : W p l e R s m args below meth c H locs cells slots Q (F0 m (pc + 1) ls (.ref (k.2.1 (30 + i)) :: rest))) : W p l e R s m args below meth c H locs cells slots Q (F0 m pc ls (.int (nI i) :: .ref (k.2.1 2) :: rest)) := by
  obtain ⟨⟨hx, hb, hml, hown, hts⟩, hT, hK, hJ, hA, hAs⟩ := C0
  refine va_aldq (n := 8) (C := "SignetRoom$CallList") hx hb hK h.1 2 2 (by rw [wd_at k I (by have := hJ.1; omega), ce2]) rfl (vp_in_nI hi (by omega)) hdg ?_
  rw [nI_clamp (by omega), if_pos hi]
  exact kk
theorem r_aald0 {D : va_G} {cl : List vw_C} {tys : List (ClassId × FieldType)} {ws : va_W} {a : Nat} (hx : p.tables.exec = Jvm.exec) (hb : c.code = cc) (hK : va_K D cl tys s) (hP : va_P D cl ws H) (q0 t0 : Nat) {cA : ClassId} {ty : FieldType} {n : Nat} {f : Nat → Option Nat} (ha : ws[q0]? = some (a, .inl (cA, n, .inr (.inr (.inr (.inr f)))))) (ht : tys[t0]? = some (cA, ty)) (hty : ty.isReference = true) {i : Int32} (hin : vp_in i n) (hdg : decode cc pc = .ok (.aaload, 1))
    (kk : W p l e R s m args below meth c H locs cells slots Q (F0 m (pc + 1) ls (va_rf (f i.toNatClampNeg) :: rest))) : W p l e R s m args below meth c H locs cells slots Q (F0 m pc ls (.int i :: .ref a :: rest)) := by
  have hlt : i.toNatClampNeg < n := Nat.not_le.mp fun q => hin (Or.inr q)
  exact W.aald (v := va_rf (f i.toNatClampNeg)) (ty := ty) hx hb (hP q0 _ ha) ((hK.2 t0 _ ht).1 n (fun j => va_rf (f j))) hty (fun q => by cases q) (by show ¬ (i < 0 ∨ (arrV _ _ _).slots.size ≤ _); rw [arrV_size]; exact hin) (by show (arrV _ _ _).slots[_]? = _; rw [arrV_read _ _ hlt]) rfl rfl hdg kk
theorem r_aaldR (C0 : CX p s m args c cc nL Ts own k M A) (h : HX k M A s I H locs) (i : Nat) (hi : i < 60) (hdg : decode cc pc = .ok (.aaload, 1))
    (kk : W p l e R s m args below meth c H locs cells slots Q (F0 m (pc + 1) ls (.ref (k.2.1 (38 + i)) :: rest))) : W p l e R s m args below meth c H locs cells slots Q (F0 m pc ls (.int (nI i) :: .ref (k.2.1 7) :: rest)) := by
  obtain ⟨⟨hx, hb, hml, hown, hts⟩, hT, hK, hJ, hA, hAs⟩ := C0
  refine r_aald0 (n := 60) (ty := .array .int) hx hb hK h.1 7 3 (by rw [wd_at k I (by have := hJ.1; omega), ce7]) rfl rfl (vp_in_nI hi (by omega)) hdg ?_
  rw [nI_clamp (by omega), if_pos hi]
  exact kk
end RB
