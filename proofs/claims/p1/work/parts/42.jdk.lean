/-! 42: the list of the JDK, on the empty state -/
theorem va_P_all {D : va_G} {cl : List vw_C} {ws : va_W} {H H1 : Heap} (hP : va_P D cl ws H) (hk : ∀ q : Nat, q < H.size → H1[q]? = H[q]?) : va_P D cl ws H1 := hP.kept (fun k x hx => hk x.1 (hP k x hx).lt)
/-- the shared empty row, at e -/
def ZL (e : Nat) (A : Nat → Prop) (U : State) : Prop := va_Z "java/util/ArrayList" "DEFAULTCAPACITY_EMPTY_ELEMENTDATA" "[Ljava/lang/Object;" (.ref e) A U U.heap ∧ va_T (.object "java/lang/Object") e 0 (fun _ => .null) A U U.heap
theorem ZL.same {e : Nat} {A : Nat → Prop} {u U : State} (hv : u.vm = U.vm) (hh : u.heap = U.heap) (h : ZL e A u) : ZL e A U := by
  obtain ⟨h1, h2⟩ := h
  have hA : u.vm.Alike U.vm := by rw [hv]; exact Vm.Alike.refl _
  exact ⟨by rw [← hh]; exact h1.moved hA, by rw [← hh]; exact h2.moved hA⟩
theorem ZL.go {e : Nat} {A B : Nat → Prop} {s U : State} (h : ZL e A s) (hW : s.WarmedH U.vm) (hk : ∀ a : Nat, a < s.heap.size → ¬ A a → U.heap[a]? = s.heap[a]?) (hAB : ∀ q, B q → A q) : ZL e B U :=
  ⟨((h.1.moved hW.alike).kept hk).narrow hAB, ((h.2.moved hW.alike).kept hk).narrow hAB⟩
def wAL (a mc e n : Nat) : va_W := [(a, .inr (1, [.int (nI mc), .ref e, .int (nI n)]))]
def wIt (q c mc a : Nat) : va_W := [(q, .inr (2, [.int (nI c), .int (-1), .int (nI mc), .ref a]))]
/-- one cell of its own, and what is new -/
def A1 (a sz : Nat) : Nat → Prop := fun q => q = a ∨ sz ≤ q
theorem D1 {a sz : Nat} {e : va_E} : va_D (A1 a sz) [(a, e)] := by
  refine ⟨fun i j p q hi hj _ => ?_, fun k x hx => ?_⟩
  · have a1 := (List.getElem?_eq_some_iff.mp hi).1
    have a2 := (List.getElem?_eq_some_iff.mp hj).1
    simp at a1 a2
    omega
  · cases k with
    | zero => cases hx; exact Or.inl rfl
    | succ k => simp at hx
theorem va_P_S {D : va_G} {cl : List vw_C} {ws : va_W} {A : Nat → Prop} {H0 H : Heap} {locs : List Loc} (hP : va_P D cl ws H0) (hS : va_S A H0 H locs) (hn : ∀ (k : Nat) (x : Nat × va_E), ws[k]? = some x → ¬ A x.1) : va_P D cl ws H := hP.kept (fun k x hx => hS.2.1 x.1 (hP k x hx).lt (hn k x hx))
theorem va_P_S1 {D : va_G} {cl : List vw_C} {a : Nat} {e : va_E} {A : Nat → Prop} {H0 H : Heap} {locs : List Loc} (hP : va_P D cl [(a, e)] H0) (hS : va_S A H0 H locs) (hn : ¬ A a) : va_P D cl [(a, e)] H := va_P_S hP hS (fun k x hx => by
  cases k with
  | zero => cases hx; exact hn
  | succ k => simp at hx)
theorem va_P_lt {D : va_G} {cl : List vw_C} {a : Nat} {e : va_E} {H : Heap} (hP : va_P D cl [(a, e)] H) : a < H.size := (hP 0 (a, e) rfl).lt
theorem D0 {A : Nat → Prop} : va_D A [] := ⟨fun i j p q h => by simp at h, fun k q h => by simp at h⟩
theorem P0 {D : va_G} {cl : List vw_C} {H : Heap} : va_P D cl [] H := fun k q h => by simp at h
theorem any_S {E : String} {s : State} {A : Nat → Prop} {H0 H : Heap} {locs : List Loc} {v : Nat} (h : va_Any E s H0 v) (hS : va_S A H0 H locs) (hn : ¬ A v) : va_Any E s H v := by
  obtain ⟨cell, h1, h2⟩ := h
  exact ⟨cell, by rw [hS.2.1 v (Array.getElem?_eq_some_iff.mp h1).1 hn]; exact h1, h2⟩
theorem any_go {E : String} {s U : State} {H : Heap} {v : Nat} (h : va_Any E s H v) (hv : s.vm.Alike U.vm) : va_Any E U H v := by
  obtain ⟨cell, h1, h2, ⟨kC, h3⟩, h4⟩ := h
  obtain ⟨kC', h3', -⟩ := hv.2.2 _ _ h3
  exact ⟨cell, h1, h2, ⟨kC', h3'⟩, fun comp hc => by rw [hv.assignable]; exact h4 comp (by rw [← hv.findClass]; exact hc)⟩
set_option maxHeartbeats 4000000 in
set_option maxRecDepth 100000 in
/-- AbstractCollection() -/
theorem je_AC_init (l : Launch) (h0 : Nat) (sz : Nat) : Met l yJxa1e45_init_da8c8 wsJxa1e45_init_da8c8 (RmA 1 0 0) (va_Pc [.ref h0] (fun U => U.heap.size = sz)) (va_Qv (fun _ : Unit => True) (fun _ _ => True) (fun q => sz ≤ q)) 0 0 (fun q => sz ≤ q) := by
  refine Met.ofW (cc := cJxa1e45_init_da8c8) (maxL := 1) (ret := none) (by decide) rfl ?_
  intro p e s m args below meth c s₁ B hml hv
  obtain ⟨rfl, rfl⟩ := hv
  have hts := atoms_spec (ws := wsJxa1e45_init_da8c8) B.pre
  have hx := B.exec
  have hb := B.bytes
  have hr := B.returns
  have hlk := B.notSynchronized
  have hown : s.vm.findClass RJxa1e45 = some m.cls := findClass_of_methodNamed B.named
  have hl := lv_entry ([.ref h0]) (n := 1) (Nat.le_of_ble_eq_true rfl)
  rw [lg_entry_eq]
  generalize (lg_sl ([.ref h0]) ++ List.replicate (1 - (lg_sl ([.ref h0])).length) Slot.unset).toArray = ls at hl ⊢
  have hl : lv_has ls 1 [(0, .ref h0)] := hl
  have hS : va_S (fun q => s.heap.size ≤ q) s.heap s.heap [] := va_S.rf
  refine lv_aload_n hx hb dJxa1e45_init_da8c8_0 rfl (lv_at hl 0 rfl) ?_
  refine W.objInit hx hb hown (hts (.methodLink RJxa1e45 1 objectInit) (by decide +kernel)) (hts (.instanceMethod objectInit) (by decide +kernel)) (hts (.code objectInit ⟨#[0xb1]⟩ 1 none) (by decide +kernel)) rfl (by rw [hml]; exact hl.1) rfl dJxa1e45_init_da8c8_1 (Nat.le_of_ble_eq_true rfl) (Nat.le_of_ble_eq_true rfl) ?_
  refine W.eq (g2 := F0 m 4 ls []) rfl ?_
  exact W.vret hx hb hr (fun t ht hW => ⟨⟨(), rfl, trivial, trivial⟩, hS.F ht⟩) hS.2.2 dJxa1e45_init_da8c8_4 hlk
set_option maxHeartbeats 4000000 in
set_option maxRecDepth 100000 in
/-- AbstractList() -/
theorem je_AL0_init (l : Launch) (D : va_G) (h0 : Nat) (m0 n0 : Int32) (v9 : Value) (sz : Nat) : Met l yJxc12de_init_da8c8 wsJxc12de_init_da8c8 (RmA 2 0 0) (va_Pc [.ref h0] (fun U => U.heap.size = sz ∧ va_P D clM [(h0, .inr (1, [.int m0, v9, .int n0]))] U.heap ∧ va_K D clM [] U)) (va_Qv (fun _ : Unit => True) (fun _ t => va_P D clM [(h0, .inr (1, [.int 0, v9, .int n0]))] t.heap) (A1 h0 sz)) 0 0 (A1 h0 sz) := by
  refine Met.ofW (cc := cJxc12de_init_da8c8) (maxL := 1) (ret := none) (by decide) rfl ?_
  intro p e s m args below meth c s₁ B hml hv
  obtain ⟨rfl, rfl, hP, hK⟩ := hv
  have hts := atoms_spec (ws := wsJxc12de_init_da8c8) B.pre
  have hx := B.exec
  have hb := B.bytes
  have hr := B.returns
  have hlk := B.notSynchronized
  have hown : s.vm.findClass RJxc12de = some m.cls := findClass_of_methodNamed B.named
  have hl := lv_entry ([.ref h0]) (n := 1) (Nat.le_of_ble_eq_true rfl)
  rw [lg_entry_eq]
  generalize (lg_sl ([.ref h0]) ++ List.replicate (1 - (lg_sl ([.ref h0])).length) Slot.unset).toArray = ls at hl ⊢
  have hl : lv_has ls 1 [(0, .ref h0)] := hl
  have hD : va_D (A1 h0 s.heap.size) [(h0, .inr (1, [.int m0, v9, .int n0]))] := D1
  have hS : va_S (A1 h0 s.heap.size) s.heap s.heap [] := va_S.rf
  have hin : ∀ w ∈ u_ws RJx4a65c TJx4a65c 3, w ∈ wsJxc12de_init_da8c8 := by decide +kernel
  refine lv_aload_n hx hb dJxc12de_init_da8c8_0 rfl (lv_at hl 0 rfl) ?_
  refine va_callv (va_runI (As := []) (rest := []) ⟨hx, hb, hml, hown, hts⟩ (je_AC_init l h0 s.heap.size) (cwI 0 hts gJxc12de_init_da8c8_Jxa1e45_init_da8c8 rfl rfl rfl (hts (.initialized RJxa1e45) (by decide +kernel)) (hts (.methodLink RJxc12de 1 yJxa1e45_init_da8c8) (by decide +kernel)) (hts (.instanceMethod yJxa1e45_init_da8c8) (by decide +kernel)) rfl (by decide +kernel) ⟨Nat.le_of_ble_eq_true rfl, Nat.le_of_ble_eq_true rfl⟩) ⟨fun a U g mk q => q, fun U hU hW => ⟨rfl, by show U.heap.size = _; rw [hU]⟩⟩ rfl rfl hl.1 rfl (lv_room (Nat.le_of_ble_eq_true rfl)) dJxc12de_init_da8c8_1 ⟨Nat.le_of_ble_eq_true rfl, Nat.le_of_ble_eq_true rfl⟩) hS (fun q _ h => Or.inr h) (fun q h => Or.inr h) (fun u t H1 locs ht hvm hw hB hz1 hk1 hS => ?_)
  have hP := va_P_all hP (fun q hq => hk1 q hq (Nat.not_le.mpr hq))
  refine lv_aload_n hx hb dJxc12de_init_da8c8_4 rfl (lv_at hl 0 rfl) ?_
  refine lv_iconst (v := 0) hx hb dJxc12de_init_da8c8_5 (by decide) ?_
  refine va_put (ci := 1) (C := RJx4a65c) (T := TJx4a65c) (N := 3) (ty := .int) (v := .int 0) hx hb hts hin tyJx4a65c tyJx4a65c_ok nmJx4a65c hown hK hP hD hS 0 rfl rfl 0 (by decide) (hts (.fieldLink RJxc12de 7 "java/util/AbstractList" "modCount" "I") (by decide +kernel)) (fun _ h9 => h9) rfl (tyJx4a65c_ok 0 (by decide)) rfl rfl (Nat.le_of_ble_eq_true rfl) dJxc12de_init_da8c8_6 (fun H locs hP hD hS => ?_)
  exact W.vret hx hb hr (fun t ht hW => ⟨⟨(), rfl, trivial, by show va_P _ _ _ t.heap; rw [ht]; exact hP⟩, hS.F ht⟩) hS.2.2 dJxc12de_init_da8c8_9 hlk
set_option maxHeartbeats 4000000 in
set_option maxRecDepth 100000 in
/-- ArrayList() -/
theorem je_AL_init (l : Launch) (D : va_G) (h0 e0 : Nat) (sz : Nat) : Met l yJx4a65c_init_da8c8 wsJx4a65c_init_da8c8 (RmA 3 0 0) (va_Pc [.ref h0] (fun U => U.heap.size = sz ∧ va_P D clM [(h0, .inr (1, [.int 0, .null, .int 0]))] U.heap ∧ va_K D clM [] U ∧ ZL e0 (A1 h0 sz) U)) (va_Qv (fun _ : Unit => True) (fun _ t => va_P D clM (wAL h0 0 e0 0) t.heap) (A1 h0 sz)) 0 0 (A1 h0 sz) := by
  refine Met.ofW (cc := cJx4a65c_init_da8c8) (maxL := 1) (ret := none) (by decide) rfl ?_
  intro p e s m args below meth c s₁ B hml hv
  obtain ⟨rfl, rfl, hP, hK, hZ⟩ := hv
  have hts := atoms_spec (ws := wsJx4a65c_init_da8c8) B.pre
  have hx := B.exec
  have hb := B.bytes
  have hr := B.returns
  have hlk := B.notSynchronized
  have hown : s.vm.findClass RJx4a65c = some m.cls := findClass_of_methodNamed B.named
  have hl := lv_entry ([.ref h0]) (n := 1) (Nat.le_of_ble_eq_true rfl)
  rw [lg_entry_eq]
  generalize (lg_sl ([.ref h0]) ++ List.replicate (1 - (lg_sl ([.ref h0])).length) Slot.unset).toArray = ls at hl ⊢
  have hl : lv_has ls 1 [(0, .ref h0)] := hl
  have hS : va_S (A1 h0 s.heap.size) s.heap s.heap [] := va_S.rf
  have hin : ∀ w ∈ u_ws RJx4a65c TJx4a65c 3, w ∈ wsJx4a65c_init_da8c8 := by decide +kernel
  refine lv_aload_n hx hb dJx4a65c_init_da8c8_0 rfl (lv_at hl 0 rfl) ?_
  refine va_callv (va_runI (As := []) (rest := []) ⟨hx, hb, hml, hown, hts⟩ (je_AL0_init l D h0 0 0 .null s.heap.size) (cwI 0 hts gJx4a65c_init_da8c8_Jxc12de_init_da8c8 rfl rfl rfl (hts (.initialized RJxc12de) (by decide +kernel)) (hts (.methodLink RJx4a65c 1 yJxc12de_init_da8c8) (by decide +kernel)) (hts (.instanceMethod yJxc12de_init_da8c8) (by decide +kernel)) rfl (by decide +kernel) ⟨Nat.le_of_ble_eq_true rfl, Nat.le_of_ble_eq_true rfl⟩) ⟨fun a U g mk q => ⟨q.1, q.2.1, q.2.2.1, va_K.moved (u := U) (U := U.calling g mk a) (Vm.Alike.refl U.vm) q.2.2.2⟩, fun U hU hW => ⟨rfl, by rw [hU], by rw [hU]; exact hP, va_K.moved hW.alike hK⟩⟩ rfl rfl hl.1 rfl (lv_room (Nat.le_of_ble_eq_true rfl)) dJx4a65c_init_da8c8_1 ⟨Nat.le_of_ble_eq_true rfl, Nat.le_of_ble_eq_true rfl⟩) hS (fun q _ h => h) (fun q h => h) (fun u t H1 locs ht hvm hw hB hz1 hk1 hS => ?_)
  rw [ht] at hB
  have hD : va_D (A1 h0 s.heap.size) [(h0, .inr (1, [.int 0, .null, .int 0]))] := D1
  refine lv_aload_n hx hb dJx4a65c_init_da8c8_4 rfl (lv_at hl 0 rfl) ?_
  refine va_gets hx hb hZ.1 hS hown (hts (.fieldLink RJx4a65c 39 "java/util/ArrayList" "DEFAULTCAPACITY_EMPTY_ELEMENTDATA" "[Ljava/lang/Object;") (by decide +kernel)) (fun _ h9 => h9) dJx4a65c_init_da8c8_5 ?_
  refine va_put (ci := 1) (C := RJx4a65c) (T := TJx4a65c) (N := 3) (ty := .array (.object "java/lang/Object")) (v := .ref e0) hx hb hts hin tyJx4a65c tyJx4a65c_ok nmJx4a65c hown hK hB hD hS 0 rfl rfl 1 (by decide) (hts (.fieldLink RJx4a65c 9 "java/util/ArrayList" "elementData" "[Ljava/lang/Object;") (by decide +kernel)) (fun _ h9 => h9) rfl (tyJx4a65c_ok 1 (by decide)) rfl rfl (Nat.le_of_ble_eq_true rfl) dJx4a65c_init_da8c8_8 (fun H locs hP hD hS => ?_)
  exact W.vret hx hb hr (fun t ht hW => ⟨⟨(), rfl, trivial, by show va_P _ _ _ t.heap; rw [ht]; exact hP⟩, hS.F ht⟩) hS.2.2 dJx4a65c_init_da8c8_11 hlk
set_option maxHeartbeats 4000000 in
set_option maxRecDepth 100000 in
/-- size() -/
theorem je_size (l : Launch) (D : va_G) (a mc z0 n : Nat) (sz : Nat) : Met l yJx4a65c_size_8abf5 wsJx4a65c_size_8abf5 (RmA 1 0 0) (va_Pc [.ref a] (fun U => U.heap.size = sz ∧ va_P D clM (wAL a mc z0 n) U.heap ∧ va_K D clM [] U)) (va_Qi (fun (r : Int32) (_ : Unit) => r = nI n) (fun _ _ => True) (fun q => sz ≤ q)) 0 0 (fun q => sz ≤ q) := by
  refine Met.ofW (cc := cJx4a65c_size_8abf5) (maxL := 1) (ret := some .int) (by decide) rfl ?_
  intro p e s m args below meth c s₁ B hml hv
  obtain ⟨rfl, rfl, hP, hK⟩ := hv
  have hts := atoms_spec (ws := wsJx4a65c_size_8abf5) B.pre
  have hx := B.exec
  have hb := B.bytes
  have hr := B.returns
  have hlk := B.notSynchronized
  have hown : s.vm.findClass RJx4a65c = some m.cls := findClass_of_methodNamed B.named
  have hl := lv_entry ([.ref a]) (n := 1) (Nat.le_of_ble_eq_true rfl)
  rw [lg_entry_eq]
  generalize (lg_sl ([.ref a]) ++ List.replicate (1 - (lg_sl ([.ref a])).length) Slot.unset).toArray = ls at hl ⊢
  have hl : lv_has ls 1 [(0, .ref a)] := hl
  have hS : va_S (fun q => s.heap.size ≤ q) s.heap s.heap [] := va_S.rf
  have hin : ∀ w ∈ u_ws RJx4a65c TJx4a65c 3, w ∈ wsJx4a65c_size_8abf5 := by decide +kernel
  refine lv_aload_n hx hb dJx4a65c_size_8abf5_0 rfl (lv_at hl 0 rfl) ?_
  refine va_get (ci := 1) (C := RJx4a65c) (T := TJx4a65c) (N := 3) (v := .int (nI n)) hx hb hts hin hown hK hP 0 rfl rfl 2 (by decide) (hts (.fieldLink RJx4a65c 48 "java/util/ArrayList" "size" "I") (by decide +kernel)) (fun _ h9 => h9) rfl dJx4a65c_size_8abf5_1 ?_
  exact W.iret hx hb hr (fun t ht hW => ⟨⟨_, (), rfl, rfl, trivial⟩, hS.F ht⟩) hS.2.2 dJx4a65c_size_8abf5_4 hlk
set_option maxHeartbeats 4000000 in
set_option maxRecDepth 100000 in
/-- Itr(list) -/
theorem je_It_init (l : Launch) (D : va_G) (q0 a mc z0 n : Nat) (hne : a ≠ q0) (sz : Nat) : Met l yJx35411_init_45d68 wsJx35411_init_45d68 (RmA 1 0 0) (va_Pc [.ref q0, .ref a] (fun U => U.heap.size = sz ∧ va_P D clM [(q0, .inr (2, [.int 0, .int 0, .int 0, .null]))] U.heap ∧ va_P D clM (wAL a mc z0 n) U.heap ∧ va_K D clM [] U)) (va_Qv (fun _ : Unit => True) (fun _ t => va_P D clM (wIt q0 0 mc a) t.heap) (A1 q0 sz)) 0 0 (A1 q0 sz) := by
  refine Met.ofW (cc := cJx35411_init_45d68) (maxL := 2) (ret := none) (by decide) rfl ?_
  intro p e s m args below meth c s₁ B hml hv
  obtain ⟨rfl, rfl, hP, hPa, hK⟩ := hv
  have hts := atoms_spec (ws := wsJx35411_init_45d68) B.pre
  have hx := B.exec
  have hb := B.bytes
  have hr := B.returns
  have hlk := B.notSynchronized
  have hown : s.vm.findClass RJx35411 = some m.cls := findClass_of_methodNamed B.named
  have hl := lv_entry ([.ref q0, .ref a]) (n := 2) (Nat.le_of_ble_eq_true rfl)
  rw [lg_entry_eq]
  generalize (lg_sl ([.ref q0, .ref a]) ++ List.replicate (2 - (lg_sl ([.ref q0, .ref a])).length) Slot.unset).toArray = ls at hl ⊢
  have hl : lv_has ls 2 [(0, .ref q0), (1, .ref a)] := hl
  have hS : va_S (A1 q0 s.heap.size) s.heap s.heap [] := va_S.rf
  have hin : ∀ w ∈ u_ws RJx4a65c TJx4a65c 3, w ∈ wsJx35411_init_45d68 := by decide +kernel
  have hin2 : ∀ w ∈ u_ws RJx35411 TJx35411 4, w ∈ wsJx35411_init_45d68 := by decide +kernel
  have hinN : meth.name = "<init>" := (name_of_methodNamed B.named B.method).1
  have hna : ¬ A1 q0 s.heap.size a := fun h => h.elim hne (fun z => absurd (va_P_lt hPa) (Nat.not_lt.mpr z))
  have hD : va_D (A1 q0 s.heap.size) [(q0, .inr (2, [.int 0, .int 0, .int 0, .null]))] := D1
  refine lv_aload_n hx hb dJx35411_init_45d68_0 rfl (lv_at hl 0 rfl) ?_
  refine lv_aload_n hx hb dJx35411_init_45d68_1 rfl (lv_at hl 1 rfl) ?_
  refine va_putF (D := D) (ci := 2) (v := .ref a) (ty := .object "java/util/ArrayList") (C := RJx35411) (T := TJx35411) (N := 4) hx hb hts hin2 tyJx35411 tyJx35411_ok nmJx35411 hown hK hP hD hS 0 rfl rfl 3 (by decide) (hts (.fieldLink RJx35411 1 "java/util/ArrayList$Itr" "this$0" "Ljava/util/ArrayList;") (by decide +kernel)) (fun _ h9 => h9) rfl hinN rfl (by decide +kernel) rfl rfl (Nat.le_of_ble_eq_true rfl) dJx35411_init_45d68_2 (fun H locs hP hD hS => ?_)
  have hP : va_P D clM [(q0, .inr (2, [.int 0, .int 0, .int 0, .ref a]))] H := hP
  refine lv_aload_n hx hb dJx35411_init_45d68_5 rfl (lv_at hl 0 rfl) ?_
  refine W.objInit hx hb hown (hts (.methodLink RJx35411 7 objectInit) (by decide +kernel)) (hts (.instanceMethod objectInit) (by decide +kernel)) (hts (.code objectInit ⟨#[0xb1]⟩ 1 none) (by decide +kernel)) rfl (by rw [hml]; exact hl.1) rfl dJx35411_init_45d68_6 (Nat.le_of_ble_eq_true rfl) (Nat.le_of_ble_eq_true rfl) ?_
  refine W.eq (g2 := F0 m 9 ls []) rfl ?_
  refine lv_aload_n hx hb dJx35411_init_45d68_9 rfl (lv_at hl 0 rfl) ?_
  refine lv_iconst (v := (-1)) hx hb dJx35411_init_45d68_10 (by decide) ?_
  refine va_put (ci := 2) (v := .int (-1)) (ty := .int) (C := RJx35411) (T := TJx35411) (N := 4) hx hb hts hin2 tyJx35411 tyJx35411_ok nmJx35411 hown hK hP hD hS 0 rfl rfl 1 (by decide) (hts (.fieldLink RJx35411 13 "java/util/ArrayList$Itr" "lastRet" "I") (by decide +kernel)) (fun _ h9 => h9) rfl (tyJx35411_ok 1 (by decide)) rfl rfl (Nat.le_of_ble_eq_true rfl) dJx35411_init_45d68_11 (fun H locs hP hD hS => ?_)
  have hP : va_P D clM [(q0, .inr (2, [.int 0, .int (-1), .int 0, .ref a]))] H := hP
  refine lv_aload_n hx hb dJx35411_init_45d68_14 rfl (lv_at hl 0 rfl) ?_
  refine lv_aload_n hx hb dJx35411_init_45d68_15 rfl (lv_at hl 0 rfl) ?_
  refine va_get (ci := 2) (C := RJx35411) (T := TJx35411) (N := 4) (v := .ref a) hx hb hts hin2 hown hK hP 0 rfl rfl 3 (by decide) (hts (.fieldLink RJx35411 1 "java/util/ArrayList$Itr" "this$0" "Ljava/util/ArrayList;") (by decide +kernel)) (fun _ h9 => h9) rfl dJx35411_init_45d68_16 ?_
  have hPa := va_P_S1 hPa hS hna
  refine va_get (ci := 1) (C := RJx4a65c) (T := TJx4a65c) (N := 3) (v := .int (nI mc)) hx hb hts hin hown hK hPa 0 rfl rfl 0 (by decide) (hts (.fieldLink RJx35411 17 "java/util/ArrayList" "modCount" "I") (by decide +kernel)) (u_same (hts (.sameField "java/util/ArrayList" "java/util/AbstractList" "modCount" "I") (by decide +kernel))) rfl dJx35411_init_45d68_19 ?_
  refine va_put (ci := 2) (v := .int (nI mc)) (ty := .int) (C := RJx35411) (T := TJx35411) (N := 4) hx hb hts hin2 tyJx35411 tyJx35411_ok nmJx35411 hown hK hP hD hS 0 rfl rfl 2 (by decide) (hts (.fieldLink RJx35411 22 "java/util/ArrayList$Itr" "expectedModCount" "I") (by decide +kernel)) (fun _ h9 => h9) rfl (tyJx35411_ok 2 (by decide)) rfl rfl (Nat.le_of_ble_eq_true rfl) dJx35411_init_45d68_22 (fun H locs hP hD hS => ?_)
  have hP : va_P D clM [(q0, .inr (2, [.int 0, .int (-1), .int (nI mc), .ref a]))] H := hP
  exact W.vret hx hb hr (fun t ht hW => ⟨⟨(), rfl, trivial, by show va_P _ _ _ t.heap; rw [ht]; exact hP⟩, hS.F ht⟩) hS.2.2 dJx35411_init_45d68_25 hlk
set_option maxHeartbeats 4000000 in
set_option maxRecDepth 100000 in
/-- iterator() -/
theorem je_iterator (l : Launch) (D : va_G) (a mc z0 n : Nat) (sz : Nat) : Met l yJx4a65c_iterator_32c93 wsJx4a65c_iterator_32c93 (RmA 2 1 4) (va_Pc [.ref a] (fun U => U.heap.size = sz ∧ va_P D clM (wAL a mc z0 n) U.heap ∧ va_K D clM [] U)) (va_Qr (fun _ : Unit => True) (fun _ q t => sz ≤ q ∧ va_P D clM (wIt q 0 mc a) t.heap) (fun q => sz ≤ q)) 1 4 (fun q => sz ≤ q) := by
  refine Met.ofW (cc := cJx4a65c_iterator_32c93) (maxL := 1) (ret := (some (.object "java/util/Iterator"))) (by decide) rfl ?_
  intro p e s m args below meth c s₁ B hml hv
  obtain ⟨rfl, rfl, hPa, hK⟩ := hv
  have hts := atoms_spec (ws := wsJx4a65c_iterator_32c93) B.pre
  have hx := B.exec
  have hb := B.bytes
  have hr := B.returns
  have hlk := B.notSynchronized
  have hown : s.vm.findClass RJx4a65c = some m.cls := findClass_of_methodNamed B.named
  have hl := lv_entry ([.ref a]) (n := 1) (Nat.le_of_ble_eq_true rfl)
  rw [lg_entry_eq]
  generalize (lg_sl ([.ref a]) ++ List.replicate (1 - (lg_sl ([.ref a])).length) Slot.unset).toArray = ls at hl ⊢
  have hl : lv_has ls 1 [(0, .ref a)] := hl
  have hS : va_S (fun q => s.heap.size ≤ q) s.heap s.heap [] := va_S.rf
  have hin2 : ∀ w ∈ u_ws RJx35411 TJx35411 4, w ∈ wsJx4a65c_iterator_32c93 := by decide +kernel
  have hA : ∀ q : Nat, s.heap.size ≤ q → (fun q : Nat => s.heap.size ≤ q) q := fun _ h => h
  have hla := va_P_lt hPa
  refine va_new (ci := 2) (fs := [.int 0, .int 0, .int 0, .null]) (C := RJx35411) (T := TJx35411) (N := 4) hx hb hts hin2 tyJx35411 tyJx35411_ok hown (hts (.classLink RJx4a65c 267 RJx35411) (by decide +kernel)) (hts (.instantiable RJx35411 4) (by decide +kernel)) (hts (.initialized RJx35411) (by decide +kernel)) hK P0 D0 hS hA rfl (fun j hj => by rcases (show j = 0 ∨ j = 1 ∨ j = 2 ∨ j = 3 by omega) with rfl | rfl | rfl | rfl <;> rfl) (Nat.le_of_ble_eq_true rfl) (Nat.le_of_ble_eq_true rfl) dJx4a65c_iterator_32c93_0 (fun q H hP hD hS => ?_)
  have hP : va_P D clM [(q, .inr (2, [.int 0, .int 0, .int 0, .null]))] H := hP
  have hq : s.heap.size ≤ q := hD.2 0 (q, _) rfl
  have hPa := va_P_S1 hPa hS (Nat.not_le.mpr hla)
  refine lv_dup hx hb dJx4a65c_iterator_32c93_3 rfl ?_
  refine lv_aload_n hx hb dJx4a65c_iterator_32c93_4 rfl (lv_at hl 0 rfl) ?_
  refine va_callv (va_runI (As := [.ref a]) (rest := [.ref q]) ⟨hx, hb, hml, hown, hts⟩ (je_It_init l D q a mc z0 n (by omega) H.size) (cwI 1 hts gJx4a65c_iterator_32c93_Jx35411_init_45d68 rfl rfl rfl (hts (.initialized RJx35411) (by decide +kernel)) (hts (.methodLink RJx4a65c 269 yJx35411_init_45d68) (by decide +kernel)) (hts (.instanceMethod yJx35411_init_45d68) (by decide +kernel)) rfl (by decide +kernel) ⟨Nat.le_of_ble_eq_true rfl, Nat.le_of_ble_eq_true rfl⟩) ⟨fun a U g mk q => ⟨q.1, q.2.1, q.2.2.1, q.2.2.2.1, va_K.moved (u := U) (U := U.calling g mk a) (Vm.Alike.refl U.vm) q.2.2.2.2⟩, fun U hU hW => ⟨rfl, by rw [hU], by rw [hU]; exact hP, by rw [hU]; exact hPa, va_K.moved hW.alike hK⟩⟩ rfl rfl hl.1 rfl (lv_room (Nat.le_of_ble_eq_true rfl)) dJx4a65c_iterator_32c93_5 ⟨Nat.le_of_ble_eq_true rfl, Nat.le_of_ble_eq_true rfl⟩) hS (fun z _ h => h.elim (fun e9 => e9 ▸ hq) (fun h => Nat.le_trans hS.1 h)) (fun z h => h.elim (fun e9 => e9 ▸ hq) (fun h => Nat.le_trans hS.1 h)) (fun u t H1 locs ht hvm hw hB hz1 hk1 hS => ?_)
  rw [ht] at hB
  refine W.widen (k := 1) (n := 4) (Nat.le_of_ble_eq_true rfl) (Nat.le_of_ble_eq_true rfl) ?_
  exact W.aret hx hb hr (Or.inl ⟨_, rfl⟩) (Or.inr ⟨q, rfl⟩) (fun t ht hW => ⟨⟨(), q, rfl, trivial, hq, by rw [ht]; exact hB⟩, hS.F ht⟩) hS.2.2 dJx4a65c_iterator_32c93_8 hlk
set_option maxHeartbeats 4000000 in
set_option maxRecDepth 100000 in
/-- hasNext() behind the last -/
theorem je_hasNext (l : Launch) (D : va_G) (q0 mc a mc2 z0 n : Nat) (sz : Nat) : Met l yJx35411_hasNext_aae02 wsJx35411_hasNext_aae02 (RmA 1 0 0) (va_Pc [.ref q0] (fun U => U.heap.size = sz ∧ va_P D clM (wIt q0 n mc a) U.heap ∧ va_P D clM (wAL a mc2 z0 n) U.heap ∧ va_K D clM [] U ∧ va_Nw (.fieldLinkNest RJx35411 28 "java/util/ArrayList" "size" "I" "java/util/ArrayList") U)) (va_Qi (fun (r : Int32) (_ : Unit) => r = nI 0) (fun _ _ => True) (fun q => sz ≤ q)) 0 0 (fun q => sz ≤ q) := by
  refine Met.ofW (cc := cJx35411_hasNext_aae02) (maxL := 1) (ret := some .boolean) (by decide) rfl ?_
  intro p e s m args below meth c s₁ B hml hv
  obtain ⟨rfl, rfl, hP, hPa, hK, hN⟩ := hv
  have hts := atoms_spec (ws := wsJx35411_hasNext_aae02) B.pre
  have hx := B.exec
  have hb := B.bytes
  have hr := B.returns
  have hlk := B.notSynchronized
  have hown : s.vm.findClass RJx35411 = some m.cls := findClass_of_methodNamed B.named
  have hl := lv_entry ([.ref q0]) (n := 1) (Nat.le_of_ble_eq_true rfl)
  rw [lg_entry_eq]
  generalize (lg_sl ([.ref q0]) ++ List.replicate (1 - (lg_sl ([.ref q0])).length) Slot.unset).toArray = ls at hl ⊢
  have hl : lv_has ls 1 [(0, .ref q0)] := hl
  have hS : va_S (fun q => s.heap.size ≤ q) s.heap s.heap [] := va_S.rf
  have hin : ∀ w ∈ u_ws RJx4a65c TJx4a65c 3, w ∈ wsJx35411_hasNext_aae02 := by decide +kernel
  have hin2 : ∀ w ∈ u_ws RJx35411 TJx35411 4, w ∈ wsJx35411_hasNext_aae02 := by decide +kernel
  refine lv_aload_n hx hb dJx35411_hasNext_aae02_0 rfl (lv_at hl 0 rfl) ?_
  refine va_get (ci := 2) (C := RJx35411) (T := TJx35411) (N := 4) (v := .int (nI n)) hx hb hts hin2 hown hK hP 0 rfl rfl 0 (by decide) (hts (.fieldLink RJx35411 25 "java/util/ArrayList$Itr" "cursor" "I") (by decide +kernel)) (fun _ h9 => h9) rfl dJx35411_hasNext_aae02_1 ?_
  refine lv_aload_n hx hb dJx35411_hasNext_aae02_4 rfl (lv_at hl 0 rfl) ?_
  refine va_get (ci := 2) (C := RJx35411) (T := TJx35411) (N := 4) (v := .ref a) hx hb hts hin2 hown hK hP 0 rfl rfl 3 (by decide) (hts (.fieldLink RJx35411 1 "java/util/ArrayList$Itr" "this$0" "Ljava/util/ArrayList;") (by decide +kernel)) (fun _ h9 => h9) rfl dJx35411_hasNext_aae02_5 ?_
  refine va_getN (ci := 1) (C := RJx4a65c) (T := TJx4a65c) (N := 3) (v := .int (nI n)) hx hb hts hin hown hK hPa 0 rfl rfl 2 (by decide) (va_Nw.use rfl hN) (fun _ h9 => h9) rfl dJx35411_hasNext_aae02_8 ?_
  refine lv_icmp_eq (tgt := 18) hx hb dJx35411_hasNext_aae02_11 (by decide) (fun _ => ?_) (fun c1 => absurd rfl c1)
  refine lv_iconst (v := nI 0) hx hb dJx35411_hasNext_aae02_18 (by decide) ?_
  exact W.zret hx hb hr (by rfl) (fun t ht hW => ⟨⟨_, (), rfl, rfl, trivial⟩, hS.F ht⟩) hS.2.2 dJx35411_hasNext_aae02_19 hlk
set_option maxHeartbeats 4000000 in
set_option maxRecDepth 100000 in
/-- clear() of an empty list -/
theorem je_clear (l : Launch) (D : va_G) (a mc z0 : Nat) (sz : Nat) : Met l yJx4a65c_clear_da8c8 wsJx4a65c_clear_da8c8 (RmA 1 0 0) (va_Pc [.ref a] (fun U => U.heap.size = sz ∧ va_P D clM (wAL a mc z0 0) U.heap ∧ va_K D clM [] U)) (va_Qv (fun _ : Unit => True) (fun _ t => va_P D clM (wAL a (mc + 1) z0 0) t.heap) (A1 a sz)) 0 0 (A1 a sz) := by
  refine Met.ofW (cc := cJx4a65c_clear_da8c8) (maxL := 4) (ret := none) (by decide) rfl ?_
  intro p e s m args below meth c s₁ B hml hv
  obtain ⟨rfl, rfl, hP, hK⟩ := hv
  have hts := atoms_spec (ws := wsJx4a65c_clear_da8c8) B.pre
  have hx := B.exec
  have hb := B.bytes
  have hr := B.returns
  have hlk := B.notSynchronized
  have hown : s.vm.findClass RJx4a65c = some m.cls := findClass_of_methodNamed B.named
  have hl := lv_entry ([.ref a]) (n := 4) (Nat.le_of_ble_eq_true rfl)
  rw [lg_entry_eq]
  generalize (lg_sl ([.ref a]) ++ List.replicate (4 - (lg_sl ([.ref a])).length) Slot.unset).toArray = ls at hl ⊢
  have hl : lv_has ls 4 [(0, .ref a)] := hl
  have hS : va_S (A1 a s.heap.size) s.heap s.heap [] := va_S.rf
  have hin : ∀ w ∈ u_ws RJx4a65c TJx4a65c 3, w ∈ wsJx4a65c_clear_da8c8 := by decide +kernel
  have hP : va_P D clM [(a, .inr (1, [.int (nI mc), .ref z0, .int (nI 0)]))] s.heap := hP
  have hD : va_D (A1 a s.heap.size) [(a, .inr (1, [.int (nI mc), .ref z0, .int (nI 0)]))] := D1
  refine lv_aload_n hx hb dJx4a65c_clear_da8c8_0 rfl (lv_at hl 0 rfl) ?_
  refine lv_dup hx hb dJx4a65c_clear_da8c8_1 rfl ?_
  refine va_get (ci := 1) (C := RJx4a65c) (T := TJx4a65c) (N := 3) (v := .int (nI mc)) hx hb hts hin hown hK hP 0 rfl rfl 0 (by decide) (hts (.fieldLink RJx4a65c 63 "java/util/ArrayList" "modCount" "I") (by decide +kernel)) (u_same (hts (.sameField "java/util/ArrayList" "java/util/AbstractList" "modCount" "I") (by decide +kernel))) rfl dJx4a65c_clear_da8c8_2 ?_
  refine lv_iconst (v := nI 1) hx hb dJx4a65c_clear_da8c8_5 (by decide) ?_
  refine lv_iadd hx hb dJx4a65c_clear_da8c8_6 ?_
  rw [nI_add]
  refine va_put (ci := 1) (C := RJx4a65c) (T := TJx4a65c) (N := 3) (ty := .int) (v := .int (nI (mc + 1))) hx hb hts hin tyJx4a65c tyJx4a65c_ok nmJx4a65c hown hK hP hD hS 0 rfl rfl 0 (by decide) (hts (.fieldLink RJx4a65c 63 "java/util/ArrayList" "modCount" "I") (by decide +kernel)) (u_same (hts (.sameField "java/util/ArrayList" "java/util/AbstractList" "modCount" "I") (by decide +kernel))) rfl (tyJx4a65c_ok 0 (by decide)) rfl rfl (Nat.le_of_ble_eq_true rfl) dJx4a65c_clear_da8c8_7 (fun H locs hP hD hS => ?_)
  have hP : va_P D clM [(a, .inr (1, [.int (nI (mc + 1)), .ref z0, .int (nI 0)]))] H := hP
  refine lv_aload_n hx hb dJx4a65c_clear_da8c8_10 rfl (lv_at hl 0 rfl) ?_
  refine va_get (ci := 1) (C := RJx4a65c) (T := TJx4a65c) (N := 3) (v := .ref z0) hx hb hts hin hown hK hP 0 rfl rfl 1 (by decide) (hts (.fieldLink RJx4a65c 9 "java/util/ArrayList" "elementData" "[Ljava/lang/Object;") (by decide +kernel)) (fun _ h9 => h9) rfl dJx4a65c_clear_da8c8_11 ?_
  refine lv_astore_n hx hb dJx4a65c_clear_da8c8_14 rfl hl (by decide) rfl (fun ls hl => ?_)
  have hl : lv_has ls 4 [(1, .ref z0), (0, .ref a)] := hl
  refine lv_aload_n hx hb dJx4a65c_clear_da8c8_15 rfl (lv_at hl 1 rfl) ?_
  refine va_get (ci := 1) (C := RJx4a65c) (T := TJx4a65c) (N := 3) (v := .int (nI 0)) hx hb hts hin hown hK hP 0 rfl rfl 2 (by decide) (hts (.fieldLink RJx4a65c 48 "java/util/ArrayList" "size" "I") (by decide +kernel)) (fun _ h9 => h9) rfl dJx4a65c_clear_da8c8_16 ?_
  refine lv_istore_n hx hb dJx4a65c_clear_da8c8_19 rfl hl (by decide) rfl (fun ls hl => ?_)
  have hl : lv_has ls 4 [(2, .int (nI 0)), (1, .ref z0), (0, .ref a)] := hl
  refine lv_aload_n hx hb dJx4a65c_clear_da8c8_20 rfl (lv_at hl 2 rfl) ?_
  refine lv_iconst (v := nI 0) hx hb dJx4a65c_clear_da8c8_21 (by decide) ?_
  refine lv_dup_x1 hx hb dJx4a65c_clear_da8c8_22 rfl rfl ?_
  refine va_put (ci := 1) (C := RJx4a65c) (T := TJx4a65c) (N := 3) (ty := .int) (v := .int (nI 0)) hx hb hts hin tyJx4a65c tyJx4a65c_ok nmJx4a65c hown hK hP hD hS 0 rfl rfl 2 (by decide) (hts (.fieldLink RJx4a65c 48 "java/util/ArrayList" "size" "I") (by decide +kernel)) (fun _ h9 => h9) rfl (tyJx4a65c_ok 2 (by decide)) rfl rfl (Nat.le_of_ble_eq_true rfl) dJx4a65c_clear_da8c8_23 (fun H locs hP hD hS => ?_)
  have hP : va_P D clM [(a, .inr (1, [.int (nI (mc + 1)), .ref z0, .int (nI 0)]))] H := hP
  refine lv_istore_n hx hb dJx4a65c_clear_da8c8_26 rfl hl (by decide) rfl (fun ls hl => ?_)
  have hl : lv_has ls 4 [(3, .int (nI 0)), (2, .int (nI 0)), (1, .ref z0), (0, .ref a)] := hl
  refine lv_iload_n hx hb dJx4a65c_clear_da8c8_27 rfl (lv_at hl 0 rfl) ?_
  refine lv_iload_n hx hb dJx4a65c_clear_da8c8_28 rfl (lv_at hl 1 rfl) ?_
  refine lv_icmp_ge (tgt := 42) hx hb dJx4a65c_clear_da8c8_29 (by decide) (fun _ => ?_) (fun c1 => absurd (by decide) c1)
  exact W.vret hx hb hr (fun t ht hW => ⟨⟨(), rfl, trivial, by show va_P _ _ _ t.heap; rw [ht]; exact hP⟩, hS.F ht⟩) hS.2.2 dJx4a65c_clear_da8c8_42 hlk
set_option maxHeartbeats 4000000 in
set_option maxRecDepth 100000 in
/-- grow(1) of the shared empty row -/
theorem je_grow1 (l : Launch) (D : va_G) (a mc e0 : Nat) (sz : Nat) : Met l yJx4a65c_grow_92f84 wsJx4a65c_grow_92f84 (RmA 2 1 10) (va_Pc [.ref a, .int (nI 1)] (fun U => U.heap.size = sz ∧ va_P D clM (wAL a mc e0 0) U.heap ∧ va_K D clM [] U ∧ ZL e0 (A1 a sz) U ∧ va_AO "java/lang/Object" U)) (va_Qr (fun _ : Unit => True) (fun _ q t => sz ≤ q ∧ ∃ cO : ClassId, va_P D clM (wAL a mc q 0) t.heap ∧ va_P D clM [(q, .inl (cO, 10, .inr (.inr (.inr (.inr (fun _ => none))))))] t.heap ∧ va_K D clM [(cO, .object "java/lang/Object")] t) (A1 a sz)) 1 10 (A1 a sz) := by
  refine Met.ofW (cc := cJx4a65c_grow_92f84) (maxL := 4) (ret := (some (.array (.object "java/lang/Object")))) (by decide) rfl ?_
  intro p e s m args below meth c s₁ B hml hv
  obtain ⟨rfl, rfl, hP, hK, hZ, hO⟩ := hv
  have hts := atoms_spec (ws := wsJx4a65c_grow_92f84) B.pre
  have hx := B.exec
  have hb := B.bytes
  have hr := B.returns
  have hlk := B.notSynchronized
  have hown : s.vm.findClass RJx4a65c = some m.cls := findClass_of_methodNamed B.named
  have hl := lv_entry ([.ref a, .int (nI 1)]) (n := 4) (Nat.le_of_ble_eq_true rfl)
  rw [lg_entry_eq]
  generalize (lg_sl ([.ref a, .int (nI 1)]) ++ List.replicate (4 - (lg_sl ([.ref a, .int (nI 1)])).length) Slot.unset).toArray = ls at hl ⊢
  have hl : lv_has ls 4 [(0, .ref a), (1, .int (nI 1))] := hl
  have hS : va_S (A1 a s.heap.size) s.heap s.heap [] := va_S.rf
  have hin : ∀ w ∈ u_ws RJx4a65c TJx4a65c 3, w ∈ wsJx4a65c_grow_92f84 := by decide +kernel
  have hA : ∀ q : Nat, s.heap.size ≤ q → A1 a s.heap.size q := fun q h => Or.inr h
  have hla := va_P_lt hP
  have hP : va_P D clM [(a, .inr (1, [.int (nI mc), .ref e0, .int (nI 0)]))] s.heap := hP
  refine lv_aload_n hx hb dJx4a65c_grow_92f84_0 rfl (lv_at hl 0 rfl) ?_
  refine va_get (ci := 1) (C := RJx4a65c) (T := TJx4a65c) (N := 3) (v := .ref e0) hx hb hts hin hown hK hP 0 rfl rfl 1 (by decide) (hts (.fieldLink RJx4a65c 9 "java/util/ArrayList" "elementData" "[Ljava/lang/Object;") (by decide +kernel)) (fun _ h9 => h9) rfl dJx4a65c_grow_92f84_1 ?_
  refine va_tlen (v := nI 0) hx hb hZ.2 hS rfl dJx4a65c_grow_92f84_4 ?_
  refine lv_istore_n hx hb dJx4a65c_grow_92f84_5 rfl hl (by decide) rfl (fun ls hl => ?_)
  have hl : lv_has ls 4 [(2, .int (nI 0)), (0, .ref a), (1, .int (nI 1))] := hl
  refine lv_iload_n hx hb dJx4a65c_grow_92f84_6 rfl (lv_at hl 0 rfl) ?_
  refine lv_if_gt (tgt := 20) hx hb dJx4a65c_grow_92f84_7 (by decide) (fun c1 => absurd c1 (by decide)) (fun _ => ?_)
  refine lv_aload_n hx hb dJx4a65c_grow_92f84_10 rfl (lv_at hl 1 rfl) ?_
  refine va_get (ci := 1) (C := RJx4a65c) (T := TJx4a65c) (N := 3) (v := .ref e0) hx hb hts hin hown hK hP 0 rfl rfl 1 (by decide) (hts (.fieldLink RJx4a65c 9 "java/util/ArrayList" "elementData" "[Ljava/lang/Object;") (by decide +kernel)) (fun _ h9 => h9) rfl dJx4a65c_grow_92f84_11 ?_
  refine va_gets hx hb hZ.1 hS hown (hts (.fieldLink RJx4a65c 39 "java/util/ArrayList" "DEFAULTCAPACITY_EMPTY_ELEMENTDATA" "[Ljava/lang/Object;") (by decide +kernel)) (fun _ h9 => h9) dJx4a65c_grow_92f84_14 ?_
  refine lv_acmp_eq (rx := some e0) (ry := some e0) (tgt := 45) hx hb dJx4a65c_grow_92f84_17 (by decide) (fun _ => ?_) (fun c1 => absurd rfl c1)
  refine lv_aload_n hx hb dJx4a65c_grow_92f84_45 rfl (lv_at hl 1 rfl) ?_
  refine lv_bipush (v := nI 10) hx hb dJx4a65c_grow_92f84_46 (by decide) ?_
  refine lv_iload_n hx hb dJx4a65c_grow_92f84_48 rfl (lv_at hl 2 rfl) ?_
  refine va_mmax hx hb (hml.trans hl.1.symm) hown (hts (.methodLink RJx4a65c 79 Lib.Math.max.name) (by decide +kernel)) (hts (.static Lib.Math.max.name) (by decide +kernel)) (hts (.initialized "java/lang/Math") (by decide +kernel)) (hts (.code Lib.Math.max.name Lib.Math.max.code 2 (some .int)) (by decide +kernel)) (Nat.le_of_ble_eq_true rfl) (Nat.le_of_ble_eq_true rfl) (Nat.le_of_ble_eq_true rfl) (Nat.le_of_ble_eq_true rfl) dJx4a65c_grow_92f84_49 ?_
  rw [show (if nI 10 < nI 1 then nI 1 else nI 10) = nI 10 from if_neg (by decide)]
  refine va_newq (C := "java/lang/Object") hx hb hown (hts (.classLink RJx4a65c 7 "java/lang/Object") (by decide +kernel)) hO hK hP D1 hS hA (by decide) (N' := 10) (by decide +kernel) (by decide) (Nat.le_of_ble_eq_true rfl) (Nat.le_of_ble_eq_true rfl) dJx4a65c_grow_92f84_52 (fun q cO H hK9 hP hD hS => ?_)
  have hP : va_P D clM [(a, .inr (1, [.int (nI mc), .ref e0, .int (nI 0)])), (q, .inl (cO, 10, .inr (.inr (.inr (.inr (fun _ => none))))))] H := hP
  have hK9 : va_K D clM [(cO, .object "java/lang/Object")] s := hK9
  have hqa : s.heap.size ≤ q := (hD.2 1 (q, _) rfl).elim (fun e9 => absurd (hD.1 1 0 (q, _) (a, _) rfl rfl e9) (by decide)) id
  refine lv_dup_x1 hx hb dJx4a65c_grow_92f84_55 rfl rfl ?_
  refine va_put (ci := 1) (C := RJx4a65c) (T := TJx4a65c) (N := 3) (ty := .array (.object "java/lang/Object")) (v := .ref q) hx hb hts hin tyJx4a65c tyJx4a65c_ok nmJx4a65c hown hK9 hP hD hS 0 rfl rfl 1 (by decide) (hts (.fieldLink RJx4a65c 9 "java/util/ArrayList" "elementData" "[Ljava/lang/Object;") (by decide +kernel)) (fun _ h9 => h9) rfl (tyJx4a65c_ok 1 (by decide)) rfl rfl (Nat.le_of_ble_eq_true rfl) dJx4a65c_grow_92f84_56 (fun H locs hP hD hS => ?_)
  have hP : va_P D clM [(a, .inr (1, [.int (nI mc), .ref q, .int (nI 0)])), (q, .inl (cO, 10, .inr (.inr (.inr (.inr (fun _ => none))))))] H := hP
  refine W.widen (k := 1) (n := 10) (Nat.le_of_ble_eq_true rfl) (Nat.le_of_ble_eq_true rfl) ?_
  exact W.aret hx hb hr (Or.inr ⟨_, rfl⟩) (Or.inr ⟨q, rfl⟩) (fun t ht hW => ⟨⟨(), q, rfl, trivial, hqa, cO, by rw [ht]; exact hP.sub [0] rfl, by rw [ht]; exact hP.sub [1] rfl, va_K.moved hW.alike hK9⟩, hS.F ht⟩) hS.2.2 dJx4a65c_grow_92f84_59 hlk
set_option maxHeartbeats 4000000 in
set_option maxRecDepth 100000 in
/-- grow() of the shared empty row -/
theorem je_grow0 (l : Launch) (D : va_G) (a mc e0 : Nat) (sz : Nat) : Met l yJx4a65c_grow_d5877 wsJx4a65c_grow_d5877 (RmA 3 1 10) (va_Pc [.ref a] (fun U => U.heap.size = sz ∧ va_P D clM (wAL a mc e0 0) U.heap ∧ va_K D clM [] U ∧ ZL e0 (A1 a sz) U ∧ va_AO "java/lang/Object" U)) (va_Qr (fun _ : Unit => True) (fun _ q t => sz ≤ q ∧ ∃ cO : ClassId, va_P D clM (wAL a mc q 0) t.heap ∧ va_P D clM [(q, .inl (cO, 10, .inr (.inr (.inr (.inr (fun _ => none))))))] t.heap ∧ va_K D clM [(cO, .object "java/lang/Object")] t) (A1 a sz)) 1 10 (A1 a sz) := by
  refine Met.ofW (cc := cJx4a65c_grow_d5877) (maxL := 1) (ret := (some (.array (.object "java/lang/Object")))) (by decide) rfl ?_
  intro p e s m args below meth c s₁ B hml hv
  obtain ⟨rfl, rfl, hP, hK, hZ, hO⟩ := hv
  have hts := atoms_spec (ws := wsJx4a65c_grow_d5877) B.pre
  have hx := B.exec
  have hb := B.bytes
  have hr := B.returns
  have hlk := B.notSynchronized
  have hown : s.vm.findClass RJx4a65c = some m.cls := findClass_of_methodNamed B.named
  have hl := lv_entry ([.ref a]) (n := 1) (Nat.le_of_ble_eq_true rfl)
  rw [lg_entry_eq]
  generalize (lg_sl ([.ref a]) ++ List.replicate (1 - (lg_sl ([.ref a])).length) Slot.unset).toArray = ls at hl ⊢
  have hl : lv_has ls 1 [(0, .ref a)] := hl
  have hS : va_S (A1 a s.heap.size) s.heap s.heap [] := va_S.rf
  have hin : ∀ w ∈ u_ws RJx4a65c TJx4a65c 3, w ∈ wsJx4a65c_grow_d5877 := by decide +kernel
  have hla := va_P_lt hP
  refine lv_aload_n hx hb dJx4a65c_grow_d5877_0 rfl (lv_at hl 0 rfl) ?_
  refine lv_aload_n hx hb dJx4a65c_grow_d5877_1 rfl (lv_at hl 0 rfl) ?_
  refine va_get (ci := 1) (C := RJx4a65c) (T := TJx4a65c) (N := 3) (v := .int (nI 0)) hx hb hts hin hown hK hP 0 rfl rfl 2 (by decide) (hts (.fieldLink RJx4a65c 48 "java/util/ArrayList" "size" "I") (by decide +kernel)) (fun _ h9 => h9) rfl dJx4a65c_grow_d5877_2 ?_
  refine lv_iconst (v := nI 1) hx hb dJx4a65c_grow_d5877_5 (by decide) ?_
  refine lv_iadd hx hb dJx4a65c_grow_d5877_6 ?_
  rw [nI_add]
  have hrc := va_recv hK hP (ci := 1) (q0 := 0) rfl rfl
  refine va_callr (va_runV (As := [.int (nI (0 + 1))]) (rest := []) ⟨hx, hb, hml, hown, hts⟩ (je_grow1 l D a mc e0 s.heap.size) (cwV 1 hts gJx4a65c_grow_d5877_Jx4a65c_grow_92f84 rfl rfl rfl (by decide +kernel) ⟨Nat.le_of_ble_eq_true rfl, Nat.le_of_ble_eq_true rfl⟩) ⟨fun a9 U g mk q => ⟨q.1, q.2.1, q.2.2.1, va_K.moved (u := U) (U := U.calling g mk a9) (Vm.Alike.refl U.vm) q.2.2.2.1, ZL.same (u := U) (U := U.calling g mk a9) rfl rfl q.2.2.2.2.1, va_AO.moved (u := U) (U := U.calling g mk a9) (Vm.Alike.refl U.vm) q.2.2.2.2.2⟩, hrc, fun U hU hW => ⟨rfl, by rw [hU], by rw [hU]; exact hP, va_K.moved hW.alike hK, hZ.go hW (fun z h1 h2 => by rw [hU] <;> exact hS.2.1 z h1 h2) (fun z h => h.imp id (fun h => Nat.le_trans hS.1 h)), va_AO.moved hW.alike hO⟩⟩ rfl rfl hl.1 rfl (lv_room (Nat.le_of_ble_eq_true rfl)) dJx4a65c_grow_d5877_7 ⟨Nat.le_of_ble_eq_true rfl, Nat.le_of_ble_eq_true rfl⟩) hS (fun z _ h => h.imp id (fun h => Nat.le_trans hS.1 h)) (fun z h => h.imp id (fun h => Nat.le_trans hS.1 h)) (fun u q t H1 locs ht hvm hw hB hz1 hk1 hS => ?_)
  obtain ⟨hq, cO, hB1, hB2, hB3⟩ := hB
  rw [ht] at hB1 hB2
  have hB3 := va_K.moved hvm.symm hB3
  refine W.widen (k := 1) (n := 10) (Nat.le_of_ble_eq_true rfl) (Nat.le_of_ble_eq_true rfl) ?_
  exact W.aret hx hb hr (Or.inr ⟨_, rfl⟩) (Or.inr ⟨q, rfl⟩) (fun t ht hW => ⟨⟨(), q, rfl, trivial, hq, cO, by rw [ht]; exact hB1, by rw [ht]; exact hB2, va_K.moved hW.alike hB3⟩, hS.F ht⟩) hS.2.2 dJx4a65c_grow_d5877_10 hlk
theorem P2 {D : va_G} {cl : List vw_C} {a q : Nat} {e f : va_E} {H : Heap} (h1 : va_P D cl [(a, e)] H) (h2 : va_P D cl [(q, f)] H) : va_P D cl [(a, e), (q, f)] H := h1.app h2
theorem D2 {a q : Nat} {e f : va_E} {A : Nat → Prop} (hne : a ≠ q) (ha : A a) (hq : A q) : va_D A [(a, e), (q, f)] := by
  refine ⟨fun i j x y hi hj e9 => ?_, fun k x hx => ?_⟩
  · match i, j, hi, hj with
    | 0, 0, _, _ => rfl
    | 1, 1, _, _ => rfl
    | 0, 1, hi, hj => cases hi; cases hj; exact absurd e9 hne
    | 1, 0, hi, hj => cases hi; cases hj; exact absurd e9.symm hne
    | i + 2, _, hi, _ => simp at hi
    | 0, j + 2, _, hj => simp at hj
    | 1, j + 2, _, hj => simp at hj
  · match k, hx with
    | 0, hx => cases hx; exact ha
    | 1, hx => cases hx; exact hq
    | k + 2, hx => simp at hx
set_option maxHeartbeats 4000000 in
set_option maxRecDepth 100000 in
/-- add(v, the shared empty row, 0) -/
theorem je_add3 (l : Launch) (D : va_G) (a mc e0 v : Nat) (hva : v ≠ a) (sz : Nat) : Met l yJx4a65c_add_72be8 wsJx4a65c_add_72be8 (RmA 4 1 10) (va_Pc [.ref a, .ref v, .ref e0, .int (nI 0)] (fun U => U.heap.size = sz ∧ va_P D clM (wAL a mc e0 0) U.heap ∧ va_K D clM [] U ∧ ZL e0 (A1 a sz) U ∧ va_AO "java/lang/Object" U ∧ va_Any "java/lang/Object" U U.heap v)) (va_Qv (fun _ : Unit => True) (fun _ t => ∃ q : Nat, va_P D clM [(a, .inr (1, [.int (nI mc), .ref q, .int (nI 1)]))] t.heap) (A1 a sz)) 1 10 (A1 a sz) := by
  refine Met.ofW (cc := cJx4a65c_add_72be8) (maxL := 4) (ret := none) (by decide) rfl ?_
  intro p e s m args below meth c s₁ B hml hv
  obtain ⟨rfl, rfl, hP, hK, hZ, hO, hV⟩ := hv
  have hts := atoms_spec (ws := wsJx4a65c_add_72be8) B.pre
  have hx := B.exec
  have hb := B.bytes
  have hr := B.returns
  have hlk := B.notSynchronized
  have hown : s.vm.findClass RJx4a65c = some m.cls := findClass_of_methodNamed B.named
  have hl := lv_entry ([.ref a, .ref v, .ref e0, .int (nI 0)]) (n := 4) (Nat.le_of_ble_eq_true rfl)
  rw [lg_entry_eq]
  generalize (lg_sl ([.ref a, .ref v, .ref e0, .int (nI 0)]) ++ List.replicate (4 - (lg_sl ([.ref a, .ref v, .ref e0, .int (nI 0)])).length) Slot.unset).toArray = ls at hl ⊢
  have hl : lv_has ls 4 [(0, .ref a), (1, .ref v), (2, .ref e0), (3, .int (nI 0))] := hl
  have hS : va_S (A1 a s.heap.size) s.heap s.heap [] := va_S.rf
  have hin : ∀ w ∈ u_ws RJx4a65c TJx4a65c 3, w ∈ wsJx4a65c_add_72be8 := by decide +kernel
  have hla := va_P_lt hP
  have hvA : ¬ A1 a s.heap.size v := fun h => h.elim hva (fun z => by obtain ⟨cv, h1, -⟩ := hV; exact absurd (Array.getElem?_eq_some_iff.mp h1).1 (Nat.not_lt.mpr z))
  refine lv_iload_n hx hb dJx4a65c_add_72be8_0 rfl (lv_at hl 3 rfl) ?_
  refine lv_aload_n hx hb dJx4a65c_add_72be8_1 rfl (lv_at hl 2 rfl) ?_
  refine va_tlen (v := nI 0) hx hb hZ.2 hS rfl dJx4a65c_add_72be8_2 ?_
  refine lv_icmp_ne (tgt := 11) hx hb dJx4a65c_add_72be8_3 (by decide) (fun c1 => absurd rfl c1) (fun _ => ?_)
  refine lv_aload_n hx hb dJx4a65c_add_72be8_6 rfl (lv_at hl 0 rfl) ?_
  have hrc := va_recv hK hP (ci := 1) (q0 := 0) rfl rfl
  refine va_callr (va_runV (As := []) (rest := []) ⟨hx, hb, hml, hown, hts⟩ (je_grow0 l D a mc e0 s.heap.size) (cwV 0 hts gJx4a65c_add_72be8_Jx4a65c_grow_d5877 rfl rfl rfl (by decide +kernel) ⟨Nat.le_of_ble_eq_true rfl, Nat.le_of_ble_eq_true rfl⟩) ⟨fun a9 U g mk q => ⟨q.1, q.2.1, q.2.2.1, va_K.moved (u := U) (U := U.calling g mk a9) (Vm.Alike.refl U.vm) q.2.2.2.1, ZL.same (u := U) (U := U.calling g mk a9) rfl rfl q.2.2.2.2.1, va_AO.moved (u := U) (U := U.calling g mk a9) (Vm.Alike.refl U.vm) q.2.2.2.2.2⟩, hrc, fun U hU hW => ⟨rfl, by rw [hU], by rw [hU]; exact hP, va_K.moved hW.alike hK, hZ.go hW (fun z h1 h2 => by rw [hU] <;> exact hS.2.1 z h1 h2) (fun z h => h.imp id (fun h => Nat.le_trans hS.1 h)), va_AO.moved hW.alike hO⟩⟩ rfl rfl hl.1 rfl (lv_room (Nat.le_of_ble_eq_true rfl)) dJx4a65c_add_72be8_7 ⟨Nat.le_of_ble_eq_true rfl, Nat.le_of_ble_eq_true rfl⟩) hS (fun z _ h => h.imp id (fun h => Nat.le_trans hS.1 h)) (fun z h => h.imp id (fun h => Nat.le_trans hS.1 h)) (fun u q t H1 locs ht hvm hw hB hz1 hk1 hS => ?_)
  obtain ⟨hq, cO, hB1, hB2, hB3⟩ := hB
  rw [ht] at hB1 hB2
  have hB3 := va_K.moved hvm.symm hB3
  refine lv_astore_n hx hb dJx4a65c_add_72be8_10 rfl hl (by decide) rfl (fun ls hl => ?_)
  have hl : lv_has ls 4 [(2, .ref q), (0, .ref a), (1, .ref v), (3, .int (nI 0))] := hl
  refine lv_aload_n hx hb dJx4a65c_add_72be8_11 rfl (lv_at hl 0 rfl) ?_
  refine lv_iload_n hx hb dJx4a65c_add_72be8_12 rfl (lv_at hl 3 rfl) ?_
  refine lv_aload_n hx hb dJx4a65c_add_72be8_13 rfl (lv_at hl 2 rfl) ?_
  have hP2 := P2 hB1 hB2
  have hD2 : va_D (A1 a s.heap.size) [(a, .inr (1, [.int (nI mc), .ref q, .int (nI 0)])), (q, .inl (cO, 10, .inr (.inr (.inr (.inr (fun _ => none))))))] := D2 (by omega) (Or.inl rfl) (Or.inr hq)
  refine va_astqM (E := "java/lang/Object") hx hb hB3 hP2 hD2 hS 1 0 rfl rfl (any_S hV hS hvA) (vp_in_nI (by omega) (by omega)) dJx4a65c_add_72be8_14 (fun H locs hP hD hS => ?_)
  refine lv_aload_n hx hb dJx4a65c_add_72be8_15 rfl (lv_at hl 1 rfl) ?_
  refine lv_iload_n hx hb dJx4a65c_add_72be8_16 rfl (lv_at hl 3 rfl) ?_
  refine lv_iconst (v := nI 1) hx hb dJx4a65c_add_72be8_17 (by decide) ?_
  refine lv_iadd hx hb dJx4a65c_add_72be8_18 ?_
  rw [nI_add]
  refine va_put (ci := 1) (C := RJx4a65c) (T := TJx4a65c) (N := 3) (fs := [.int (nI mc), .ref q, .int (nI 0)]) (ty := .int) (v := .int (nI (0 + 1))) hx hb hts hin tyJx4a65c tyJx4a65c_ok nmJx4a65c hown hB3 hP hD hS 0 rfl rfl 2 (by decide) (hts (.fieldLink RJx4a65c 48 "java/util/ArrayList" "size" "I") (by decide +kernel)) (fun _ h9 => h9) rfl (tyJx4a65c_ok 2 (by decide)) rfl rfl (Nat.le_of_ble_eq_true rfl) dJx4a65c_add_72be8_19 (fun H locs hP hD hS => ?_)
  refine W.widen (k := 1) (n := 10) (Nat.le_of_ble_eq_true rfl) (Nat.le_of_ble_eq_true rfl) ?_
  exact W.vret hx hb hr (fun t ht hW => ⟨⟨(), rfl, trivial, q, by rw [ht]; exact hP.sub [0] rfl⟩, hS.F ht⟩) hS.2.2 dJx4a65c_add_72be8_22 hlk
set_option maxHeartbeats 4000000 in
set_option maxRecDepth 100000 in
/-- add(v) to an empty list -/
theorem je_add (l : Launch) (D : va_G) (a mc e0 v : Nat) (hva : v ≠ a) (sz : Nat) : Met l yJx4a65c_add_9ea2d wsJx4a65c_add_9ea2d (RmA 5 1 10) (va_Pc [.ref a, .ref v] (fun U => U.heap.size = sz ∧ va_P D clM (wAL a mc e0 0) U.heap ∧ va_K D clM [] U ∧ ZL e0 (A1 a sz) U ∧ va_AO "java/lang/Object" U ∧ va_Any "java/lang/Object" U U.heap v)) (va_Qi (fun (r : Int32) (_ : Unit) => r = nI 1) (fun _ t => ∃ q : Nat, va_P D clM [(a, .inr (1, [.int (nI (mc + 1)), .ref q, .int (nI 1)]))] t.heap) (A1 a sz)) 1 10 (A1 a sz) := by
  refine Met.ofW (cc := cJx4a65c_add_9ea2d) (maxL := 2) (ret := some .boolean) (by decide) rfl ?_
  intro p e s m args below meth c s₁ B hml hv
  obtain ⟨rfl, rfl, hP, hK, hZ, hO, hV⟩ := hv
  have hts := atoms_spec (ws := wsJx4a65c_add_9ea2d) B.pre
  have hx := B.exec
  have hb := B.bytes
  have hr := B.returns
  have hlk := B.notSynchronized
  have hown : s.vm.findClass RJx4a65c = some m.cls := findClass_of_methodNamed B.named
  have hl := lv_entry ([.ref a, .ref v]) (n := 2) (Nat.le_of_ble_eq_true rfl)
  rw [lg_entry_eq]
  generalize (lg_sl ([.ref a, .ref v]) ++ List.replicate (2 - (lg_sl ([.ref a, .ref v])).length) Slot.unset).toArray = ls at hl ⊢
  have hl : lv_has ls 2 [(0, .ref a), (1, .ref v)] := hl
  have hS : va_S (A1 a s.heap.size) s.heap s.heap [] := va_S.rf
  have hin : ∀ w ∈ u_ws RJx4a65c TJx4a65c 3, w ∈ wsJx4a65c_add_9ea2d := by decide +kernel
  have hla := va_P_lt hP
  have hvA : ¬ A1 a s.heap.size v := fun h => h.elim hva (fun z => by obtain ⟨cv, h1, -⟩ := hV; exact absurd (Array.getElem?_eq_some_iff.mp h1).1 (Nat.not_lt.mpr z))
  have hP : va_P D clM [(a, .inr (1, [.int (nI mc), .ref e0, .int (nI 0)]))] s.heap := hP
  have hD : va_D (A1 a s.heap.size) [(a, .inr (1, [.int (nI mc), .ref e0, .int (nI 0)]))] := D1
  refine lv_aload_n hx hb dJx4a65c_add_9ea2d_0 rfl (lv_at hl 0 rfl) ?_
  refine lv_dup hx hb dJx4a65c_add_9ea2d_1 rfl ?_
  refine va_get (ci := 1) (C := RJx4a65c) (T := TJx4a65c) (N := 3) (v := .int (nI mc)) hx hb hts hin hown hK hP 0 rfl rfl 0 (by decide) (hts (.fieldLink RJx4a65c 63 "java/util/ArrayList" "modCount" "I") (by decide +kernel)) (u_same (hts (.sameField "java/util/ArrayList" "java/util/AbstractList" "modCount" "I") (by decide +kernel))) rfl dJx4a65c_add_9ea2d_2 ?_
  refine lv_iconst (v := nI 1) hx hb dJx4a65c_add_9ea2d_5 (by decide) ?_
  refine lv_iadd hx hb dJx4a65c_add_9ea2d_6 ?_
  rw [nI_add]
  refine va_put (ci := 1) (C := RJx4a65c) (T := TJx4a65c) (N := 3) (ty := .int) (v := .int (nI (mc + 1))) hx hb hts hin tyJx4a65c tyJx4a65c_ok nmJx4a65c hown hK hP hD hS 0 rfl rfl 0 (by decide) (hts (.fieldLink RJx4a65c 63 "java/util/ArrayList" "modCount" "I") (by decide +kernel)) (u_same (hts (.sameField "java/util/ArrayList" "java/util/AbstractList" "modCount" "I") (by decide +kernel))) rfl (tyJx4a65c_ok 0 (by decide)) rfl rfl (Nat.le_of_ble_eq_true rfl) dJx4a65c_add_9ea2d_7 (fun H locs hP hD hS => ?_)
  have hP : va_P D clM (wAL a (mc + 1) e0 0) H := hP
  refine lv_aload_n hx hb dJx4a65c_add_9ea2d_10 rfl (lv_at hl 0 rfl) ?_
  refine lv_aload_n hx hb dJx4a65c_add_9ea2d_11 rfl (lv_at hl 1 rfl) ?_
  refine lv_aload_n hx hb dJx4a65c_add_9ea2d_12 rfl (lv_at hl 0 rfl) ?_
  refine va_get (ci := 1) (C := RJx4a65c) (T := TJx4a65c) (N := 3) (v := .ref e0) hx hb hts hin hown hK hP 0 rfl rfl 1 (by decide) (hts (.fieldLink RJx4a65c 9 "java/util/ArrayList" "elementData" "[Ljava/lang/Object;") (by decide +kernel)) (fun _ h9 => h9) rfl dJx4a65c_add_9ea2d_13 ?_
  refine lv_aload_n hx hb dJx4a65c_add_9ea2d_16 rfl (lv_at hl 0 rfl) ?_
  refine va_get (ci := 1) (C := RJx4a65c) (T := TJx4a65c) (N := 3) (v := .int (nI 0)) hx hb hts hin hown hK hP 0 rfl rfl 2 (by decide) (hts (.fieldLink RJx4a65c 48 "java/util/ArrayList" "size" "I") (by decide +kernel)) (fun _ h9 => h9) rfl dJx4a65c_add_9ea2d_17 ?_
  have hrc := va_recv hK hP (ci := 1) (q0 := 0) rfl rfl
  refine va_callv (va_runV (As := [.ref v, .ref e0, .int (nI 0)]) (rest := []) ⟨hx, hb, hml, hown, hts⟩ (je_add3 l D a (mc + 1) e0 v hva H.size) (cwV 3 hts gJx4a65c_add_9ea2d_Jx4a65c_add_72be8 rfl rfl rfl (by decide +kernel) ⟨Nat.le_of_ble_eq_true rfl, Nat.le_of_ble_eq_true rfl⟩) ⟨(fun a9 U g mk q => ⟨q.1, q.2.1, q.2.2.1, va_K.moved (u := U) (U := U.calling g mk a9) (Vm.Alike.refl U.vm) q.2.2.2.1, ZL.same (u := U) (U := U.calling g mk a9) rfl rfl q.2.2.2.2.1, va_AO.moved (u := U) (U := U.calling g mk a9) (Vm.Alike.refl U.vm) q.2.2.2.2.2.1, any_go (s := U) (U := U.calling g mk a9) q.2.2.2.2.2.2 (Vm.Alike.refl U.vm)⟩), hrc, fun U hU hW => ⟨rfl, by rw [hU], by rw [hU]; exact hP, va_K.moved hW.alike hK, hZ.go hW (fun z h1 h2 => by rw [hU] <;> exact hS.2.1 z h1 h2) (fun z h => h.imp id (fun h => Nat.le_trans hS.1 h)), va_AO.moved hW.alike hO, by rw [hU]; exact any_go (any_S hV hS hvA) hW.alike⟩⟩ rfl rfl hl.1 rfl (lv_room (Nat.le_of_ble_eq_true rfl)) dJx4a65c_add_9ea2d_20 ⟨Nat.le_of_ble_eq_true rfl, Nat.le_of_ble_eq_true rfl⟩) hS (fun z _ h => h.imp id (fun h => Nat.le_trans hS.1 h)) (fun z h => h.imp id (fun h => Nat.le_trans hS.1 h)) (fun u t H1 locs ht hvm hw hB hz1 hk1 hS => ?_)
  obtain ⟨q, hB⟩ := hB
  rw [ht] at hB
  refine lv_iconst (v := nI 1) hx hb dJx4a65c_add_9ea2d_23 (by decide) ?_
  refine W.widen (k := 1) (n := 10) (Nat.le_of_ble_eq_true rfl) (Nat.le_of_ble_eq_true rfl) ?_
  exact W.zret hx hb hr (by rfl) (fun t ht hW => ⟨⟨_, (), rfl, rfl, q, by rw [ht]; exact hB⟩, hS.F ht⟩) hS.2.2 dJx4a65c_add_9ea2d_24 hlk
