/-! 43: the reference's own methods, on the empty state -/
abbrev eX (v : Int32) (L S : Nat) (b e : Value) (F : Nat) (z : Int64) : va_E := .inr (0, [.int v, .ref L, .ref S, .int 0, b, e, .ref F, .long z])
abbrev eA (mc e n : Nat) : va_E := .inr (1, [.int (nI mc), .ref e, .int (nI n)])
abbrev w4 (o L S F e0 : Nat) (v : Int32) (b e : Value) (z : Int64) (mF : Nat) : va_W := [(o, eX v L S b e F z), (L, eA 0 e0 0), (S, eA 0 e0 0), (F, eA mF e0 0)]
theorem notA1 {D : va_G} {cl : List vw_C} {ws : va_W} {A : Nat → Prop} {H : Heap} (hP : va_P D cl ws H) (hD : va_D A ws) {i j : Nat} {x y : Nat × va_E} (hj : ws[j]? = some x) (hi : ws[i]? = some y) (hne : i ≠ j) : ¬ A1 x.1 H.size y.1 := fun h => h.elim (fun e => hne (hD.1 i j y x hi hj e)) (fun z => absurd (hP i y hi).lt (Nat.not_lt.mpr z))
/-- a call that changed one cell of the world -/
theorem P_call1 {D : va_G} {cl : List vw_C} {ws : va_W} {A : Nat → Prop} {H H1 : Heap} {j a : Nat} {e e' : va_E} (hP : va_P D cl ws H) (hD : va_D A ws) (hj : ws[j]? = some (a, e)) (hB : va_P D cl [(a, e')] H1) (hk : ∀ q : Nat, q < H.size → ¬ A1 a H.size q → H1[q]? = H[q]?) : va_P D cl (ws.set j (a, e')) H1 := by
  intro k x hx
  by_cases h : k = j
  · subst h
    rw [List.getElem?_set_self (List.getElem?_eq_some_iff.mp hj).1] at hx
    cases hx
    exact hB 0 _ rfl
  · rw [List.getElem?_set_ne (Ne.symm h)] at hx
    exact (hP k x hx).kept (hk x.1 (hP k x hx).lt (notA1 hP hD hj hx h))
theorem D_set {ws : va_W} {A : Nat → Prop} {j a : Nat} {e e' : va_E} (hD : va_D A ws) (hj : ws[j]? = some (a, e)) : va_D A (ws.set j (a, e')) := by
  have key : ∀ (k : Nat) (x : Nat × va_E), (ws.set j (a, e'))[k]? = some x → ∃ y, ws[k]? = some y ∧ y.1 = x.1 := by
    intro k x hx
    by_cases h : k = j
    · subst h
      rw [List.getElem?_set_self (List.getElem?_eq_some_iff.mp hj).1] at hx
      cases hx
      exact ⟨_, hj, rfl⟩
    · rw [List.getElem?_set_ne (Ne.symm h)] at hx
      exact ⟨x, hx, rfl⟩
  refine ⟨fun i k x y hi hk h => ?_, fun k x hx => ?_⟩
  · obtain ⟨x', h1, h2⟩ := key i x hi
    obtain ⟨y', h3, h4⟩ := key k y hk
    exact hD.1 i k x' y' h1 h3 (h2.trans (h.trans h4.symm))
  · obtain ⟨y, h1, h2⟩ := key k x hx
    exact h2 ▸ hD.2 k y h1
/-- a call that only added cells -/
theorem P_new {D : va_G} {cl : List vw_C} {ws : va_W} {H H1 : Heap} (hP : va_P D cl ws H) (hk : ∀ q : Nat, q < H.size → ¬ (H.size ≤ q) → H1[q]? = H[q]?) : va_P D cl ws H1 := va_P_all hP (fun q hq => hk q hq (Nat.not_le.mpr hq))
theorem free1 {ws : va_W} {A : Nat → Prop} {H : Heap} {sz j a : Nat} {e : va_E} (hD : va_D A ws) (hj : ws[j]? = some (a, e)) (hA : ∀ q : Nat, sz ≤ q → A q) (hs : sz ≤ H.size) : ∀ q : Nat, A1 a H.size q → A q := fun q h => h.elim (fun e => e ▸ hD.2 j _ hj) (fun z => hA q (Nat.le_trans hs z))
theorem freeN {A : Nat → Prop} {H : Heap} {sz : Nat} (hA : ∀ q : Nat, sz ≤ q → A q) (hs : sz ≤ H.size) : ∀ q : Nat, H.size ≤ q → A q := fun q z => hA q (Nat.le_trans hs z)
theorem K0 {D : va_G} {cl : List vw_C} {tys : List (ClassId × FieldType)} {U : State} (h : va_K D cl tys U) : va_K D cl [] U := ⟨h.1, fun k q h => by simp at h⟩
abbrev iHN : MethodName := ⟨"java/util/Iterator", "hasNext", "()Z"⟩
/-- what hasNext() asks of the tables -/
def HN (U : State) : Prop := va_Nw (.fieldLinkNest RJx35411 28 "java/util/ArrayList" "size" "I" "java/util/ArrayList") U ∧ va_Fw RJx35411 iHN yJx35411_hasNext_aae02 U
theorem HN.go {s U : State} (hW : s.WarmedH U.vm) (h : HN s) : HN U := ⟨va_Nw.warmF hW h.1, va_Fw.moved (by decide) hW.alike h.2⟩
theorem HN.same {u U : State} (hv : u.vm = U.vm) (h : HN u) : HN U := ⟨va_Nw.same rfl hv h.1, va_Fw.moved (by decide) (by rw [hv]; exact Vm.Alike.refl _) h.2⟩
set_option maxHeartbeats 4000000 in
set_option maxRecDepth 100000 in
/-- thrown() -/
theorem je_thrown (l : Launch) (D : va_G) (o : Nat) (v : Int32) (fs : List Value) (sz : Nat) : Met l yX4_thrown wsX4_thrown (RmA 1 0 0) (va_Pc [.ref o] (fun U => U.heap.size = sz ∧ va_P D clM [(o, .inr (0, .int v :: fs))] U.heap ∧ va_K D clM [] U)) (va_Qi (fun (r : Int32) (_ : Unit) => r = v) (fun _ _ => True) (fun q : Nat => sz ≤ q)) 0 0 (fun q : Nat => sz ≤ q) := by
  refine Met.ofW (cc := cX4_thrown) (maxL := 1) (ret := some .int) (by decide) rfl ?_
  intro p e s m args below meth c s₁ B hml hv
  obtain ⟨rfl, rfl, hP, hK⟩ := hv
  have hts := atoms_spec (ws := wsX4_thrown) B.pre
  have hx := B.exec
  have hb := B.bytes
  have hr := B.returns
  have hlk := B.notSynchronized
  have hown : s.vm.findClass RX4 = some m.cls := findClass_of_methodNamed B.named
  have hl := lv_entry ([.ref o]) (n := 1) (Nat.le_of_ble_eq_true rfl)
  rw [lg_entry_eq]
  generalize (lg_sl ([.ref o]) ++ List.replicate (1 - (lg_sl ([.ref o])).length) Slot.unset).toArray = ls at hl ⊢
  have hl : lv_has ls 1 [(0, .ref o)] := hl
  have hS : va_S (fun q : Nat => s.heap.size ≤ q) s.heap s.heap [] := va_S.rf
  have hin : ∀ w ∈ u_ws RX4 TX4 8, w ∈ wsX4_thrown := by decide +kernel
  refine lv_aload_n hx hb dX4_thrown_0 rfl (lv_at hl 0 rfl) ?_
  refine va_get (ci := 0) (C := RX4) (T := TX4) (N := 8) (v := .int v) hx hb hts hin hown hK hP 0 rfl rfl 0 (by decide) (hts (.fieldLink RX4 22 "SignetRoomModel" "thrown" "I") (by decide +kernel)) (fun _ h9 => h9) rfl dX4_thrown_1 ?_
  exact W.iret hx hb hr (fun t ht hW => ⟨⟨_, (), rfl, rfl, trivial⟩, hS.F ht⟩) hS.2.2 dX4_thrown_4 hlk
set_option maxHeartbeats 4000000 in
set_option maxRecDepth 100000 in
/-- add(x) -/
theorem je_add4 (l : Launch) (D : va_G) (o L S F : Nat) (v : Int32) (bB eE : Value) (z : Int64) (x : Int32) (sz : Nat) : Met l yX4_add wsX4_add (RmA 1 0 0) (va_Pc [.ref o, .int x] (fun U => U.heap.size = sz ∧ va_P D clM [(o, eX v L S bB eE F z)] U.heap ∧ va_K D clM [] U)) (va_Qv (fun _ : Unit => True) (fun _ t => va_P D clM [(o, eX v L S bB eE F (z * 31 + x.toInt64))] t.heap) (A1 o sz)) 0 0 (A1 o sz) := by
  refine Met.ofW (cc := cX4_add) (maxL := 2) (ret := none) (by decide) rfl ?_
  intro p e s m args below meth c s₁ B hml hv
  obtain ⟨rfl, rfl, hP, hK⟩ := hv
  have hts := atoms_spec (ws := wsX4_add) B.pre
  have hx := B.exec
  have hb := B.bytes
  have hr := B.returns
  have hlk := B.notSynchronized
  have hown : s.vm.findClass RX4 = some m.cls := findClass_of_methodNamed B.named
  have hl := lv_entry ([.ref o, .int x]) (n := 2) (Nat.le_of_ble_eq_true rfl)
  rw [lg_entry_eq]
  generalize (lg_sl ([.ref o, .int x]) ++ List.replicate (2 - (lg_sl ([.ref o, .int x])).length) Slot.unset).toArray = ls at hl ⊢
  have hl : lv_has ls 2 [(0, .ref o), (1, .int x)] := hl
  have hS : va_S (A1 o s.heap.size) s.heap s.heap [] := va_S.rf
  have hin : ∀ w ∈ u_ws RX4 TX4 8, w ∈ wsX4_add := by decide +kernel
  have hD : va_D (A1 o s.heap.size) [(o, eX v L S bB eE F z)] := D1
  refine lv_aload_n hx hb dX4_add_0 rfl (lv_at hl 0 rfl) ?_
  refine lv_aload_n hx hb dX4_add_1 rfl (lv_at hl 0 rfl) ?_
  refine va_get (ci := 0) (C := RX4) (T := TX4) (N := 8) (v := .long z) hx hb hts hin hown hK hP 0 rfl rfl 7 (by decide) (hts (.fieldLink RX4 200 "SignetRoomModel" "sum" "J") (by decide +kernel)) (fun _ h9 => h9) rfl dX4_add_2 ?_
  refine lv_ldc2 (v := 31) hx hb hown (hts (.constantLong RX4 204 31) (by decide +kernel)) dX4_add_5 ?_
  refine lv_lmul hx hb dX4_add_8 ?_
  refine lv_iload_n hx hb dX4_add_9 rfl (lv_at hl 1 rfl) ?_
  refine lv_i2l hx hb dX4_add_10 rfl ?_
  refine lv_ladd hx hb dX4_add_11 ?_
  refine va_put (ci := 0) (v := .long (z * 31 + x.toInt64)) (ty := .long) (C := RX4) (T := TX4) (N := 8) hx hb hts hin tyX4 tyX4_ok nmX4 hown hK hP hD hS 0 rfl rfl 7 (by decide) (hts (.fieldLink RX4 200 "SignetRoomModel" "sum" "J") (by decide +kernel)) (fun _ h9 => h9) rfl (tyX4_ok 7 (by decide)) rfl rfl (Nat.le_of_ble_eq_true rfl) dX4_add_12 (fun H locs hP hD hS => ?_)
  exact W.vret hx hb hr (fun t ht hW => ⟨⟨(), rfl, trivial, by show va_P _ _ _ t.heap; rw [ht]; exact hP⟩, hS.F ht⟩) hS.2.2 dX4_add_15 hlk
set_option maxHeartbeats 4000000 in
set_option maxRecDepth 100000 in
/-- forget() -/
theorem je_forget (l : Launch) (D : va_G) (o L S F : Nat) (v : Int32) (bB eE : Value) (z : Int64) (sz : Nat) : Met l yX4_forget wsX4_forget (RmA 1 0 0) (va_Pc [.ref o] (fun U => U.heap.size = sz ∧ va_P D clM [(o, eX v L S bB eE F z)] U.heap ∧ va_K D clM [] U)) (va_Qv (fun _ : Unit => True) (fun _ t => va_P D clM [(o, eX v L S .null eE F z)] t.heap) (A1 o sz)) 0 0 (A1 o sz) := by
  refine Met.ofW (cc := cX4_forget) (maxL := 1) (ret := none) (by decide) rfl ?_
  intro p e s m args below meth c s₁ B hml hv
  obtain ⟨rfl, rfl, hP, hK⟩ := hv
  have hts := atoms_spec (ws := wsX4_forget) B.pre
  have hx := B.exec
  have hb := B.bytes
  have hr := B.returns
  have hlk := B.notSynchronized
  have hown : s.vm.findClass RX4 = some m.cls := findClass_of_methodNamed B.named
  have hl := lv_entry ([.ref o]) (n := 1) (Nat.le_of_ble_eq_true rfl)
  rw [lg_entry_eq]
  generalize (lg_sl ([.ref o]) ++ List.replicate (1 - (lg_sl ([.ref o])).length) Slot.unset).toArray = ls at hl ⊢
  have hl : lv_has ls 1 [(0, .ref o)] := hl
  have hS : va_S (A1 o s.heap.size) s.heap s.heap [] := va_S.rf
  have hin : ∀ w ∈ u_ws RX4 TX4 8, w ∈ wsX4_forget := by decide +kernel
  have hD : va_D (A1 o s.heap.size) [(o, eX v L S bB eE F z)] := D1
  refine lv_aload_n hx hb dX4_forget_0 rfl (lv_at hl 0 rfl) ?_
  refine lv_null hx hb dX4_forget_1 ?_
  refine va_put (ci := 0) (v := .null) (ty := .array .int) (C := RX4) (T := TX4) (N := 8) hx hb hts hin tyX4 tyX4_ok nmX4 hown hK hP hD hS 0 rfl rfl 4 (by decide) (hts (.fieldLink RX4 51 "SignetRoomModel" "backers" "[I") (by decide +kernel)) (fun _ h9 => h9) rfl (tyX4_ok 4 (by decide)) rfl rfl (Nat.le_of_ble_eq_true rfl) dX4_forget_2 (fun H locs hP hD hS => ?_)
  exact W.vret hx hb hr (fun t ht hW => ⟨⟨(), rfl, trivial, by show va_P _ _ _ t.heap; rw [ht]; exact hP⟩, hS.F ht⟩) hS.2.2 dX4_forget_5 hlk
set_option maxHeartbeats 4000000 in
set_option maxRecDepth 100000 in
/-- anchors() without letters -/
theorem je_anchors (l : Launch) (D : va_G) (o L S F e0 : Nat) (v : Int32) (bB eE : Value) (z : Int64) (mF : Nat) (sz : Nat) : Met l yX4_anchors wsX4_anchors (RmA 3 1 4) (va_Pc [.ref o] (fun U => U.heap.size = sz ∧ va_P D clM (w4 o L S F e0 v bB eE z mF) U.heap ∧ va_K D clM [] U ∧ HN U)) (va_Qi (fun (r : Int32) (_ : Unit) => r = nI 0) (fun _ _ => True) (fun q : Nat => sz ≤ q)) 1 4 (fun q : Nat => sz ≤ q) := by
  refine Met.ofW (cc := cX4_anchors) (maxL := 4) (ret := some .int) (by decide) rfl ?_
  intro p e s m args below meth c s₁ B hml hv
  obtain ⟨rfl, rfl, hP, hK, hN⟩ := hv
  have hts := atoms_spec (ws := wsX4_anchors) B.pre
  have hx := B.exec
  have hb := B.bytes
  have hr := B.returns
  have hlk := B.notSynchronized
  have hown : s.vm.findClass RX4 = some m.cls := findClass_of_methodNamed B.named
  have hl := lv_entry ([.ref o]) (n := 4) (Nat.le_of_ble_eq_true rfl)
  rw [lg_entry_eq]
  generalize (lg_sl ([.ref o]) ++ List.replicate (4 - (lg_sl ([.ref o])).length) Slot.unset).toArray = ls at hl ⊢
  have hl : lv_has ls 4 [(0, .ref o)] := hl
  have hS : va_S (fun q : Nat => s.heap.size ≤ q) s.heap s.heap [] := va_S.rf
  have hin : ∀ w ∈ u_ws RX4 TX4 8, w ∈ wsX4_anchors := by decide +kernel
  have hA : ∀ q : Nat, s.heap.size ≤ q → (fun q : Nat => s.heap.size ≤ q) q := fun _ h => h
  refine lv_iconst (v := nI 0) hx hb dX4_anchors_0 (by decide) ?_
  refine lv_istore_n hx hb dX4_anchors_1 rfl hl (by decide) rfl (fun ls hl => ?_)
  have hl : lv_has ls 4 [(1, .int (nI 0)), (0, .ref o)] := hl
  refine lv_aload_n hx hb dX4_anchors_2 rfl (lv_at hl 1 rfl) ?_
  refine va_get (ci := 0) (C := RX4) (T := TX4) (N := 8) (v := .ref L) hx hb hts hin hown hK hP 0 rfl rfl 1 (by decide) (hts (.fieldLink RX4 10 "SignetRoomModel" "letters" "Ljava/util/ArrayList;") (by decide +kernel)) (fun _ h9 => h9) rfl dX4_anchors_3 ?_
  have hrc := va_recv hK hP (ci := 1) (q0 := 1) rfl rfl
  refine va_callr (va_runV (As := []) (rest := []) ⟨hx, hb, hml, hown, hts⟩ (je_iterator l D L 0 e0 0 s.heap.size) (cwV 0 hts gX4_anchors_Jx4a65c_iterator_32c93 rfl rfl rfl (by decide +kernel) ⟨Nat.le_of_ble_eq_true rfl, Nat.le_of_ble_eq_true rfl⟩) ⟨fun a9 U g mk q => ⟨q.1, q.2.1, q.2.2.1, va_K.moved (u := U) (U := U.calling g mk a9) (Vm.Alike.refl U.vm) q.2.2.2⟩, hrc, fun U hU hW => ⟨rfl, by rw [hU], by rw [hU]; exact hP.sub [1] rfl, va_K.moved hW.alike hK⟩⟩ rfl rfl hl.1 rfl (lv_room (Nat.le_of_ble_eq_true rfl)) dX4_anchors_6 ⟨Nat.le_of_ble_eq_true rfl, Nat.le_of_ble_eq_true rfl⟩) hS (fun z _ h => (freeN hA hS.1) z h) (freeN hA hS.1) (fun u q t H1 locs ht hvm hw hB hz1 hk1 hS => ?_)
  have hP := P_new hP hk1
  have hI := hB.2
  rw [ht] at hI
  refine lv_astore_n hx hb dX4_anchors_9 rfl hl (by decide) rfl (fun ls hl => ?_)
  have hl : lv_has ls 4 [(2, .ref q), (1, .int (nI 0)), (0, .ref o)] := hl
  refine lv_aload_n hx hb dX4_anchors_10 rfl (lv_at hl 0 rfl) ?_
  have hrc := va_recv hK hI (ci := 2) (q0 := 0) rfl rfl
  refine va_callFi (va_runF (As := []) (rest := []) (hK.1 2 _ rfl).2 ⟨hx, hb, hml, hown, hts⟩ (je_hasNext l D q 0 L 0 e0 0 H1.size) (va_cwF 0 hts gX4_anchors_Jx35411_hasNext_aae02_f93Jx35411 rfl rfl rfl hN.2 (by decide +kernel) ⟨Nat.le_of_ble_eq_true rfl, Nat.le_of_ble_eq_true rfl⟩) ⟨fun a9 U g mk q => ⟨q.1, q.2.1, q.2.2.1, q.2.2.2.1, va_K.moved (u := U) (U := U.calling g mk a9) (Vm.Alike.refl U.vm) q.2.2.2.2.1, va_Nw.same rfl (u := U) (U := U.calling g mk a9) rfl q.2.2.2.2.2⟩, hrc, fun U hU hW => ⟨rfl, by rw [hU], by rw [hU]; exact hI, by rw [hU]; exact hP.sub [1] rfl, va_K.moved hW.alike hK, va_Nw.warmF hW hN.1⟩⟩ rfl rfl hl.1 rfl (lv_room (Nat.le_of_ble_eq_true rfl)) dX4_anchors_11 ⟨Nat.le_of_ble_eq_true rfl, Nat.le_of_ble_eq_true rfl⟩) hS (fun z _ h => (freeN hA hS.1) z h) (freeN hA hS.1) (fun rv u t H1 locs ht hvm hw hB hz1 hk1 hS => ?_)
  subst hw
  refine lv_if_eq (tgt := 39) hx hb dX4_anchors_16 (by decide) (fun _ => ?_) (fun c1 => absurd rfl c1)
  refine lv_iload_n hx hb dX4_anchors_39 rfl (lv_at hl 1 rfl) ?_
  refine W.widen (k := 1) (n := 4) (Nat.le_of_ble_eq_true rfl) (Nat.le_of_ble_eq_true rfl) ?_
  exact W.iret hx hb hr (fun t ht hW => ⟨⟨_, (), rfl, rfl, trivial⟩, hS.F ht⟩) hS.2.2 dX4_anchors_40 hlk
set_option maxHeartbeats 4000000 in
set_option maxRecDepth 100000 in
/-- prepare() without letters, nothing kept -/
theorem je_prepare (l : Launch) (D : va_G) (o L S F e0 : Nat) (v : Int32) (eE : Value) (z : Int64) (mF : Nat) (sz : Nat) (A : Nat → Prop) (hA : ∀ q : Nat, sz ≤ q → A q) (hD : va_D A (w4 o L S F e0 v .null eE z mF)) : Met l yX4_prepare wsX4_prepare (RmA 2 2 6) (va_Pc [.ref o] (fun U => U.heap.size = sz ∧ va_P D clM (w4 o L S F e0 v .null eE z mF) U.heap ∧ va_K D clM [] U)) (va_Qv (fun _ : Unit => True) (fun _ t => ∃ (q1 q2 : Nat) (cA : ClassId), va_P D clM (w4 o L S F e0 v (.ref q1) (.ref q2) z (mF + 1)) t.heap ∧ va_P D clM [(q1, .inl (cA, 0, .inl zI))] t.heap ∧ va_K D clM [(cA, .int)] t ∧ va_D A (w4 o L S F e0 v (.ref q1) (.ref q2) z (mF + 1))) (A)) 2 6 (A) := by
  refine Met.ofW (cc := cX4_prepare) (maxL := 3) (ret := none) (by decide) rfl ?_
  intro p e s m args below meth c s₁ B hml hv
  obtain ⟨rfl, rfl, hP, hK⟩ := hv
  have hts := atoms_spec (ws := wsX4_prepare) B.pre
  have hx := B.exec
  have hb := B.bytes
  have hr := B.returns
  have hlk := B.notSynchronized
  have hown : s.vm.findClass RX4 = some m.cls := findClass_of_methodNamed B.named
  have hl := lv_entry ([.ref o]) (n := 3) (Nat.le_of_ble_eq_true rfl)
  rw [lg_entry_eq]
  generalize (lg_sl ([.ref o]) ++ List.replicate (3 - (lg_sl ([.ref o])).length) Slot.unset).toArray = ls at hl ⊢
  have hl : lv_has ls 3 [(0, .ref o)] := hl
  have hS : va_S (A) s.heap s.heap [] := va_S.rf
  have hin : ∀ w ∈ u_ws RX4 TX4 8, w ∈ wsX4_prepare := by decide +kernel
  refine lv_aload_n hx hb dX4_prepare_0 rfl (lv_at hl 0 rfl) ?_
  refine va_get (ci := 0) (C := RX4) (T := TX4) (N := 8) (v := .null) hx hb hts hin hown hK hP 0 rfl rfl 4 (by decide) (hts (.fieldLink RX4 51 "SignetRoomModel" "backers" "[I") (by decide +kernel)) (fun _ h9 => h9) rfl dX4_prepare_1 ?_
  refine lv_ifnullN (tgt := 8) hx hb dX4_prepare_4 (by decide) ?_
  refine lv_aload_n hx hb dX4_prepare_8 rfl (lv_at hl 0 rfl) ?_
  refine lv_aload_n hx hb dX4_prepare_9 rfl (lv_at hl 0 rfl) ?_
  refine va_get (ci := 0) (C := RX4) (T := TX4) (N := 8) (v := .ref L) hx hb hts hin hown hK hP 0 rfl rfl 1 (by decide) (hts (.fieldLink RX4 10 "SignetRoomModel" "letters" "Ljava/util/ArrayList;") (by decide +kernel)) (fun _ h9 => h9) rfl dX4_prepare_10 ?_
  have hrc := va_recv hK hP (ci := 1) (q0 := 1) rfl rfl
  refine va_calli (va_runV (As := []) (rest := [.ref o]) ⟨hx, hb, hml, hown, hts⟩ (je_size l D L 0 e0 0 s.heap.size) (cwV 0 hts gX4_prepare_Jx4a65c_size_8abf5 rfl rfl rfl (by decide +kernel) ⟨Nat.le_of_ble_eq_true rfl, Nat.le_of_ble_eq_true rfl⟩) ⟨fun a9 U g mk q => ⟨q.1, q.2.1, q.2.2.1, va_K.moved (u := U) (U := U.calling g mk a9) (Vm.Alike.refl U.vm) q.2.2.2⟩, hrc, fun U hU hW => ⟨rfl, by rw [hU], by rw [hU]; exact hP.sub [1] rfl, va_K.moved hW.alike hK⟩⟩ rfl rfl hl.1 rfl (lv_room (Nat.le_of_ble_eq_true rfl)) dX4_prepare_13 ⟨Nat.le_of_ble_eq_true rfl, Nat.le_of_ble_eq_true rfl⟩) hS (fun z _ h => (freeN hA hS.1) z h) (freeN hA hS.1) (fun rv u t H1 locs ht hvm hw hB hz1 hk1 hS => ?_)
  subst hw
  have hP := P_new hP hk1
  refine va_newa (atype := .int) (a0 := (0, .inl zI)) (ty := .int) hx hb (hts (.arrayClass .int) (by decide +kernel)) rfl hK hP hD hS hA (fun _ => rfl) (by decide) (N' := 0) (by decide +kernel) (by decide) (Nat.le_of_ble_eq_true rfl) (Nat.le_of_ble_eq_true rfl) dX4_prepare_16 (fun q1 cA H hK1 hP hD hS => ?_)
  refine va_put (ci := 0) (v := .ref q1) (ty := .array .int) (C := RX4) (T := TX4) (N := 8) hx hb hts hin tyX4 tyX4_ok nmX4 hown hK hP hD hS 0 rfl rfl 4 (by decide) (hts (.fieldLink RX4 51 "SignetRoomModel" "backers" "[I") (by decide +kernel)) (fun _ h9 => h9) rfl (tyX4_ok 4 (by decide)) rfl rfl (Nat.le_of_ble_eq_true rfl) dX4_prepare_18 (fun H locs hP hD hS => ?_)
  have hP : va_P D clM ((w4 o L S F e0 v (.ref q1) eE z mF) ++ [(q1, .inl (cA, 0, .inl zI))]) H := hP
  have hD : va_D A ((w4 o L S F e0 v (.ref q1) eE z mF) ++ [(q1, .inl (cA, 0, .inl zI))]) := hD
  refine lv_aload_n hx hb dX4_prepare_21 rfl (lv_at hl 0 rfl) ?_
  refine lv_bipush (v := nI 6) hx hb dX4_prepare_22 (by decide) ?_
  refine va_newa (atype := .int) (a0 := (6, .inl zI)) (ty := .int) hx hb (hts (.arrayClass .int) (by decide +kernel)) rfl hK hP hD hS hA (fun _ => rfl) (by decide) (N' := 6) (by decide +kernel) (by decide) (Nat.le_of_ble_eq_true rfl) (Nat.le_of_ble_eq_true rfl) dX4_prepare_24 (fun q2 cA2 H hK2 hP hD hS => ?_)
  refine va_put (ci := 0) (v := .ref q2) (ty := .array .int) (C := RX4) (T := TX4) (N := 8) hx hb hts hin tyX4 tyX4_ok nmX4 hown hK hP hD hS 0 rfl rfl 5 (by decide) (hts (.fieldLink RX4 58 "SignetRoomModel" "ends" "[I") (by decide +kernel)) (fun _ h9 => h9) rfl (tyX4_ok 5 (by decide)) rfl rfl (Nat.le_of_ble_eq_true rfl) dX4_prepare_26 (fun H locs hP hD hS => ?_)
  have hP : va_P D clM ((w4 o L S F e0 v (.ref q1) (.ref q2) z mF) ++ [(q1, .inl (cA, 0, .inl zI)), (q2, .inl (cA2, 6, .inl zI))]) H := hP
  have hD : va_D A ((w4 o L S F e0 v (.ref q1) (.ref q2) z mF) ++ [(q1, .inl (cA, 0, .inl zI)), (q2, .inl (cA2, 6, .inl zI))]) := hD
  refine lv_aload_n hx hb dX4_prepare_29 rfl (lv_at hl 0 rfl) ?_
  refine va_get (ci := 0) (C := RX4) (T := TX4) (N := 8) (v := .ref F) hx hb hts hin hown hK hP 0 rfl rfl 6 (by decide) (hts (.fieldLink RX4 19 "SignetRoomModel" "found" "Ljava/util/ArrayList;") (by decide +kernel)) (fun _ h9 => h9) rfl dX4_prepare_30 ?_
  have hrc := va_recv hK hP (ci := 1) (q0 := 3) rfl rfl
  refine va_callv (va_runV (As := []) (rest := []) ⟨hx, hb, hml, hown, hts⟩ (je_clear l D F mF e0 H.size) (cwV 0 hts gX4_prepare_Jx4a65c_clear_da8c8 rfl rfl rfl (by decide +kernel) ⟨Nat.le_of_ble_eq_true rfl, Nat.le_of_ble_eq_true rfl⟩) ⟨fun a9 U g mk q => ⟨q.1, q.2.1, q.2.2.1, va_K.moved (u := U) (U := U.calling g mk a9) (Vm.Alike.refl U.vm) q.2.2.2⟩, hrc, fun U hU hW => ⟨rfl, by rw [hU], by rw [hU]; exact hP.sub [3] rfl, va_K.moved hW.alike hK⟩⟩ rfl rfl hl.1 rfl (lv_room (Nat.le_of_ble_eq_true rfl)) dX4_prepare_33 ⟨Nat.le_of_ble_eq_true rfl, Nat.le_of_ble_eq_true rfl⟩) hS (fun z _ h => (free1 hD (j := 3) rfl hA hS.1) z h) (free1 hD (j := 3) rfl hA hS.1) (fun u t H1 locs ht hvm hw hB hz1 hk1 hS => ?_)
  rw [ht] at hB
  have hP : va_P D clM ((w4 o L S F e0 v (.ref q1) (.ref q2) z (mF + 1)) ++ [(q1, .inl (cA, 0, .inl zI)), (q2, .inl (cA2, 6, .inl zI))]) H1 := P_call1 hP hD (j := 3) rfl hB hk1
  have hD : va_D A ((w4 o L S F e0 v (.ref q1) (.ref q2) z (mF + 1)) ++ [(q1, .inl (cA, 0, .inl zI)), (q2, .inl (cA2, 6, .inl zI))]) := D_set hD (j := 3) rfl
  refine lv_iconst (v := nI 0) hx hb dX4_prepare_36 (by decide) ?_
  refine lv_istore_n hx hb dX4_prepare_37 rfl hl (by decide) rfl (fun ls hl => ?_)
  have hl : lv_has ls 3 [(1, .int (nI 0)), (0, .ref o)] := hl
  refine lv_iload_n hx hb dX4_prepare_38 rfl (lv_at hl 0 rfl) ?_
  refine lv_aload_n hx hb dX4_prepare_39 rfl (lv_at hl 1 rfl) ?_
  refine va_get (ci := 0) (C := RX4) (T := TX4) (N := 8) (v := .ref L) hx hb hts hin hown hK hP 0 rfl rfl 1 (by decide) (hts (.fieldLink RX4 10 "SignetRoomModel" "letters" "Ljava/util/ArrayList;") (by decide +kernel)) (fun _ h9 => h9) rfl dX4_prepare_40 ?_
  have hrc := va_recv hK hP (ci := 1) (q0 := 1) rfl rfl
  refine va_calli (va_runV (As := []) (rest := [.int (nI 0)]) ⟨hx, hb, hml, hown, hts⟩ (je_size l D L 0 e0 0 H1.size) (cwV 0 hts gX4_prepare_Jx4a65c_size_8abf5 rfl rfl rfl (by decide +kernel) ⟨Nat.le_of_ble_eq_true rfl, Nat.le_of_ble_eq_true rfl⟩) ⟨fun a9 U g mk q => ⟨q.1, q.2.1, q.2.2.1, va_K.moved (u := U) (U := U.calling g mk a9) (Vm.Alike.refl U.vm) q.2.2.2⟩, hrc, fun U hU hW => ⟨rfl, by rw [hU], by rw [hU]; exact hP.sub [1] rfl, va_K.moved hW.alike hK⟩⟩ rfl rfl hl.1 rfl (lv_room (Nat.le_of_ble_eq_true rfl)) dX4_prepare_43 ⟨Nat.le_of_ble_eq_true rfl, Nat.le_of_ble_eq_true rfl⟩) hS (fun z _ h => (freeN hA hS.1) z h) (freeN hA hS.1) (fun rv u t H1 locs ht hvm hw hB hz1 hk1 hS => ?_)
  subst hw
  have hP := P_new hP hk1
  refine lv_icmp_ge (tgt := 133) hx hb dX4_prepare_46 (by decide) (fun _ => ?_) (fun c1 => absurd (by decide) c1)
  refine lv_iconst (v := nI 1) hx hb dX4_prepare_133 (by decide) ?_
  refine lv_istore_n hx hb dX4_prepare_134 rfl hl (by decide) rfl (fun ls hl => ?_)
  have hl : lv_has ls 3 [(1, .int (nI 1)), (0, .ref o)] := hl
  refine lv_iload_n hx hb dX4_prepare_135 rfl (lv_at hl 0 rfl) ?_
  refine lv_bipush (v := nI 6) hx hb dX4_prepare_136 (by decide) ?_
  refine lv_icmp_ge (tgt := 200) hx hb dX4_prepare_138 (by decide) (fun c1 => absurd c1 (by decide)) (fun _ => ?_)
  refine lv_iconst (v := nI 0) hx hb dX4_prepare_141 (by decide) ?_
  refine lv_istore_n hx hb dX4_prepare_142 rfl hl (by decide) rfl (fun ls hl => ?_)
  have hl : lv_has ls 3 [(2, .int (nI 0)), (1, .int (nI 1)), (0, .ref o)] := hl
  refine lv_iload_n hx hb dX4_prepare_143 rfl (lv_at hl 0 rfl) ?_
  refine lv_aload_n hx hb dX4_prepare_144 rfl (lv_at hl 2 rfl) ?_
  refine va_get (ci := 0) (C := RX4) (T := TX4) (N := 8) (v := .ref L) hx hb hts hin hown hK hP 0 rfl rfl 1 (by decide) (hts (.fieldLink RX4 10 "SignetRoomModel" "letters" "Ljava/util/ArrayList;") (by decide +kernel)) (fun _ h9 => h9) rfl dX4_prepare_145 ?_
  have hrc := va_recv hK hP (ci := 1) (q0 := 1) rfl rfl
  refine va_calli (va_runV (As := []) (rest := [.int (nI 0)]) ⟨hx, hb, hml, hown, hts⟩ (je_size l D L 0 e0 0 H1.size) (cwV 0 hts gX4_prepare_Jx4a65c_size_8abf5 rfl rfl rfl (by decide +kernel) ⟨Nat.le_of_ble_eq_true rfl, Nat.le_of_ble_eq_true rfl⟩) ⟨fun a9 U g mk q => ⟨q.1, q.2.1, q.2.2.1, va_K.moved (u := U) (U := U.calling g mk a9) (Vm.Alike.refl U.vm) q.2.2.2⟩, hrc, fun U hU hW => ⟨rfl, by rw [hU], by rw [hU]; exact hP.sub [1] rfl, va_K.moved hW.alike hK⟩⟩ rfl rfl hl.1 rfl (lv_room (Nat.le_of_ble_eq_true rfl)) dX4_prepare_148 ⟨Nat.le_of_ble_eq_true rfl, Nat.le_of_ble_eq_true rfl⟩) hS (fun z _ h => (freeN hA hS.1) z h) (freeN hA hS.1) (fun rv u t H1 locs ht hvm hw hB hz1 hk1 hS => ?_)
  subst hw
  have hP := P_new hP hk1
  refine lv_icmp_ge (tgt := 194) hx hb dX4_prepare_151 (by decide) (fun _ => ?_) (fun c1 => absurd (by decide) c1)
  refine lv_iinc (v := nI 2) hx hb dX4_prepare_194 hl (k := 1) rfl rfl (by decide) rfl (fun ls hl => ?_)
  have hl : lv_has ls 3 [(1, .int (nI 2)), (2, .int (nI 0)), (0, .ref o)] := hl
  refine lv_goto (tgt := 135) hx hb dX4_prepare_197 (by decide) ?_
  have hl : lv_has ls 3 [(1, .int (nI 2)), (0, .ref o)] := lv_sub hl [0, 2] rfl
  refine lv_iload_n hx hb dX4_prepare_135 rfl (lv_at hl 0 rfl) ?_
  refine lv_bipush (v := nI 6) hx hb dX4_prepare_136 (by decide) ?_
  refine lv_icmp_ge (tgt := 200) hx hb dX4_prepare_138 (by decide) (fun c1 => absurd c1 (by decide)) (fun _ => ?_)
  refine lv_iconst (v := nI 0) hx hb dX4_prepare_141 (by decide) ?_
  refine lv_istore_n hx hb dX4_prepare_142 rfl hl (by decide) rfl (fun ls hl => ?_)
  have hl : lv_has ls 3 [(2, .int (nI 0)), (1, .int (nI 2)), (0, .ref o)] := hl
  refine lv_iload_n hx hb dX4_prepare_143 rfl (lv_at hl 0 rfl) ?_
  refine lv_aload_n hx hb dX4_prepare_144 rfl (lv_at hl 2 rfl) ?_
  refine va_get (ci := 0) (C := RX4) (T := TX4) (N := 8) (v := .ref L) hx hb hts hin hown hK hP 0 rfl rfl 1 (by decide) (hts (.fieldLink RX4 10 "SignetRoomModel" "letters" "Ljava/util/ArrayList;") (by decide +kernel)) (fun _ h9 => h9) rfl dX4_prepare_145 ?_
  have hrc := va_recv hK hP (ci := 1) (q0 := 1) rfl rfl
  refine va_calli (va_runV (As := []) (rest := [.int (nI 0)]) ⟨hx, hb, hml, hown, hts⟩ (je_size l D L 0 e0 0 H1.size) (cwV 0 hts gX4_prepare_Jx4a65c_size_8abf5 rfl rfl rfl (by decide +kernel) ⟨Nat.le_of_ble_eq_true rfl, Nat.le_of_ble_eq_true rfl⟩) ⟨fun a9 U g mk q => ⟨q.1, q.2.1, q.2.2.1, va_K.moved (u := U) (U := U.calling g mk a9) (Vm.Alike.refl U.vm) q.2.2.2⟩, hrc, fun U hU hW => ⟨rfl, by rw [hU], by rw [hU]; exact hP.sub [1] rfl, va_K.moved hW.alike hK⟩⟩ rfl rfl hl.1 rfl (lv_room (Nat.le_of_ble_eq_true rfl)) dX4_prepare_148 ⟨Nat.le_of_ble_eq_true rfl, Nat.le_of_ble_eq_true rfl⟩) hS (fun z _ h => (freeN hA hS.1) z h) (freeN hA hS.1) (fun rv u t H1 locs ht hvm hw hB hz1 hk1 hS => ?_)
  subst hw
  have hP := P_new hP hk1
  refine lv_icmp_ge (tgt := 194) hx hb dX4_prepare_151 (by decide) (fun _ => ?_) (fun c1 => absurd (by decide) c1)
  refine lv_iinc (v := nI 3) hx hb dX4_prepare_194 hl (k := 1) rfl rfl (by decide) rfl (fun ls hl => ?_)
  have hl : lv_has ls 3 [(1, .int (nI 3)), (2, .int (nI 0)), (0, .ref o)] := hl
  refine lv_goto (tgt := 135) hx hb dX4_prepare_197 (by decide) ?_
  have hl : lv_has ls 3 [(1, .int (nI 3)), (0, .ref o)] := lv_sub hl [0, 2] rfl
  refine lv_iload_n hx hb dX4_prepare_135 rfl (lv_at hl 0 rfl) ?_
  refine lv_bipush (v := nI 6) hx hb dX4_prepare_136 (by decide) ?_
  refine lv_icmp_ge (tgt := 200) hx hb dX4_prepare_138 (by decide) (fun c1 => absurd c1 (by decide)) (fun _ => ?_)
  refine lv_iconst (v := nI 0) hx hb dX4_prepare_141 (by decide) ?_
  refine lv_istore_n hx hb dX4_prepare_142 rfl hl (by decide) rfl (fun ls hl => ?_)
  have hl : lv_has ls 3 [(2, .int (nI 0)), (1, .int (nI 3)), (0, .ref o)] := hl
  refine lv_iload_n hx hb dX4_prepare_143 rfl (lv_at hl 0 rfl) ?_
  refine lv_aload_n hx hb dX4_prepare_144 rfl (lv_at hl 2 rfl) ?_
  refine va_get (ci := 0) (C := RX4) (T := TX4) (N := 8) (v := .ref L) hx hb hts hin hown hK hP 0 rfl rfl 1 (by decide) (hts (.fieldLink RX4 10 "SignetRoomModel" "letters" "Ljava/util/ArrayList;") (by decide +kernel)) (fun _ h9 => h9) rfl dX4_prepare_145 ?_
  have hrc := va_recv hK hP (ci := 1) (q0 := 1) rfl rfl
  refine va_calli (va_runV (As := []) (rest := [.int (nI 0)]) ⟨hx, hb, hml, hown, hts⟩ (je_size l D L 0 e0 0 H1.size) (cwV 0 hts gX4_prepare_Jx4a65c_size_8abf5 rfl rfl rfl (by decide +kernel) ⟨Nat.le_of_ble_eq_true rfl, Nat.le_of_ble_eq_true rfl⟩) ⟨fun a9 U g mk q => ⟨q.1, q.2.1, q.2.2.1, va_K.moved (u := U) (U := U.calling g mk a9) (Vm.Alike.refl U.vm) q.2.2.2⟩, hrc, fun U hU hW => ⟨rfl, by rw [hU], by rw [hU]; exact hP.sub [1] rfl, va_K.moved hW.alike hK⟩⟩ rfl rfl hl.1 rfl (lv_room (Nat.le_of_ble_eq_true rfl)) dX4_prepare_148 ⟨Nat.le_of_ble_eq_true rfl, Nat.le_of_ble_eq_true rfl⟩) hS (fun z _ h => (freeN hA hS.1) z h) (freeN hA hS.1) (fun rv u t H1 locs ht hvm hw hB hz1 hk1 hS => ?_)
  subst hw
  have hP := P_new hP hk1
  refine lv_icmp_ge (tgt := 194) hx hb dX4_prepare_151 (by decide) (fun _ => ?_) (fun c1 => absurd (by decide) c1)
  refine lv_iinc (v := nI 4) hx hb dX4_prepare_194 hl (k := 1) rfl rfl (by decide) rfl (fun ls hl => ?_)
  have hl : lv_has ls 3 [(1, .int (nI 4)), (2, .int (nI 0)), (0, .ref o)] := hl
  refine lv_goto (tgt := 135) hx hb dX4_prepare_197 (by decide) ?_
  have hl : lv_has ls 3 [(1, .int (nI 4)), (0, .ref o)] := lv_sub hl [0, 2] rfl
  refine lv_iload_n hx hb dX4_prepare_135 rfl (lv_at hl 0 rfl) ?_
  refine lv_bipush (v := nI 6) hx hb dX4_prepare_136 (by decide) ?_
  refine lv_icmp_ge (tgt := 200) hx hb dX4_prepare_138 (by decide) (fun c1 => absurd c1 (by decide)) (fun _ => ?_)
  refine lv_iconst (v := nI 0) hx hb dX4_prepare_141 (by decide) ?_
  refine lv_istore_n hx hb dX4_prepare_142 rfl hl (by decide) rfl (fun ls hl => ?_)
  have hl : lv_has ls 3 [(2, .int (nI 0)), (1, .int (nI 4)), (0, .ref o)] := hl
  refine lv_iload_n hx hb dX4_prepare_143 rfl (lv_at hl 0 rfl) ?_
  refine lv_aload_n hx hb dX4_prepare_144 rfl (lv_at hl 2 rfl) ?_
  refine va_get (ci := 0) (C := RX4) (T := TX4) (N := 8) (v := .ref L) hx hb hts hin hown hK hP 0 rfl rfl 1 (by decide) (hts (.fieldLink RX4 10 "SignetRoomModel" "letters" "Ljava/util/ArrayList;") (by decide +kernel)) (fun _ h9 => h9) rfl dX4_prepare_145 ?_
  have hrc := va_recv hK hP (ci := 1) (q0 := 1) rfl rfl
  refine va_calli (va_runV (As := []) (rest := [.int (nI 0)]) ⟨hx, hb, hml, hown, hts⟩ (je_size l D L 0 e0 0 H1.size) (cwV 0 hts gX4_prepare_Jx4a65c_size_8abf5 rfl rfl rfl (by decide +kernel) ⟨Nat.le_of_ble_eq_true rfl, Nat.le_of_ble_eq_true rfl⟩) ⟨fun a9 U g mk q => ⟨q.1, q.2.1, q.2.2.1, va_K.moved (u := U) (U := U.calling g mk a9) (Vm.Alike.refl U.vm) q.2.2.2⟩, hrc, fun U hU hW => ⟨rfl, by rw [hU], by rw [hU]; exact hP.sub [1] rfl, va_K.moved hW.alike hK⟩⟩ rfl rfl hl.1 rfl (lv_room (Nat.le_of_ble_eq_true rfl)) dX4_prepare_148 ⟨Nat.le_of_ble_eq_true rfl, Nat.le_of_ble_eq_true rfl⟩) hS (fun z _ h => (freeN hA hS.1) z h) (freeN hA hS.1) (fun rv u t H1 locs ht hvm hw hB hz1 hk1 hS => ?_)
  subst hw
  have hP := P_new hP hk1
  refine lv_icmp_ge (tgt := 194) hx hb dX4_prepare_151 (by decide) (fun _ => ?_) (fun c1 => absurd (by decide) c1)
  refine lv_iinc (v := nI 5) hx hb dX4_prepare_194 hl (k := 1) rfl rfl (by decide) rfl (fun ls hl => ?_)
  have hl : lv_has ls 3 [(1, .int (nI 5)), (2, .int (nI 0)), (0, .ref o)] := hl
  refine lv_goto (tgt := 135) hx hb dX4_prepare_197 (by decide) ?_
  have hl : lv_has ls 3 [(1, .int (nI 5)), (0, .ref o)] := lv_sub hl [0, 2] rfl
  refine lv_iload_n hx hb dX4_prepare_135 rfl (lv_at hl 0 rfl) ?_
  refine lv_bipush (v := nI 6) hx hb dX4_prepare_136 (by decide) ?_
  refine lv_icmp_ge (tgt := 200) hx hb dX4_prepare_138 (by decide) (fun c1 => absurd c1 (by decide)) (fun _ => ?_)
  refine lv_iconst (v := nI 0) hx hb dX4_prepare_141 (by decide) ?_
  refine lv_istore_n hx hb dX4_prepare_142 rfl hl (by decide) rfl (fun ls hl => ?_)
  have hl : lv_has ls 3 [(2, .int (nI 0)), (1, .int (nI 5)), (0, .ref o)] := hl
  refine lv_iload_n hx hb dX4_prepare_143 rfl (lv_at hl 0 rfl) ?_
  refine lv_aload_n hx hb dX4_prepare_144 rfl (lv_at hl 2 rfl) ?_
  refine va_get (ci := 0) (C := RX4) (T := TX4) (N := 8) (v := .ref L) hx hb hts hin hown hK hP 0 rfl rfl 1 (by decide) (hts (.fieldLink RX4 10 "SignetRoomModel" "letters" "Ljava/util/ArrayList;") (by decide +kernel)) (fun _ h9 => h9) rfl dX4_prepare_145 ?_
  have hrc := va_recv hK hP (ci := 1) (q0 := 1) rfl rfl
  refine va_calli (va_runV (As := []) (rest := [.int (nI 0)]) ⟨hx, hb, hml, hown, hts⟩ (je_size l D L 0 e0 0 H1.size) (cwV 0 hts gX4_prepare_Jx4a65c_size_8abf5 rfl rfl rfl (by decide +kernel) ⟨Nat.le_of_ble_eq_true rfl, Nat.le_of_ble_eq_true rfl⟩) ⟨fun a9 U g mk q => ⟨q.1, q.2.1, q.2.2.1, va_K.moved (u := U) (U := U.calling g mk a9) (Vm.Alike.refl U.vm) q.2.2.2⟩, hrc, fun U hU hW => ⟨rfl, by rw [hU], by rw [hU]; exact hP.sub [1] rfl, va_K.moved hW.alike hK⟩⟩ rfl rfl hl.1 rfl (lv_room (Nat.le_of_ble_eq_true rfl)) dX4_prepare_148 ⟨Nat.le_of_ble_eq_true rfl, Nat.le_of_ble_eq_true rfl⟩) hS (fun z _ h => (freeN hA hS.1) z h) (freeN hA hS.1) (fun rv u t H1 locs ht hvm hw hB hz1 hk1 hS => ?_)
  subst hw
  have hP := P_new hP hk1
  refine lv_icmp_ge (tgt := 194) hx hb dX4_prepare_151 (by decide) (fun _ => ?_) (fun c1 => absurd (by decide) c1)
  refine lv_iinc (v := nI 6) hx hb dX4_prepare_194 hl (k := 1) rfl rfl (by decide) rfl (fun ls hl => ?_)
  have hl : lv_has ls 3 [(1, .int (nI 6)), (2, .int (nI 0)), (0, .ref o)] := hl
  refine lv_goto (tgt := 135) hx hb dX4_prepare_197 (by decide) ?_
  have hl : lv_has ls 3 [(1, .int (nI 6)), (0, .ref o)] := lv_sub hl [0, 2] rfl
  refine lv_iload_n hx hb dX4_prepare_135 rfl (lv_at hl 0 rfl) ?_
  refine lv_bipush (v := nI 6) hx hb dX4_prepare_136 (by decide) ?_
  refine lv_icmp_ge (tgt := 200) hx hb dX4_prepare_138 (by decide) (fun _ => ?_) (fun c1 => absurd (by decide) c1)
  refine W.widen (k := 2) (n := 6) (Nat.le_of_ble_eq_true rfl) (Nat.le_of_ble_eq_true rfl) ?_
  exact W.vret hx hb hr (fun t ht hW => ⟨⟨(), rfl, trivial, q1, q2, cA, by rw [ht]; exact hP.sub [0, 1, 2, 3] rfl, by rw [ht]; exact hP.sub [4] rfl, va_K.moved hW.alike hK1, hD.sub [0, 1, 2, 3] (by decide) rfl⟩, hS.F ht⟩) hS.2.2 dX4_prepare_200 hlk
set_option maxHeartbeats 4000000 in
set_option maxRecDepth 100000 in
/-- manyNow(0) -/
theorem je_many0 (l : Launch) (D : va_G) (o L S F e0 : Nat) (v : Int32) (bB eE : Value) (z : Int64) (mF : Nat) (sz : Nat) : Met l yX4_manyNow wsX4_manyNow (RmA 2 0 0) (va_Pc [.ref o, .int (nI 0)] (fun U => U.heap.size = sz ∧ va_P D clM (w4 o L S F e0 v bB eE z mF) U.heap ∧ va_K D clM [] U ∧ HN U)) (va_Qi (fun (r : Int32) (_ : Unit) => r = nI 0) (fun _ _ => True) (fun q : Nat => sz ≤ q)) 0 0 (fun q : Nat => sz ≤ q) := by
  refine Met.ofW (cc := cX4_manyNow) (maxL := 7) (ret := some .int) (by decide) rfl ?_
  intro p e s m args below meth c s₁ B hml hv
  obtain ⟨rfl, rfl, hP, hK, hN⟩ := hv
  have hts := atoms_spec (ws := wsX4_manyNow) B.pre
  have hx := B.exec
  have hb := B.bytes
  have hr := B.returns
  have hlk := B.notSynchronized
  have hown : s.vm.findClass RX4 = some m.cls := findClass_of_methodNamed B.named
  have hl := lv_entry ([.ref o, .int (nI 0)]) (n := 7) (Nat.le_of_ble_eq_true rfl)
  rw [lg_entry_eq]
  generalize (lg_sl ([.ref o, .int (nI 0)]) ++ List.replicate (7 - (lg_sl ([.ref o, .int (nI 0)])).length) Slot.unset).toArray = ls at hl ⊢
  have hl : lv_has ls 7 [(0, .ref o), (1, .int (nI 0))] := hl
  have hS : va_S (fun q : Nat => s.heap.size ≤ q) s.heap s.heap [] := va_S.rf
  have hin : ∀ w ∈ u_ws RX4 TX4 8, w ∈ wsX4_manyNow := by decide +kernel
  have hA : ∀ q : Nat, s.heap.size ≤ q → (fun q : Nat => s.heap.size ≤ q) q := fun _ h => h
  refine lv_iload_n hx hb dX4_manyNow_0 rfl (lv_at hl 1 rfl) ?_
  refine lv_iconst (v := nI 3) hx hb dX4_manyNow_1 (by decide) ?_
  refine lv_icmp_ge (tgt := 39) hx hb dX4_manyNow_2 (by decide) (fun c1 => absurd c1 (by decide)) (fun _ => ?_)
  refine lv_iload_n hx hb dX4_manyNow_5 rfl (lv_at hl 1 rfl) ?_
  refine lv_if_ne (tgt := 19) hx hb dX4_manyNow_6 (by decide) (fun c1 => absurd rfl c1) (fun _ => ?_)
  refine lv_aload_n hx hb dX4_manyNow_9 rfl (lv_at hl 0 rfl) ?_
  refine va_get (ci := 0) (C := RX4) (T := TX4) (N := 8) (v := .ref L) hx hb hts hin hown hK hP 0 rfl rfl 1 (by decide) (hts (.fieldLink RX4 10 "SignetRoomModel" "letters" "Ljava/util/ArrayList;") (by decide +kernel)) (fun _ h9 => h9) rfl dX4_manyNow_10 ?_
  have hrc := va_recv hK hP (ci := 1) (q0 := 1) rfl rfl
  refine va_calli (va_runV (As := []) (rest := []) ⟨hx, hb, hml, hown, hts⟩ (je_size l D L 0 e0 0 s.heap.size) (cwV 0 hts gX4_manyNow_Jx4a65c_size_8abf5 rfl rfl rfl (by decide +kernel) ⟨Nat.le_of_ble_eq_true rfl, Nat.le_of_ble_eq_true rfl⟩) ⟨fun a9 U g mk q => ⟨q.1, q.2.1, q.2.2.1, va_K.moved (u := U) (U := U.calling g mk a9) (Vm.Alike.refl U.vm) q.2.2.2⟩, hrc, fun U hU hW => ⟨rfl, by rw [hU], by rw [hU]; exact hP.sub [1] rfl, va_K.moved hW.alike hK⟩⟩ rfl rfl hl.1 rfl (lv_room (Nat.le_of_ble_eq_true rfl)) dX4_manyNow_13 ⟨Nat.le_of_ble_eq_true rfl, Nat.le_of_ble_eq_true rfl⟩) hS (fun z _ h => (freeN hA hS.1) z h) (freeN hA hS.1) (fun rv u t H1 locs ht hvm hw hB hz1 hk1 hS => ?_)
  subst hw
  have hP := P_new hP hk1
  refine lv_goto (tgt := 38) hx hb dX4_manyNow_16 (by decide) ?_
  exact W.iret hx hb hr (fun t ht hW => ⟨⟨_, (), rfl, rfl, trivial⟩, hS.F ht⟩) hS.2.2 dX4_manyNow_38 hlk
set_option maxHeartbeats 4000000 in
set_option maxRecDepth 100000 in
/-- manyNow(1) -/
theorem je_many1 (l : Launch) (D : va_G) (o L S F e0 : Nat) (v : Int32) (bB eE : Value) (z : Int64) (mF : Nat) (sz : Nat) : Met l yX4_manyNow wsX4_manyNow (RmA 4 1 4) (va_Pc [.ref o, .int (nI 1)] (fun U => U.heap.size = sz ∧ va_P D clM (w4 o L S F e0 v bB eE z mF) U.heap ∧ va_K D clM [] U ∧ HN U)) (va_Qi (fun (r : Int32) (_ : Unit) => r = nI 0) (fun _ _ => True) (fun q : Nat => sz ≤ q)) 1 4 (fun q : Nat => sz ≤ q) := by
  refine Met.ofW (cc := cX4_manyNow) (maxL := 7) (ret := some .int) (by decide) rfl ?_
  intro p e s m args below meth c s₁ B hml hv
  obtain ⟨rfl, rfl, hP, hK, hN⟩ := hv
  have hts := atoms_spec (ws := wsX4_manyNow) B.pre
  have hx := B.exec
  have hb := B.bytes
  have hr := B.returns
  have hlk := B.notSynchronized
  have hown : s.vm.findClass RX4 = some m.cls := findClass_of_methodNamed B.named
  have hl := lv_entry ([.ref o, .int (nI 1)]) (n := 7) (Nat.le_of_ble_eq_true rfl)
  rw [lg_entry_eq]
  generalize (lg_sl ([.ref o, .int (nI 1)]) ++ List.replicate (7 - (lg_sl ([.ref o, .int (nI 1)])).length) Slot.unset).toArray = ls at hl ⊢
  have hl : lv_has ls 7 [(0, .ref o), (1, .int (nI 1))] := hl
  have hS : va_S (fun q : Nat => s.heap.size ≤ q) s.heap s.heap [] := va_S.rf
  have hin : ∀ w ∈ u_ws RX4 TX4 8, w ∈ wsX4_manyNow := by decide +kernel
  have hA : ∀ q : Nat, s.heap.size ≤ q → (fun q : Nat => s.heap.size ≤ q) q := fun _ h => h
  refine lv_iload_n hx hb dX4_manyNow_0 rfl (lv_at hl 1 rfl) ?_
  refine lv_iconst (v := nI 3) hx hb dX4_manyNow_1 (by decide) ?_
  refine lv_icmp_ge (tgt := 39) hx hb dX4_manyNow_2 (by decide) (fun c1 => absurd c1 (by decide)) (fun _ => ?_)
  refine lv_iload_n hx hb dX4_manyNow_5 rfl (lv_at hl 1 rfl) ?_
  refine lv_if_ne (tgt := 19) hx hb dX4_manyNow_6 (by decide) (fun _ => ?_) (fun c1 => absurd c1 (by decide))
  refine lv_iload_n hx hb dX4_manyNow_19 rfl (lv_at hl 1 rfl) ?_
  refine lv_iconst (v := nI 1) hx hb dX4_manyNow_20 (by decide) ?_
  refine lv_icmp_ne (tgt := 31) hx hb dX4_manyNow_21 (by decide) (fun c1 => absurd rfl c1) (fun _ => ?_)
  refine lv_aload_n hx hb dX4_manyNow_24 rfl (lv_at hl 0 rfl) ?_
  have hrc := va_recv hK hP (ci := 0) (q0 := 0) rfl rfl
  refine va_calli (va_runV (As := []) (rest := []) ⟨hx, hb, hml, hown, hts⟩ (je_anchors l D o L S F e0 v bB eE z mF s.heap.size) (cwV 0 hts gX4_manyNow_X4_anchors rfl rfl rfl (by decide +kernel) ⟨Nat.le_of_ble_eq_true rfl, Nat.le_of_ble_eq_true rfl⟩) ⟨fun a9 U g mk q => ⟨q.1, q.2.1, q.2.2.1, va_K.moved (u := U) (U := U.calling g mk a9) (Vm.Alike.refl U.vm) q.2.2.2.1, HN.same (u := U) (U := U.calling g mk a9) rfl q.2.2.2.2⟩, hrc, fun U hU hW => ⟨rfl, by rw [hU], by rw [hU]; exact hP, va_K.moved hW.alike hK, HN.go hW hN⟩⟩ rfl rfl hl.1 rfl (lv_room (Nat.le_of_ble_eq_true rfl)) dX4_manyNow_25 ⟨Nat.le_of_ble_eq_true rfl, Nat.le_of_ble_eq_true rfl⟩) hS (fun z _ h => (freeN hA hS.1) z h) (freeN hA hS.1) (fun rv u t H1 locs ht hvm hw hB hz1 hk1 hS => ?_)
  subst hw
  refine lv_goto (tgt := 38) hx hb dX4_manyNow_28 (by decide) ?_
  refine W.widen (k := 1) (n := 4) (Nat.le_of_ble_eq_true rfl) (Nat.le_of_ble_eq_true rfl) ?_
  exact W.iret hx hb hr (fun t ht hW => ⟨⟨_, (), rfl, rfl, trivial⟩, hS.F ht⟩) hS.2.2 dX4_manyNow_38 hlk
set_option maxHeartbeats 4000000 in
set_option maxRecDepth 100000 in
/-- manyNow(2) -/
theorem je_many2 (l : Launch) (D : va_G) (o L S F e0 : Nat) (v : Int32) (bB eE : Value) (z : Int64) (mF : Nat) (sz : Nat) : Met l yX4_manyNow wsX4_manyNow (RmA 2 0 0) (va_Pc [.ref o, .int (nI 2)] (fun U => U.heap.size = sz ∧ va_P D clM (w4 o L S F e0 v bB eE z mF) U.heap ∧ va_K D clM [] U ∧ HN U)) (va_Qi (fun (r : Int32) (_ : Unit) => r = nI 0) (fun _ _ => True) (fun q : Nat => sz ≤ q)) 0 0 (fun q : Nat => sz ≤ q) := by
  refine Met.ofW (cc := cX4_manyNow) (maxL := 7) (ret := some .int) (by decide) rfl ?_
  intro p e s m args below meth c s₁ B hml hv
  obtain ⟨rfl, rfl, hP, hK, hN⟩ := hv
  have hts := atoms_spec (ws := wsX4_manyNow) B.pre
  have hx := B.exec
  have hb := B.bytes
  have hr := B.returns
  have hlk := B.notSynchronized
  have hown : s.vm.findClass RX4 = some m.cls := findClass_of_methodNamed B.named
  have hl := lv_entry ([.ref o, .int (nI 2)]) (n := 7) (Nat.le_of_ble_eq_true rfl)
  rw [lg_entry_eq]
  generalize (lg_sl ([.ref o, .int (nI 2)]) ++ List.replicate (7 - (lg_sl ([.ref o, .int (nI 2)])).length) Slot.unset).toArray = ls at hl ⊢
  have hl : lv_has ls 7 [(0, .ref o), (1, .int (nI 2))] := hl
  have hS : va_S (fun q : Nat => s.heap.size ≤ q) s.heap s.heap [] := va_S.rf
  have hin : ∀ w ∈ u_ws RX4 TX4 8, w ∈ wsX4_manyNow := by decide +kernel
  have hA : ∀ q : Nat, s.heap.size ≤ q → (fun q : Nat => s.heap.size ≤ q) q := fun _ h => h
  refine lv_iload_n hx hb dX4_manyNow_0 rfl (lv_at hl 1 rfl) ?_
  refine lv_iconst (v := nI 3) hx hb dX4_manyNow_1 (by decide) ?_
  refine lv_icmp_ge (tgt := 39) hx hb dX4_manyNow_2 (by decide) (fun c1 => absurd c1 (by decide)) (fun _ => ?_)
  refine lv_iload_n hx hb dX4_manyNow_5 rfl (lv_at hl 1 rfl) ?_
  refine lv_if_ne (tgt := 19) hx hb dX4_manyNow_6 (by decide) (fun _ => ?_) (fun c1 => absurd c1 (by decide))
  refine lv_iload_n hx hb dX4_manyNow_19 rfl (lv_at hl 1 rfl) ?_
  refine lv_iconst (v := nI 1) hx hb dX4_manyNow_20 (by decide) ?_
  refine lv_icmp_ne (tgt := 31) hx hb dX4_manyNow_21 (by decide) (fun _ => ?_) (fun c1 => absurd c1 (by decide))
  refine lv_aload_n hx hb dX4_manyNow_31 rfl (lv_at hl 0 rfl) ?_
  refine va_get (ci := 0) (C := RX4) (T := TX4) (N := 8) (v := .ref S) hx hb hts hin hown hK hP 0 rfl rfl 2 (by decide) (hts (.fieldLink RX4 16 "SignetRoomModel" "lists" "Ljava/util/ArrayList;") (by decide +kernel)) (fun _ h9 => h9) rfl dX4_manyNow_32 ?_
  have hrc := va_recv hK hP (ci := 1) (q0 := 2) rfl rfl
  refine va_calli (va_runV (As := []) (rest := []) ⟨hx, hb, hml, hown, hts⟩ (je_size l D S 0 e0 0 s.heap.size) (cwV 0 hts gX4_manyNow_Jx4a65c_size_8abf5 rfl rfl rfl (by decide +kernel) ⟨Nat.le_of_ble_eq_true rfl, Nat.le_of_ble_eq_true rfl⟩) ⟨fun a9 U g mk q => ⟨q.1, q.2.1, q.2.2.1, va_K.moved (u := U) (U := U.calling g mk a9) (Vm.Alike.refl U.vm) q.2.2.2⟩, hrc, fun U hU hW => ⟨rfl, by rw [hU], by rw [hU]; exact hP.sub [2] rfl, va_K.moved hW.alike hK⟩⟩ rfl rfl hl.1 rfl (lv_room (Nat.le_of_ble_eq_true rfl)) dX4_manyNow_35 ⟨Nat.le_of_ble_eq_true rfl, Nat.le_of_ble_eq_true rfl⟩) hS (fun z _ h => (freeN hA hS.1) z h) (freeN hA hS.1) (fun rv u t H1 locs ht hvm hw hB hz1 hk1 hS => ?_)
  subst hw
  have hP := P_new hP hk1
  exact W.iret hx hb hr (fun t ht hW => ⟨⟨_, (), rfl, rfl, trivial⟩, hS.F ht⟩) hS.2.2 dX4_manyNow_38 hlk
set_option maxHeartbeats 4000000 in
set_option maxRecDepth 100000 in
/-- manyNow(3), nothing kept -/
theorem je_many3 (l : Launch) (D : va_G) (o L S F e0 : Nat) (v : Int32) (eE : Value) (z : Int64) (mF : Nat) (sz : Nat) (A : Nat → Prop) (hA : ∀ q : Nat, sz ≤ q → A q) (hD : va_D A (w4 o L S F e0 v .null eE z mF)) : Met l yX4_manyNow wsX4_manyNow (RmA 3 2 6) (va_Pc [.ref o, .int (nI 3)] (fun U => U.heap.size = sz ∧ va_P D clM (w4 o L S F e0 v .null eE z mF) U.heap ∧ va_K D clM [] U)) (va_Qi (fun (r : Int32) (_ : Unit) => r = nI 0) (fun _ t => ∃ (bB eE : Value) (m1 : Nat), va_P D clM (w4 o L S F e0 v bB eE z m1) t.heap ∧ va_D A (w4 o L S F e0 v bB eE z m1)) (A)) 2 6 (A) := by
  refine Met.ofW (cc := cX4_manyNow) (maxL := 7) (ret := some .int) (by decide) rfl ?_
  intro p e s m args below meth c s₁ B hml hv
  obtain ⟨rfl, rfl, hP, hK⟩ := hv
  have hts := atoms_spec (ws := wsX4_manyNow) B.pre
  have hx := B.exec
  have hb := B.bytes
  have hr := B.returns
  have hlk := B.notSynchronized
  have hown : s.vm.findClass RX4 = some m.cls := findClass_of_methodNamed B.named
  have hl := lv_entry ([.ref o, .int (nI 3)]) (n := 7) (Nat.le_of_ble_eq_true rfl)
  rw [lg_entry_eq]
  generalize (lg_sl ([.ref o, .int (nI 3)]) ++ List.replicate (7 - (lg_sl ([.ref o, .int (nI 3)])).length) Slot.unset).toArray = ls at hl ⊢
  have hl : lv_has ls 7 [(0, .ref o), (1, .int (nI 3))] := hl
  have hS : va_S (A) s.heap s.heap [] := va_S.rf
  have hin : ∀ w ∈ u_ws RX4 TX4 8, w ∈ wsX4_manyNow := by decide +kernel
  refine lv_iload_n hx hb dX4_manyNow_0 rfl (lv_at hl 1 rfl) ?_
  refine lv_iconst (v := nI 3) hx hb dX4_manyNow_1 (by decide) ?_
  refine lv_icmp_ge (tgt := 39) hx hb dX4_manyNow_2 (by decide) (fun _ => ?_) (fun c1 => absurd (by decide) c1)
  refine lv_aload_n hx hb dX4_manyNow_39 rfl (lv_at hl 0 rfl) ?_
  have hrc := va_recv hK hP (ci := 0) (q0 := 0) rfl rfl
  refine va_callv (va_runV (As := []) (rest := []) ⟨hx, hb, hml, hown, hts⟩ (je_prepare l D o L S F e0 v eE z mF s.heap.size A (freeN hA hS.1) hD) (cwV 0 hts gX4_manyNow_X4_prepare rfl rfl rfl (by decide +kernel) ⟨Nat.le_of_ble_eq_true rfl, Nat.le_of_ble_eq_true rfl⟩) ⟨fun a9 U g mk q => ⟨q.1, q.2.1, q.2.2.1, va_K.moved (u := U) (U := U.calling g mk a9) (Vm.Alike.refl U.vm) q.2.2.2⟩, hrc, fun U hU hW => ⟨rfl, by rw [hU], by rw [hU]; exact hP, va_K.moved hW.alike hK⟩⟩ rfl rfl hl.1 rfl (lv_room (Nat.le_of_ble_eq_true rfl)) dX4_manyNow_40 ⟨Nat.le_of_ble_eq_true rfl, Nat.le_of_ble_eq_true rfl⟩) hS (fun z _ h => (fun _ h => h) z h) (fun _ h => h) (fun u t H1 locs ht hvm hw hB hz1 hk1 hS => ?_)
  obtain ⟨q1, q2, cA, hB1, hB2, hB3, hD⟩ := hB
  rw [ht] at hB1 hB2
  have hB3 := va_K.moved hvm.symm hB3
  refine lv_iconst (v := nI 0) hx hb dX4_manyNow_43 (by decide) ?_
  refine lv_istore_n hx hb dX4_manyNow_44 rfl hl (by decide) rfl (fun ls hl => ?_)
  have hl : lv_has ls 7 [(2, .int (nI 0)), (0, .ref o), (1, .int (nI 3))] := hl
  refine lv_aload_n hx hb dX4_manyNow_45 rfl (lv_at hl 1 rfl) ?_
  refine va_get (ci := 0) (C := RX4) (T := TX4) (N := 8) (v := .ref q1) hx hb hts hin hown hK hB1 0 rfl rfl 4 (by decide) (hts (.fieldLink RX4 51 "SignetRoomModel" "backers" "[I") (by decide +kernel)) (fun _ h9 => h9) rfl dX4_manyNow_46 ?_
  refine lv_astore_n hx hb dX4_manyNow_49 rfl hl (by decide) rfl (fun ls hl => ?_)
  have hl : lv_has ls 7 [(3, .ref q1), (2, .int (nI 0)), (0, .ref o), (1, .int (nI 3))] := hl
  refine lv_aload_n hx hb dX4_manyNow_50 rfl (lv_at hl 0 rfl) ?_
  refine va_alen (v := nI 0) hx hb hB3 hB2 0 0 rfl rfl rfl dX4_manyNow_51 ?_
  refine lv_istore hx hb dX4_manyNow_52 hl (by decide) rfl (fun ls hl => ?_)
  have hl : lv_has ls 7 [(4, .int (nI 0)), (3, .ref q1), (2, .int (nI 0)), (0, .ref o), (1, .int (nI 3))] := hl
  refine lv_iconst (v := nI 0) hx hb dX4_manyNow_54 (by decide) ?_
  refine lv_istore hx hb dX4_manyNow_55 hl (by decide) rfl (fun ls hl => ?_)
  have hl : lv_has ls 7 [(5, .int (nI 0)), (4, .int (nI 0)), (3, .ref q1), (2, .int (nI 0)), (0, .ref o), (1, .int (nI 3))] := hl
  refine lv_iload hx hb dX4_manyNow_57 (lv_at hl 0 rfl) ?_
  refine lv_iload hx hb dX4_manyNow_59 (lv_at hl 1 rfl) ?_
  refine lv_icmp_ge (tgt := 84) hx hb dX4_manyNow_61 (by decide) (fun _ => ?_) (fun c1 => absurd (by decide) c1)
  refine lv_iload_n hx hb dX4_manyNow_84 rfl (lv_at hl 3 rfl) ?_
  refine W.widen (k := 2) (n := 6) (Nat.le_of_ble_eq_true rfl) (Nat.le_of_ble_eq_true rfl) ?_
  exact W.iret hx hb hr (fun t ht hW => ⟨⟨_, (), rfl, rfl, .ref q1, .ref q2, mF + 1, by rw [ht]; exact hB1, hD⟩, hS.F ht⟩) hS.2.2 dX4_manyNow_85 hlk
set_option maxHeartbeats 4000000 in
set_option maxRecDepth 100000 in
/-- new SignetRoomModel() -/
theorem je_X4_init (l : Launch) (D : va_G) (o e0 : Nat) (sz : Nat) (A : Nat → Prop) (hA : ∀ q : Nat, sz ≤ q → A q) (hD : va_D A [(o, .inr (0, [.int 0, .null, .null, .int 0, .null, .null, .null, .long 0]))]) : Met l yX4_init wsX4_init (RmA 4 3 9) (va_Pc [.ref o] (fun U => U.heap.size = sz ∧ va_P D clM [(o, .inr (0, [.int 0, .null, .null, .int 0, .null, .null, .null, .long 0]))] U.heap ∧ va_K D clM [] U ∧ ZL e0 A U)) (va_Qv (fun _ : Unit => True) (fun _ t => ∃ L S F : Nat, va_P D clM (w4 o L S F e0 0 .null .null 0 0) t.heap ∧ va_D A (w4 o L S F e0 0 .null .null 0 0)) (A)) 3 9 (A) := by
  refine Met.ofW (cc := cX4_init) (maxL := 1) (ret := none) (by decide) rfl ?_
  intro p e s m args below meth c s₁ B hml hv
  obtain ⟨rfl, rfl, hP, hK, hZ⟩ := hv
  have hts := atoms_spec (ws := wsX4_init) B.pre
  have hx := B.exec
  have hb := B.bytes
  have hr := B.returns
  have hlk := B.notSynchronized
  have hown : s.vm.findClass RX4 = some m.cls := findClass_of_methodNamed B.named
  have hl := lv_entry ([.ref o]) (n := 1) (Nat.le_of_ble_eq_true rfl)
  rw [lg_entry_eq]
  generalize (lg_sl ([.ref o]) ++ List.replicate (1 - (lg_sl ([.ref o])).length) Slot.unset).toArray = ls at hl ⊢
  have hl : lv_has ls 1 [(0, .ref o)] := hl
  have hS : va_S (A) s.heap s.heap [] := va_S.rf
  have hin : ∀ w ∈ u_ws RX4 TX4 8, w ∈ wsX4_init := by decide +kernel
  have hinN : meth.name = "<init>" := (name_of_methodNamed B.named B.method).1
  have hin1 : ∀ w ∈ u_ws RJx4a65c TJx4a65c 3, w ∈ wsX4_init := by decide +kernel
  refine lv_aload_n hx hb dX4_init_0 rfl (lv_at hl 0 rfl) ?_
  refine W.objInit hx hb hown (hts (.methodLink RX4 1 objectInit) (by decide +kernel)) (hts (.instanceMethod objectInit) (by decide +kernel)) (hts (.code objectInit ⟨#[0xb1]⟩ 1 none) (by decide +kernel)) rfl (by rw [hml]; exact hl.1) rfl dX4_init_1 (Nat.le_of_ble_eq_true rfl) (Nat.le_of_ble_eq_true rfl) ?_
  refine W.eq (g2 := F0 m 4 ls []) rfl ?_
  refine lv_aload_n hx hb dX4_init_4 rfl (lv_at hl 0 rfl) ?_
  refine va_new (ci := 1) (fs := [.int 0, .null, .int 0]) (C := RJx4a65c) (T := TJx4a65c) (N := 3) hx hb hts hin1 tyJx4a65c tyJx4a65c_ok hown (hts (.classLink RX4 7 RJx4a65c) (by decide +kernel)) (hts (.instantiable RJx4a65c 3) (by decide +kernel)) (hts (.initialized RJx4a65c) (by decide +kernel)) hK hP hD hS hA rfl (fun j hj => by rcases (show j = 0 ∨ j = 1 ∨ j = 2 by omega) with rfl | rfl | rfl <;> rfl) (Nat.le_of_ble_eq_true rfl) (Nat.le_of_ble_eq_true rfl) dX4_init_5 (fun q1 H hP hD hS => ?_)
  have hP : va_P D clM [(o, .inr (0, [.int 0, .null, .null, .int 0, .null, .null, .null, .long 0])), (q1, .inr (1, [.int 0, .null, .int 0]))] H := hP
  have hD : va_D A [(o, .inr (0, [.int 0, .null, .null, .int 0, .null, .null, .null, .long 0])), (q1, .inr (1, [.int 0, .null, .int 0]))] := hD
  refine lv_dup hx hb dX4_init_8 rfl ?_
  refine va_callv (va_runI (As := []) (rest := [.ref q1, .ref o]) ⟨hx, hb, hml, hown, hts⟩ (je_AL_init l D q1 e0 H.size) (cwI 0 hts gX4_init_Jx4a65c_init_da8c8 rfl rfl rfl (hts (.initialized RJx4a65c) (by decide +kernel)) (hts (.methodLink RX4 9 yJx4a65c_init_da8c8) (by decide +kernel)) (hts (.instanceMethod yJx4a65c_init_da8c8) (by decide +kernel)) rfl (by decide +kernel) ⟨Nat.le_of_ble_eq_true rfl, Nat.le_of_ble_eq_true rfl⟩) ⟨fun a9 U g mk q => ⟨q.1, q.2.1, q.2.2.1, va_K.moved (u := U) (U := U.calling g mk a9) (Vm.Alike.refl U.vm) q.2.2.2.1, ZL.same (u := U) (U := U.calling g mk a9) rfl rfl q.2.2.2.2⟩, fun U hU hW => ⟨rfl, by rw [hU], by rw [hU]; exact hP.sub [1] rfl, va_K.moved hW.alike hK, hZ.go hW (fun z h1 h2 => by rw [hU] <;> exact hS.2.1 z h1 h2) (free1 hD (j := 1) rfl hA hS.1)⟩⟩ rfl rfl hl.1 rfl (lv_room (Nat.le_of_ble_eq_true rfl)) dX4_init_9 ⟨Nat.le_of_ble_eq_true rfl, Nat.le_of_ble_eq_true rfl⟩) hS (fun z _ h => (free1 hD (j := 1) rfl hA hS.1) z h) (free1 hD (j := 1) rfl hA hS.1) (fun u t H1 locs ht hvm hw hB hz1 hk1 hS => ?_)
  rw [ht] at hB
  have hP : va_P D clM [(o, .inr (0, [.int 0, .null, .null, .int 0, .null, .null, .null, .long 0])), (q1, eA 0 e0 0)] H1 := P_call1 hP hD (j := 1) rfl hB hk1
  have hD : va_D A [(o, .inr (0, [.int 0, .null, .null, .int 0, .null, .null, .null, .long 0])), (q1, eA 0 e0 0)] := D_set hD (j := 1) rfl
  refine va_putF (D := D) (ci := 0) (v := .ref q1) (ty := .object "java/util/ArrayList") (C := RX4) (T := TX4) (N := 8) hx hb hts hin tyX4 tyX4_ok nmX4 hown hK hP hD hS 0 rfl rfl 1 (by decide) (hts (.fieldLink RX4 10 "SignetRoomModel" "letters" "Ljava/util/ArrayList;") (by decide +kernel)) (fun _ h9 => h9) rfl hinN rfl (by decide +kernel) rfl rfl (Nat.le_of_ble_eq_true rfl) dX4_init_12 (fun H locs hP hD hS => ?_)
  have hP : va_P D clM [(o, .inr (0, [.int 0, .ref q1, .null, .int 0, .null, .null, .null, .long 0])), (q1, eA 0 e0 0)] H := hP
  have hD : va_D A [(o, .inr (0, [.int 0, .ref q1, .null, .int 0, .null, .null, .null, .long 0])), (q1, eA 0 e0 0)] := hD
  refine lv_aload_n hx hb dX4_init_15 rfl (lv_at hl 0 rfl) ?_
  refine va_new (ci := 1) (fs := [.int 0, .null, .int 0]) (C := RJx4a65c) (T := TJx4a65c) (N := 3) hx hb hts hin1 tyJx4a65c tyJx4a65c_ok hown (hts (.classLink RX4 7 RJx4a65c) (by decide +kernel)) (hts (.instantiable RJx4a65c 3) (by decide +kernel)) (hts (.initialized RJx4a65c) (by decide +kernel)) hK hP hD hS hA rfl (fun j hj => by rcases (show j = 0 ∨ j = 1 ∨ j = 2 by omega) with rfl | rfl | rfl <;> rfl) (Nat.le_of_ble_eq_true rfl) (Nat.le_of_ble_eq_true rfl) dX4_init_16 (fun q2 H hP hD hS => ?_)
  have hP : va_P D clM [(o, .inr (0, [.int 0, .ref q1, .null, .int 0, .null, .null, .null, .long 0])), (q1, eA 0 e0 0), (q2, .inr (1, [.int 0, .null, .int 0]))] H := hP
  have hD : va_D A [(o, .inr (0, [.int 0, .ref q1, .null, .int 0, .null, .null, .null, .long 0])), (q1, eA 0 e0 0), (q2, .inr (1, [.int 0, .null, .int 0]))] := hD
  refine lv_dup hx hb dX4_init_19 rfl ?_
  refine va_callv (va_runI (As := []) (rest := [.ref q2, .ref o]) ⟨hx, hb, hml, hown, hts⟩ (je_AL_init l D q2 e0 H.size) (cwI 0 hts gX4_init_Jx4a65c_init_da8c8 rfl rfl rfl (hts (.initialized RJx4a65c) (by decide +kernel)) (hts (.methodLink RX4 9 yJx4a65c_init_da8c8) (by decide +kernel)) (hts (.instanceMethod yJx4a65c_init_da8c8) (by decide +kernel)) rfl (by decide +kernel) ⟨Nat.le_of_ble_eq_true rfl, Nat.le_of_ble_eq_true rfl⟩) ⟨fun a9 U g mk q => ⟨q.1, q.2.1, q.2.2.1, va_K.moved (u := U) (U := U.calling g mk a9) (Vm.Alike.refl U.vm) q.2.2.2.1, ZL.same (u := U) (U := U.calling g mk a9) rfl rfl q.2.2.2.2⟩, fun U hU hW => ⟨rfl, by rw [hU], by rw [hU]; exact hP.sub [2] rfl, va_K.moved hW.alike hK, hZ.go hW (fun z h1 h2 => by rw [hU] <;> exact hS.2.1 z h1 h2) (free1 hD (j := 2) rfl hA hS.1)⟩⟩ rfl rfl hl.1 rfl (lv_room (Nat.le_of_ble_eq_true rfl)) dX4_init_20 ⟨Nat.le_of_ble_eq_true rfl, Nat.le_of_ble_eq_true rfl⟩) hS (fun z _ h => (free1 hD (j := 2) rfl hA hS.1) z h) (free1 hD (j := 2) rfl hA hS.1) (fun u t H1 locs ht hvm hw hB hz1 hk1 hS => ?_)
  rw [ht] at hB
  have hP : va_P D clM [(o, .inr (0, [.int 0, .ref q1, .null, .int 0, .null, .null, .null, .long 0])), (q1, eA 0 e0 0), (q2, eA 0 e0 0)] H1 := P_call1 hP hD (j := 2) rfl hB hk1
  have hD : va_D A [(o, .inr (0, [.int 0, .ref q1, .null, .int 0, .null, .null, .null, .long 0])), (q1, eA 0 e0 0), (q2, eA 0 e0 0)] := D_set hD (j := 2) rfl
  refine va_putF (D := D) (ci := 0) (v := .ref q2) (ty := .object "java/util/ArrayList") (C := RX4) (T := TX4) (N := 8) hx hb hts hin tyX4 tyX4_ok nmX4 hown hK hP hD hS 0 rfl rfl 2 (by decide) (hts (.fieldLink RX4 16 "SignetRoomModel" "lists" "Ljava/util/ArrayList;") (by decide +kernel)) (fun _ h9 => h9) rfl hinN rfl (by decide +kernel) rfl rfl (Nat.le_of_ble_eq_true rfl) dX4_init_23 (fun H locs hP hD hS => ?_)
  have hP : va_P D clM [(o, .inr (0, [.int 0, .ref q1, .ref q2, .int 0, .null, .null, .null, .long 0])), (q1, eA 0 e0 0), (q2, eA 0 e0 0)] H := hP
  have hD : va_D A [(o, .inr (0, [.int 0, .ref q1, .ref q2, .int 0, .null, .null, .null, .long 0])), (q1, eA 0 e0 0), (q2, eA 0 e0 0)] := hD
  refine lv_aload_n hx hb dX4_init_26 rfl (lv_at hl 0 rfl) ?_
  refine va_new (ci := 1) (fs := [.int 0, .null, .int 0]) (C := RJx4a65c) (T := TJx4a65c) (N := 3) hx hb hts hin1 tyJx4a65c tyJx4a65c_ok hown (hts (.classLink RX4 7 RJx4a65c) (by decide +kernel)) (hts (.instantiable RJx4a65c 3) (by decide +kernel)) (hts (.initialized RJx4a65c) (by decide +kernel)) hK hP hD hS hA rfl (fun j hj => by rcases (show j = 0 ∨ j = 1 ∨ j = 2 by omega) with rfl | rfl | rfl <;> rfl) (Nat.le_of_ble_eq_true rfl) (Nat.le_of_ble_eq_true rfl) dX4_init_27 (fun q3 H hP hD hS => ?_)
  have hP : va_P D clM [(o, .inr (0, [.int 0, .ref q1, .ref q2, .int 0, .null, .null, .null, .long 0])), (q1, eA 0 e0 0), (q2, eA 0 e0 0), (q3, .inr (1, [.int 0, .null, .int 0]))] H := hP
  have hD : va_D A [(o, .inr (0, [.int 0, .ref q1, .ref q2, .int 0, .null, .null, .null, .long 0])), (q1, eA 0 e0 0), (q2, eA 0 e0 0), (q3, .inr (1, [.int 0, .null, .int 0]))] := hD
  refine lv_dup hx hb dX4_init_30 rfl ?_
  refine va_callv (va_runI (As := []) (rest := [.ref q3, .ref o]) ⟨hx, hb, hml, hown, hts⟩ (je_AL_init l D q3 e0 H.size) (cwI 0 hts gX4_init_Jx4a65c_init_da8c8 rfl rfl rfl (hts (.initialized RJx4a65c) (by decide +kernel)) (hts (.methodLink RX4 9 yJx4a65c_init_da8c8) (by decide +kernel)) (hts (.instanceMethod yJx4a65c_init_da8c8) (by decide +kernel)) rfl (by decide +kernel) ⟨Nat.le_of_ble_eq_true rfl, Nat.le_of_ble_eq_true rfl⟩) ⟨fun a9 U g mk q => ⟨q.1, q.2.1, q.2.2.1, va_K.moved (u := U) (U := U.calling g mk a9) (Vm.Alike.refl U.vm) q.2.2.2.1, ZL.same (u := U) (U := U.calling g mk a9) rfl rfl q.2.2.2.2⟩, fun U hU hW => ⟨rfl, by rw [hU], by rw [hU]; exact hP.sub [3] rfl, va_K.moved hW.alike hK, hZ.go hW (fun z h1 h2 => by rw [hU] <;> exact hS.2.1 z h1 h2) (free1 hD (j := 3) rfl hA hS.1)⟩⟩ rfl rfl hl.1 rfl (lv_room (Nat.le_of_ble_eq_true rfl)) dX4_init_31 ⟨Nat.le_of_ble_eq_true rfl, Nat.le_of_ble_eq_true rfl⟩) hS (fun z _ h => (free1 hD (j := 3) rfl hA hS.1) z h) (free1 hD (j := 3) rfl hA hS.1) (fun u t H1 locs ht hvm hw hB hz1 hk1 hS => ?_)
  rw [ht] at hB
  have hP : va_P D clM [(o, .inr (0, [.int 0, .ref q1, .ref q2, .int 0, .null, .null, .null, .long 0])), (q1, eA 0 e0 0), (q2, eA 0 e0 0), (q3, eA 0 e0 0)] H1 := P_call1 hP hD (j := 3) rfl hB hk1
  have hD : va_D A [(o, .inr (0, [.int 0, .ref q1, .ref q2, .int 0, .null, .null, .null, .long 0])), (q1, eA 0 e0 0), (q2, eA 0 e0 0), (q3, eA 0 e0 0)] := D_set hD (j := 3) rfl
  refine va_putF (D := D) (ci := 0) (v := .ref q3) (ty := .object "java/util/ArrayList") (C := RX4) (T := TX4) (N := 8) hx hb hts hin tyX4 tyX4_ok nmX4 hown hK hP hD hS 0 rfl rfl 6 (by decide) (hts (.fieldLink RX4 19 "SignetRoomModel" "found" "Ljava/util/ArrayList;") (by decide +kernel)) (fun _ h9 => h9) rfl hinN rfl (by decide +kernel) rfl rfl (Nat.le_of_ble_eq_true rfl) dX4_init_34 (fun H locs hP hD hS => ?_)
  have hP : va_P D clM [(o, .inr (0, [.int 0, .ref q1, .ref q2, .int 0, .null, .null, .ref q3, .long 0])), (q1, eA 0 e0 0), (q2, eA 0 e0 0), (q3, eA 0 e0 0)] H := hP
  have hD : va_D A [(o, .inr (0, [.int 0, .ref q1, .ref q2, .int 0, .null, .null, .ref q3, .long 0])), (q1, eA 0 e0 0), (q2, eA 0 e0 0), (q3, eA 0 e0 0)] := hD
  refine W.widen (k := 3) (n := 9) (Nat.le_of_ble_eq_true rfl) (Nat.le_of_ble_eq_true rfl) ?_
  exact W.vret hx hb hr (fun t ht hW => ⟨⟨(), rfl, trivial, q1, q2, q3, by rw [ht]; exact hP, hD⟩, hS.F ht⟩) hS.2.2 dX4_init_37 hlk
