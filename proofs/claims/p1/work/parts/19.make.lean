/-! 19: the constructors -/
def Ao (U : State) : Prop := va_AO "SignetRoom$Letter" U ∧ va_AO "SignetRoom$CallList" U ∧ va_AOA .int U
theorem aoa_spec {ty : FieldType} {u : State} (h : va_AOA ty u) : ∃ (comp c : ClassId) (k : Class), u.vm.findClass (FieldType.array ty).toString = some comp ∧ (u.vm.classes.findIdx? fun (x : Class) => match x.kind with | .array component _ => component == comp | _ => false) = some c ∧ u.vm.classes[c]? = some k ∧ (∃ q, k.kind = .array q (.array ty)) ∧ u.vm.findClass ("[" ++ (FieldType.array ty).toString) = some c := by
  unfold va_AOA Cond.before Cond.holds at h
  simp only [Cond.value, beq_iff_eq] at h
  cases hc : u.vm.findClass (FieldType.array ty).toString with
  | none => rw [hc] at h; simp at h
  | some comp =>
    simp only [hc, Option.bind_some, Option.bind_eq_some_iff, Option.map_eq_some_iff] at h
    obtain ⟨c, hi, k, hk, hb⟩ := h
    refine ⟨comp, c, k, rfl, hi, hk, ?_⟩
    cases hkind : k.kind with
    | array component ty' =>
      rw [hkind] at hb
      simp at hb
      exact ⟨⟨component, by rw [hb.1]⟩, hb.2⟩
    | _ => rw [hkind] at hb; simp at hb
theorem va_AOA.moved {ty : FieldType} {u U : State} (hvm : u.vm.Alike U.vm) (h : va_AOA ty u) : va_AOA ty U := by
  obtain ⟨comp, c, k, h1, h2, h3, ⟨q, h4⟩, h5⟩ := aoa_spec h
  obtain ⟨k', hk', he⟩ := hvm.2.2 _ _ h3
  have hi : (U.vm.classes.findIdx? fun (x : Class) => match x.kind with | .array component _ => component == comp | _ => false) = some c := by
    have e1 := va_idx_bare U.vm comp
    have e2 := va_idx_bare u.vm comp
    have e3 : U.vm.bare = u.vm.bare := by first | exact hvm.bare_eq | exact hvm.bare_eq.symm
    rw [e3] at e1
    exact e1.symm.trans (e2.trans h2)
  have hkind : k'.kind = .array q (.array ty) := by rw [he]; exact h4
  have f1 : U.vm.findClass (FieldType.array ty).toString = some comp := by rw [hvm.findClass]; exact h1
  have f2 : U.vm.findClass ("[" ++ (FieldType.array ty).toString) = some c := by rw [hvm.findClass]; exact h5
  unfold va_AOA Cond.before Cond.holds
  simp only [Cond.value]
  rw [f1, Option.bind_some]
  refine (congrArg (fun o : Option Nat => (o.bind (fun c => (U.vm.classes[c]?).map fun (k : Class) => match k.kind with | .array _ ty' => decide (ty' = FieldType.array ty) && decide (U.vm.findClass ("[" ++ (FieldType.array ty).toString) = some c) | _ => false) == some true)) hi).trans ?_
  simp [hk', hkind, f2]
theorem Ao.moved {u U : State} (hvm : u.vm.Alike U.vm) (h : Ao u) : Ao U := ⟨va_AO.moved hvm h.1, va_AO.moved hvm h.2.1, va_AOA.moved hvm h.2.2⟩
theorem Ao.same {u U : State} (h : u.vm = U.vm) (hZ : Ao u) : Ao U := hZ.moved (by rw [h]; exact Vm.Alike.refl _)
abbrev RmA (d mc ms : Nat) : Room := { frames := d, cells := mc, slots := ms, locals := 64 * d }
abbrev PcI (D : va_G) (ws : va_W) (sz : Nat) (av : List Value) : Array Value → State → Prop := va_Pc av (fun U => U.heap.size = sz ∧ va_P D clX ws U.heap ∧ va_K D clX [] U ∧ va_D (fun _ => True) ws ∧ Tb U ∧ Ao U)
theorem pcI_blind (D : va_G) (ws : va_W) (sz : Nat) (av : List Value) : FrameBlind (PcI D ws sz av) := by
  rintro a U g mk ⟨q0, q1, qP, qK, qD, qT, qO⟩
  exact ⟨q0, q1, qP, va_K.moved (u := U) (U := U.calling g mk a) (Vm.Alike.refl U.vm) qK, qD, Tb.same (u := U) (U := U.calling g mk a) rfl qT, Ao.same (u := U) (U := U.calling g mk a) rfl qO⟩
/-- what a constructor's body starts from -/
theorem mtN_of {S : Type} {l : Launch} {y : MethodName} {ws' : List Cond} {wd : List Cond} {d mc ms : Nat} {av : List Value} {D : va_G} {ws : va_W} {sz : Nat} {post : S → Prop} {B : S → State → Prop} {cc : ByteArray} {maxL : Nat} (hy : plainName y.cls = true) (hw : wd = Cond.code y cc maxL none :: ws') (hlen : (lg_sl av).length ≤ maxL)
    (body : ∀ (p : Program) (e : Env) (s : State) (m : MethodId) (args : Array Value) (below : List Frame) (meth : Method) (c : Code) (A : Nat → Prop) (ls : Array Slot), CallFix p m c cc maxL s args wd y.cls → meth.name = y.name → Tb s → Ao s → va_K D clX [] s → va_P D clX ws s.heap → va_D A ws → va_S A s.heap s.heap [] → (∀ q, s.heap.size ≤ q → A q) → (meth.sig.returnType = none ∧ meth.locks = false) → (s.heap.size = sz ∧ va_A ws sz = A) → lv_has ls maxL (lv_args 0 av) → W p l e (RmA d mc ms) s m args below meth c s.heap [] 0 0 (MQ below (va_Qv post B A) args s mc ms A) (F0 m 0 ls [])) (hA9 : True) :
    Met l y wd (RmA d mc ms) (PcI D ws sz av) (va_Qv post B (va_A ws sz)) mc ms (va_A ws sz) := by
  refine Met.ofW (cc := cc) (maxL := maxL) (ret := none) hy hw ?_
  intro p e s m args below meth c s₁ Bd hml hv
  obtain ⟨rfl, rfl, hP, hK, hD, hT, hO⟩ := hv
  have hts := atoms_spec (ws := wd) Bd.pre
  have hown : s.vm.findClass y.cls = some m.cls := findClass_of_methodNamed Bd.named
  have hin : meth.name = y.name := (name_of_methodNamed Bd.named Bd.method).1
  have hl := lv_entry av (n := maxL) hlen
  rw [lg_entry_eq]
  exact body p e s m av.toArray below meth c (va_A ws s.heap.size) _ ⟨Bd.exec, Bd.bytes, hml, hown, hts⟩ hin hT hO hK hP hD.self va_S.rf (fun q h => Or.inr h) ⟨Bd.returns, Bd.notSynchronized⟩ ⟨rfl, rfl⟩ hl
set_option maxHeartbeats 4000000 in
set_option maxRecDepth 100000 in
/-- Letter(), whatever else the world holds -/
theorem ct_X2_init (l : Launch) (D : va_G) (ws : va_W) (sz p0 h0 : Nat) (f : Nat → Int32) (hp0 : ws[p0]? = some (h0, .inr (2, fL f))) : Met l yX2_init wsX2_init (RmA 1 0 0) (PcI D ws sz [.ref h0]) (va_Qv (fun _ : Unit => True) (fun _ t => va_P D clX (ws.set p0 (h0, .inr (2, fL (upd (upd f 5 (nI 999)) 8 (nI 15))))) t.heap) (va_A ws sz)) 0 0 (va_A ws sz) := by
  refine mtN_of (cc := cX2_init) (maxL := 1) (by decide) rfl (Nat.le_of_ble_eq_true rfl) ?_ trivial
  intro p e s m args below meth c A ls S hin hT hO hK hP hD hS hA hr hsz0 hl
  obtain ⟨hsz, hAe⟩ := hsz0
  have hx := S.1
  have hb := S.2.1
  have hml := S.2.2.1
  have hown := S.2.2.2.1
  have hts := S.2.2.2.2
  have hl : lv_has ls 1 [(0, .ref h0)] := hl
  have hin2 : ∀ w ∈ u_ws RX2 TX2 12, w ∈ wsX2_init := by decide +kernel
  refine lv_aload_n hx hb dX2_init_0 rfl (lv_at hl 0 rfl) ?_
  refine W.objInit hx hb hown (hts (.methodLink RX2 3 objectInit) (by decide +kernel)) (hts (.instanceMethod objectInit) (by decide +kernel)) (hts (.code objectInit ⟨#[0xb1]⟩ 1 none) (by decide +kernel)) rfl (by rw [hml]; exact hl.1) rfl dX2_init_1 (Nat.le_of_ble_eq_true rfl) (Nat.le_of_ble_eq_true rfl) ?_
  refine W.eq (g2 := F0 m 4 ls []) rfl ?_
  refine lv_aload_n hx hb dX2_init_4 rfl (lv_at hl 0 rfl) ?_
  refine lv_sipush (v := nI 999) hx hb dX2_init_5 (by decide) ?_
  refine va_put (ci := 2) (v := .int (nI 999)) (ty := .int) (C := RX2) (T := TX2) (N := 12) hx hb hts hin2 tyX2 tyX2_ok nmX2 hown hK hP hD hS p0 hp0 rfl 5 (by decide) (hts (.fieldLink RX2 9 "SignetRoom$Letter" "to" "I") (by decide +kernel)) (fun _ h9 => h9) rfl (by decide +kernel) rfl rfl (Nat.le_of_ble_eq_true rfl) dX2_init_8 (fun H locs hP hD hS => ?_)
  refine lv_aload_n hx hb dX2_init_11 rfl (lv_at hl 0 rfl) ?_
  refine lv_bipush (v := nI 15) hx hb dX2_init_12 (by decide) ?_
  have hlt := (List.getElem?_eq_some_iff.mp hp0).1
  refine va_put (ci := 2) (v := .int (nI 15)) (ty := .int) (C := RX2) (T := TX2) (N := 12) hx hb hts hin2 tyX2 tyX2_ok nmX2 hown hK hP hD hS p0 (List.getElem?_set_self hlt) rfl 8 (by decide) (hts (.fieldLink RX2 15 "SignetRoom$Letter" "uses" "I") (by decide +kernel)) (fun _ h9 => h9) rfl (by decide +kernel) rfl rfl (Nat.le_of_ble_eq_true rfl) dX2_init_14 (fun H locs hP hD hS => ?_)
  rw [List.set_set] at hP
  exact W.vret hx hb hr.1 (fun t ht hW => ⟨⟨(), rfl, trivial, by show va_P _ _ _ t.heap; rw [ht]; exact hP⟩, hS.F ht⟩) hS.2.2 dX2_init_17 hr.2
set_option maxHeartbeats 4000000 in
set_option maxRecDepth 100000 in
/-- CallList() -/
theorem ct_X0_init (l : Launch) (D : va_G) (ws : va_W) (sz h0 : Nat) : Met l yX0_init wsX0_init (RmA 1 0 0) (PcI D ws sz [.ref h0]) (va_Qv (fun _ : Unit => True) (fun _ t => va_P D clX ws t.heap) (va_A ws sz)) 0 0 (va_A ws sz) := by
  refine mtN_of (cc := cX0_init) (maxL := 1) (by decide) rfl (Nat.le_of_ble_eq_true rfl) ?_ trivial
  intro p e s m args below meth c A ls S hin hT hO hK hP hD hS hA hr hsz0 hl
  obtain ⟨hsz, hAe⟩ := hsz0
  have hx := S.1
  have hb := S.2.1
  have hml := S.2.2.1
  have hown := S.2.2.2.1
  have hts := S.2.2.2.2
  have hl : lv_has ls 1 [(0, .ref h0)] := hl
  refine lv_aload_n hx hb dX0_init_0 rfl (lv_at hl 0 rfl) ?_
  refine W.objInit hx hb hown (hts (.methodLink RX0 3 objectInit) (by decide +kernel)) (hts (.instanceMethod objectInit) (by decide +kernel)) (hts (.code objectInit ⟨#[0xb1]⟩ 1 none) (by decide +kernel)) rfl (by rw [hml]; exact hl.1) rfl dX0_init_1 (Nat.le_of_ble_eq_true rfl) (Nat.le_of_ble_eq_true rfl) ?_
  refine W.eq (g2 := F0 m 4 ls []) rfl ?_
  exact W.vret hx hb hr.1 (fun t ht hW => ⟨⟨(), rfl, trivial, by show va_P _ _ _ t.heap; rw [ht]; exact hP⟩, hS.F ht⟩) hS.2.2 dX0_init_4 hr.2
def zI : Nat → Int32 := fun _ => 0
/-- the book's cells, made -/
def wBook (h0 a5 a6 a7 a8 a9 : Nat) (r : Nat → Nat) (cI cR : ClassId) : va_W :=
  [(h0, .inr (1, [.ref a5, .ref a6, .ref a7, .ref a8, .ref a9, .int 0, .int 0])), (a5, .inl (cI, 20, .inl zI)), (a6, .inl (cI, 6, .inl zI)), (a7, .inl (cR, 60, .inr (.inr (.inr (.inr (fun i => if i < 60 then some (r i) else none))))))] ++ (List.range 60).map (fun i => (r i, .inl (cI, 6, .inl zI))) ++ [(a8, .inl (cI, 60, .inl zI))] ++ [(a9, .inl (cI, 6, .inl zI))]
theorem rows_eq (r : Nat → Nat) (e : va_E) (f : Nat → va_E) : va_pl ([] ++ (List.range 60).map r) (vr_up f ((List.range 60).map r) e) = (List.range 60).map (fun i => (r i, e)) := by
  unfold va_pl
  rw [List.nil_append, List.map_map]
  apply List.map_congr_left
  intro i hi
  show (r i, vr_up f _ e (r i)) = _
  rw [vr_up_in (List.mem_map.mpr ⟨i, hi, rfl⟩)]
set_option maxHeartbeats 4000000 in
set_option maxRecDepth 100000 in
/-- ChainBook() -/
theorem ct_X1_init (l : Launch) (D : va_G) (sz h0 : Nat) : Met l yX1_init wsX1_init (RmA 1 65 512) (PcI D [(h0, .inr (1, [.null, .null, .null, .null, .null, .int 0, .int 0]))] sz [.ref h0]) (va_Qv (fun _ : Unit => True) (fun _ t => ∃ (a5 a6 a7 a8 a9 : Nat) (r : Nat → Nat) (cI cR : ClassId), va_P D clX (wBook h0 a5 a6 a7 a8 a9 r cI cR) t.heap ∧ va_K D clX [(cI, .int), (cR, .array .int)] t ∧ va_D (va_A [(h0, .inr (1, [.null, .null, .null, .null, .null, .int 0, .int 0]))] sz) (wBook h0 a5 a6 a7 a8 a9 r cI cR)) (va_A [(h0, .inr (1, [.null, .null, .null, .null, .null, .int 0, .int 0]))] sz)) 65 512 (va_A [(h0, .inr (1, [.null, .null, .null, .null, .null, .int 0, .int 0]))] sz) := by
  refine mtN_of (cc := cX1_init) (maxL := 1) (by decide) rfl (Nat.le_of_ble_eq_true rfl) ?_ trivial
  intro p e s m args below meth c A ls S hin hT hO hK hP hD hS hA hr hsz0 hl
  obtain ⟨hsz, hAe⟩ := hsz0
  have hx := S.1
  have hb := S.2.1
  have hml := S.2.2.1
  have hown := S.2.2.2.1
  have hts := S.2.2.2.2
  have hinN : meth.name = "<init>" := hin
  have hl : lv_has ls 1 [(0, .ref h0)] := hl
  have hin1 : ∀ w ∈ u_ws RX1 TX1 7, w ∈ wsX1_init := by decide +kernel
  refine lv_aload_n hx hb dX1_init_0 rfl (lv_at hl 0 rfl) ?_
  refine W.objInit hx hb hown (hts (.methodLink RX1 3 objectInit) (by decide +kernel)) (hts (.instanceMethod objectInit) (by decide +kernel)) (hts (.code objectInit ⟨#[0xb1]⟩ 1 none) (by decide +kernel)) rfl (by rw [hml]; exact hl.1) rfl dX1_init_1 (Nat.le_of_ble_eq_true rfl) (Nat.le_of_ble_eq_true rfl) ?_
  refine W.eq (g2 := F0 m 4 ls []) rfl ?_
  refine lv_aload_n hx hb dX1_init_4 rfl (lv_at hl 0 rfl) ?_
  refine lv_bipush (v := nI 20) hx hb dX1_init_5 (by decide) ?_
  refine va_newa (atype := .int) (a0 := (20, .inl zI)) (ty := .int) hx hb (hts (.arrayClass .int) (by decide +kernel)) rfl hK hP hD hS hA (fun _ => rfl) (by decide) (N' := 20) (by decide +kernel) (by decide) (Nat.le_of_ble_eq_true rfl) (Nat.le_of_ble_eq_true rfl) dX1_init_7 (fun a5 c5 H hK hP hD hS => ?_)
  refine va_putF (D := D) (ci := 1) (v := .ref a5) (ty := .array .int) (C := RX1) (T := TX1) (N := 7) hx hb hts hin1 tyX1 tyX1_ok nmX1 hown hK hP hD hS 0 rfl rfl 0 (by decide) (hts (.fieldLink RX1 9 "SignetRoom$ChainBook" "backers" "[I") (by decide +kernel)) (fun _ h9 => h9) rfl hinN rfl (by decide +kernel) rfl rfl (Nat.le_of_ble_eq_true rfl) dX1_init_9 (fun H locs hP hD hS => ?_)
  have hP : va_P D clX ([(h0, .inr (1, [.ref a5, .null, .null, .null, .null, .int 0, .int 0])), (a5, .inl (c5, 20, .inl zI))]) H := hP
  have hD : va_D A ([(h0, .inr (1, [.ref a5, .null, .null, .null, .null, .int 0, .int 0])), (a5, .inl (c5, 20, .inl zI))]) := hD
  refine lv_aload_n hx hb dX1_init_12 rfl (lv_at hl 0 rfl) ?_
  refine lv_bipush (v := nI 6) hx hb dX1_init_13 (by decide) ?_
  refine va_newa (atype := .int) (a0 := (6, .inl zI)) (ty := .int) hx hb (hts (.arrayClass .int) (by decide +kernel)) rfl hK hP hD hS hA (fun _ => rfl) (by decide) (N' := 6) (by decide +kernel) (by decide) (Nat.le_of_ble_eq_true rfl) (Nat.le_of_ble_eq_true rfl) dX1_init_15 (fun a6 c6 H hK hP hD hS => ?_)
  refine va_putF (D := D) (ci := 1) (v := .ref a6) (ty := .array .int) (C := RX1) (T := TX1) (N := 7) hx hb hts hin1 tyX1 tyX1_ok nmX1 hown hK hP hD hS 0 rfl rfl 1 (by decide) (hts (.fieldLink RX1 15 "SignetRoom$ChainBook" "waysEndingIn" "[I") (by decide +kernel)) (fun _ h9 => h9) rfl hinN rfl (by decide +kernel) rfl rfl (Nat.le_of_ble_eq_true rfl) dX1_init_17 (fun H locs hP hD hS => ?_)
  have hP : va_P D clX ([(h0, .inr (1, [.ref a5, .ref a6, .null, .null, .null, .int 0, .int 0])), (a5, .inl (c5, 20, .inl zI)), (a6, .inl (c6, 6, .inl zI))]) H := hP
  have hD : va_D A ([(h0, .inr (1, [.ref a5, .ref a6, .null, .null, .null, .int 0, .int 0])), (a5, .inl (c5, 20, .inl zI)), (a6, .inl (c6, 6, .inl zI))]) := hD
  refine lv_aload_n hx hb dX1_init_20 rfl (lv_at hl 0 rfl) ?_
  refine lv_bipush (v := nI 60) hx hb dX1_init_21 (by decide) ?_
  refine lv_bipush (v := nI 6) hx hb dX1_init_23 (by decide) ?_
  have hcy : s.vm.findClass (FieldType.array .int).toString = some c5 := (hK.2 0 _ rfl).2
  refine va_mna (X := [(h0, .inr (1, [.ref a5, .ref a6, .null, .null, .null, .int 0, .int 0])), (a5, .inl (c5, 20, .inl zI)), (a6, .inl (c6, 6, .inl zI))]) (L := []) (f := fun _ => .inl (c5, 0, .inl zI)) (ty := .int) (cy := c5) (z := (6, .inl zI)) (N' := 60) (K' := 6) hx hb hown (hts (.classLink RX1 18 "[[I") (by decide +kernel)) hO.2.2 (hts (.arrayClass .int) (by decide +kernel)) hcy hK (by rw [show va_pl [] (fun _ => (.inl (c5, 0, .inl zI) : va_E)) = [] from rfl, List.append_nil]; exact hP) (by rw [show va_pl [] (fun _ => (.inl (c5, 0, .inl zI) : va_E)) = [] from rfl, List.append_nil]; exact hD) hS hA (by decide) (by decide) (by decide +kernel) (by decide +kernel) (by decide) (by decide) (by decide) rfl rfl (Nat.le_of_ble_eq_true rfl) (Nat.le_of_ble_eq_true rfl) (fun c9 => by show ({ cls := c9, slots := Array.replicate 6 _, vm := _ } : Cell) = _; rw [arrV_new]; rfl) dX1_init_25 (fun a7 r cR H hrI hrL hK hP hD hS => ?_)
  rw [rows_eq] at hP hD
  refine va_putF (D := D) (ci := 1) (v := .ref a7) (ty := .array (.array .int)) (C := RX1) (T := TX1) (N := 7) hx hb hts hin1 tyX1 tyX1_ok nmX1 hown hK hP hD hS 0 rfl rfl 2 (by decide) (hts (.fieldLink RX1 20 "SignetRoom$ChainBook" "rows" "[[I") (by decide +kernel)) (fun _ h9 => h9) rfl hinN rfl (by decide +kernel) rfl rfl (Nat.le_of_ble_eq_true rfl) dX1_init_29 (fun H locs hP hD hS => ?_)
  have hP : va_P D clX ([(h0, .inr (1, [.ref a5, .ref a6, .ref a7, .null, .null, .int 0, .int 0])), (a5, .inl (c5, 20, .inl zI)), (a6, .inl (c6, 6, .inl zI)), (a7, .inl (cR, 60, .inr (.inr (.inr (.inr (fun i => if i < 60 then some (r i) else none))))))] ++ (List.range 60).map (fun i => (r i, .inl (c5, 6, .inl zI)))) H := hP
  have hD : va_D A ([(h0, .inr (1, [.ref a5, .ref a6, .ref a7, .null, .null, .int 0, .int 0])), (a5, .inl (c5, 20, .inl zI)), (a6, .inl (c6, 6, .inl zI)), (a7, .inl (cR, 60, .inr (.inr (.inr (.inr (fun i => if i < 60 then some (r i) else none))))))] ++ (List.range 60).map (fun i => (r i, .inl (c5, 6, .inl zI)))) := hD
  refine lv_aload_n hx hb dX1_init_32 rfl (lv_at hl 0 rfl) ?_
  refine lv_bipush (v := nI 60) hx hb dX1_init_33 (by decide) ?_
  refine va_newa (atype := .int) (a0 := (60, .inl zI)) (ty := .int) hx hb (hts (.arrayClass .int) (by decide +kernel)) rfl hK hP hD hS hA (fun _ => rfl) (by decide) (N' := 60) (by decide +kernel) (by decide) (Nat.le_of_ble_eq_true rfl) (Nat.le_of_ble_eq_true rfl) dX1_init_35 (fun a8 c8 H hK hP hD hS => ?_)
  refine va_putF (D := D) (ci := 1) (v := .ref a8) (ty := .array .int) (C := RX1) (T := TX1) (N := 7) hx hb hts hin1 tyX1 tyX1_ok nmX1 hown hK hP hD hS 0 rfl rfl 3 (by decide) (hts (.fieldLink RX1 23 "SignetRoom$ChainBook" "lengths" "[I") (by decide +kernel)) (fun _ h9 => h9) rfl hinN rfl (by decide +kernel) rfl rfl (Nat.le_of_ble_eq_true rfl) dX1_init_37 (fun H locs hP hD hS => ?_)
  have hP : va_P D clX ([(h0, .inr (1, [.ref a5, .ref a6, .ref a7, .ref a8, .null, .int 0, .int 0])), (a5, .inl (c5, 20, .inl zI)), (a6, .inl (c6, 6, .inl zI)), (a7, .inl (cR, 60, .inr (.inr (.inr (.inr (fun i => if i < 60 then some (r i) else none))))))] ++ (List.range 60).map (fun i => (r i, .inl (c5, 6, .inl zI))) ++ [(a8, .inl (c8, 60, .inl zI))]) H := hP
  have hD : va_D A ([(h0, .inr (1, [.ref a5, .ref a6, .ref a7, .ref a8, .null, .int 0, .int 0])), (a5, .inl (c5, 20, .inl zI)), (a6, .inl (c6, 6, .inl zI)), (a7, .inl (cR, 60, .inr (.inr (.inr (.inr (fun i => if i < 60 then some (r i) else none))))))] ++ (List.range 60).map (fun i => (r i, .inl (c5, 6, .inl zI))) ++ [(a8, .inl (c8, 60, .inl zI))]) := hD
  refine lv_aload_n hx hb dX1_init_40 rfl (lv_at hl 0 rfl) ?_
  refine lv_bipush (v := nI 6) hx hb dX1_init_41 (by decide) ?_
  refine va_newa (atype := .int) (a0 := (6, .inl zI)) (ty := .int) hx hb (hts (.arrayClass .int) (by decide +kernel)) rfl hK hP hD hS hA (fun _ => rfl) (by decide) (N' := 6) (by decide +kernel) (by decide) (Nat.le_of_ble_eq_true rfl) (Nat.le_of_ble_eq_true rfl) dX1_init_43 (fun a9 c9 H hK hP hD hS => ?_)
  refine va_putF (D := D) (ci := 1) (v := .ref a9) (ty := .array .int) (C := RX1) (T := TX1) (N := 7) hx hb hts hin1 tyX1 tyX1_ok nmX1 hown hK hP hD hS 0 rfl rfl 4 (by decide) (hts (.fieldLink RX1 26 "SignetRoom$ChainBook" "begun" "[I") (by decide +kernel)) (fun _ h9 => h9) rfl hinN rfl (by decide +kernel) rfl rfl (Nat.le_of_ble_eq_true rfl) dX1_init_45 (fun H locs hP hD hS => ?_)
  have hP : va_P D clX ([(h0, .inr (1, [.ref a5, .ref a6, .ref a7, .ref a8, .ref a9, .int 0, .int 0])), (a5, .inl (c5, 20, .inl zI)), (a6, .inl (c6, 6, .inl zI)), (a7, .inl (cR, 60, .inr (.inr (.inr (.inr (fun i => if i < 60 then some (r i) else none))))))] ++ (List.range 60).map (fun i => (r i, .inl (c5, 6, .inl zI))) ++ [(a8, .inl (c8, 60, .inl zI))] ++ [(a9, .inl (c9, 6, .inl zI))]) H := hP
  have hD : va_D A ([(h0, .inr (1, [.ref a5, .ref a6, .ref a7, .ref a8, .ref a9, .int 0, .int 0])), (a5, .inl (c5, 20, .inl zI)), (a6, .inl (c6, 6, .inl zI)), (a7, .inl (cR, 60, .inr (.inr (.inr (.inr (fun i => if i < 60 then some (r i) else none))))))] ++ (List.range 60).map (fun i => (r i, .inl (c5, 6, .inl zI))) ++ [(a8, .inl (c8, 60, .inl zI))] ++ [(a9, .inl (c9, 6, .inl zI))]) := hD
  have e6 : c5 = c6 := Option.some.inj ((hK.2 0 _ rfl).2.symm.trans (hK.2 1 _ rfl).2)
  have e8 : c5 = c8 := Option.some.inj ((hK.2 0 _ rfl).2.symm.trans (hK.2 3 _ rfl).2)
  have e9 : c5 = c9 := Option.some.inj ((hK.2 0 _ rfl).2.symm.trans (hK.2 4 _ rfl).2)
  rw [← e6, ← e8, ← e9] at hP hD
  have hK9 : va_K D clX [(c5, .int), (cR, .array .int)] s := hK.sub [0, 2] rfl
  have hDA : va_D (va_A [(h0, .inr (1, [.null, .null, .null, .null, .null, .int 0, .int 0]))] sz) (wBook h0 a5 a6 a7 a8 a9 r c5 cR) := by rw [hAe]; exact hD
  exact W.vret hx hb hr.1 (fun t ht hW => ⟨⟨(), rfl, trivial, a5, a6, a7, a8, a9, r, c5, cR, by rw [ht]; exact hP, va_K.moved hW.alike hK9, hDA⟩, hS.F ht⟩) hS.2.2 dX1_init_48 hr.2
