/-! a word that the printed names use and no kit has: the tables' word on an array of arrays -/
def va_AOA (ty : FieldType) (U : State) : Prop := (Cond.arrayOver (.array ty)).before #[] U = true
theorem va_AOA.use {ty : FieldType} {A : Array Value} {U : State} (h : va_AOA ty U) : (Cond.arrayOver (.array ty)).before A U = true := h
/-! ===== BEGIN words of one list among another's, by their places ===== -/
theorem goodIn_r {big : List Cond} (ws : List Cond) (ps : List Nat) (hp : ws = ps.filterMap (fun i => big[i]?)) (h : ws.all goodWord = true) : GoodIn big ws := by
  intro w hw
  have h1 := List.all_eq_true.mp h w hw
  rw [hp] at hw
  obtain ⟨i, -, hi⟩ := List.mem_filterMap.mp hw
  have hm : w ∈ big := by first | exact List.mem_of_getElem? hi | exact List.getElem?_mem hi
  exact ⟨hm, good_of_word h1⟩
theorem goodIn_app {big a b : List Cond} (ha : GoodIn big a) (hb : GoodIn big b) : GoodIn big (a ++ b) := fun w h => (List.mem_append.mp h).elim (ha w) (hb w)
theorem goodIn_ca {big a b : List Cond} {c : Cond} (ha : GoodIn big (c :: a)) (hb : GoodIn big b) : GoodIn big (c :: (a ++ b)) := fun w h => (List.mem_cons.mp h).elim (fun e => ha w (List.mem_cons.mpr (Or.inl e))) (fun h => (List.mem_append.mp h).elim (fun h => ha w (List.mem_cons.mpr (Or.inr h))) (hb w))
theorem goodIn_sub {big ws : List Cond} (hm : ∀ w ∈ ws, w ∈ big) (h : ws.all goodWord = true) : GoodIn big ws := fun w hw => ⟨hm w hw, good_of_word (List.all_eq_true.mp h w hw)⟩
/-! ===== END ===== -/

/-! ===== BEGIN new T[n][m]: the outer array a place, the inner ones among the pooled ===== -/
/-- f, but v at every address of l -/
def vr_up {α : Type} (f : Nat → α) (l : List Nat) (v : α) : Nat → α := fun a => if a ∈ l then v else f a
theorem vr_up_in {α : Type} {f : Nat → α} {l : List Nat} {v : α} {a : Nat} (h : a ∈ l) : vr_up f l v a = v := if_pos h
theorem vr_up_ne {α : Type} {f : Nat → α} {l : List Nat} {v : α} {a : Nat} (h : a ∉ l) : vr_up f l v a = f a := if_neg h
theorem vr_rows {L l : List Nat} {f : Nat → va_E} {e : va_E} (h : ∀ a, a ∈ l → a ∉ L) : va_pl L f ++ l.map (fun a => (a, e)) = va_pl (L ++ l) (vr_up f l e) := by
  unfold va_pl
  rw [List.map_append]
  congr 1
  · apply List.map_congr_left
    intro a ha
    rw [vr_up_ne (fun q => h a q ha)]
  · apply List.map_congr_left
    intro a ha
    rw [vr_up_in ha]
theorem vr_lay {X rows : va_W} {x : Nat × va_E} {pl : va_W} {D : va_G} {cl : List vw_C} {H : Heap} (hP : va_P D cl (((X ++ pl) ++ [x]) ++ rows) H) : va_P D cl ((X ++ [x]) ++ (pl ++ rows)) H := by
  rw [List.append_assoc (X ++ pl)] at hP
  have h := va_P.swap hP
  rw [← List.append_assoc X] at h
  have h2 := va_P.swap h
  rw [List.append_assoc (X ++ [x])] at h2
  exact h2
theorem vr_layD {X rows : va_W} {x : Nat × va_E} {pl : va_W} {A : Nat → Prop} (hD : va_D A (((X ++ pl) ++ [x]) ++ rows)) : va_D A ((X ++ [x]) ++ (pl ++ rows)) := by
  rw [List.append_assoc (X ++ pl)] at hD
  have h := va_D.swap hD
  rw [← List.append_assoc X] at h
  have h2 := va_D.swap h
  rw [List.append_assoc (X ++ [x])] at h2
  exact h2
theorem vr_outer (c : ClassId) (N h0 : Nat) : ∀ i : Nat, Jvm.Free.Multi.outerC c N h0 i = arrV c N (fun j => va_rf (if j < i then some (h0 + 1 + j) else none))
  | 0 => by
    show ({ cls := c, slots := Array.replicate N .null, vm := .none } : Cell) = _
    rw [arrV_new]
    refine congrArg (arrV c N) (funext fun j => ?_)
    simp [va_rf]
  | i + 1 => by
    show (Jvm.Free.Multi.outerC c N h0 i).setSlot i (.ref (h0 + 1 + i)) = _
    rw [vr_outer c N h0 i, arrV_store]
    refine congrArg (arrV c N) (funext fun j => ?_)
    by_cases e : j = i
    · subst e
      simp [updV, va_rf]
    · by_cases h : j < i
      · simp [updV, e, h, Nat.lt_succ_of_lt h]
      · simp [updV, e, h, show ¬ j < i + 1 by omega]
section VGM
variable {p : Program} {l : Launch} {e : Env} {R : Room} {s : State} {m : MethodId} {args : Array Value} {below : List Frame} {meth : Method} {c : Code} {H : Heap} {locs : List Loc} {cells slots : Nat} {Q : State → Prop}
variable {cc : ByteArray} {pc : Nat} {ls : Array Slot} {rest : List Value} {D : va_G} {cl : List vw_C} {A : Nat → Prop} {a : Nat} {tys : List (ClassId × FieldType)} {ws : va_W} {H0 : Heap}
theorem va_mna {X : va_W} {L : List Nat} {f : Nat → va_E} {cc : ByteArray} (hexec : p.tables.exec = Jvm.exec) (hb : c.code = cc) {own : String} {index : Nat} {ty : FieldType} {cy : ClassId} (hown : s.vm.findClass own = some m.cls) (hclink : (Cond.classLink own index ("[" ++ (FieldType.array ty).toString)).before args s = true) (hover : va_AOA ty s) (harr : (Cond.arrayClass ty).before args s = true) (hcy : s.vm.findClass (FieldType.array ty).toString = some cy)
    (hK : va_K D cl tys s) (hP : va_P D cl (X ++ va_pl L f) H) (hD : va_D A (X ++ va_pl L f)) (hS : va_S A H0 H locs) (hA : ∀ q, H0.size ≤ q → A q) {n k : Int32} {N' K' : Nat} {z : vp_A} (hn : ¬ n < 0) (hk : ¬ k < 0) (hN : n.toNatClampNeg = N') (hM : k.toNatClampNeg = K')
    (hb1 : N' * 4 ≤ 536870912) (hb2 : K' * componentBytes ty ≤ 536870912) (hb3 : K' ≤ 536870912) (hdf : fits ty (defaultValue ty) = true) (hdd : (defaultValue ty).isDefault = true) (hcells : cells + (1 + N') ≤ R.cells) (hslots : slots + (N' + N' * K') ≤ R.slots) (hz : ∀ c : ClassId, Jvm.Free.Multi.innerC c K' (defaultValue ty) = vp_cell c z) (hdg : decode cc pc = .ok (.multianewarray index 2, 4))
    (kk : ∀ (q : Nat) (r : Nat → Nat) (cA : ClassId) (H1 : Heap), (∀ i j : Nat, i < N' → j < N' → r i = r j → i = j) → (∀ i : Nat, i < N' → r i ∉ L) → va_K D cl (tys ++ [(cA, .array ty)]) s →
      va_P D cl ((X ++ [(q, .inl (cA, N', .inr (.inr (.inr (.inr (fun i => if i < N' then some (r i) else none))))))]) ++ va_pl (L ++ (List.range N').map r) (vr_up f ((List.range N').map r) (.inl (cy, z)))) H1 → va_D A ((X ++ [(q, .inl (cA, N', .inr (.inr (.inr (.inr (fun i => if i < N' then some (r i) else none))))))]) ++ va_pl (L ++ (List.range N').map r) (vr_up f ((List.range N').map r) (.inl (cy, z)))) → va_S A H0 H1 locs →
      W p l e R s m args below meth c H1 locs (cells + 1 + N') (slots + N' + N' * K') Q (F0 m (pc + 4) ls (.ref q :: rest))) : W p l e R s m args below meth c H locs cells slots Q (F0 m pc ls (.int k :: .int n :: rest)) := by
  subst hN
  subst hM
  intro T hT Xs
  obtain ⟨vm₁, cA, comp, -, fA, fC, hO, -, X', step⟩ := Xs.multianewarray2F hexec hown hclink (va_AOA.use hover) harr (g := F0 m pc ls (.int k :: .int n :: rest)) rfl (by rw [hb]; exact hdg) rfl hn hk hb1 hb2 hb3 hdf hdd hcells hslots
  have ec : some cy = some comp := hcy.symm.trans fC
  cases ec
  generalize hF : Jvm.Free.Multi.fill (T.setVm vm₁) cA cy n.toNatClampNeg k.toNatClampNeg (defaultValue ty) n.toNatClampNeg = F at X' step
  have hTh : (T.setVm vm₁).heap = H := hT
  obtain ⟨f1, f2, -, -⟩ := Jvm.Free.Multi.fill_facts (T.setVm vm₁) cA cy n.toNatClampNeg k.toNatClampNeg (defaultValue ty) n.toNatClampNeg
  rw [hF, hTh] at f1 f2
  have hold : ∀ x : Nat, x < H.size → F.heap[x]? = H[x]? := fun x hx => by
    have := Jvm.Free.Multi.fill_old (T.setVm vm₁) cA cy n.toNatClampNeg k.toNatClampNeg (defaultValue ty) (a := x) (by rw [hTh]; exact hx) n.toNatClampNeg
    rw [hF, hTh] at this
    exact this
  have hrow : ∀ j : Nat, j < n.toNatClampNeg → F.heap[H.size + 1 + j]? = some (vp_cell cy z) := fun j hj => by
    have := Jvm.Free.Multi.fill_inner (T.setVm vm₁) cA cy n.toNatClampNeg k.toNatClampNeg (defaultValue ty) n.toNatClampNeg j hj
    rw [hF, hTh, hz] at this
    exact this
  have hout : Jvm.Free.Multi.outerC cA n.toNatClampNeg H.size n.toNatClampNeg = vp_cell cA (n.toNatClampNeg, .inr (.inr (.inr (.inr (fun i => if i < n.toNatClampNeg then some (H.size + 1 + i) else none))))) := by
    rw [vp_cell_q]
    exact vr_outer cA n.toNatClampNeg H.size n.toNatClampNeg
  rw [hout] at f2
  have hlt : ∀ a, a ∈ L → a < H.size := fun a ha => by
    obtain ⟨k9, hk9⟩ := va_pl_get (X := X) (f := f) ha
    exact (hP k9 _ hk9).lt
  have hnl : ∀ i : Nat, i < n.toNatClampNeg → H.size + 1 + i ∉ L := fun i _ h => by
    have := hlt _ h
    omega
  have hnm : ∀ a, a ∈ (List.range n.toNatClampNeg).map (fun i => H.size + 1 + i) → a ∉ L := fun a ha h => by
    obtain ⟨i, -, rfl⟩ := List.mem_map.mp ha
    have := hlt _ h
    omega
  have hP0 : va_P D cl (X ++ va_pl L f) F.heap := hP.kept (fun k9 x hx => hold x.1 ((hP k9 x hx).lt))
  have hP1 : va_P D cl ((X ++ va_pl L f) ++ [(H.size, .inl (cA, n.toNatClampNeg, .inr (.inr (.inr (.inr (fun i => if i < n.toNatClampNeg then some (H.size + 1 + i) else none))))))]) F.heap := hP0.app (fun k9 x hx => by
    have h0 : k9 < 1 := (List.getElem?_eq_some_iff.mp hx).1
    rw [show k9 = 0 by omega] at hx
    cases hx
    exact f2)
  have hP2 : va_P D cl (((X ++ va_pl L f) ++ [(H.size, .inl (cA, n.toNatClampNeg, .inr (.inr (.inr (.inr (fun i => if i < n.toNatClampNeg then some (H.size + 1 + i) else none))))))]) ++ ((List.range n.toNatClampNeg).map (fun i => H.size + 1 + i)).map (fun a => (a, .inl (cy, z)))) F.heap := hP1.app (fun k9 x hx => by
    obtain ⟨a, ha, rfl⟩ := List.mem_map.mp (List.mem_of_getElem? hx)
    obtain ⟨i, hi, rfl⟩ := List.mem_map.mp ha
    exact hrow i (List.mem_range.mp hi))
  have hD2 : va_D A (((X ++ va_pl L f) ++ [(H.size, .inl (cA, n.toNatClampNeg, .inr (.inr (.inr (.inr (fun i => if i < n.toNatClampNeg then some (H.size + 1 + i) else none))))))]) ++ ((List.range n.toNatClampNeg).map (fun i => H.size + 1 + i)).map (fun a => (a, .inl (cy, z)))) := by
    have hD1 := hD.push (e := .inl (cA, n.toNatClampNeg, .inr (.inr (.inr (.inr (fun i => if i < n.toNatClampNeg then some (H.size + 1 + i) else none)))))) hP rfl (hA _ hS.1)
    generalize hW1 : (X ++ va_pl L f) ++ [(H.size, .inl (cA, n.toNatClampNeg, .inr (.inr (.inr (.inr (fun i => if i < n.toNatClampNeg then some (H.size + 1 + i) else none))))))] = W1 at hD1 hP1 ⊢
    have hle : ∀ (k9 : Nat) (x : Nat × va_E), W1[k9]? = some x → x.1 ≤ H.size := fun k9 x hx => by
      rw [← hW1] at hx
      by_cases hl : k9 < (X ++ va_pl L f).length
      · rw [List.getElem?_append_left hl] at hx
        exact Nat.le_of_lt ((hP k9 x hx).lt)
      · rw [List.getElem?_append_right (by omega)] at hx
        have h0 : k9 - (X ++ va_pl L f).length < 1 := (List.getElem?_eq_some_iff.mp hx).1
        rw [show k9 - (X ++ va_pl L f).length = 0 by omega] at hx
        cases hx
        exact Nat.le_refl _
    have hr : ∀ (k9 : Nat) (x : Nat × va_E), (((List.range n.toNatClampNeg).map (fun i => H.size + 1 + i)).map (fun a => ((a, .inl (cy, z)) : Nat × va_E)))[k9]? = some x → x.1 = H.size + 1 + k9 := fun k9 x hx => by
      rw [List.getElem?_map, List.getElem?_map] at hx
      by_cases h9 : k9 < n.toNatClampNeg
      · rw [List.getElem?_range h9] at hx
        cases hx
        rfl
      · have hn0 : (List.range n.toNatClampNeg)[k9]? = none := List.getElem?_eq_none (by rw [List.length_range]; omega)
        rw [hn0] at hx
        cases hx
    refine ⟨fun i j x y hi hj hxy => ?_, fun k9 x hx => ?_⟩
    · by_cases h1 : i < W1.length <;> by_cases h2 : j < W1.length
      · rw [List.getElem?_append_left h1] at hi
        rw [List.getElem?_append_left h2] at hj
        exact hD1.1 i j x y hi hj hxy
      · rw [List.getElem?_append_left h1] at hi
        rw [List.getElem?_append_right (by omega)] at hj
        have := hle _ _ hi
        have := hr _ _ hj
        omega
      · rw [List.getElem?_append_right (by omega)] at hi
        rw [List.getElem?_append_left h2] at hj
        have := hle _ _ hj
        have := hr _ _ hi
        omega
      · rw [List.getElem?_append_right (by omega)] at hi hj
        have := hr _ _ hi
        have := hr _ _ hj
        omega
    · by_cases h1 : k9 < W1.length
      · rw [List.getElem?_append_left h1] at hx
        exact hD1.2 k9 x hx
      · rw [List.getElem?_append_right (by omega)] at hx
        have := hr _ _ hx
        exact hA _ (by have := hS.1; omega)
  have hAr : ArrOfT s cA (.array ty) := fun N9 z9 => by
    obtain ⟨-, k9, hk9, cm9, hkk9⟩ := (hO 0 0 0).1
    exact ⟨(fun q hq => by cases hq), k9, hk9, cm9, hkk9⟩
  have hK2 : va_K D cl (tys ++ [(cA, .array ty)]) s := ⟨hK.1, fun k9 x hx => by
    by_cases hl : k9 < tys.length
    · rw [List.getElem?_append_left hl] at hx
      exact hK.2 k9 x hx
    · rw [List.getElem?_append_right (by omega)] at hx
      have h0 : k9 - tys.length < 1 := (List.getElem?_eq_some_iff.mp hx).1
      rw [show k9 - tys.length = 0 by omega] at hx
      cases hx
      exact ⟨hAr, fA⟩⟩
  obtain ⟨t, a1, b1⟩ := kk H.size (fun i => H.size + 1 + i) cA F.heap (fun i j _ _ h => by have h9 : H.size + 1 + i = H.size + 1 + j := h; omega) hnl hK2 (by rw [← vr_rows hnm]; exact vr_lay hP2) (by rw [← vr_rows hnm]; exact vr_layD hD2) ⟨by rw [f1]; have := hS.1; omega, fun x h1 h2 => (hold x (Nat.lt_of_lt_of_le h1 hS.1)).trans (hS.2.1 x h1 h2), hS.2.2⟩ F rfl X'
  refine ⟨t, step t ?_, b1⟩
  have e : T.heap.size = H.size := by rw [hT]
  rw [e]
  exact a1
end VGM
/-! ===== END ===== -/

/-! ===== BEGIN exceptions that leave a method, and their catching by the caller (launches without stack traces) ===== -/
section VXA
/-! The laws vx_back, vx_callV, vx_callS, vx_callSW, vx_throw0, vx_throwS follow proofs of the library, with one case more: JvmDerived/Free/Laws.lean (Back.of_free), Shelf42/LK1.lean (callV, callS), Shelf/KitTraced.lean (throwNew0V, throwNewS). -/
/-- where a method has thrown q: the class by its name, the cell, what was written, the world -/
def vx_T (XC : String → State → State → Prop) (st : State) (q : Addr) (t : State) (mc ms : Nat) (free : Addr → Prop) : Prop :=
  ∃ (E : String) (ce : Cell) (L : List Loc), XC E st t ∧ t.heap[q]? = some ce ∧ ce.vm = .none ∧ st.vm.findClass E = some ce.cls ∧ st.WarmedH t.vm ∧ st.sameButNew ({ t with vm := st.vm } : State) L mc ms ∧ ∀ z ∈ L, free z.base
def vx_Q (Qc : Array Value → State → Outcome → State → Prop) (XC : String → State → State → Prop) (mc ms : Nat) (free : Addr → Prop) : Array Value → State → Outcome → State → Prop := fun a st o t =>
  (Qc a st o t ∧ ∃ L, FrameEnd st o t L mc ms ∧ ∀ q ∈ L, free q.base) ∨ ∃ q, o = .threw q ∧ vx_T XC st q t mc ms free
/-- a callee that returns or throws -/
def vx_Met (l : Launch) (y : MethodName) (ws : List Cond) (rm : Room) (Pc : Array Value → State → Prop) (Qc : Array Value → State → Outcome → State → Prop) (XC : String → State → State → Prop) (mc ms : Nat) (free : Addr → Prop) : Prop :=
  MetFree l y (headSpec ws rm) Pc (fun _ _ _ _ _ => True) (vx_Q Qc XC mc ms free)
def vx_Post (XC : String → State → State → Prop) (mc ms : Nat) (free : Addr → Prop) : Pt → Array Value → Addr → Pt → Prop := fun A a q B =>
  ∃ (g : JFrame) (mk : MethodId) (t : State) (L : List Loc) (E : String) (ce : Cell), B.U.heap = t.heap ∧ B.U.vm = t.vm ∧ XC E (A.U.calling g mk a) t ∧ t.heap[q]? = some ce ∧ ce.vm = .none ∧ A.U.vm.findClass E = some ce.cls ∧ B.locs = A.locs ++ L ∧ (∀ z ∈ L, free z.base) ∧ B.cells = A.cells + mc ∧ B.slots = A.slots + ms
def vx_Back (l : Launch) (R : Room) (p : Program) (e : Env) (below : List Frame) (s : State) (sargs : Array Value) (y : MethodName) (len W9 : Nat)
    (Pre : Pt → Array Value → Prop) (Post : Pt → Array Value → Option Value → Pt → Prop) (PostX : Pt → Array Value → Addr → Pt → Prop) : Prop :=
  ∀ (m : MethodId) (meth : Method) (c : Code) (A : Pt) (g : JFrame) (ig : Instr) (mk : MethodId) (a : Array Value),
    Stand p l e R s m sargs below meth c A.U A.locs A.cells A.slots → g.method = m → g.locals.size = c.maxLocals → decode c.code g.pc = .ok (ig, len) →
    2 * g.monitorRoom + (g.stack.map fun v => v.category).sum ≤ W9 → A.U.methodNamed? y = some mk → Pre A a →
    (∃ (v : Option Value) (B : Pt), Stand p l e R s m sargs below meth c B.U B.locs B.cells B.slots ∧ Post A a v B ∧
      Steps p.tables e below (doInvoke e (A.U.setTop g) [] mk a).1 (B.U.setTop { g with pc := g.pc + len, stack := v.toList ++ g.stack })) ∨
    (∃ (q : Addr) (B : Pt), Stand p l e R s m sargs below meth c B.U B.locs B.cells B.slots ∧ PostX A a q B ∧
      Steps p.tables e below (doInvoke e (A.U.setTop g) [] mk a).1 ((B.U.setTop g).pushFrame (.throwing q)))
section Payer
variable {l : Launch} {R : Room} {p : Program} {e : Env} {below : List Frame} {s : State} {sargs : Array Value} {y : MethodName} {len W9 : Nat}
theorem vx_back {ws : List Cond} {rm : Room} {Pc : Array Value → State → Prop} {Qc : Array Value → State → Outcome → State → Prop} {XC : String → State → State → Prop} {mc ms : Nat} {free : Addr → Prop} {bytes : ByteArray} {maxL : Nat} {ret : Option FieldType}
    (hM : vx_Met l y ws rm Pc Qc XC mc ms free) (hblind : FrameBlind Pc) (hrc : rm.cells = mc) (hrs : rm.slots = ms)
    (hframes : rm.frames + 1 ≤ R.frames) (hlocals : W9 + (maxL + 11) + rm.locals ≤ R.locals)
    (hws : ∀ w ∈ ws, ∀ a' U, s.WarmedH U.vm → w.before a' U = true) (hcode : Cond.code y bytes maxL ret ∈ ws) (hinit : ∀ a' U, s.WarmedH U.vm → (Cond.initialized y.cls).before a' U = true) :
    vx_Back l R p e below s sargs y len W9 (PreOf R mc ms Pc) (PostOf Qc mc ms free) (vx_Post XC mc ms free) := by
  intro m meth c A g ig mk a X hg hsize hdg hW hn hp
  have h1 : (headSpec ws rm).pre.before a A.U = true := atoms_intro fun w hw => hws w hw _ _ X.warmed
  have h2 : (Cond.code y bytes maxL ret).before a A.U = true := hws _ hcode _ _ X.warmed
  have h3 : (Cond.initialized y.cls).before a A.U = true := hinit _ _ X.warmed
  have h4 : A.cells + (headSpec ws rm).room.cells ≤ R.cells := by rw [show (headSpec ws rm).room.cells = mc from hrc]; exact hp.1
  have h5 : A.slots + (headSpec ws rm).room.slots ≤ R.slots := by rw [show (headSpec ws rm).room.slots = ms from hrs]; exact hp.2.1
  have hPc : Pc a (A.U.calling g mk a) := hblind _ _ _ _ hp.2.2
  obtain ⟨U, Ls, c0, s0⟩ := A
  dsimp only [Pt.U, Pt.locs, Pt.cells, Pt.slots] at h1 h2 h3 h4 h5 X hn hPc ⊢
  obtain ⟨methY, cY, hmY, hcY, -, hlY, -, -, -, -⟩ := Cond.code_spec hn h2
  obtain ⟨kY, hkY, -⟩ := className_of_methodNamed hn
  have hinitY : kY.init = .initialized := Cond.initialized_spec (findClass_of_methodNamed hn) hkY h3
  have h : At U g.method c below := by rw [hg]; exact X.here
  have hlocals9 : W9 + (maxL + 11) + (headSpec ws rm).room.locals ≤ R.locals := hlocals
  have happ : (headSpec ws rm).appliesLoose y e.platform (U.calling g mk a) = true :=
    Spec.appliesLoose_calling (g := g) h hdg hn hkY hinitY
      (X.room_calling (g := g) (R' := (headSpec ws rm).room) hsize hmY hcY hframes (by rw [hlY]; omega) h4 h5) h1
  obtain ⟨mid, hmid⟩ := h.above
  have hfr : (U.setTop g).frames = (.java g :: mid) ++ below := by rw [State.frames_setTop' g h.top, hmid]; rfl
  obtain ⟨o, s₂, hsteps, -, hend, hq⟩ := Steps.callFree hM p X.admits X.cas X.clock (acts := []) hfr happ hPc trivial
  have hq' : vx_Q Qc XC mc ms free a (U.calling g mk a) o s₂ := hq
  rw [State.frames_setTop' g h.top] at hend
  obtain ⟨g₀, hg0⟩ := Option.isSome_iff_exists.mp h.top
  obtain ⟨r, hr⟩ := State.topJava?_eq_some.mp hg0
  have hr' : (({ U with heap := s₂.heap, slotsUsed := s₂.slotsUsed } : State).setVm s₂.vm).frames = .java g₀ :: r := hr
  rcases hq' with ⟨hqc, L, hfe, hL⟩ | ⟨q, rfl, E, ce, L, hx, hce, hcv, hcl, hW₂, hsm, hL⟩
  · obtain ⟨⟨v, rfl⟩, hW₂, e2, q2, q3, q4, q5, q6⟩ := id hfe
    have e3 : s₂ = ({ (U.calling g mk a).setFrames s₂.frames with heap := s₂.heap, slotsUsed := s₂.slotsUsed } : State).setVm s₂.vm := by
      have : s₂ = ({ s₂ with vm := (U.calling g mk a).vm } : State).setVm s₂.vm := rfl
      rw [e2] at this
      exact this
    obtain ⟨c₂, i₂, len₂, hc₂, hd₂, hf₂⟩ := hend
    have hW' : U.WarmedH s₂.vm := hW₂
    have hcc : c₂ = c := by
      have h1 : s₂.code? g.method = U.code? g.method := by
        rw [State.code?_eq, State.code?_eq, hW'.alike.method?]
      exact Option.some.inj (hc₂.symm.trans (h1.trans h.code))
    subst hcc
    have hlen : len₂ = len := by rw [hdg] at hd₂; cases hd₂; rfl
    subst hlen
    have hs₂ : s₂ = (({ U with heap := s₂.heap, slotsUsed := s₂.slotsUsed } : State).setVm s₂.vm).setTop { g with pc := g.pc + len₂, stack := v.toList ++ g.stack } := by
      refine e3.trans ?_
      rw [hf₂, State.calling_eq h.top, State.setFrames_setFrames, State.setTop_of_frames _ hr', hr]
      rfl
    have hsame : U.sameButNew ({ U with heap := s₂.heap, slotsUsed := s₂.slotsUsed } : State) L mc ms := by
      refine ⟨?_, q2, q3, q4, q5, q6⟩
      obtain ⟨t, ht, -⟩ := State.frames_cons hr
      show ({ U with heap := s₂.heap, slotsUsed := s₂.slotsUsed } : State) = { U.setFrames U.frames with heap := s₂.heap, slotsUsed := s₂.slotsUsed }
      rw [State.setFrames_self ht]
    subst hg
    refine Or.inl ⟨v, ⟨(({ U with heap := s₂.heap, slotsUsed := s₂.slotsUsed } : State).setVm s₂.vm), Ls ++ L, c0 + mc, s0 + ms⟩,
      ⟨X.admits, X.cas, X.clock, X.frames, X.room, X.hears, X.method, X.code, (X.here.setHeapUsed s₂.heap s₂.slotsUsed).setVm hW'.alike, X.tail, State.WarmedH.trans X.warmed hW', X.limits, X.bytes, X.same.trans (hsame.setVm s.vm)⟩,
      ⟨g, mk, s₂, L, rfl, rfl, hqc, rfl, hL, rfl, rfl⟩, ?_⟩
    show Steps p.tables e below _ ((({ U with heap := s₂.heap, slotsUsed := s₂.slotsUsed } : State).setVm s₂.vm).setTop { g with pc := g.pc + len₂, stack := v.toList ++ g.stack })
    rw [← hs₂]
    exact hsteps
  · obtain ⟨e2, q2, q3, q4, q5, q6⟩ := id hsm
    have e3 : s₂ = ({ (U.calling g mk a).setFrames s₂.frames with heap := s₂.heap, slotsUsed := s₂.slotsUsed } : State).setVm s₂.vm := by
      have : s₂ = ({ s₂ with vm := (U.calling g mk a).vm } : State).setVm s₂.vm := rfl
      rw [e2] at this
      exact this
    have hf₂ : s₂.frames = .throwing q :: .java g :: U.frames.tail := hend
    have hW' : U.WarmedH s₂.vm := hW₂
    have hs₂ : s₂ = ((({ U with heap := s₂.heap, slotsUsed := s₂.slotsUsed } : State).setVm s₂.vm).setTop g).pushFrame (.throwing q) := by
      refine e3.trans ?_
      rw [hf₂, State.calling_eq h.top, State.setFrames_setFrames, State.pushFrame, State.frames_setTop _ hr', State.setTop_of_frames _ hr', State.setFrames_setFrames, hr]
      rfl
    have hsame : U.sameButNew ({ U with heap := s₂.heap, slotsUsed := s₂.slotsUsed } : State) L mc ms := by
      refine ⟨?_, q2, q3, q4, q5, q6⟩
      obtain ⟨t, ht, -⟩ := State.frames_cons hr
      show ({ U with heap := s₂.heap, slotsUsed := s₂.slotsUsed } : State) = { U.setFrames U.frames with heap := s₂.heap, slotsUsed := s₂.slotsUsed }
      rw [State.setFrames_self ht]
    subst hg
    refine Or.inr ⟨q, ⟨(({ U with heap := s₂.heap, slotsUsed := s₂.slotsUsed } : State).setVm s₂.vm), Ls ++ L, c0 + mc, s0 + ms⟩,
      ⟨X.admits, X.cas, X.clock, X.frames, X.room, X.hears, X.method, X.code, (X.here.setHeapUsed s₂.heap s₂.slotsUsed).setVm hW'.alike, X.tail, State.WarmedH.trans X.warmed hW', X.limits, X.bytes, X.same.trans (hsame.setVm s.vm)⟩,
      ⟨g, mk, s₂, L, E, ce, rfl, rfl, hx, hce, hcv, hcl, rfl, hL, rfl, rfl⟩, ?_⟩
    show Steps p.tables e below _ (((({ U with heap := s₂.heap, slotsUsed := s₂.slotsUsed } : State).setVm s₂.vm).setTop g).pushFrame (.throwing q))
    rw [← hs₂]
    exact hsteps
end Payer
section Calls
variable {p : Program} {l : Launch} {e : Env} {R : Room} {s : State} {m : MethodId} {args : Array Value} {below : List Frame} {meth : Method} {c : Code} {T : State} {locs : List Loc} {cells slots : Nat}
theorem vx_callV (X : Stand p l e R s m args below meth c T locs cells slots) (hexec : p.tables.exec = Jvm.exec) {own C : String} {index : Nat} {y : MethodName} {bytes : ByteArray} {maxL : Nat} {ret : Option FieldType}
    (hown : s.vm.findClass own = some m.cls) (hlink : (Cond.methodLink own index y).before args s = true) (hinst : (Cond.instanceMethod y).before args s = true) (hsel : (Cond.selects C y y).before args s = true)
    (hcode : (Cond.code y bytes maxL ret).before args s = true) (hy : y.cls ≠ "java/lang/invoke/MethodHandle" ∧ y.cls ≠ "java/lang/invoke/VarHandle")
    {W9 : Nat} {Pre : Pt → Array Value → Prop} {Post : Pt → Array Value → Option Value → Pt → Prop} {PostX : Pt → Array Value → Addr → Pt → Prop} (hK : vx_Back l R p e below s args y 3 W9 Pre Post PostX)
    {b : Addr} {cellB : Cell} (hcell : T.heap[b]? = some cellB) (hobj : cellB.vm.isStatics = false) (hcls : s.vm.findClass C = some cellB.cls)
    {g : JFrame} (hg : g.method = m) (hsize : g.locals.size = c.maxLocals) {argsL rest : List Value} (hlen : ∀ sig, parseMethodDescriptor y.desc = some sig → argsL.length = sig.parameters.length)
    (hstack : g.stack = argsL.reverse ++ .ref b :: rest) (hW : 2 * g.monitorRoom + (rest.map fun v => v.category).sum ≤ W9) (hdg : decode c.code g.pc = .ok (.invokevirtual index, 3))
    (hpre : ∀ vm₁, s.WarmedH vm₁ → Pre ⟨T.setVm vm₁, locs, cells, slots⟩ (Value.ref b :: argsL).toArray) :
    (∃ (v : Option Value) (vm₁ : Vm) (B : Pt), s.WarmedH vm₁ ∧ Stand p l e R s m args below meth c B.U B.locs B.cells B.slots ∧ Post ⟨T.setVm vm₁, locs, cells, slots⟩ (Value.ref b :: argsL).toArray v B ∧
      ∀ target, Steps p.tables e below (B.U.setTop { g with pc := g.pc + 3, stack := v.toList ++ rest }) target → Steps p.tables e below (T.setTop g) target) ∨
    (∃ (q : Addr) (vm₁ : Vm) (B : Pt), s.WarmedH vm₁ ∧ Stand p l e R s m args below meth c B.U B.locs B.cells B.slots ∧ PostX ⟨T.setVm vm₁, locs, cells, slots⟩ (Value.ref b :: argsL).toArray q B ∧
      Steps p.tables e below (T.setTop g) ((B.U.setTop { g with stack := rest }).pushFrame (.throwing q))) := by
  obtain ⟨mk, methM, hnamed, hmethM, hstM, habM⟩ := Cond.instanceMethod_spec hinst
  obtain ⟨methM', cM, hmethM', -, -, -, -, -, -, hsigM⟩ := Cond.code_spec hnamed hcode
  cases hmethM.symm.trans hmethM'
  obtain ⟨c2, r2, m2, q1, q2, q3, q4, kP, hkP, hkPi⟩ := Cond.selects_spec hsel
  cases hcls.symm.trans q1
  cases (State.methodFound?_of_named hnamed hy).symm.trans q2
  cases hnamed.symm.trans q3
  have hselP : selectMethod e.platform s.vm cellB.cls mk = .method mk := by rw [Launch.admits_selectMethod X.admits]; exact q4
  obtain ⟨vm₁, X₁, hstep₁⟩ := X.invokevirtual hexec hown hlink hnamed hmethM hstM hkP hkPi hy (a := b) (cell := cellB) hcell
    (fun z h => by rw [h] at hobj; cases hobj) hselP hmethM habM hkP hkPi (g := g) hg (argsL := argsL) (rest := rest) (hlen _ hsigM) hstack hdg
  rcases hK m meth c ⟨T.setVm vm₁, locs, cells, slots⟩ { g with stack := rest } (.invokevirtual index) mk (Value.ref b :: argsL).toArray X₁ hg hsize hdg hW (X₁.named hnamed) (hpre vm₁ X₁.warmed) with ⟨v, B, X', hpost, hsteps⟩ | ⟨q, B, X', hpost, hsteps⟩
  · exact Or.inl ⟨v, vm₁, B, X₁.warmed, X', hpost, fun target h => hstep₁ _ fun acts => by rw [doInvoke_state]; exact hsteps.trans h⟩
  · exact Or.inr ⟨q, vm₁, B, X₁.warmed, X', hpost, hstep₁ _ fun acts => by rw [doInvoke_state]; exact hsteps⟩
theorem vx_callS (X : Stand p l e R s m args below meth c T locs cells slots) (hexec : p.tables.exec = Jvm.exec) {own : String} {index : Nat} {y : MethodName} {bytes : ByteArray} {maxL : Nat} {ret : Option FieldType}
    (hown : s.vm.findClass own = some m.cls) (hlink : (Cond.methodLink own index y).before args s = true) (hstat : (Cond.static y).before args s = true) (hinit : (Cond.initialized y.cls).before args s = true)
    (hcode : (Cond.code y bytes maxL ret).before args s = true) (hy : y.cls ≠ "java/lang/invoke/MethodHandle" ∧ y.cls ≠ "java/lang/invoke/VarHandle")
    {W9 : Nat} {Pre : Pt → Array Value → Prop} {Post : Pt → Array Value → Option Value → Pt → Prop} {PostX : Pt → Array Value → Addr → Pt → Prop} (hK : vx_Back l R p e below s args y 3 W9 Pre Post PostX)
    {g : JFrame} (hg : g.method = m) (hsize : g.locals.size = c.maxLocals) {argsL rest : List Value} (hlen : ∀ sig, parseMethodDescriptor y.desc = some sig → argsL.length = sig.parameters.length)
    (hstack : g.stack = argsL.reverse ++ rest) (hW : 2 * g.monitorRoom + (rest.map fun v => v.category).sum ≤ W9) (hdg : decode c.code g.pc = .ok (.invokestatic index, 3))
    (hpre : ∀ vm₁, s.WarmedH vm₁ → Pre ⟨T.setVm vm₁, locs, cells, slots⟩ argsL.toArray) :
    (∃ (v : Option Value) (vm₁ : Vm) (B : Pt), s.WarmedH vm₁ ∧ Stand p l e R s m args below meth c B.U B.locs B.cells B.slots ∧ Post ⟨T.setVm vm₁, locs, cells, slots⟩ argsL.toArray v B ∧
      ∀ target, Steps p.tables e below (B.U.setTop { g with pc := g.pc + 3, stack := v.toList ++ rest }) target → Steps p.tables e below (T.setTop g) target) ∨
    (∃ (q : Addr) (vm₁ : Vm) (B : Pt), s.WarmedH vm₁ ∧ Stand p l e R s m args below meth c B.U B.locs B.cells B.slots ∧ PostX ⟨T.setVm vm₁, locs, cells, slots⟩ argsL.toArray q B ∧
      Steps p.tables e below (T.setTop g) ((B.U.setTop { g with stack := rest }).pushFrame (.throwing q))) := by
  obtain ⟨mk, hnamed⟩ := Cond.code_named hcode
  obtain ⟨methM, cM, hmethM, -, -, -, -, -, -, hsigM⟩ := Cond.code_spec hnamed hcode
  have hstatic : methM.isStatic = true := Cond.static_spec hnamed hmethM hstat
  obtain ⟨kP, hkP, -⟩ := className_of_methodNamed hnamed
  have hinitP : kP.init = .initialized := Cond.initialized_spec (findClass_of_methodNamed hnamed) hkP hinit
  obtain ⟨vm₁, X₁, hstep₁⟩ := X.invokestatic hexec hown hlink hnamed hmethM hstatic hkP hinitP hy (g := g) hg (argsL := argsL) (rest := rest) (hlen _ hsigM) hstack hdg
  rcases hK m meth c ⟨T.setVm vm₁, locs, cells, slots⟩ { g with stack := rest } (.invokestatic index) mk argsL.toArray X₁ hg hsize hdg hW (X₁.named hnamed) (hpre vm₁ X₁.warmed) with ⟨v, B, X', hpost, hsteps⟩ | ⟨q, B, X', hpost, hsteps⟩
  · exact Or.inl ⟨v, vm₁, B, X₁.warmed, X', hpost, fun target h => hstep₁ _ fun acts => by rw [doInvoke_state]; exact hsteps.trans h⟩
  · exact Or.inr ⟨q, vm₁, B, X₁.warmed, X', hpost, hstep₁ _ fun acts => by rw [doInvoke_state]; exact hsteps⟩
end Calls
theorem vx_cls {s : State} {T : State} {vm₁ : Vm} {E : String} {k : ClassId} (hW : s.WarmedH vm₁) (h : (T.setVm vm₁).vm.findClass E = some k) : s.vm.findClass E = some k := by
  have h1 : vm₁.findClass E = some k := h
  rw [hW.alike.findClass] at h1
  exact h1
/-- the method's frame g, with q thrown over it -/
def vx_W (p : Program) (l : Launch) (e : Env) (R : Room) (s : State) (m : MethodId) (args : Array Value) (below : List Frame) (meth : Method) (c : Code) (H : Heap) (locs : List Loc) (cells slots : Nat) (Q : State → Prop) (g : JFrame) (q : Addr) : Prop :=
  ∀ T : State, T.heap = H → Stand p l e R s m args below meth c T locs cells slots → ∃ t, Steps p.tables e below ((T.setTop g).pushFrame (.throwing q)) t ∧ Q t
def vx_Run (p : Program) (l : Launch) (e : Env) (R : Room) (s : State) (m : MethodId) (args : Array Value) (below : List Frame) (meth : Method) (c : Code) (H : Heap) (locs : List Loc) (cells slots mc ms : Nat) (g : JFrame) (rest : List Value) (Qa : State → Outcome → State → Prop) (XC : String → State → State → Prop) (free : Addr → Prop) : Prop :=
  ∀ T : State, T.heap = H → Stand p l e R s m args below meth c T locs cells slots →
    (∃ (v : Option Value) (st₀ t T' : State) (L : List Loc), st₀.heap = H ∧ Stand p l e R s m args below meth c T' (locs ++ L) (cells + mc) (slots + ms) ∧ (∀ q ∈ L, free q.base) ∧ T'.heap = t.heap ∧ T'.vm = t.vm ∧ Qa st₀ (.returned v) t ∧
      Goes p e below T g T' { g with pc := g.pc + 3, stack := v.toList ++ rest }) ∨
    (∃ (q : Addr) (st₀ t T' : State) (L : List Loc) (E : String) (ce : Cell), st₀.heap = H ∧ Stand p l e R s m args below meth c T' (locs ++ L) (cells + mc) (slots + ms) ∧ (∀ z ∈ L, free z.base) ∧ T'.heap = t.heap ∧ T'.vm = t.vm ∧ XC E st₀ t ∧ t.heap[q]? = some ce ∧ ce.vm = .none ∧ s.vm.findClass E = some ce.cls ∧
      Steps p.tables e below (T.setTop g) ((T'.setTop { g with stack := rest }).pushFrame (.throwing q)))
def vx_X {S : Type} (px : S → Prop) (B : String → S → State → Prop) (A : Nat → Prop) : String → State → State → Prop := fun E st t => ∃ u : S, px u ∧ B E u t ∧ va_F A st t
section Runs
variable {p : Program} {l : Launch} {e : Env} {R : Room} {s : State} {m : MethodId} {args : Array Value} {below : List Frame} {meth : Method} {c : Code} {H : Heap} {locs : List Loc} {cells slots : Nat}
variable {y : MethodName} {bytes cc : ByteArray} {maxL nL mc ms n index : Nat} {ret : Option FieldType} {ws : List Cond} {rm : Room} {Pc : Array Value → State → Prop} {Qc : Array Value → State → Outcome → State → Prop} {XC : String → State → State → Prop} {free : Addr → Prop} {Ts : List Cond} {own C : String} {b : Addr} {As rest : List Value} {g : JFrame}
theorem vx_callBack (cb : CallB R s args own index y bytes maxL ret ws rm mc ms n) (hM : vx_Met l y ws rm Pc Qc XC mc ms free) (hbl : FrameBlind Pc) : vx_Back l R p e below s args y 3 8 (PreOf R mc ms Pc) (PostOf Qc mc ms free) (vx_Post XC mc ms free) := by
  obtain ⟨hrc, hrs, hfr, hlo, hws, hcw, -, hini, -⟩ := cb
  exact vx_back (bytes := bytes) (maxL := maxL) (ret := ret) hM hbl hrc hrs hfr hlo hws hcw (fun a' U hW => word_at hW (Or.inl (by first | rfl | simp [Cond.onTables, Cond.keeps, Cond.steady])) hini)
theorem vx_runV (S : CallFix p m c cc nL s args Ts own) (hM : vx_Met l y ws rm Pc Qc XC mc ms free) (cw : CallW R s args own C index y bytes maxL ret ws rm mc ms n) (hp : PreV s H C b Pc As)
    (hg : g.method = m) (hn : As.length = n) (hsize : g.locals.size = nL) (hstack : g.stack = As.reverse ++ .ref b :: rest) (hW : 2 * g.monitorRoom + (rest.map fun v => v.category).sum ≤ 8) (hdg : decode cc g.pc = .ok (.invokevirtual index, 3)) (hf : cells + mc ≤ R.cells ∧ slots + ms ≤ R.slots) :
    vx_Run p l e R s m args below meth c H locs cells slots mc ms g rest (Qc (Value.ref b :: As).toArray) XC free := by
  have hK : vx_Back l R p e below s args y 3 8 (PreOf R mc ms Pc) (PostOf Qc mc ms free) (vx_Post XC mc ms free) := vx_callBack cw.1 hM hp.1
  obtain ⟨⟨-, -, -, -, -, -, hcode, -, hy, hlen, hl⟩, hin, hse⟩ := cw
  obtain ⟨hx, hb, hml, ho, -⟩ := S
  obtain ⟨-, ⟨cellB, hcB, hoB, hclB⟩, hPc⟩ := hp
  intro T hT X
  rcases vx_callV X hx (C := C) (bytes := bytes) (maxL := maxL) (ret := ret) ho hl hin hse hcode hy hK (by rw [hT]; exact hcB) hoB hclB hg (hsize.trans hml.symm) (argsL := As) (rest := rest) (fun sig h => hn.trans (hlen sig h)) hstack hW (by rw [hb]; exact hdg)
    (fun vm₁ hW₁ => ⟨hf.1, hf.2, hPc (T.setVm vm₁) hT hW₁⟩) with ⟨v, vm₁, ⟨U', l2, c2, s2⟩, hW₁, X', ⟨g', mk, t, L, e1, e2, hq, h1, hL, h2, h3⟩, st⟩ | ⟨q, vm₁, ⟨U', l2, c2, s2⟩, hW₁, X', ⟨g', mk, t, L, E, ce, e1, e2, hq, hce, hcv, hcl, h1, hL, h2, h3⟩, st⟩
  · dsimp only [Pt.U, Pt.locs, Pt.cells, Pt.slots] at X' e1 e2 h1 h2 h3 st
    subst h1; subst h2; subst h3
    exact Or.inl ⟨v, (T.setVm vm₁).calling g' mk (Value.ref b :: As).toArray, t, U', L, hT, X', hL, e1, e2, hq, st⟩
  · dsimp only [Pt.U, Pt.locs, Pt.cells, Pt.slots] at X' e1 e2 h1 h2 h3 st hcl
    subst h1; subst h2; subst h3
    exact Or.inr ⟨q, (T.setVm vm₁).calling g' mk (Value.ref b :: As).toArray, t, U', L, E, ce, hT, X', hL, e1, e2, hq, hce, hcv, vx_cls hW₁ hcl, st⟩
theorem vx_runS (S : CallFix p m c cc nL s args Ts own) (hM : vx_Met l y ws rm Pc Qc XC mc ms free) (cw : CallB R s args own index y bytes maxL ret ws rm mc ms n ∧ (Cond.static y).before args s = true) (hp : PreS s H Pc As)
    (hg : g.method = m) (hn : As.length = n) (hsize : g.locals.size = nL) (hstack : g.stack = As.reverse ++ rest) (hW : 2 * g.monitorRoom + (rest.map fun v => v.category).sum ≤ 8) (hdg : decode cc g.pc = .ok (.invokestatic index, 3)) (hf : cells + mc ≤ R.cells ∧ slots + ms ≤ R.slots) :
    vx_Run p l e R s m args below meth c H locs cells slots mc ms g rest (Qc As.toArray) XC free := by
  have hK : vx_Back l R p e below s args y 3 8 (PreOf R mc ms Pc) (PostOf Qc mc ms free) (vx_Post XC mc ms free) := vx_callBack cw.1 hM hp.1
  obtain ⟨⟨-, -, -, -, -, -, hcode, hini, hy, hlen, hl⟩, hstt⟩ := cw
  obtain ⟨hx, hb, hml, ho, -⟩ := S
  intro T hT X
  rcases vx_callS X hx (bytes := bytes) (maxL := maxL) (ret := ret) ho hl hstt hini hcode hy hK hg (hsize.trans hml.symm) (argsL := As) (rest := rest) (fun sig h => hn.trans (hlen sig h)) hstack hW (by rw [hb]; exact hdg)
    (fun vm₁ hW₁ => ⟨hf.1, hf.2, hp.2 (T.setVm vm₁) hT hW₁⟩) with ⟨v, vm₁, ⟨U', l2, c2, s2⟩, hW₁, X', ⟨g', mk, t, L, e1, e2, hq, h1, hL, h2, h3⟩, st⟩ | ⟨q, vm₁, ⟨U', l2, c2, s2⟩, hW₁, X', ⟨g', mk, t, L, E, ce, e1, e2, hq, hce, hcv, hcl, h1, hL, h2, h3⟩, st⟩
  · dsimp only [Pt.U, Pt.locs, Pt.cells, Pt.slots] at X' e1 e2 h1 h2 h3 st
    subst h1; subst h2; subst h3
    exact Or.inl ⟨v, (T.setVm vm₁).calling g' mk As.toArray, t, U', L, hT, X', hL, e1, e2, hq, st⟩
  · dsimp only [Pt.U, Pt.locs, Pt.cells, Pt.slots] at X' e1 e2 h1 h2 h3 st hcl
    subst h1; subst h2; subst h3
    exact Or.inr ⟨q, (T.setVm vm₁).calling g' mk As.toArray, t, U', L, E, ce, hT, X', hL, e1, e2, hq, hce, hcv, vx_cls hW₁ hcl, st⟩
end Runs
section Rows
variable {p : Program} {l : Launch} {e : Env} {R : Room} {s : State} {m : MethodId} {args : Array Value} {below : List Frame} {meth : Method} {c : Code} {H : Heap} {locs : List Loc} {cells slots : Nat} {Q : State → Prop}
variable {mc ms : Nat} {free : Addr → Prop} {A0 A1 : Nat → Prop} {H0 : Heap} {a : Array Value} {pc : Nat} {ls : Array Slot} {st0 rest : List Value}
theorem vx_keep {st₀ t T' : State} {L : List Loc} (h0 : st₀.heap = H) (e1 : T'.heap = t.heap) (hS : va_S A0 H0 H locs) (hA : ∀ q, q < H.size → A1 q → A0 q) (hf : ∀ q, free q → A0 q) (hL : ∀ q ∈ L, free q.base) (hF : va_F A1 st₀ t) :
    H.size ≤ T'.heap.size ∧ (∀ q : Nat, q < H.size → ¬ A1 q → T'.heap[q]? = H[q]?) ∧ va_S A0 H0 T'.heap (locs ++ L) := by
  obtain ⟨hz, hk⟩ := hF
  rw [h0] at hz hk
  exact ⟨by rw [e1]; exact hz, fun q h1 h2 => by rw [e1]; exact hk q h1 h2,
    ⟨Nat.le_trans hS.1 (by rw [e1]; exact hz), fun q h1 h2 => by rw [e1, hk q (Nat.lt_of_lt_of_le h1 hS.1) (fun z => h2 (hA q (Nat.lt_of_lt_of_le h1 hS.1) z))]; exact hS.2.1 q h1 h2, fun q hq => by
      rcases List.mem_append.mp hq with h | h
      · exact hS.2.2 q h
      · exact hf _ (hL q h)⟩⟩
theorem vx_calli {S SX : Type} {post : Int32 → S → Prop} {px : SX → Prop} {B : S → State → Prop} {BX : String → SX → State → Prop} {AX : Nat → Prop} (hr : vx_Run p l e R s m args below meth c H locs cells slots mc ms (F0 m pc ls st0) rest (va_Qi post B A1 a) (vx_X px BX AX) free) (hS : va_S A0 H0 H locs) (hA : ∀ q, q < H.size → A1 q → A0 q) (hf : ∀ q, free q → A0 q) (hAX : ∀ q, q < H.size → AX q → A0 q)
    (kx : ∀ (E : String) (ce : Cell) (q9 : Addr) (u : SX) (t : State) (H1 : Heap) (locs1 : List Loc), t.heap = H1 → s.vm.Alike t.vm → px u → BX E u t → H.size ≤ H1.size → (∀ q : Nat, q < H.size → ¬ AX q → H1[q]? = H[q]?) → va_S A0 H0 H1 locs1 → H1[q9]? = some ce → ce.vm = .none → s.vm.findClass E = some ce.cls → vx_W p l e R s m args below meth c H1 locs1 (cells + mc) (slots + ms) Q (F0 m pc ls rest) q9)
    (kk : ∀ (r : Int32) (u : S) (t : State) (H1 : Heap) (locs1 : List Loc), t.heap = H1 → s.vm.Alike t.vm → post r u → B u t → H.size ≤ H1.size → (∀ q : Nat, q < H.size → ¬ A1 q → H1[q]? = H[q]?) → va_S A0 H0 H1 locs1 → W p l e R s m args below meth c H1 locs1 (cells + mc) (slots + ms) Q (F0 m (pc + 3) ls (.int r :: rest))) : W p l e R s m args below meth c H locs cells slots Q (F0 m pc ls st0) := by
  intro T hT X
  rcases hr T hT X with ⟨v, st₀, t, T', L, h0, X', hL, e1, e2, ⟨⟨r, u, hv, hp, hb⟩, hF⟩, st⟩ | ⟨q, st₀, t, T', L, E, ce, h0, X', hL, e1, e2, ⟨u, hp, hb, hF⟩, hce, hcv, hcl, st⟩
  · cases hv
    obtain ⟨k1, k2, k3⟩ := vx_keep h0 e1 hS hA hf hL hF
    obtain ⟨t2, a1, b1⟩ := kk r u t T'.heap (locs ++ L) e1.symm (by rw [← e2]; exact X'.warmed.alike) hp hb k1 k2 k3 T' rfl X'
    exact ⟨t2, st t2 a1, b1⟩
  · obtain ⟨k1, k2, k3⟩ := vx_keep h0 e1 hS hAX hf hL hF
    obtain ⟨t2, a1, b1⟩ := kx E ce q u t T'.heap (locs ++ L) e1.symm (by rw [← e2]; exact X'.warmed.alike) hp hb k1 k2 k3 (by rw [e1]; exact hce) hcv hcl T' rfl X'
    exact ⟨t2, st.trans a1, b1⟩
theorem vx_calll {S SX : Type} {post : Int64 → S → Prop} {px : SX → Prop} {B : S → State → Prop} {BX : String → SX → State → Prop} {AX : Nat → Prop} (hr : vx_Run p l e R s m args below meth c H locs cells slots mc ms (F0 m pc ls st0) rest (va_Ql post B A1 a) (vx_X px BX AX) free) (hS : va_S A0 H0 H locs) (hA : ∀ q, q < H.size → A1 q → A0 q) (hf : ∀ q, free q → A0 q) (hAX : ∀ q, q < H.size → AX q → A0 q)
    (kx : ∀ (E : String) (ce : Cell) (q9 : Addr) (u : SX) (t : State) (H1 : Heap) (locs1 : List Loc), t.heap = H1 → s.vm.Alike t.vm → px u → BX E u t → H.size ≤ H1.size → (∀ q : Nat, q < H.size → ¬ AX q → H1[q]? = H[q]?) → va_S A0 H0 H1 locs1 → H1[q9]? = some ce → ce.vm = .none → s.vm.findClass E = some ce.cls → vx_W p l e R s m args below meth c H1 locs1 (cells + mc) (slots + ms) Q (F0 m pc ls rest) q9)
    (kk : ∀ (r : Int64) (u : S) (t : State) (H1 : Heap) (locs1 : List Loc), t.heap = H1 → s.vm.Alike t.vm → post r u → B u t → H.size ≤ H1.size → (∀ q : Nat, q < H.size → ¬ A1 q → H1[q]? = H[q]?) → va_S A0 H0 H1 locs1 → W p l e R s m args below meth c H1 locs1 (cells + mc) (slots + ms) Q (F0 m (pc + 3) ls (.long r :: rest))) : W p l e R s m args below meth c H locs cells slots Q (F0 m pc ls st0) := by
  intro T hT X
  rcases hr T hT X with ⟨v, st₀, t, T', L, h0, X', hL, e1, e2, ⟨⟨r, u, hv, hp, hb⟩, hF⟩, st⟩ | ⟨q, st₀, t, T', L, E, ce, h0, X', hL, e1, e2, ⟨u, hp, hb, hF⟩, hce, hcv, hcl, st⟩
  · cases hv
    obtain ⟨k1, k2, k3⟩ := vx_keep h0 e1 hS hA hf hL hF
    obtain ⟨t2, a1, b1⟩ := kk r u t T'.heap (locs ++ L) e1.symm (by rw [← e2]; exact X'.warmed.alike) hp hb k1 k2 k3 T' rfl X'
    exact ⟨t2, st t2 a1, b1⟩
  · obtain ⟨k1, k2, k3⟩ := vx_keep h0 e1 hS hAX hf hL hF
    obtain ⟨t2, a1, b1⟩ := kx E ce q u t T'.heap (locs ++ L) e1.symm (by rw [← e2]; exact X'.warmed.alike) hp hb k1 k2 k3 (by rw [e1]; exact hce) hcv hcl T' rfl X'
    exact ⟨t2, st.trans a1, b1⟩
theorem vx_callf {S SX : Type} {post : UInt32 → S → Prop} {px : SX → Prop} {B : S → State → Prop} {BX : String → SX → State → Prop} {AX : Nat → Prop} (hr : vx_Run p l e R s m args below meth c H locs cells slots mc ms (F0 m pc ls st0) rest (va_Qf post B A1 a) (vx_X px BX AX) free) (hS : va_S A0 H0 H locs) (hA : ∀ q, q < H.size → A1 q → A0 q) (hf : ∀ q, free q → A0 q) (hAX : ∀ q, q < H.size → AX q → A0 q)
    (kx : ∀ (E : String) (ce : Cell) (q9 : Addr) (u : SX) (t : State) (H1 : Heap) (locs1 : List Loc), t.heap = H1 → s.vm.Alike t.vm → px u → BX E u t → H.size ≤ H1.size → (∀ q : Nat, q < H.size → ¬ AX q → H1[q]? = H[q]?) → va_S A0 H0 H1 locs1 → H1[q9]? = some ce → ce.vm = .none → s.vm.findClass E = some ce.cls → vx_W p l e R s m args below meth c H1 locs1 (cells + mc) (slots + ms) Q (F0 m pc ls rest) q9)
    (kk : ∀ (r : UInt32) (u : S) (t : State) (H1 : Heap) (locs1 : List Loc), t.heap = H1 → s.vm.Alike t.vm → post r u → B u t → H.size ≤ H1.size → (∀ q : Nat, q < H.size → ¬ A1 q → H1[q]? = H[q]?) → va_S A0 H0 H1 locs1 → W p l e R s m args below meth c H1 locs1 (cells + mc) (slots + ms) Q (F0 m (pc + 3) ls (.float r :: rest))) : W p l e R s m args below meth c H locs cells slots Q (F0 m pc ls st0) := by
  intro T hT X
  rcases hr T hT X with ⟨v, st₀, t, T', L, h0, X', hL, e1, e2, ⟨⟨r, u, hv, hp, hb⟩, hF⟩, st⟩ | ⟨q, st₀, t, T', L, E, ce, h0, X', hL, e1, e2, ⟨u, hp, hb, hF⟩, hce, hcv, hcl, st⟩
  · cases hv
    obtain ⟨k1, k2, k3⟩ := vx_keep h0 e1 hS hA hf hL hF
    obtain ⟨t2, a1, b1⟩ := kk r u t T'.heap (locs ++ L) e1.symm (by rw [← e2]; exact X'.warmed.alike) hp hb k1 k2 k3 T' rfl X'
    exact ⟨t2, st t2 a1, b1⟩
  · obtain ⟨k1, k2, k3⟩ := vx_keep h0 e1 hS hAX hf hL hF
    obtain ⟨t2, a1, b1⟩ := kx E ce q u t T'.heap (locs ++ L) e1.symm (by rw [← e2]; exact X'.warmed.alike) hp hb k1 k2 k3 (by rw [e1]; exact hce) hcv hcl T' rfl X'
    exact ⟨t2, st.trans a1, b1⟩
theorem vx_calld {S SX : Type} {post : UInt64 → S → Prop} {px : SX → Prop} {B : S → State → Prop} {BX : String → SX → State → Prop} {AX : Nat → Prop} (hr : vx_Run p l e R s m args below meth c H locs cells slots mc ms (F0 m pc ls st0) rest (va_Qd post B A1 a) (vx_X px BX AX) free) (hS : va_S A0 H0 H locs) (hA : ∀ q, q < H.size → A1 q → A0 q) (hf : ∀ q, free q → A0 q) (hAX : ∀ q, q < H.size → AX q → A0 q)
    (kx : ∀ (E : String) (ce : Cell) (q9 : Addr) (u : SX) (t : State) (H1 : Heap) (locs1 : List Loc), t.heap = H1 → s.vm.Alike t.vm → px u → BX E u t → H.size ≤ H1.size → (∀ q : Nat, q < H.size → ¬ AX q → H1[q]? = H[q]?) → va_S A0 H0 H1 locs1 → H1[q9]? = some ce → ce.vm = .none → s.vm.findClass E = some ce.cls → vx_W p l e R s m args below meth c H1 locs1 (cells + mc) (slots + ms) Q (F0 m pc ls rest) q9)
    (kk : ∀ (r : UInt64) (u : S) (t : State) (H1 : Heap) (locs1 : List Loc), t.heap = H1 → s.vm.Alike t.vm → post r u → B u t → H.size ≤ H1.size → (∀ q : Nat, q < H.size → ¬ A1 q → H1[q]? = H[q]?) → va_S A0 H0 H1 locs1 → W p l e R s m args below meth c H1 locs1 (cells + mc) (slots + ms) Q (F0 m (pc + 3) ls (.double r :: rest))) : W p l e R s m args below meth c H locs cells slots Q (F0 m pc ls st0) := by
  intro T hT X
  rcases hr T hT X with ⟨v, st₀, t, T', L, h0, X', hL, e1, e2, ⟨⟨r, u, hv, hp, hb⟩, hF⟩, st⟩ | ⟨q, st₀, t, T', L, E, ce, h0, X', hL, e1, e2, ⟨u, hp, hb, hF⟩, hce, hcv, hcl, st⟩
  · cases hv
    obtain ⟨k1, k2, k3⟩ := vx_keep h0 e1 hS hA hf hL hF
    obtain ⟨t2, a1, b1⟩ := kk r u t T'.heap (locs ++ L) e1.symm (by rw [← e2]; exact X'.warmed.alike) hp hb k1 k2 k3 T' rfl X'
    exact ⟨t2, st t2 a1, b1⟩
  · obtain ⟨k1, k2, k3⟩ := vx_keep h0 e1 hS hAX hf hL hF
    obtain ⟨t2, a1, b1⟩ := kx E ce q u t T'.heap (locs ++ L) e1.symm (by rw [← e2]; exact X'.warmed.alike) hp hb k1 k2 k3 (by rw [e1]; exact hce) hcv hcl T' rfl X'
    exact ⟨t2, st.trans a1, b1⟩
theorem vx_callv {S SX : Type} {post : S → Prop} {px : SX → Prop} {B : S → State → Prop} {BX : String → SX → State → Prop} {AX : Nat → Prop} (hr : vx_Run p l e R s m args below meth c H locs cells slots mc ms (F0 m pc ls st0) rest (va_Qv post B A1 a) (vx_X px BX AX) free) (hS : va_S A0 H0 H locs) (hA : ∀ q, q < H.size → A1 q → A0 q) (hf : ∀ q, free q → A0 q) (hAX : ∀ q, q < H.size → AX q → A0 q)
    (kx : ∀ (E : String) (ce : Cell) (q9 : Addr) (u : SX) (t : State) (H1 : Heap) (locs1 : List Loc), t.heap = H1 → s.vm.Alike t.vm → px u → BX E u t → H.size ≤ H1.size → (∀ q : Nat, q < H.size → ¬ AX q → H1[q]? = H[q]?) → va_S A0 H0 H1 locs1 → H1[q9]? = some ce → ce.vm = .none → s.vm.findClass E = some ce.cls → vx_W p l e R s m args below meth c H1 locs1 (cells + mc) (slots + ms) Q (F0 m pc ls rest) q9)
    (kk : ∀ (u : S) (t : State) (H1 : Heap) (locs1 : List Loc), t.heap = H1 → s.vm.Alike t.vm → post u → B u t → H.size ≤ H1.size → (∀ q : Nat, q < H.size → ¬ A1 q → H1[q]? = H[q]?) → va_S A0 H0 H1 locs1 → W p l e R s m args below meth c H1 locs1 (cells + mc) (slots + ms) Q (F0 m (pc + 3) ls (rest))) : W p l e R s m args below meth c H locs cells slots Q (F0 m pc ls st0) := by
  intro T hT X
  rcases hr T hT X with ⟨v, st₀, t, T', L, h0, X', hL, e1, e2, ⟨⟨u, hv, hp, hb⟩, hF⟩, st⟩ | ⟨q, st₀, t, T', L, E, ce, h0, X', hL, e1, e2, ⟨u, hp, hb, hF⟩, hce, hcv, hcl, st⟩
  · cases hv
    obtain ⟨k1, k2, k3⟩ := vx_keep h0 e1 hS hA hf hL hF
    obtain ⟨t2, a1, b1⟩ := kk u t T'.heap (locs ++ L) e1.symm (by rw [← e2]; exact X'.warmed.alike) hp hb k1 k2 k3 T' rfl X'
    exact ⟨t2, st t2 a1, b1⟩
  · obtain ⟨k1, k2, k3⟩ := vx_keep h0 e1 hS hAX hf hL hF
    obtain ⟨t2, a1, b1⟩ := kx E ce q u t T'.heap (locs ++ L) e1.symm (by rw [← e2]; exact X'.warmed.alike) hp hb k1 k2 k3 (by rw [e1]; exact hce) hcv hcl T' rfl X'
    exact ⟨t2, st.trans a1, b1⟩
/-- caught by the row x of this method's table; the rows ahead don't take it -/
theorem vx_catch {own name : String} {E : String} {ce : Cell} {q : Addr} (hown : s.vm.findClass own = some m.cls) (pre : List ExceptionTableEntry) (x : ExceptionTableEntry) (suf : List ExceptionTableEntry) (hsplit : c.exceptionTable.toList = pre ++ x :: suf)
    (hpass : ∀ z ∈ pre, covers z pc = false ∨ (z.catchType ≠ 0 ∧ ∃ nm : String, (Cond.classLink own z.catchType nm).before args s = true ∧ va_Nc E nm s)) (hx : covers x pc = true) (h0 : x.catchType ≠ 0)
    (hlink : (Cond.classLink own x.catchType name).before args s = true) (hcast : (Cond.castable E name).before args s = true) (hcell : H[q]? = some ce) (hv : ce.vm = .none) (hcl : s.vm.findClass E = some ce.cls)
    (kk : W p l e R s m args below meth c H locs cells slots Q (F0 m x.handlerPc ls [.ref q])) : vx_W p l e R s m args below meth c H locs cells slots Q (F0 m pc ls rest) q := by
  intro T hT X
  have hpl : e.platform.magicAccessors = ({} : Platform).magicAccessors := by rw [X.admits.platform]
  obtain ⟨c3, c4, hc3, hc4, hasg⟩ := Cond.castable_spec hcast
  cases Option.some.inj (hc3.symm.trans hcl)
  obtain ⟨c5, hc5, hcl5⟩ := Cond.classLink_spec hown hlink e.platform hpl
  cases Option.some.inj (hc4.symm.trans hc5)
  obtain ⟨vm', X', st⟩ := X.thenCaughtThrough q (g := F0 m pc ls rest) rfl (Steps.refl _) (by rw [hT]; exact hcell) (by rw [hv]; rfl) (by obtain ⟨k9, h9, -⟩ := Vm.findClass_spec hcl; exact ⟨k9, h9⟩) pre x suf hsplit
    (fun z hz => by
      rcases hpass z hz with h | ⟨hz0, nm, hl1, hn1⟩
      · exact Or.inl h
      · obtain ⟨c6, hc6, hcl6⟩ := Cond.classLink_spec hown hl1 e.platform hpl
        obtain ⟨a8, b8, h1, h2, h3⟩ := hn1
        cases Option.some.inj (h1.symm.trans hcl)
        cases Option.some.inj (h2.symm.trans hc6)
        exact Or.inr ⟨hz0, _, hcl6, h3⟩) hx (Or.inr ⟨h0, c4, hcl5, hasg⟩)
  obtain ⟨t, a1, b1⟩ := kk (T.setVm vm') hT X'
  exact ⟨t, st.trans a1, b1⟩
end Rows
section Ends
variable {p : Program} {l : Launch} {e : Env} {R : Room} {s : State} {m : MethodId} {args : Array Value} {below : List Frame} {meth : Method} {c : Code} {H : Heap} {locs : List Loc} {cells slots : Nat} {Q : State → Prop}
variable {mc ms : Nat} {free : Addr → Prop} {A0 A1 : Nat → Prop} {H0 : Heap} {a : Array Value} {ls : Array Slot} {st0 rest : List Value}
variable {Qc : Array Value → State → Outcome → State → Prop} {XC : String → State → State → Prop}
/-- what a body that may throw owes at its end -/
def vx_MQ (below : List Frame) (Qc : Array Value → State → Outcome → State → Prop) (XC : String → State → State → Prop) (a : Array Value) (s : State) (mc ms : Nat) (free : Addr → Prop) : State → Prop := fun t =>
  ∃ o, t.status = .running ∧ Ended t below o ∧ vx_Q Qc XC mc ms free a s o t
theorem vx_ret {g : JFrame} {mc ms : Nat} (k : W p l e R s m args below meth c H locs cells slots (MQ below Qc args s mc ms free) g) : W p l e R s m args below meth c H locs cells slots (vx_MQ below Qc XC args s mc ms free) g := by
  intro T hT X
  obtain ⟨t, a1, o, b1, b2, b3, b4⟩ := k T hT X
  exact ⟨t, a1, o, b1, b2, Or.inl ⟨b3, b4⟩⟩
/-- not caught here: it goes on to the caller -/
theorem vx_widen {g : JFrame} {q : Addr} {k n : Nat} (h1 : cells ≤ k) (h2 : slots ≤ n) (kk : vx_W p l e R s m args below meth c H locs k n Q g q) : vx_W p l e R s m args below meth c H locs cells slots Q g q := fun T hT X => kk T hT (stand_widen X h1 h2)
theorem vx_out {pc : Nat} {E : String} {ce : Cell} {q : Addr} {mc ms : Nat} (hout : ∀ x ∈ c.exceptionTable.toList, covers x pc = false) (hlocks : meth.locks = false) (hcell : H[q]? = some ce) (hv : ce.vm = .none) (hcl : s.vm.findClass E = some ce.cls)
    (hx : ∀ t : State, t.heap = H → s.vm.Alike t.vm → XC E s t) (hf : ∀ z ∈ locs, free z.base) (hc : cells ≤ mc) (hs : slots ≤ ms) :
    vx_W p l e R s m args below meth c H locs cells slots (vx_MQ below Qc XC args s mc ms free) (F0 m pc ls rest) q := by
  intro T hT X
  obtain ⟨st1, hrun, hend, hW, hsm⟩ := X.leaveThrown q (g := F0 m pc ls rest) rfl rfl rfl hout hlocks
  have hcell9 : (T.setFrames (.throwing q :: below)).heap[q]? = some ce := by
    show T.heap[q]? = some ce
    rw [hT]; exact hcell
  exact ⟨_, st1, .threw q, hrun, hend, Or.inr ⟨q, rfl, E, ce, locs, hx _ hT hW.alike, hcell9, hv, hcl, hW, hsm.mono hc hs, hf⟩⟩
theorem vx_frame {U : State} {k n : Nat} (h : s.sameButNew ({ U with vm := s.vm } : State) locs k n) : s.heap.size ≤ U.heap.size ∧ ∀ q : Nat, q < s.heap.size → (∀ z ∈ locs, z.base ≠ q) → U.heap[q]? = s.heap[q]? := by
  obtain ⟨-, h2, -, -, -, h6⟩ := h
  refine ⟨h2, fun q hq hz => ?_⟩
  obtain ⟨c9, e1, e2, e3, e4⟩ := h6 q _ (Array.getElem?_eq_getElem hq)
  have hs : c9.slots = (s.heap[q]).slots := Array.ext_getElem? fun i => e4 i fun hm => hz _ hm rfl
  have h9 : c9 = s.heap[q] := by
    rw [hs] at e2
    exact e2
  have e5 : U.heap[q]? = some c9 := e1
  rw [e5, h9, Array.getElem?_eq_getElem hq]
/-- the words of a throw but the four that speak of the heap -/
def vx_no (w : Cond) : Bool := decide (w ≠ .isRef (.static Bundle.tN "UNASSIGNED_STACK" Bundle.steD)) && decide (w ≠ .isRef (.static Bundle.tN "SUPPRESSED_SENTINEL" Bundle.listD)) && decide (w ≠ .laysStatic Bundle.tN "UNASSIGNED_STACK" Bundle.steD) && decide (w ≠ .laysStatic Bundle.tN "SUPPRESSED_SENTINEL" Bundle.listD)
def vx_at0 (own : String) (ic : Nat) (X : String) (names : List String) : List Cond := (Bundle.ownAtoms0 own ic X names).filter vx_no
def vx_atS (own : String) (ic : Nat) (X : String) (names : List String) : List Cond := (Bundle.ownAtoms own ic X names).filter vx_no
/-- a word that the tables alone decide, or a good one -/
def vx_ot (w : Cond) : Bool := w.onTables || goodWord w
theorem vx_ot_at {args a' : Array Value} {s U : State} {w : Cond} (hW : s.WarmedH U.vm) (hvm : s.vm = U.vm) (hg : vx_ot w = true) (h : w.before args s = true) : w.before a' U = true := by
  simp only [vx_ot, Bool.or_eq_true] at hg
  rcases hg with hg | hg
  · exact va_tabs hg hvm h
  · exact word_at hW (good_of_word hg) h
/-- a list's words: the good ones out of the method's own list, the others by premises of their own -/
theorem vx_hat {args : Array Value} {s : State} {L B : List Cond} (h1 : ∀ w ∈ L.filter goodWord, w.before args s = true) (h2 : ∀ w ∈ L.filter (fun w => !goodWord w), w ∈ B) (h3 : ∀ w ∈ B, w.before args s = true) : ∀ w ∈ L, w.before args s = true := by
  intro w hw
  by_cases g : goodWord w = true
  · exact h1 w (List.mem_filter.mpr ⟨hw, g⟩)
  · refine h3 w (h2 w (List.mem_filter.mpr ⟨hw, ?_⟩))
    show (!goodWord w) = true
    cases hgw : goodWord w
    · rfl
    · exact absurd hgw g
theorem vx_c {args : Array Value} {s : State} {w : Cond} {B : List Cond} (h : w.before args s = true) (t : ∀ w ∈ B, w.before args s = true) : ∀ w' ∈ w :: B, w'.before args s = true := fun w' h' => (List.mem_cons.mp h').elim (fun e => by rw [e]; exact h) (t w')
theorem vx_n {args : Array Value} {s : State} : ∀ w ∈ ([] : List Cond), w.before args s = true := fun _ h => nomatch h
theorem vx_own {args : Array Value} {s : State} {L : List Cond} (h1 : ∀ w ∈ L.filter vx_no, w.before args s = true)
    (hU : (Cond.isRef (.static Bundle.tN "UNASSIGNED_STACK" Bundle.steD)).before args s = true) (hN : (Cond.isRef (.static Bundle.tN "SUPPRESSED_SENTINEL" Bundle.listD)).before args s = true)
    (lU : (Cond.laysStatic Bundle.tN "UNASSIGNED_STACK" Bundle.steD).before args s = true) (lN : (Cond.laysStatic Bundle.tN "SUPPRESSED_SENTINEL" Bundle.listD).before args s = true) : ∀ w ∈ L, w.before args s = true := by
  intro w hw
  by_cases e1 : w = .isRef (.static Bundle.tN "UNASSIGNED_STACK" Bundle.steD)
  · rw [e1]; exact hU
  · by_cases e2 : w = .isRef (.static Bundle.tN "SUPPRESSED_SENTINEL" Bundle.listD)
    · rw [e2]; exact hN
    · by_cases e3 : w = .laysStatic Bundle.tN "UNASSIGNED_STACK" Bundle.steD
      · rw [e3]; exact lU
      · by_cases e4 : w = .laysStatic Bundle.tN "SUPPRESSED_SENTINEL" Bundle.listD
        · rw [e4]; exact lN
        · exact h1 w (List.mem_filter.mpr ⟨hw, by unfold vx_no; rw [decide_eq_true e1, decide_eq_true e2, decide_eq_true e3, decide_eq_true e4]; rfl⟩)
/-- where a static field lies, its class's statics cell in H -/
def vx_L (C n d : String) (A : Nat → Prop) (U : State) (H : Heap) : Prop := ∃ (c : ClassId) (k : Class) (i : Nat) (f : Field) (a : Nat) (cell : Cell), U.vm.findClass C = some c ∧ U.fieldFound? C n d = some (c, k, i, f) ∧ f.isStatic = true ∧ k.statics = some a ∧ H[a]? = some cell ∧ cell.vm.isStatics = true ∧ cell.cls = c ∧ f.slot < cell.slots.size ∧ k.staticTypes[f.slot]? = some f.type ∧ ¬ A a
theorem vx_L.moved {C n d : String} {A : Nat → Prop} {u U : State} {H : Heap} (hvm : u.vm.Alike U.vm) (h : vx_L C n d A u H) : vx_L C n d A U H := by
  obtain ⟨c, k, i, f, a, cell, h1, h2, h3, h4, h5, h6, h7, h8, h9, h10⟩ := h
  obtain ⟨k', hi', he⟩ := State.fieldFound?_setVm hvm h2
  exact ⟨c, k', i, f, a, cell, by rw [hvm.findClass]; exact h1, hi', h3, by rw [he]; exact h4, h5, h6, h7, h8, by rw [he]; exact h9, h10⟩
theorem vx_L.kept {C n d : String} {A : Nat → Prop} {U : State} {H H1 : Heap} (h : vx_L C n d A U H) (hq : ∀ a : Nat, a < H.size → ¬ A a → H1[a]? = H[a]?) : vx_L C n d A U H1 := by
  obtain ⟨c, k, i, f, a, cell, h1, h2, h3, h4, h5, h6, h7, h8, h9, h10⟩ := h
  exact ⟨c, k, i, f, a, cell, h1, h2, h3, h4, by rw [hq a (Array.getElem?_eq_some_iff.mp h5).1 h10]; exact h5, h6, h7, h8, h9, h10⟩
theorem vx_L.narrow {C n d : String} {A B : Nat → Prop} {U : State} {H : Heap} (h : vx_L C n d A U H) (hAB : ∀ q, B q → A q) : vx_L C n d B U H := by
  obtain ⟨c, k, i, f, a, cell, h1, h2, h3, h4, h5, h6, h7, h8, h9, h10⟩ := h
  exact ⟨c, k, i, f, a, cell, h1, h2, h3, h4, h5, h6, h7, h8, h9, fun z => h10 (hAB _ z)⟩
theorem vx_L.word {C n d : String} {A : Nat → Prop} {s : State} {args : Array Value} (h : vx_L C n d A s s.heap) : (Cond.laysStatic C n d).before args s = true := by
  obtain ⟨c, k, i, f, a, cell, h1, h2, h3, h4, h5, h6, h7, h8, h9, -⟩ := h
  show (Cond.laysStatic C n d).holds args s none s [] = true
  exact Cond.laysStatic_of h1 h2 h3 h4 h5 h6 h7 h8 h9
/-- .. and what it holds: null or some reference -/
def vx_Zq (C n d : String) (A : Nat → Prop) (U : State) (H : Heap) : Prop := va_Zq C n d A U H ∧ vx_L C n d A U H
theorem vx_Zq.moved {C n d : String} {A : Nat → Prop} {u U : State} {H : Heap} (hvm : u.vm.Alike U.vm) (h : vx_Zq C n d A u H) : vx_Zq C n d A U H := ⟨va_Zq.moved hvm h.1, vx_L.moved hvm h.2⟩
theorem vx_Zq.kept {C n d : String} {A : Nat → Prop} {U : State} {H H1 : Heap} (h : vx_Zq C n d A U H) (hq : ∀ a : Nat, a < H.size → ¬ A a → H1[a]? = H[a]?) : vx_Zq C n d A U H1 := ⟨va_Zq.kept h.1 hq, vx_L.kept h.2 hq⟩
theorem vx_Zq.narrow {C n d : String} {A B : Nat → Prop} {U : State} {H : Heap} (h : vx_Zq C n d A U H) (hAB : ∀ q, B q → A q) : vx_Zq C n d B U H := ⟨va_Zq.narrow h.1 hAB, vx_L.narrow h.2 hAB⟩
theorem vx_Zqof {args : Array Value} {s : State} {C n d : String} {A : Nat → Prop} (hl : (Cond.laysStatic C n d).before args s = true) (hini : (Cond.initialized C).before args s = true) (h : (Cond.isRef (.static C n d)).before args s = true) (hA : ∀ a : Nat, a < s.heap.size → ¬ A a) : vx_Zq C n d A s s.heap := by
  refine ⟨va_Zqof hl hini h hA, ?_⟩
  obtain ⟨c, k, i, f, a, cell, h1, h2, h3, h4, h5, h6, h7, h8, h9⟩ := Cond.laysStatic_spec hl
  exact ⟨c, k, i, f, a, cell, h1, h2, h3, h4, h5, h6, h7, h8, h9, hA a (Array.getElem?_eq_some_iff.mp h5).1⟩
theorem vx_isRef {C n d : String} {v : Value} {A : Nat → Prop} {s : State} {args : Array Value} (h : va_Z C n d v A s s.heap) (hv : v.isRef = true) : (Cond.isRef (.static C n d)).before args s = true := by
  obtain ⟨cf, kf, fi, f, a, cell, h1, h2, h3, h4, h5, h6, h7, -⟩ := h
  have he : (Term.static C n d).eval args s none [] s = some v := by
    simp [Term.eval, State.fieldNamed?, h1, h2, h4, h5, h6, h7]
  simp only [Cond.before, Cond.holds, Cond.value, he]
  cases v <;> simp_all [Value.isRef]
theorem vx_isRefq {C n d : String} {A : Nat → Prop} {s : State} {args : Array Value} (h : va_Zq C n d A s s.heap) : (Cond.isRef (.static C n d)).before args s = true := by
  rcases h with h | ⟨t, h⟩
  · exact vx_isRef h rfl
  · exact vx_isRef h rfl
/-- the same frame, seen from here: as if the method were called anew in this heap -/
theorem vx_rebase {T : State} (X : Stand p l e R s m args below meth c T locs cells slots) {R' : Room} (hf : R'.frames ≤ R.frames) (hl : R'.locals ≤ R.locals) (hc : cells + R'.cells ≤ R.cells) (hs : slots + R'.slots ≤ R.slots) :
    Stand p l e R' ((T.setVm s.vm).setFrames (.invoking m args :: below)) m args below meth c T [] 0 0 := by
  have htop : (T.setVm s.vm).topJava?.isSome := X.here.top
  have hF : ((T.setVm s.vm).setFrames (.invoking m args :: below)).frames = .invoking m args :: below := State.frames_setFrames _ (State.cur_lt_of_top htop)
  obtain ⟨g₀, hg0⟩ := Option.isSome_iff_exists.mp htop
  obtain ⟨r, hr⟩ := State.topJava?_eq_some.mp hg0
  have hl9 : e.platform.stackLimits (T.setVm s.vm).me = e.platform.stackLimits s.me := X.limits
  have hb9 : (T.setVm s.vm).me.stackBytes = s.me.stackBytes := X.bytes
  refine ⟨X.admits, X.cas, X.clock, hF, ?_, X.hears, X.method, X.code, X.here, X.tail, X.warmed, ?_, ?_, ?_⟩
  · have h := X.room
    have hU : ((T.setVm s.vm).setFrames (.invoking m args :: below)).localsInUse = s.localsInUse := by
      rw [State.localsInUse_invoking hF (meth := meth) (c := c) X.method X.code, State.localsInUse_invoking X.frames X.method X.code]
    simp only [State.hasRoom, Bool.and_eq_true, decide_eq_true_eq] at h ⊢
    obtain ⟨⟨⟨⟨h1, h2, h3, h4, h5, h6⟩, h7⟩, h8⟩, h9⟩ := h
    rw [X.frames, List.length_cons] at h2 h3
    have q1 := X.heapSize
    have q2 := X.used
    simp only [hF, hU, List.length_cons, State.stackLimits_setFrames, State.stackBytes_setFrames, hl9, hb9]
    refine ⟨⟨⟨⟨by omega, by omega, by omega, by omega, by omega, h6⟩, ?_⟩, ?_⟩, X.book⟩
    · show T.heap.size + R'.cells ≤ e.platform.maxCells
      omega
    · show T.slotsUsed + R'.slots ≤ e.platform.maxSlots
      omega
  · rw [State.stackLimits_setFrames]; rfl
  · rw [State.stackBytes_setFrames]; rfl
  · refine ⟨?_, Nat.le_refl _, Nat.le_refl _, ?_, ?_, fun a c9 h9 => ⟨c9, h9, rfl, rfl, fun _ _ => rfl⟩⟩
    · obtain ⟨t, ht, -⟩ := State.frames_cons hr
      show T.setVm s.vm = { ((T.setVm s.vm).setFrames (.invoking m args :: below)).setFrames (T.setVm s.vm).frames with heap := T.heap, slotsUsed := T.slotsUsed }
      rw [State.setFrames_setFrames, State.setFrames_self ht]
      rfl
    · show T.slotsUsed = T.slotsUsed + ((T.heap.toList.drop T.heap.size).map (·.slots.size)).sum
      rw [List.drop_eq_nil_of_le (Nat.le_of_eq Array.length_toList)]
      rfl
    · show ((T.heap.toList.drop T.heap.size).map (·.slots.size)).sum ≤ 0
      rw [List.drop_eq_nil_of_le (Nat.le_of_eq Array.length_toList)]
      exact Nat.le_refl _
/-- 'throw new E()': new; dup; invokespecial; athrow -/
theorem vx_throw0 {cc : ByteArray} {pc : Nat} (hexec : p.tables.exec = Jvm.exec) (hb : c.code = cc) (hl : l.stackTraces = false) {own cls : String} {names : List String} {ik ic mc ms : Nat} {A : Nat → Prop}
    (hown : s.vm.findClass own = some m.cls) (hcls : Bundle.fit cls = true) (hnames : ∀ n ∈ names, Bundle.fit n = true)
    (hk : (Cond.classLink own ik cls).before args s = true) (hini : (Cond.initialized cls).before args s = true) (hat : ∀ w ∈ vx_at0 own ic cls names, w.before args s = true)
    (hgood : ∀ w ∈ Cond.classLink own ik cls :: Cond.initialized cls :: vx_at0 own ic cls names, vx_ot w = true)
    (hU : vx_Zq Bundle.tN "UNASSIGNED_STACK" Bundle.steD A s s.heap) (hN : vx_Zq Bundle.tN "SUPPRESSED_SENTINEL" Bundle.listD A s s.heap) (hS : va_S A s.heap H locs) (hsize : ls.size = c.maxLocals)
    (d0 : decode cc pc = .ok (.new ik, 3)) (d3 : decode cc (pc + 3) = .ok (.dup, 1)) (d4 : decode cc (pc + 4) = .ok (.invokespecial ic, 3)) (d7 : decode cc (pc + 7) = .ok (.athrow, 1))
    (hout : ∀ x ∈ c.exceptionTable.toList, covers x (pc + 7) = false)
    (hRframes : names.length + 3 < R.frames) (hRlocals : (rest.map fun v => v.category).sum + (13 * (names.length + 1) + 42) ≤ R.locals) (hRcells : cells + 1 ≤ R.cells) (hRslots : slots + 6 ≤ R.slots) (hlocks : meth.locks = false)
    (hx : ∀ t : State, s.vm.Alike t.vm → H.size ≤ t.heap.size → (∀ q : Nat, q < H.size → t.heap[q]? = H[q]?) → XC cls s t)
    (hf : ∀ z ∈ locs, free z.base) (hc : cells + 1 ≤ mc) (hs : slots + 6 ≤ ms) :
    W p l e R s m args below meth c H locs cells slots (vx_MQ below Qc XC args s mc ms free) (F0 m pc ls rest) := by
  intro T hT X
  have htr : e.platform.stackTraces = false := (show e.platform.stackTraces = l.stackTraces by rw [X.admits.platform]).trans hl
  have Y := vx_rebase X (R' := { frames := R.frames, locals := R.locals, cells := 1, slots := 6 }) (Nat.le_refl _) (Nat.le_refl _) hRcells hRslots
  obtain ⟨s', hA⟩ : ∃ z, z = (T.setVm s.vm).setFrames (.invoking m args :: below) := ⟨_, rfl⟩
  rw [← hA] at Y
  have hvm : s'.vm = s.vm := by rw [hA]; rfl
  have hhp : s'.heap = H := by rw [hA]; exact hT
  have hW0 : s.WarmedH s'.vm := by rw [hvm]; exact State.WarmedH.refl s
  have hat' : ∀ w ∈ vx_at0 own ic cls names, w.before args s' = true := fun w hw => vx_ot_at hW0 hvm.symm (hgood w (List.mem_cons_of_mem _ (List.mem_cons_of_mem _ hw))) (hat w hw)
  have hk' : (Cond.classLink own ik cls).before args s' = true := vx_ot_at hW0 hvm.symm (hgood _ List.mem_cons_self) hk
  have hini' : (Cond.initialized cls).before args s' = true := vx_ot_at hW0 hvm.symm (hgood _ (List.mem_cons_of_mem _ List.mem_cons_self)) hini
  have hU' : vx_Zq Bundle.tN "UNASSIGNED_STACK" Bundle.steD A s' s'.heap := by rw [hhp]; exact vx_Zq.moved hW0.alike (hU.kept hS.2.1)
  have hN' : vx_Zq Bundle.tN "SUPPRESSED_SENTINEL" Bundle.listD A s' s'.heap := by rw [hhp]; exact vx_Zq.moved hW0.alike (hN.kept hS.2.1)
  have h : ∀ w ∈ Bundle.ownAtoms0 own ic cls names, w.before args s' = true := vx_own hat' (vx_isRefq hU'.1) (vx_isRefq hN'.1) hU'.2.word hN'.2.word
  have hown' : s'.vm.findClass own = some m.cls := by rw [hvm]; exact hown
  have hins : (Cond.instantiable cls 6).before args s' = true := h _ (by simp [Bundle.ownAtoms0])
  obtain ⟨vm₁, cX, kX, hfX, hkX, -, -, X₁, st1⟩ := Y.newCold hexec (own := own) (C := cls) (index := ik) (n := 6) hown' hk' hins hini'
    (g := F0 m pc ls rest) rfl (by rw [hb]; exact d0) (Nat.le_refl _) (Nat.le_refl _)
  generalize hT1 : (T.setVm vm₁).pushCell { cls := cX, slots := kX.instanceTypes.map defaultValue, vm := .none } = T1 at X₁ st1
  have hcat : (Value.ref T.heap.size).category = 1 := rfl
  have hcellA : T1.heap[T.heap.size]? = some (freshCell cX kX) := by rw [← hT1]; exact State.heap_pushCell_size _ _
  have d3' : decode c.code (pc + 3) = .ok (.dup, 1) := by rw [hb]; exact d3
  obtain ⟨U, hsteps, hrun, hend, hW, hsame, ce, hce, hO⟩ := X₁.ctorThrow0 hexec htr (own := own) (cls := cls) (names := names) (ic := ic) hown' hcls hnames h (fun x hx => nomatch hx) hfX hkX hcellA (by rw [hhp, hT]; exact Nat.le_refl _)
    (g := { method := m, pc := pc + 4, locals := ls, stack := .ref T.heap.size :: .ref T.heap.size :: rest, locked := none }) rfl hsize rfl rfl (rest := rest) rfl
    (by rw [hb]; exact d4) (by rw [hb]; exact d7) hout hRframes (by simp only [List.map_cons, List.sum_cons, hcat]; omega) hlocks
  obtain ⟨f1, f2⟩ := vx_frame hsame
  rw [hhp] at f1 f2
  have hWs : s.WarmedH U.vm := State.WarmedH.trans hW0 hW
  have hcl : s.vm.findClass cls = some ce.cls := by
    have h9 := hO.cls
    rw [hvm] at h9
    exact h9
  have hall : s.sameButNew ({ U with vm := s.vm } : State) locs mc ms := by
    subst hA
    obtain ⟨e1, e2⟩ := hsame
    rw [State.setFrames_setFrames] at e1
    have h2 : (T.setVm s.vm).sameButNew ({ U with vm := s.vm } : State) [] (0 + 1) (0 + 6) := ⟨e1, e2⟩
    have h3 := X.same.trans h2
    rw [List.append_nil] at h3
    exact h3.mono hc hs
  refine ⟨U, ?_, .threw T.heap.size, hrun, hend, Or.inr ⟨T.heap.size, rfl, cls, ce, locs, hx U hWs.alike f1 (fun q hq => f2 q hq (fun z hz => nomatch hz)), hce, hO.vm, hcl, hWs, hall, hf⟩⟩
  refine st1 _ ?_
  show Steps p.tables e below (T1.setTop { method := m, pc := pc + 3, locals := ls, stack := .ref T.heap.size :: rest, locked := none }) _
  jvm_step X₁.here [X₁.here.top, hexec, d3', Value.category]
  exact hsteps
/-- 'throw new E("text")': new; dup; ldc; invokespecial; athrow -/
theorem vx_throwS {cc : ByteArray} {pc : Nat} (hexec : p.tables.exec = Jvm.exec) (hb : c.code = cc) (hl : l.stackTraces = false) {own cls text : String} {names : List String} {ik is ic mc ms sa : Nat} {A : Nat → Prop}
    (hown : s.vm.findClass own = some m.cls) (hcls : Bundle.fit cls = true) (hnames : ∀ n ∈ names, Bundle.fit n = true)
    (hk : (Cond.classLink own ik cls).before args s = true) (hini : (Cond.initialized cls).before args s = true) (hstr : vk_R own is text sa s) (hat : ∀ w ∈ vx_atS own ic cls names, w.before args s = true)
    (hgood : ∀ w ∈ Cond.classLink own ik cls :: Cond.initialized cls :: vx_atS own ic cls names, vx_ot w = true)
    (hU : vx_Zq Bundle.tN "UNASSIGNED_STACK" Bundle.steD A s s.heap) (hN : vx_Zq Bundle.tN "SUPPRESSED_SENTINEL" Bundle.listD A s s.heap) (hS : va_S A s.heap H locs) (hsize : ls.size = c.maxLocals)
    (d0 : decode cc pc = .ok (.new ik, 3)) (d3 : decode cc (pc + 3) = .ok (.dup, 1)) (d4 : decode cc (pc + 4) = .ok (.ldc is, 2)) (d6 : decode cc (pc + 6) = .ok (.invokespecial ic, 3)) (d9 : decode cc (pc + 9) = .ok (.athrow, 1))
    (hout : ∀ x ∈ c.exceptionTable.toList, covers x (pc + 9) = false)
    (hRframes : names.length + 3 < R.frames) (hRlocals : (rest.map fun v => v.category).sum + (13 * (names.length + 1) + 43) ≤ R.locals) (hRcells : cells + 1 ≤ R.cells) (hRslots : slots + 6 ≤ R.slots) (hlocks : meth.locks = false)
    (hx : ∀ t : State, s.vm.Alike t.vm → H.size ≤ t.heap.size → (∀ q : Nat, q < H.size → t.heap[q]? = H[q]?) → XC cls s t)
    (hf : ∀ z ∈ locs, free z.base) (hc : cells + 1 ≤ mc) (hs : slots + 6 ≤ ms) :
    W p l e R s m args below meth c H locs cells slots (vx_MQ below Qc XC args s mc ms free) (F0 m pc ls rest) := by
  intro T hT X
  have htr : e.platform.stackTraces = false := (show e.platform.stackTraces = l.stackTraces by rw [X.admits.platform]).trans hl
  have Y := vx_rebase X (R' := { frames := R.frames, locals := R.locals, cells := 1, slots := 6 }) (Nat.le_refl _) (Nat.le_refl _) hRcells hRslots
  obtain ⟨s', hA⟩ : ∃ z, z = (T.setVm s.vm).setFrames (.invoking m args :: below) := ⟨_, rfl⟩
  rw [← hA] at Y
  have hvm : s'.vm = s.vm := by rw [hA]; rfl
  have hhp : s'.heap = H := by rw [hA]; exact hT
  have hW0 : s.WarmedH s'.vm := by rw [hvm]; exact State.WarmedH.refl s
  have hat' : ∀ w ∈ vx_atS own ic cls names, w.before args s' = true := fun w hw => vx_ot_at hW0 hvm.symm (hgood w (List.mem_cons_of_mem _ (List.mem_cons_of_mem _ hw))) (hat w hw)
  have hk' : (Cond.classLink own ik cls).before args s' = true := vx_ot_at hW0 hvm.symm (hgood _ List.mem_cons_self) hk
  have hini' : (Cond.initialized cls).before args s' = true := vx_ot_at hW0 hvm.symm (hgood _ (List.mem_cons_of_mem _ List.mem_cons_self)) hini
  have hU' : vx_Zq Bundle.tN "UNASSIGNED_STACK" Bundle.steD A s' s'.heap := by rw [hhp]; exact vx_Zq.moved hW0.alike (hU.kept hS.2.1)
  have hN' : vx_Zq Bundle.tN "SUPPRESSED_SENTINEL" Bundle.listD A s' s'.heap := by rw [hhp]; exact vx_Zq.moved hW0.alike (hN.kept hS.2.1)
  have h : ∀ w ∈ Bundle.ownAtoms own ic cls names, w.before args s' = true := vx_own hat' (vx_isRefq hU'.1) (vx_isRefq hN'.1) hU'.2.word hN'.2.word
  have hown' : s'.vm.findClass own = some m.cls := by rw [hvm]; exact hown
  have hins : (Cond.instantiable cls 6).before args s' = true := h _ (by simp [Bundle.ownAtoms])
  obtain ⟨vm₁, cX, kX, hfX, hkX, -, -, X₁, st1⟩ := Y.newCold hexec (own := own) (C := cls) (index := ik) (n := 6) hown' hk' hins hini'
    (g := F0 m pc ls rest) rfl (by rw [hb]; exact d0) (Nat.le_refl _) (Nat.le_refl _)
  generalize hT1 : (T.setVm vm₁).pushCell { cls := cX, slots := kX.instanceTypes.map defaultValue, vm := .none } = T1 at X₁ st1
  have hcat : (Value.ref T.heap.size).category = 1 := rfl
  have hcellA : T1.heap[T.heap.size]? = some (freshCell cX kX) := by rw [← hT1]; exact State.heap_pushCell_size _ _
  have d3' : decode c.code (pc + 3) = .ok (.dup, 1) := by rw [hb]; exact d3
  have d4' : decode c.code (pc + 4) = .ok (.ldc is, 2) := by rw [hb]; exact d4
  have hstr' : vk_R own is text sa s' := vk_R.warm hW0 hstr
  obtain ⟨U, hsteps, hrun, hend, hW, hsame, ce, hce, hO⟩ := X₁.ctorThrowS hexec htr (own := own) (cls := cls) (names := names) (ic := ic) hown' hcls hnames h (fun x hx => nomatch hx) hfX hkX hcellA (by rw [hhp, hT]; exact Nat.le_refl _) (msg := .ref sa) rfl
    (g := { method := m, pc := pc + 6, locals := ls, stack := .ref sa :: .ref T.heap.size :: .ref T.heap.size :: rest, locked := none }) rfl hsize rfl rfl (rest := rest) rfl
    (by rw [hb]; exact d6) (by rw [hb]; exact d9) hout hRframes (by simp only [List.map_cons, List.sum_cons, hcat]; omega) hlocks
  obtain ⟨f1, f2⟩ := vx_frame hsame
  rw [hhp] at f1 f2
  have hWs : s.WarmedH U.vm := State.WarmedH.trans hW0 hW
  have hcl : s.vm.findClass cls = some ce.cls := by
    have h9 := hO.cls
    rw [hvm] at h9
    exact h9
  have hall : s.sameButNew ({ U with vm := s.vm } : State) locs mc ms := by
    subst hA
    obtain ⟨e1, e2⟩ := hsame
    rw [State.setFrames_setFrames] at e1
    have h2 : (T.setVm s.vm).sameButNew ({ U with vm := s.vm } : State) [] (0 + 1) (0 + 6) := ⟨e1, e2⟩
    have h3 := X.same.trans h2
    rw [List.append_nil] at h3
    exact h3.mono hc hs
  refine ⟨U, ?_, .threw T.heap.size, hrun, hend, Or.inr ⟨T.heap.size, rfl, cls, ce, locs, hx U hWs.alike f1 (fun q hq => f2 q hq (fun z hz => nomatch hz)), hce, hO.vm, hcl, hWs, hall, hf⟩⟩
  refine st1 _ ?_
  show Steps p.tables e below (T1.setTop { method := m, pc := pc + 3, locals := ls, stack := .ref T.heap.size :: rest, locked := none }) _
  jvm_step X₁.here [X₁.here.top, hexec, d3', Value.category]
  exact X₁.ldcString hexec (own := own) (text := text) (index := is) (a := sa) hown' hstr'.1 hstr'.2
    (g := { method := m, pc := pc + 4, locals := ls, stack := .ref T.heap.size :: .ref T.heap.size :: rest, locked := none }) rfl d4' _ hsteps
/-- 'throw new E("text")', the text by a wide index -/
theorem vx_throwSW {cc : ByteArray} {pc : Nat} (hexec : p.tables.exec = Jvm.exec) (hb : c.code = cc) (hl : l.stackTraces = false) {own cls text : String} {names : List String} {ik is ic mc ms sa : Nat} {A : Nat → Prop}
    (hown : s.vm.findClass own = some m.cls) (hcls : Bundle.fit cls = true) (hnames : ∀ n ∈ names, Bundle.fit n = true)
    (hk : (Cond.classLink own ik cls).before args s = true) (hini : (Cond.initialized cls).before args s = true) (hstr : vk_R own is text sa s) (hat : ∀ w ∈ vx_atS own ic cls names, w.before args s = true)
    (hgood : ∀ w ∈ Cond.classLink own ik cls :: Cond.initialized cls :: vx_atS own ic cls names, vx_ot w = true)
    (hU : vx_Zq Bundle.tN "UNASSIGNED_STACK" Bundle.steD A s s.heap) (hN : vx_Zq Bundle.tN "SUPPRESSED_SENTINEL" Bundle.listD A s s.heap) (hS : va_S A s.heap H locs) (hsize : ls.size = c.maxLocals)
    (d0 : decode cc pc = .ok (.new ik, 3)) (d3 : decode cc (pc + 3) = .ok (.dup, 1)) (d4 : decode cc (pc + 4) = .ok (.ldc_w is, 3)) (d7 : decode cc (pc + 7) = .ok (.invokespecial ic, 3)) (d10 : decode cc (pc + 10) = .ok (.athrow, 1))
    (hout : ∀ x ∈ c.exceptionTable.toList, covers x (pc + 10) = false)
    (hRframes : names.length + 3 < R.frames) (hRlocals : (rest.map fun v => v.category).sum + (13 * (names.length + 1) + 43) ≤ R.locals) (hRcells : cells + 1 ≤ R.cells) (hRslots : slots + 6 ≤ R.slots) (hlocks : meth.locks = false)
    (hx : ∀ t : State, s.vm.Alike t.vm → H.size ≤ t.heap.size → (∀ q : Nat, q < H.size → t.heap[q]? = H[q]?) → XC cls s t)
    (hf : ∀ z ∈ locs, free z.base) (hc : cells + 1 ≤ mc) (hs : slots + 6 ≤ ms) :
    W p l e R s m args below meth c H locs cells slots (vx_MQ below Qc XC args s mc ms free) (F0 m pc ls rest) := by
  intro T hT X
  have htr : e.platform.stackTraces = false := (show e.platform.stackTraces = l.stackTraces by rw [X.admits.platform]).trans hl
  have Y := vx_rebase X (R' := { frames := R.frames, locals := R.locals, cells := 1, slots := 6 }) (Nat.le_refl _) (Nat.le_refl _) hRcells hRslots
  obtain ⟨s', hA⟩ : ∃ z, z = (T.setVm s.vm).setFrames (.invoking m args :: below) := ⟨_, rfl⟩
  rw [← hA] at Y
  have hvm : s'.vm = s.vm := by rw [hA]; rfl
  have hhp : s'.heap = H := by rw [hA]; exact hT
  have hW0 : s.WarmedH s'.vm := by rw [hvm]; exact State.WarmedH.refl s
  have hat' : ∀ w ∈ vx_atS own ic cls names, w.before args s' = true := fun w hw => vx_ot_at hW0 hvm.symm (hgood w (List.mem_cons_of_mem _ (List.mem_cons_of_mem _ hw))) (hat w hw)
  have hk' : (Cond.classLink own ik cls).before args s' = true := vx_ot_at hW0 hvm.symm (hgood _ List.mem_cons_self) hk
  have hini' : (Cond.initialized cls).before args s' = true := vx_ot_at hW0 hvm.symm (hgood _ (List.mem_cons_of_mem _ List.mem_cons_self)) hini
  have hU' : vx_Zq Bundle.tN "UNASSIGNED_STACK" Bundle.steD A s' s'.heap := by rw [hhp]; exact vx_Zq.moved hW0.alike (hU.kept hS.2.1)
  have hN' : vx_Zq Bundle.tN "SUPPRESSED_SENTINEL" Bundle.listD A s' s'.heap := by rw [hhp]; exact vx_Zq.moved hW0.alike (hN.kept hS.2.1)
  have h : ∀ w ∈ Bundle.ownAtoms own ic cls names, w.before args s' = true := vx_own hat' (vx_isRefq hU'.1) (vx_isRefq hN'.1) hU'.2.word hN'.2.word
  have hown' : s'.vm.findClass own = some m.cls := by rw [hvm]; exact hown
  have hins : (Cond.instantiable cls 6).before args s' = true := h _ (by simp [Bundle.ownAtoms])
  obtain ⟨vm₁, cX, kX, hfX, hkX, -, -, X₁, st1⟩ := Y.newCold hexec (own := own) (C := cls) (index := ik) (n := 6) hown' hk' hins hini'
    (g := F0 m pc ls rest) rfl (by rw [hb]; exact d0) (Nat.le_refl _) (Nat.le_refl _)
  generalize hT1 : (T.setVm vm₁).pushCell { cls := cX, slots := kX.instanceTypes.map defaultValue, vm := .none } = T1 at X₁ st1
  have hcat : (Value.ref T.heap.size).category = 1 := rfl
  have hcellA : T1.heap[T.heap.size]? = some (freshCell cX kX) := by rw [← hT1]; exact State.heap_pushCell_size _ _
  have d3' : decode c.code (pc + 3) = .ok (.dup, 1) := by rw [hb]; exact d3
  have d4' : decode c.code (pc + 4) = .ok (.ldc_w is, 3) := by rw [hb]; exact d4
  have hstr' : vk_R own is text sa s' := vk_R.warm hW0 hstr
  obtain ⟨U, hsteps, hrun, hend, hW, hsame, ce, hce, hO⟩ := X₁.ctorThrowS hexec htr (own := own) (cls := cls) (names := names) (ic := ic) hown' hcls hnames h (fun x hx => nomatch hx) hfX hkX hcellA (by rw [hhp, hT]; exact Nat.le_refl _) (msg := .ref sa) rfl
    (g := { method := m, pc := pc + 7, locals := ls, stack := .ref sa :: .ref T.heap.size :: .ref T.heap.size :: rest, locked := none }) rfl hsize rfl rfl (rest := rest) rfl
    (by rw [hb]; exact d7) (by rw [hb]; exact d10) hout hRframes (by simp only [List.map_cons, List.sum_cons, hcat]; omega) hlocks
  obtain ⟨f1, f2⟩ := vx_frame hsame
  rw [hhp] at f1 f2
  have hWs : s.WarmedH U.vm := State.WarmedH.trans hW0 hW
  have hcl : s.vm.findClass cls = some ce.cls := by
    have h9 := hO.cls
    rw [hvm] at h9
    exact h9
  have hall : s.sameButNew ({ U with vm := s.vm } : State) locs mc ms := by
    subst hA
    obtain ⟨e1, e2⟩ := hsame
    rw [State.setFrames_setFrames] at e1
    have h2 : (T.setVm s.vm).sameButNew ({ U with vm := s.vm } : State) [] (0 + 1) (0 + 6) := ⟨e1, e2⟩
    have h3 := X.same.trans h2
    rw [List.append_nil] at h3
    exact h3.mono hc hs
  refine ⟨U, ?_, .threw T.heap.size, hrun, hend, Or.inr ⟨T.heap.size, rfl, cls, ce, locs, hx U hWs.alike f1 (fun q hq => f2 q hq (fun z hz => nomatch hz)), hce, hO.vm, hcl, hWs, hall, hf⟩⟩
  refine st1 _ ?_
  show Steps p.tables e below (T1.setTop { method := m, pc := pc + 3, locals := ls, stack := .ref T.heap.size :: rest, locked := none }) _
  jvm_step X₁.here [X₁.here.top, hexec, d3', Value.category]
  exact X₁.ldcStringW hexec (own := own) (text := text) (index := is) (a := sa) hown' hstr'.1 hstr'.2
    (g := { method := m, pc := pc + 4, locals := ls, stack := .ref T.heap.size :: .ref T.heap.size :: rest, locked := none }) rfl d4' _ hsteps
end Ends
section Bodies
variable {l : Launch}
theorem vx_ofW {y : MethodName} {ws ws' : List Cond} {rm : Room} {Pc : Array Value → State → Prop} {Qc : Array Value → State → Outcome → State → Prop} {XC : String → State → State → Prop} {mc ms : Nat} {free : Addr → Prop} {cc : ByteArray} {maxL : Nat} {ret : Option FieldType}
    (hy : plainName y.cls = true) (hw : ws = Cond.code y cc maxL ret :: ws')
    (body : ∀ p e s m args below meth c s₁, BodyLoose p l y (headSpec ws rm) cc maxL ret e s m args below meth c s₁ → c.maxLocals = maxL → (∀ x ∈ c.exceptionTable.toList, False) → Pc args s →
      W p l e (headSpec ws rm).room s m args below meth c s.heap [] 0 0 (vx_MQ below Qc XC args s mc ms free) (entryFrame m args maxL)) : vx_Met l y ws rm Pc Qc XC mc ms free := by
  refine MetFree.of_bodyS (code := cc) (maxLocals := maxL) (ret := ret) hy ?_ ?_
  · intro args s m h hn
    obtain ⟨meth, c, h1, h2, h3, h4, h5, h6, -, -⟩ := Cond.code_spec hn (atoms_spec (ws := ws) h _ (by rw [hw]; exact List.mem_cons_self))
    exact ⟨meth, c, h1, h2, h3, h4, h5, h6⟩
  · intro p e s m args below meth c s₁ B hml hP _
    have hh0 : s₁.heap = s.heap := by rw [B.state]; rfl
    have ht : ∀ x ∈ c.exceptionTable.toList, False := by
      obtain ⟨meth9, c9, h1, h2, -, -, -, -, h7, -⟩ := Cond.code_spec B.named (atoms_spec (ws := ws) B.pre _ (by rw [hw]; exact List.mem_cons_self))
      cases Option.some.inj (h1.symm.trans B.method)
      cases Option.some.inj (h2.symm.trans (Stand.of_body B).code)
      intro x hx
      rw [Array.isEmpty_iff.mp h7] at hx
      cases hx
    obtain ⟨t, a1, o, b1, b2, b3⟩ := body p e s m args below meth c s₁ B hml ht hP s₁ hh0 (Stand.of_body B)
    exact ⟨t, o, a1, b1, b2, b3⟩
/-- the table of a body with handlers -/
theorem vx_table {p : Program} {x y : MethodName} {S : Spec} {cc bytes : ByteArray} {maxL maxL' : Nat} {ret ret' : Option FieldType} {e : Env} {s s₁ : State} {m : MethodId} {args : Array Value} {below : List Frame} {meth : Method} {c : Code} {hh : List (Nat × Nat × Nat × Nat)}
    (B : BodyLoose p l y S cc maxL ret e s m args below meth c s₁) (h : (Cond.codeWith y bytes maxL' ret' hh).before args s = true) : c.exceptionTable.toList = tableOf hh := by
  obtain ⟨m9, meth9, c9, hn9, h1, h2, -, -, h6, -⟩ := Cond.codeWith_spec h
  cases Option.some.inj (hn9.symm.trans B.named)
  cases Option.some.inj (h1.symm.trans B.method)
  cases Option.some.inj (h2.symm.trans (Stand.of_body B).code)
  rw [← h6, table_eq]
end Bodies
end VXA
/-! ===== END ===== -/
/-! ===== BEGIN a static call of a method with an exception table ===== -/
section VXS
variable {p : Program} {l : Launch} {e : Env} {R : Room} {s : State} {m : MethodId} {args : Array Value} {below : List Frame} {meth : Method} {c : Code} {T : State} {H : Heap} {locs : List Loc} {cells slots : Nat}
abbrev vx_CSW (R : Room) (s : State) (args : Array Value) (own : String) (index : Nat) (y : MethodName) (bytes : ByteArray) (maxL : Nat) (ret : Option FieldType) (hh : List (Nat × Nat × Nat × Nat)) (ws : List Cond) (rm : Room) (mc ms n : Nat) : Prop :=
  (rm.cells = mc ∧ rm.slots = ms ∧ rm.frames + 1 ≤ R.frames ∧ 8 + (maxL + 11) + rm.locals ≤ R.locals ∧ (∀ w ∈ ws, ∀ (a' : Array Value) (U : State), s.WarmedH U.vm → w.before a' U = true) ∧ Cond.codeWith y bytes maxL ret hh ∈ ws) ∧
  (Cond.codeWith y bytes maxL ret hh).before args s = true ∧ (Cond.initialized y.cls).before args s = true ∧ (y.cls ≠ "java/lang/invoke/MethodHandle" ∧ y.cls ≠ "java/lang/invoke/VarHandle") ∧
  (∀ sig, parseMethodDescriptor y.desc = some sig → n = sig.parameters.length) ∧ (Cond.methodLink own index y).before args s = true ∧ (Cond.static y).before args s = true
theorem vx_cwSW {own : String} {index maxL mc ms : Nat} {y : MethodName} {bytes : ByteArray} {ret : Option FieldType} {hh : List (Nat × Nat × Nat × Nat)} {Ts ws ws' : List Cond} {rm : Room} (n : Nat) (ht : ∀ w ∈ Ts, w.before args s = true) (hT : GoodIn Ts (va_wsS own index y ws)) (hw : ws = Cond.codeWith y bytes maxL ret hh :: ws') (hrc : rm.cells = mc) (hrs : rm.slots = ms)
    (hd : y.cls ≠ "java/lang/invoke/MethodHandle" ∧ y.cls ≠ "java/lang/invoke/VarHandle" ∧ (parseMethodDescriptor y.desc).map (fun d => d.parameters.length) = some n) (hR : rm.frames + 1 ≤ R.frames ∧ 8 + (maxL + 11) + rm.locals ≤ R.locals) :
    vx_CSW R s args own index y bytes maxL ret hh ws rm mc ms n := by
  have ok : ∀ w ∈ va_wsS own index y ws, w.before args s = true := fun w h => ht w (hT w h).1
  have hG : GoodIn Ts ws := fun w h => hT w (by unfold va_wsS; exact List.mem_append_right _ h)
  have hc : Cond.codeWith y bytes maxL ret hh ∈ ws := by rw [hw]; exact List.mem_cons_self
  refine ⟨⟨hrc, hrs, hR.1, hR.2, pay_in ht hG, hc⟩, ht _ (hG _ hc).1, ok _ (by simp [va_wsS]), ⟨hd.1, hd.2.1⟩, fun sig h => ?_, ok _ (by simp [va_wsS]), ok _ (by simp [va_wsS])⟩
  have h2 := hd.2.2
  rw [h] at h2
  exact (Option.some.inj h2).symm
theorem vx_callSW (X : Stand p l e R s m args below meth c T locs cells slots) (hexec : p.tables.exec = Jvm.exec) {own : String} {index : Nat} {y : MethodName} {bytes : ByteArray} {maxL : Nat} {ret : Option FieldType} {hh : List (Nat × Nat × Nat × Nat)}
    (hown : s.vm.findClass own = some m.cls) (hlink : (Cond.methodLink own index y).before args s = true) (hstat : (Cond.static y).before args s = true) (hinit : (Cond.initialized y.cls).before args s = true)
    (hcode : (Cond.codeWith y bytes maxL ret hh).before args s = true) (hy : y.cls ≠ "java/lang/invoke/MethodHandle" ∧ y.cls ≠ "java/lang/invoke/VarHandle")
    {W9 : Nat} {Pre : Pt → Array Value → Prop} {Post : Pt → Array Value → Option Value → Pt → Prop} (hK : Back l R p e below s args y 3 W9 Pre Post)
    {g : JFrame} (hg : g.method = m) (hsize : g.locals.size = c.maxLocals) {argsL rest : List Value} (hlen : ∀ sig, parseMethodDescriptor y.desc = some sig → argsL.length = sig.parameters.length)
    (hstack : g.stack = argsL.reverse ++ rest) (hW : 2 * g.monitorRoom + (rest.map fun v => v.category).sum ≤ W9) (hdg : decode c.code g.pc = .ok (.invokestatic index, 3))
    (hpre : ∀ vm₁, s.WarmedH vm₁ → Pre ⟨T.setVm vm₁, locs, cells, slots⟩ argsL.toArray) :
    ∃ (v : Option Value) (vm₁ : Vm) (B : Pt), s.WarmedH vm₁ ∧ Stand p l e R s m args below meth c B.U B.locs B.cells B.slots ∧ Post ⟨T.setVm vm₁, locs, cells, slots⟩ argsL.toArray v B ∧
      ∀ target, Steps p.tables e below (B.U.setTop { g with pc := g.pc + 3, stack := v.toList ++ rest }) target → Steps p.tables e below (T.setTop g) target := by
  obtain ⟨mk, methM, cM, hnamed, hmethM, -, -, -, -, -, -, hsigM⟩ := Cond.codeWith_spec hcode
  have hstatic : methM.isStatic = true := Cond.static_spec hnamed hmethM hstat
  obtain ⟨kP, hkP, -⟩ := className_of_methodNamed hnamed
  have hinitP : kP.init = .initialized := Cond.initialized_spec (findClass_of_methodNamed hnamed) hkP hinit
  obtain ⟨vm₁, X₁, hstep₁⟩ := X.invokestatic hexec hown hlink hnamed hmethM hstatic hkP hinitP hy (g := g) hg (argsL := argsL) (rest := rest) (hlen _ hsigM) hstack hdg
  obtain ⟨v, B, X', hpost, hsteps⟩ := hK m meth c ⟨T.setVm vm₁, locs, cells, slots⟩ { g with stack := rest } (.invokestatic index) mk argsL.toArray X₁ hg hsize hdg hW (X₁.named hnamed) (hpre vm₁ X₁.warmed)
  exact ⟨v, vm₁, B, X₁.warmed, X', hpost, fun target h => hstep₁ _ fun acts => by rw [doInvoke_state]; exact hsteps.trans h⟩
theorem vx_runSW {y : MethodName} {bytes cc : ByteArray} {maxL nL mc ms n index : Nat} {ret : Option FieldType} {hh : List (Nat × Nat × Nat × Nat)} {ws : List Cond} {rm : Room} {Pc : Array Value → State → Prop} {Qc : Array Value → State → Outcome → State → Prop} {free : Addr → Prop} {Ts : List Cond} {own : String} {As rest : List Value} {g : JFrame}
    (S : CallFix p m c cc nL s args Ts own) (hM : Met l y ws rm Pc Qc mc ms free) (cw : vx_CSW R s args own index y bytes maxL ret hh ws rm mc ms n) (hp : PreS s H Pc As)
    (hg : g.method = m) (hn : As.length = n) (hsize : g.locals.size = nL) (hstack : g.stack = As.reverse ++ rest) (hW : 2 * g.monitorRoom + (rest.map fun v => v.category).sum ≤ 8) (hdg : decode cc g.pc = .ok (.invokestatic index, 3)) (hf : cells + mc ≤ R.cells ∧ slots + ms ≤ R.slots) :
    va_Run p l e R s m args below meth c H locs cells slots mc ms g rest (Qc As.toArray) (free) := by
  obtain ⟨⟨hrc, hrs, hfr, hlo, hws, hcw⟩, hcode, hini, hy, hlen, hl, hstt⟩ := cw
  have hK : Back l R p e below s args y 3 8 (PreOf R mc ms Pc) (PostOf Qc mc ms free) := va_backW (hh := hh) (bytes := bytes) (maxL := maxL) (ret := ret) hM hp.1 hrc hrs hfr hlo hws hcw (fun a' U hW => word_at hW (Or.inl (by first | rfl | simp [Cond.onTables, Cond.keeps, Cond.steady])) hini)
  obtain ⟨hx, hb, hml, ho, -⟩ := S
  intro T hT X
  obtain ⟨v, vm₁, ⟨U', l2, c2, s2⟩, hW₁, X', ⟨g', mk, t, L, e1, e2, hq, h1, hL, h2, h3⟩, st⟩ := vx_callSW X hx (hh := hh) (bytes := bytes) (maxL := maxL) (ret := ret) ho hl hstt hini hcode hy hK hg (hsize.trans hml.symm) (argsL := As) (rest := rest) (fun sig h => hn.trans (hlen sig h)) hstack hW (by rw [hb]; exact hdg)
    (fun vm₁ hW₁ => ⟨hf.1, hf.2, hp.2 (T.setVm vm₁) hT hW₁⟩)
  dsimp only [Pt.U, Pt.locs, Pt.cells, Pt.slots] at X' e1 e2 h1 h2 h3 st
  subst h1; subst h2; subst h3
  exact ⟨v, (T.setVm vm₁).calling g' mk As.toArray, t, U', L, hT, X', hL, e1, e2, hq, st⟩
/-- not caught here, past rows that name other classes: it goes on to the caller -/
theorem vx_outP {p : Program} {l : Launch} {e : Env} {R : Room} {s : State} {m : MethodId} {args : Array Value} {below : List Frame} {meth : Method} {c : Code} {H : Heap} {locs : List Loc} {cells slots : Nat} {free : Addr → Prop} {ls : Array Slot} {rest : List Value} {Qc : Array Value → State → Outcome → State → Prop} {XC : String → State → State → Prop}
    {pc : Nat} {own E : String} {ce : Cell} {q : Addr} {mc ms : Nat} (hown : s.vm.findClass own = some m.cls) (hlocks : meth.locks = false)
    (hpass : ∀ z ∈ c.exceptionTable.toList, covers z pc = false ∨ (z.catchType ≠ 0 ∧ ∃ nm : String, (Cond.classLink own z.catchType nm).before args s = true ∧ va_Nc E nm s)) (hcell : H[q]? = some ce) (hv : ce.vm = .none) (hcl : s.vm.findClass E = some ce.cls)
    (hx : ∀ t : State, t.heap = H → s.vm.Alike t.vm → XC E s t) (hf : ∀ z ∈ locs, free z.base) (hc : cells ≤ mc) (hs : slots ≤ ms) :
    vx_W p l e R s m args below meth c H locs cells slots (vx_MQ below Qc XC args s mc ms free) (F0 m pc ls rest) q := by
  intro T hT X
  have hpl : e.platform.magicAccessors = ({} : Platform).magicAccessors := by rw [X.admits.platform]
  obtain ⟨vm', hW', X', st⟩ := X.outThrough hlocks q (g := F0 m pc ls rest) rfl rfl rfl (cell := ce) (by rw [hT]; exact hcell) (by rw [hv]; rfl)
    (by obtain ⟨k9, h9, -⟩ := Vm.findClass_spec hcl; exact ⟨k9, h9⟩) (fun z hz => by
      rcases hpass z hz with h | ⟨hz0, nm, hl1, hn1⟩
      · exact Or.inl h
      · obtain ⟨c6, hc6, hcl6⟩ := Cond.classLink_spec hown hl1 e.platform hpl
        obtain ⟨a8, b8, h1, h2, h3⟩ := hn1
        cases Option.some.inj (h1.symm.trans hcl)
        cases Option.some.inj (h2.symm.trans hc6)
        exact Or.inr ⟨hz0, _, hcl6, h3⟩)
  obtain ⟨g₀, hfr⟩ := X'.frames_eq
  have hcell9 : ((T.setVm vm').setFrames (.throwing q :: below)).heap[q]? = some ce := by
    show T.heap[q]? = some ce
    rw [hT]; exact hcell
  have hend : Ended ((T.setVm vm').setFrames (.throwing q :: below)) below (.threw q) := State.frames_setFrames _ (State.cur_lt_of_frames hfr)
  refine ⟨(T.setVm vm').setFrames (.throwing q :: below), ?_, .threw q, X'.here.running, hend, Or.inr ⟨q, rfl, E, ce, locs, hx _ hT (X'.ends _).1.alike, hcell9, hv, hcl, (X'.ends _).1, (X'.ends _).2.mono hc hs, hf⟩⟩
  rw [X.pushThrowing_eq]
  exact st
/-- a thing of a world lies in the heap -/
theorem vx_lt {D : va_G} {cl : List vw_C} {ws : va_W} {H1 : Heap} (h : va_P D cl ws H1) {k : Nat} {q : Nat × va_E} (hk : ws[k]? = some q) : q.1 < H1.size := (h k q hk).lt
end VXS
/-! ===== END ===== -/
/-! ===== BEGIN methods with a table of their own: called by a name, returning or throwing ===== -/
section VXH
/-! vx_backW, vx_callVX, vx_callSX, vx_callVW, vx_runVW, vx_runVX, vx_runSX, vx_ofWH follow the same proofs as their sisters above (Free/Laws.lean, Shelf42/LK1.lean); vx_outP calls Shelf42/NT130.lean (outThrough). -/
section
variable {l : Launch} {R : Room} {p : Program} {e : Env} {below : List Frame} {s : State} {sargs : Array Value} {y : MethodName} {len W9 : Nat}
theorem vx_backW {ws : List Cond} {rm : Room} {Pc : Array Value → State → Prop} {Qc : Array Value → State → Outcome → State → Prop} {XC : String → State → State → Prop} {mc ms : Nat} {free : Addr → Prop} {bytes : ByteArray} {maxL : Nat} {ret : Option FieldType} {hh : List (Nat × Nat × Nat × Nat)}
    (hM : vx_Met l y ws rm Pc Qc XC mc ms free) (hblind : FrameBlind Pc) (hrc : rm.cells = mc) (hrs : rm.slots = ms)
    (hframes : rm.frames + 1 ≤ R.frames) (hlocals : W9 + (maxL + 11) + rm.locals ≤ R.locals)
    (hws : ∀ w ∈ ws, ∀ a' U, s.WarmedH U.vm → w.before a' U = true) (hcode : Cond.codeWith y bytes maxL ret hh ∈ ws) (hinit : ∀ a' U, s.WarmedH U.vm → (Cond.initialized y.cls).before a' U = true) :
    vx_Back l R p e below s sargs y len W9 (PreOf R mc ms Pc) (PostOf Qc mc ms free) (vx_Post XC mc ms free) := by
  intro m meth c A g ig mk a X hg hsize hdg hW hn hp
  have h1 : (headSpec ws rm).pre.before a A.U = true := atoms_intro fun w hw => hws w hw _ _ X.warmed
  have h2 : (Cond.codeWith y bytes maxL ret hh).before a A.U = true := hws _ hcode _ _ X.warmed
  have h3 : (Cond.initialized y.cls).before a A.U = true := hinit _ _ X.warmed
  have h4 : A.cells + (headSpec ws rm).room.cells ≤ R.cells := by rw [show (headSpec ws rm).room.cells = mc from hrc]; exact hp.1
  have h5 : A.slots + (headSpec ws rm).room.slots ≤ R.slots := by rw [show (headSpec ws rm).room.slots = ms from hrs]; exact hp.2.1
  have hPc : Pc a (A.U.calling g mk a) := hblind _ _ _ _ hp.2.2
  obtain ⟨U, Ls, c0, s0⟩ := A
  dsimp only [Pt.U, Pt.locs, Pt.cells, Pt.slots] at h1 h2 h3 h4 h5 X hn hPc ⊢
  obtain ⟨m9, methY, cY, hn9, hmY, hcY, -, hlY, -⟩ := Cond.codeWith_spec h2
  cases Option.some.inj (hn9.symm.trans hn)
  obtain ⟨kY, hkY, -⟩ := className_of_methodNamed hn
  have hinitY : kY.init = .initialized := Cond.initialized_spec (findClass_of_methodNamed hn) hkY h3
  have h : At U g.method c below := by rw [hg]; exact X.here
  have hlocals9 : W9 + (maxL + 11) + (headSpec ws rm).room.locals ≤ R.locals := hlocals
  have happ : (headSpec ws rm).appliesLoose y e.platform (U.calling g mk a) = true :=
    Spec.appliesLoose_calling (g := g) h hdg hn hkY hinitY
      (X.room_calling (g := g) (R' := (headSpec ws rm).room) hsize hmY hcY hframes (by rw [hlY]; omega) h4 h5) h1
  obtain ⟨mid, hmid⟩ := h.above
  have hfr : (U.setTop g).frames = (.java g :: mid) ++ below := by rw [State.frames_setTop' g h.top, hmid]; rfl
  obtain ⟨o, s₂, hsteps, -, hend, hq⟩ := Steps.callFree hM p X.admits X.cas X.clock (acts := []) hfr happ hPc trivial
  have hq' : vx_Q Qc XC mc ms free a (U.calling g mk a) o s₂ := hq
  rw [State.frames_setTop' g h.top] at hend
  obtain ⟨g₀, hg0⟩ := Option.isSome_iff_exists.mp h.top
  obtain ⟨r, hr⟩ := State.topJava?_eq_some.mp hg0
  have hr' : (({ U with heap := s₂.heap, slotsUsed := s₂.slotsUsed } : State).setVm s₂.vm).frames = .java g₀ :: r := hr
  rcases hq' with ⟨hqc, L, hfe, hL⟩ | ⟨q, rfl, E, ce, L, hx, hce, hcv, hcl, hW₂, hsm, hL⟩
  · obtain ⟨⟨v, rfl⟩, hW₂, e2, q2, q3, q4, q5, q6⟩ := id hfe
    have e3 : s₂ = ({ (U.calling g mk a).setFrames s₂.frames with heap := s₂.heap, slotsUsed := s₂.slotsUsed } : State).setVm s₂.vm := by
      have : s₂ = ({ s₂ with vm := (U.calling g mk a).vm } : State).setVm s₂.vm := rfl
      rw [e2] at this
      exact this
    obtain ⟨c₂, i₂, len₂, hc₂, hd₂, hf₂⟩ := hend
    have hW' : U.WarmedH s₂.vm := hW₂
    have hcc : c₂ = c := by
      have h1 : s₂.code? g.method = U.code? g.method := by
        rw [State.code?_eq, State.code?_eq, hW'.alike.method?]
      exact Option.some.inj (hc₂.symm.trans (h1.trans h.code))
    subst hcc
    have hlen : len₂ = len := by rw [hdg] at hd₂; cases hd₂; rfl
    subst hlen
    have hs₂ : s₂ = (({ U with heap := s₂.heap, slotsUsed := s₂.slotsUsed } : State).setVm s₂.vm).setTop { g with pc := g.pc + len₂, stack := v.toList ++ g.stack } := by
      refine e3.trans ?_
      rw [hf₂, State.calling_eq h.top, State.setFrames_setFrames, State.setTop_of_frames _ hr', hr]
      rfl
    have hsame : U.sameButNew ({ U with heap := s₂.heap, slotsUsed := s₂.slotsUsed } : State) L mc ms := by
      refine ⟨?_, q2, q3, q4, q5, q6⟩
      obtain ⟨t, ht, -⟩ := State.frames_cons hr
      show ({ U with heap := s₂.heap, slotsUsed := s₂.slotsUsed } : State) = { U.setFrames U.frames with heap := s₂.heap, slotsUsed := s₂.slotsUsed }
      rw [State.setFrames_self ht]
    subst hg
    refine Or.inl ⟨v, ⟨(({ U with heap := s₂.heap, slotsUsed := s₂.slotsUsed } : State).setVm s₂.vm), Ls ++ L, c0 + mc, s0 + ms⟩,
      ⟨X.admits, X.cas, X.clock, X.frames, X.room, X.hears, X.method, X.code, (X.here.setHeapUsed s₂.heap s₂.slotsUsed).setVm hW'.alike, X.tail, State.WarmedH.trans X.warmed hW', X.limits, X.bytes, X.same.trans (hsame.setVm s.vm)⟩,
      ⟨g, mk, s₂, L, rfl, rfl, hqc, rfl, hL, rfl, rfl⟩, ?_⟩
    show Steps p.tables e below _ ((({ U with heap := s₂.heap, slotsUsed := s₂.slotsUsed } : State).setVm s₂.vm).setTop { g with pc := g.pc + len₂, stack := v.toList ++ g.stack })
    rw [← hs₂]
    exact hsteps
  · obtain ⟨e2, q2, q3, q4, q5, q6⟩ := id hsm
    have e3 : s₂ = ({ (U.calling g mk a).setFrames s₂.frames with heap := s₂.heap, slotsUsed := s₂.slotsUsed } : State).setVm s₂.vm := by
      have : s₂ = ({ s₂ with vm := (U.calling g mk a).vm } : State).setVm s₂.vm := rfl
      rw [e2] at this
      exact this
    have hf₂ : s₂.frames = .throwing q :: .java g :: U.frames.tail := hend
    have hW' : U.WarmedH s₂.vm := hW₂
    have hs₂ : s₂ = ((({ U with heap := s₂.heap, slotsUsed := s₂.slotsUsed } : State).setVm s₂.vm).setTop g).pushFrame (.throwing q) := by
      refine e3.trans ?_
      rw [hf₂, State.calling_eq h.top, State.setFrames_setFrames, State.pushFrame, State.frames_setTop _ hr', State.setTop_of_frames _ hr', State.setFrames_setFrames, hr]
      rfl
    have hsame : U.sameButNew ({ U with heap := s₂.heap, slotsUsed := s₂.slotsUsed } : State) L mc ms := by
      refine ⟨?_, q2, q3, q4, q5, q6⟩
      obtain ⟨t, ht, -⟩ := State.frames_cons hr
      show ({ U with heap := s₂.heap, slotsUsed := s₂.slotsUsed } : State) = { U.setFrames U.frames with heap := s₂.heap, slotsUsed := s₂.slotsUsed }
      rw [State.setFrames_self ht]
    subst hg
    refine Or.inr ⟨q, ⟨(({ U with heap := s₂.heap, slotsUsed := s₂.slotsUsed } : State).setVm s₂.vm), Ls ++ L, c0 + mc, s0 + ms⟩,
      ⟨X.admits, X.cas, X.clock, X.frames, X.room, X.hears, X.method, X.code, (X.here.setHeapUsed s₂.heap s₂.slotsUsed).setVm hW'.alike, X.tail, State.WarmedH.trans X.warmed hW', X.limits, X.bytes, X.same.trans (hsame.setVm s.vm)⟩,
      ⟨g, mk, s₂, L, E, ce, rfl, rfl, hx, hce, hcv, hcl, rfl, hL, rfl, rfl⟩, ?_⟩
    show Steps p.tables e below _ (((({ U with heap := s₂.heap, slotsUsed := s₂.slotsUsed } : State).setVm s₂.vm).setTop g).pushFrame (.throwing q))
    rw [← hs₂]
    exact hsteps
end
variable {p : Program} {l : Launch} {e : Env} {R : Room} {s : State} {m : MethodId} {args : Array Value} {below : List Frame} {meth : Method} {c : Code} {T : State} {H : Heap} {locs : List Loc} {cells slots : Nat}
theorem vx_callVX (X : Stand p l e R s m args below meth c T locs cells slots) (hexec : p.tables.exec = Jvm.exec) {own C : String} {index : Nat} {y : MethodName} {bytes : ByteArray} {maxL : Nat} {ret : Option FieldType} {hh : List (Nat × Nat × Nat × Nat)}
    (hown : s.vm.findClass own = some m.cls) (hlink : (Cond.methodLink own index y).before args s = true) (hinst : (Cond.instanceMethod y).before args s = true) (hsel : (Cond.selects C y y).before args s = true)
    (hcode : (Cond.codeWith y bytes maxL ret hh).before args s = true) (hy : y.cls ≠ "java/lang/invoke/MethodHandle" ∧ y.cls ≠ "java/lang/invoke/VarHandle")
    {W9 : Nat} {Pre : Pt → Array Value → Prop} {Post : Pt → Array Value → Option Value → Pt → Prop} {PostX : Pt → Array Value → Addr → Pt → Prop} (hK : vx_Back l R p e below s args y 3 W9 Pre Post PostX)
    {b : Addr} {cellB : Cell} (hcell : T.heap[b]? = some cellB) (hobj : cellB.vm.isStatics = false) (hcls : s.vm.findClass C = some cellB.cls)
    {g : JFrame} (hg : g.method = m) (hsize : g.locals.size = c.maxLocals) {argsL rest : List Value} (hlen : ∀ sig, parseMethodDescriptor y.desc = some sig → argsL.length = sig.parameters.length)
    (hstack : g.stack = argsL.reverse ++ .ref b :: rest) (hW : 2 * g.monitorRoom + (rest.map fun v => v.category).sum ≤ W9) (hdg : decode c.code g.pc = .ok (.invokevirtual index, 3))
    (hpre : ∀ vm₁, s.WarmedH vm₁ → Pre ⟨T.setVm vm₁, locs, cells, slots⟩ (Value.ref b :: argsL).toArray) :
    (∃ (v : Option Value) (vm₁ : Vm) (B : Pt), s.WarmedH vm₁ ∧ Stand p l e R s m args below meth c B.U B.locs B.cells B.slots ∧ Post ⟨T.setVm vm₁, locs, cells, slots⟩ (Value.ref b :: argsL).toArray v B ∧
      ∀ target, Steps p.tables e below (B.U.setTop { g with pc := g.pc + 3, stack := v.toList ++ rest }) target → Steps p.tables e below (T.setTop g) target) ∨
    (∃ (q : Addr) (vm₁ : Vm) (B : Pt), s.WarmedH vm₁ ∧ Stand p l e R s m args below meth c B.U B.locs B.cells B.slots ∧ PostX ⟨T.setVm vm₁, locs, cells, slots⟩ (Value.ref b :: argsL).toArray q B ∧
      Steps p.tables e below (T.setTop g) ((B.U.setTop { g with stack := rest }).pushFrame (.throwing q))) := by
  obtain ⟨mk, methM, hnamed, hmethM, hstM, habM⟩ := Cond.instanceMethod_spec hinst
  obtain ⟨m8, methM', cM, hn8, hmethM', -, -, -, -, -, -, hsigM⟩ := Cond.codeWith_spec hcode
  cases Option.some.inj (hn8.symm.trans hnamed)
  cases hmethM.symm.trans hmethM'
  obtain ⟨c2, r2, m2, q1, q2, q3, q4, kP, hkP, hkPi⟩ := Cond.selects_spec hsel
  cases hcls.symm.trans q1
  cases (State.methodFound?_of_named hnamed hy).symm.trans q2
  cases hnamed.symm.trans q3
  have hselP : selectMethod e.platform s.vm cellB.cls mk = .method mk := by rw [Launch.admits_selectMethod X.admits]; exact q4
  obtain ⟨vm₁, X₁, hstep₁⟩ := X.invokevirtual hexec hown hlink hnamed hmethM hstM hkP hkPi hy (a := b) (cell := cellB) hcell
    (fun z h => by rw [h] at hobj; cases hobj) hselP hmethM habM hkP hkPi (g := g) hg (argsL := argsL) (rest := rest) (hlen _ hsigM) hstack hdg
  rcases hK m meth c ⟨T.setVm vm₁, locs, cells, slots⟩ { g with stack := rest } (.invokevirtual index) mk (Value.ref b :: argsL).toArray X₁ hg hsize hdg hW (X₁.named hnamed) (hpre vm₁ X₁.warmed) with ⟨v, B, X', hpost, hsteps⟩ | ⟨q, B, X', hpost, hsteps⟩
  · exact Or.inl ⟨v, vm₁, B, X₁.warmed, X', hpost, fun target h => hstep₁ _ fun acts => by rw [doInvoke_state]; exact hsteps.trans h⟩
  · exact Or.inr ⟨q, vm₁, B, X₁.warmed, X', hpost, hstep₁ _ fun acts => by rw [doInvoke_state]; exact hsteps⟩
theorem vx_callSX (X : Stand p l e R s m args below meth c T locs cells slots) (hexec : p.tables.exec = Jvm.exec) {own : String} {index : Nat} {y : MethodName} {bytes : ByteArray} {maxL : Nat} {ret : Option FieldType} {hh : List (Nat × Nat × Nat × Nat)}
    (hown : s.vm.findClass own = some m.cls) (hlink : (Cond.methodLink own index y).before args s = true) (hstat : (Cond.static y).before args s = true) (hinit : (Cond.initialized y.cls).before args s = true)
    (hcode : (Cond.codeWith y bytes maxL ret hh).before args s = true) (hy : y.cls ≠ "java/lang/invoke/MethodHandle" ∧ y.cls ≠ "java/lang/invoke/VarHandle")
    {W9 : Nat} {Pre : Pt → Array Value → Prop} {Post : Pt → Array Value → Option Value → Pt → Prop} {PostX : Pt → Array Value → Addr → Pt → Prop} (hK : vx_Back l R p e below s args y 3 W9 Pre Post PostX)
    {g : JFrame} (hg : g.method = m) (hsize : g.locals.size = c.maxLocals) {argsL rest : List Value} (hlen : ∀ sig, parseMethodDescriptor y.desc = some sig → argsL.length = sig.parameters.length)
    (hstack : g.stack = argsL.reverse ++ rest) (hW : 2 * g.monitorRoom + (rest.map fun v => v.category).sum ≤ W9) (hdg : decode c.code g.pc = .ok (.invokestatic index, 3))
    (hpre : ∀ vm₁, s.WarmedH vm₁ → Pre ⟨T.setVm vm₁, locs, cells, slots⟩ argsL.toArray) :
    (∃ (v : Option Value) (vm₁ : Vm) (B : Pt), s.WarmedH vm₁ ∧ Stand p l e R s m args below meth c B.U B.locs B.cells B.slots ∧ Post ⟨T.setVm vm₁, locs, cells, slots⟩ argsL.toArray v B ∧
      ∀ target, Steps p.tables e below (B.U.setTop { g with pc := g.pc + 3, stack := v.toList ++ rest }) target → Steps p.tables e below (T.setTop g) target) ∨
    (∃ (q : Addr) (vm₁ : Vm) (B : Pt), s.WarmedH vm₁ ∧ Stand p l e R s m args below meth c B.U B.locs B.cells B.slots ∧ PostX ⟨T.setVm vm₁, locs, cells, slots⟩ argsL.toArray q B ∧
      Steps p.tables e below (T.setTop g) ((B.U.setTop { g with stack := rest }).pushFrame (.throwing q))) := by
  obtain ⟨mk, methM, cM, hnamed, hmethM, -, -, -, -, -, -, hsigM⟩ := Cond.codeWith_spec hcode
  have hstatic : methM.isStatic = true := Cond.static_spec hnamed hmethM hstat
  obtain ⟨kP, hkP, -⟩ := className_of_methodNamed hnamed
  have hinitP : kP.init = .initialized := Cond.initialized_spec (findClass_of_methodNamed hnamed) hkP hinit
  obtain ⟨vm₁, X₁, hstep₁⟩ := X.invokestatic hexec hown hlink hnamed hmethM hstatic hkP hinitP hy (g := g) hg (argsL := argsL) (rest := rest) (hlen _ hsigM) hstack hdg
  rcases hK m meth c ⟨T.setVm vm₁, locs, cells, slots⟩ { g with stack := rest } (.invokestatic index) mk argsL.toArray X₁ hg hsize hdg hW (X₁.named hnamed) (hpre vm₁ X₁.warmed) with ⟨v, B, X', hpost, hsteps⟩ | ⟨q, B, X', hpost, hsteps⟩
  · exact Or.inl ⟨v, vm₁, B, X₁.warmed, X', hpost, fun target h => hstep₁ _ fun acts => by rw [doInvoke_state]; exact hsteps.trans h⟩
  · exact Or.inr ⟨q, vm₁, B, X₁.warmed, X', hpost, hstep₁ _ fun acts => by rw [doInvoke_state]; exact hsteps⟩
theorem vx_callVW (X : Stand p l e R s m args below meth c T locs cells slots) (hexec : p.tables.exec = Jvm.exec) {own C : String} {index : Nat} {y : MethodName} {bytes : ByteArray} {maxL : Nat} {ret : Option FieldType} {hh : List (Nat × Nat × Nat × Nat)}
    (hown : s.vm.findClass own = some m.cls) (hlink : (Cond.methodLink own index y).before args s = true) (hinst : (Cond.instanceMethod y).before args s = true) (hsel : (Cond.selects C y y).before args s = true)
    (hcode : (Cond.codeWith y bytes maxL ret hh).before args s = true) (hy : y.cls ≠ "java/lang/invoke/MethodHandle" ∧ y.cls ≠ "java/lang/invoke/VarHandle")
    {W9 : Nat} {Pre : Pt → Array Value → Prop} {Post : Pt → Array Value → Option Value → Pt → Prop} (hK : Back l R p e below s args y 3 W9 Pre Post)
    {b : Addr} {cellB : Cell} (hcell : T.heap[b]? = some cellB) (hobj : cellB.vm.isStatics = false) (hcls : s.vm.findClass C = some cellB.cls)
    {g : JFrame} (hg : g.method = m) (hsize : g.locals.size = c.maxLocals) {argsL rest : List Value} (hlen : ∀ sig, parseMethodDescriptor y.desc = some sig → argsL.length = sig.parameters.length)
    (hstack : g.stack = argsL.reverse ++ .ref b :: rest) (hW : 2 * g.monitorRoom + (rest.map fun v => v.category).sum ≤ W9) (hdg : decode c.code g.pc = .ok (.invokevirtual index, 3))
    (hpre : ∀ vm₁, s.WarmedH vm₁ → Pre ⟨T.setVm vm₁, locs, cells, slots⟩ (Value.ref b :: argsL).toArray) :
    ∃ (v : Option Value) (vm₁ : Vm) (B : Pt), s.WarmedH vm₁ ∧ Stand p l e R s m args below meth c B.U B.locs B.cells B.slots ∧ Post ⟨T.setVm vm₁, locs, cells, slots⟩ (Value.ref b :: argsL).toArray v B ∧
      ∀ target, Steps p.tables e below (B.U.setTop { g with pc := g.pc + 3, stack := v.toList ++ rest }) target → Steps p.tables e below (T.setTop g) target := by
  obtain ⟨mk, methM, hnamed, hmethM, hstM, habM⟩ := Cond.instanceMethod_spec hinst
  obtain ⟨m8, methM', cM, hn8, hmethM', -, -, -, -, -, -, hsigM⟩ := Cond.codeWith_spec hcode
  cases Option.some.inj (hn8.symm.trans hnamed)
  cases hmethM.symm.trans hmethM'
  obtain ⟨c2, r2, m2, q1, q2, q3, q4, kP, hkP, hkPi⟩ := Cond.selects_spec hsel
  cases hcls.symm.trans q1
  cases (State.methodFound?_of_named hnamed hy).symm.trans q2
  cases hnamed.symm.trans q3
  have hselP : selectMethod e.platform s.vm cellB.cls mk = .method mk := by rw [Launch.admits_selectMethod X.admits]; exact q4
  obtain ⟨vm₁, X₁, hstep₁⟩ := X.invokevirtual hexec hown hlink hnamed hmethM hstM hkP hkPi hy (a := b) (cell := cellB) hcell
    (fun z h => by rw [h] at hobj; cases hobj) hselP hmethM habM hkP hkPi (g := g) hg (argsL := argsL) (rest := rest) (hlen _ hsigM) hstack hdg
  obtain ⟨v, B, X', hpost, hsteps⟩ := hK m meth c ⟨T.setVm vm₁, locs, cells, slots⟩ { g with stack := rest } (.invokevirtual index) mk (Value.ref b :: argsL).toArray X₁ hg hsize hdg hW (X₁.named hnamed) (hpre vm₁ X₁.warmed)
  exact ⟨v, vm₁, B, X₁.warmed, X', hpost, fun target h => hstep₁ _ fun acts => by rw [doInvoke_state]; exact hsteps.trans h⟩
abbrev vx_CVW (R : Room) (s : State) (args : Array Value) (own C : String) (index : Nat) (y : MethodName) (bytes : ByteArray) (maxL : Nat) (ret : Option FieldType) (hh : List (Nat × Nat × Nat × Nat)) (ws : List Cond) (rm : Room) (mc ms n : Nat) : Prop :=
  (rm.cells = mc ∧ rm.slots = ms ∧ rm.frames + 1 ≤ R.frames ∧ 8 + (maxL + 11) + rm.locals ≤ R.locals ∧ (∀ w ∈ ws, ∀ (a' : Array Value) (U : State), s.WarmedH U.vm → w.before a' U = true) ∧ Cond.codeWith y bytes maxL ret hh ∈ ws) ∧
  (Cond.codeWith y bytes maxL ret hh).before args s = true ∧ (Cond.initialized y.cls).before args s = true ∧ (y.cls ≠ "java/lang/invoke/MethodHandle" ∧ y.cls ≠ "java/lang/invoke/VarHandle") ∧
  (∀ sig, parseMethodDescriptor y.desc = some sig → n = sig.parameters.length) ∧ (Cond.methodLink own index y).before args s = true ∧ (Cond.instanceMethod y).before args s = true ∧ (Cond.selects C y y).before args s = true
theorem vx_cwVW {own C : String} {index maxL mc ms : Nat} {y : MethodName} {bytes : ByteArray} {ret : Option FieldType} {hh : List (Nat × Nat × Nat × Nat)} {Ts ws ws' : List Cond} {rm : Room} (n : Nat) (ht : ∀ w ∈ Ts, w.before args s = true) (hT : GoodIn Ts (wsV own index C y ws)) (hw : ws = Cond.codeWith y bytes maxL ret hh :: ws') (hrc : rm.cells = mc) (hrs : rm.slots = ms)
    (hd : y.cls = C ∧ y.cls ≠ "java/lang/invoke/MethodHandle" ∧ y.cls ≠ "java/lang/invoke/VarHandle" ∧ (parseMethodDescriptor y.desc).map (fun d => d.parameters.length) = some n) (hR : rm.frames + 1 ≤ R.frames ∧ 8 + (maxL + 11) + rm.locals ≤ R.locals) :
    vx_CVW R s args own C index y bytes maxL ret hh ws rm mc ms n := by
  obtain ⟨hC, hd⟩ := hd
  subst hC
  have ok : ∀ w ∈ wsV own index y.cls y ws, w.before args s = true := fun w h => ht w (hT w h).1
  have hG : GoodIn Ts ws := fun w h => hT w (by unfold wsV; exact List.mem_append_right _ h)
  have hc : Cond.codeWith y bytes maxL ret hh ∈ ws := by rw [hw]; exact List.mem_cons_self
  refine ⟨⟨hrc, hrs, hR.1, hR.2, pay_in ht hG, hc⟩, ht _ (hG _ hc).1, ok _ (by simp [wsV]), ⟨hd.1, hd.2.1⟩, fun sig h => ?_, ok _ (by simp [wsV]), ok _ (by simp [wsV]), ok _ (by simp [wsV])⟩
  have h2 := hd.2.2
  rw [h] at h2
  exact (Option.some.inj h2).symm
theorem vx_runVW {y : MethodName} {bytes cc : ByteArray} {maxL nL mc ms n index : Nat} {ret : Option FieldType} {hh : List (Nat × Nat × Nat × Nat)} {ws : List Cond} {rm : Room} {Pc : Array Value → State → Prop} {Qc : Array Value → State → Outcome → State → Prop} {free : Addr → Prop} {Ts : List Cond} {own C : String} {b : Addr} {As rest : List Value} {g : JFrame}
    (S : CallFix p m c cc nL s args Ts own) (hM : Met l y ws rm Pc Qc mc ms free) (cw : vx_CVW R s args own C index y bytes maxL ret hh ws rm mc ms n) (hp : PreV s H C b Pc As)
    (hg : g.method = m) (hn : As.length = n) (hsize : g.locals.size = nL) (hstack : g.stack = As.reverse ++ .ref b :: rest) (hW : 2 * g.monitorRoom + (rest.map fun v => v.category).sum ≤ 8) (hdg : decode cc g.pc = .ok (.invokevirtual index, 3)) (hf : cells + mc ≤ R.cells ∧ slots + ms ≤ R.slots) :
    va_Run p l e R s m args below meth c H locs cells slots mc ms g rest (Qc (Value.ref b :: As).toArray) free := by
  obtain ⟨⟨hrc, hrs, hfr, hlo, hws, hcw⟩, hcode, hini, hy, hlen, hl, hin, hse⟩ := cw
  have hK : Back l R p e below s args y 3 8 (PreOf R mc ms Pc) (PostOf Qc mc ms free) := va_backW (hh := hh) (bytes := bytes) (maxL := maxL) (ret := ret) hM hp.1 hrc hrs hfr hlo hws hcw (fun a' U hW => word_at hW (Or.inl (by first | rfl | simp [Cond.onTables, Cond.keeps, Cond.steady])) hini)
  obtain ⟨hx, hb, hml, ho, -⟩ := S
  obtain ⟨-, ⟨cellB, hcB, hoB, hclB⟩, hPc⟩ := hp
  intro T hT X
  obtain ⟨v, vm₁, ⟨U', l2, c2, s2⟩, hW₁, X', ⟨g', mk, t, L, e1, e2, hq, h1, hL, h2, h3⟩, st⟩ := vx_callVW X hx (C := C) (hh := hh) (bytes := bytes) (maxL := maxL) (ret := ret) ho hl hin hse hcode hy hK (by rw [hT]; exact hcB) hoB hclB hg (hsize.trans hml.symm) (argsL := As) (rest := rest) (fun sig h => hn.trans (hlen sig h)) hstack hW (by rw [hb]; exact hdg)
    (fun vm₁ hW₁ => ⟨hf.1, hf.2, hPc (T.setVm vm₁) hT hW₁⟩)
  dsimp only [Pt.U, Pt.locs, Pt.cells, Pt.slots] at X' e1 e2 h1 h2 h3 st
  subst h1; subst h2; subst h3
  exact ⟨v, (T.setVm vm₁).calling g' mk (Value.ref b :: As).toArray, t, U', L, hT, X', hL, e1, e2, hq, st⟩
section
variable {y : MethodName} {bytes cc : ByteArray} {maxL nL mc ms n index : Nat} {ret : Option FieldType} {ws : List Cond} {rm : Room} {Pc : Array Value → State → Prop} {Qc : Array Value → State → Outcome → State → Prop} {XC : String → State → State → Prop} {free : Addr → Prop} {Ts : List Cond} {own C : String} {b : Addr} {As rest : List Value} {g : JFrame}
theorem vx_runVX {hh : List (Nat × Nat × Nat × Nat)} (S : CallFix p m c cc nL s args Ts own) (hM : vx_Met l y ws rm Pc Qc XC mc ms free) (cw : vx_CVW R s args own C index y bytes maxL ret hh ws rm mc ms n) (hp : PreV s H C b Pc As)
    (hg : g.method = m) (hn : As.length = n) (hsize : g.locals.size = nL) (hstack : g.stack = As.reverse ++ .ref b :: rest) (hW : 2 * g.monitorRoom + (rest.map fun v => v.category).sum ≤ 8) (hdg : decode cc g.pc = .ok (.invokevirtual index, 3)) (hf : cells + mc ≤ R.cells ∧ slots + ms ≤ R.slots) :
    vx_Run p l e R s m args below meth c H locs cells slots mc ms g rest (Qc (Value.ref b :: As).toArray) XC free := by
  obtain ⟨⟨hrc, hrs, hfr, hlo, hws, hcw⟩, hcode, hini, hy, hlen, hl, hin, hse⟩ := cw
  have hK : vx_Back l R p e below s args y 3 8 (PreOf R mc ms Pc) (PostOf Qc mc ms free) (vx_Post XC mc ms free) := vx_backW (hh := hh) (bytes := bytes) (maxL := maxL) (ret := ret) hM hp.1 hrc hrs hfr hlo hws hcw (fun a' U hW => word_at hW (Or.inl (by first | rfl | simp [Cond.onTables, Cond.keeps, Cond.steady])) hini)
  obtain ⟨hx, hb, hml, ho, -⟩ := S
  obtain ⟨-, ⟨cellB, hcB, hoB, hclB⟩, hPc⟩ := hp
  intro T hT X
  rcases vx_callVX X hx (C := C) (hh := hh) (bytes := bytes) (maxL := maxL) (ret := ret) ho hl hin hse hcode hy hK (by rw [hT]; exact hcB) hoB hclB hg (hsize.trans hml.symm) (argsL := As) (rest := rest) (fun sig h => hn.trans (hlen sig h)) hstack hW (by rw [hb]; exact hdg)
    (fun vm₁ hW₁ => ⟨hf.1, hf.2, hPc (T.setVm vm₁) hT hW₁⟩) with ⟨v, vm₁, ⟨U', l2, c2, s2⟩, hW₁, X', ⟨g', mk, t, L, e1, e2, hq, h1, hL, h2, h3⟩, st⟩ | ⟨q, vm₁, ⟨U', l2, c2, s2⟩, hW₁, X', ⟨g', mk, t, L, E, ce, e1, e2, hq, hce, hcv, hcl, h1, hL, h2, h3⟩, st⟩
  · dsimp only [Pt.U, Pt.locs, Pt.cells, Pt.slots] at X' e1 e2 h1 h2 h3 st
    subst h1; subst h2; subst h3
    exact Or.inl ⟨v, (T.setVm vm₁).calling g' mk (Value.ref b :: As).toArray, t, U', L, hT, X', hL, e1, e2, hq, st⟩
  · dsimp only [Pt.U, Pt.locs, Pt.cells, Pt.slots] at X' e1 e2 h1 h2 h3 st hcl
    subst h1; subst h2; subst h3
    exact Or.inr ⟨q, (T.setVm vm₁).calling g' mk (Value.ref b :: As).toArray, t, U', L, E, ce, hT, X', hL, e1, e2, hq, hce, hcv, vx_cls hW₁ hcl, st⟩
theorem vx_runSX {hh : List (Nat × Nat × Nat × Nat)} (S : CallFix p m c cc nL s args Ts own) (hM : vx_Met l y ws rm Pc Qc XC mc ms free) (cw : vx_CSW R s args own index y bytes maxL ret hh ws rm mc ms n) (hp : PreS s H Pc As)
    (hg : g.method = m) (hn : As.length = n) (hsize : g.locals.size = nL) (hstack : g.stack = As.reverse ++ rest) (hW : 2 * g.monitorRoom + (rest.map fun v => v.category).sum ≤ 8) (hdg : decode cc g.pc = .ok (.invokestatic index, 3)) (hf : cells + mc ≤ R.cells ∧ slots + ms ≤ R.slots) :
    vx_Run p l e R s m args below meth c H locs cells slots mc ms g rest (Qc As.toArray) XC free := by
  obtain ⟨⟨hrc, hrs, hfr, hlo, hws, hcw⟩, hcode, hini, hy, hlen, hl, hstt⟩ := cw
  have hK : vx_Back l R p e below s args y 3 8 (PreOf R mc ms Pc) (PostOf Qc mc ms free) (vx_Post XC mc ms free) := vx_backW (hh := hh) (bytes := bytes) (maxL := maxL) (ret := ret) hM hp.1 hrc hrs hfr hlo hws hcw (fun a' U hW => word_at hW (Or.inl (by first | rfl | simp [Cond.onTables, Cond.keeps, Cond.steady])) hini)
  obtain ⟨hx, hb, hml, ho, -⟩ := S
  intro T hT X
  rcases vx_callSX X hx (hh := hh) (bytes := bytes) (maxL := maxL) (ret := ret) ho hl hstt hini hcode hy hK hg (hsize.trans hml.symm) (argsL := As) (rest := rest) (fun sig h => hn.trans (hlen sig h)) hstack hW (by rw [hb]; exact hdg)
    (fun vm₁ hW₁ => ⟨hf.1, hf.2, hp.2 (T.setVm vm₁) hT hW₁⟩) with ⟨v, vm₁, ⟨U', l2, c2, s2⟩, hW₁, X', ⟨g', mk, t, L, e1, e2, hq, h1, hL, h2, h3⟩, st⟩ | ⟨q, vm₁, ⟨U', l2, c2, s2⟩, hW₁, X', ⟨g', mk, t, L, E, ce, e1, e2, hq, hce, hcv, hcl, h1, hL, h2, h3⟩, st⟩
  · dsimp only [Pt.U, Pt.locs, Pt.cells, Pt.slots] at X' e1 e2 h1 h2 h3 st
    subst h1; subst h2; subst h3
    exact Or.inl ⟨v, (T.setVm vm₁).calling g' mk As.toArray, t, U', L, hT, X', hL, e1, e2, hq, st⟩
  · dsimp only [Pt.U, Pt.locs, Pt.cells, Pt.slots] at X' e1 e2 h1 h2 h3 st hcl
    subst h1; subst h2; subst h3
    exact Or.inr ⟨q, (T.setVm vm₁).calling g' mk As.toArray, t, U', L, E, ce, hT, X', hL, e1, e2, hq, hce, hcv, vx_cls hW₁ hcl, st⟩
end
end VXH
theorem vx_ofWH {l : Launch} {y : MethodName} {ws ws' : List Cond} {rm : Room} {Pc : Array Value → State → Prop} {Qc : Array Value → State → Outcome → State → Prop} {XC : String → State → State → Prop} {mc ms : Nat} {free : Addr → Prop} {cc : ByteArray} {maxL : Nat} {ret : Option FieldType} {hh : List (Nat × Nat × Nat × Nat)}
    (hy : plainName y.cls = true) (hw : ws = Cond.codeWith y cc maxL ret hh :: ws')
    (body : ∀ p e s m args below meth c s₁, BodyLoose p l y (headSpec ws rm) cc maxL ret e s m args below meth c s₁ → c.maxLocals = maxL → Pc args s →
      W p l e (headSpec ws rm).room s m args below meth c s.heap [] 0 0 (vx_MQ below Qc XC args s mc ms free) (entryFrame m args maxL)) : vx_Met l y ws rm Pc Qc XC mc ms free := by
  refine MetFree.of_bodyS (code := cc) (maxLocals := maxL) (ret := ret) hy ?_ ?_
  · intro args s m h hn
    obtain ⟨m9, meth, c, hn9, h1, h2, h3, h4, -, h5, h6, -⟩ := Cond.codeWith_spec (atoms_spec (ws := ws) h _ (by rw [hw]; exact List.mem_cons_self))
    cases hn.symm.trans hn9
    exact ⟨meth, c, h1, h2, h3, h4, h5, h6⟩
  · intro p e s m args below meth c s₁ B hml hP _
    have hh0 : s₁.heap = s.heap := by rw [B.state]; rfl
    obtain ⟨t, a1, o, b1, b2, b3⟩ := body p e s m args below meth c s₁ B hml hP s₁ hh0 (Stand.of_body B)
    exact ⟨t, o, a1, b1, b2, b3⟩
/-! ===== END ===== -/

/-! names (printed by program; what a hand-in refuses is left out) -/
def RX0 : String := "SignetRoom$CallList"
def TX0 : u_T := fun k => match k with
  | 0 => ("SignetRoom$CallList", "issuer", "I", false)
  | 1 => ("SignetRoom$CallList", "at", "I", false)
  | 2 => ("SignetRoom$CallList", "next", "I", false)
  | 3 => ("SignetRoom$CallList", "serials", "I", false)
  | 4 => ("SignetRoom$CallList", "seal", "I", false)
  | _ => ("SignetRoom$CallList", "signers", "I", false)
def tyX0 : Nat → FieldType := fun k => match k with
  | 0 => .int
  | 1 => .int
  | 2 => .int
  | 3 => .int
  | 4 => .int
  | _ => .int
abbrev wsX00 : List Cond := u_ws RX0 TX0 6
theorem nmX0 : ∀ a, a < 6 → ∀ b, b < 6 → a ≠ b → (TX0 a).2.1 ≠ (TX0 b).2.1 := by decide +kernel
theorem tyX0_ok : ∀ k, k < 6 → parseFieldDescriptor (TX0 k).2.2.1 = some (tyX0 k) := by decide +kernel
abbrev cX0_init : ByteArray := prog_2_method_1_code
def yX0_init : MethodName := ⟨RX0, "<init>", "()V"⟩
abbrev cX0_write : ByteArray := prog_2_method_2_code
def yX0_write : MethodName := ⟨RX0, "write", "(III)V"⟩
abbrev cX0_print : ByteArray := prog_2_method_3_code
def yX0_print : MethodName := ⟨RX0, "print", "()I"⟩
abbrev cX0_markSigners : ByteArray := prog_2_method_4_code
def yX0_markSigners : MethodName := ⟨RX0, "markSigners", "()V"⟩
abbrev cX0_hasSerial : ByteArray := prog_2_method_5_code
def yX0_hasSerial : MethodName := ⟨RX0, "hasSerial", "(I)Z"⟩
abbrev cX0_property : ByteArray := prog_2_method_6_code
def yX0_property : MethodName := ⟨RX0, "property", "(I)I"⟩
def RX1 : String := "SignetRoom$ChainBook"
def TX1 : u_T := fun k => match k with
  | 0 => ("SignetRoom$ChainBook", "backers", "[I", true)
  | 1 => ("SignetRoom$ChainBook", "waysEndingIn", "[I", true)
  | 2 => ("SignetRoom$ChainBook", "rows", "[[I", true)
  | 3 => ("SignetRoom$ChainBook", "lengths", "[I", true)
  | 4 => ("SignetRoom$ChainBook", "begun", "[I", true)
  | 5 => ("SignetRoom$ChainBook", "letterCount", "I", false)
  | _ => ("SignetRoom$ChainBook", "chainCount", "I", false)
def tyX1 : Nat → FieldType := fun k => match k with
  | 0 => .array .int
  | 1 => .array .int
  | 2 => .array (.array .int)
  | 3 => .array .int
  | 4 => .array .int
  | 5 => .int
  | _ => .int
abbrev wsX10 : List Cond := u_ws RX1 TX1 7
theorem nmX1 : ∀ a, a < 7 → ∀ b, b < 7 → a ≠ b → (TX1 a).2.1 ≠ (TX1 b).2.1 := by decide +kernel
theorem tyX1_ok : ∀ k, k < 7 → parseFieldDescriptor (TX1 k).2.2.1 = some (tyX1 k) := by decide +kernel
abbrev cX1_init : ByteArray := prog_3_method_1_code
def yX1_init : MethodName := ⟨RX1, "<init>", "()V"⟩
abbrev cX1_markWays : ByteArray := prog_3_method_2_code
def yX1_markWays : MethodName := ⟨RX1, "markWays", "(II)V"⟩
abbrev cX1_findChainsOf : ByteArray := prog_3_method_3_code
def yX1_findChainsOf : MethodName := ⟨RX1, "findChainsOf", "(I)V"⟩
abbrev cX1_extend : ByteArray := prog_3_method_4_code
def yX1_extend : MethodName := ⟨RX1, "extend", "(LSignetRoom$ChainBook;III)V"⟩
abbrev cX1_keep : ByteArray := prog_3_method_5_code
def yX1_keep : MethodName := ⟨RX1, "keep", "(I)V"⟩
abbrev cX1_lengthOf : ByteArray := prog_3_method_6_code
def yX1_lengthOf : MethodName := ⟨RX1, "lengthOf", "(I)I"⟩
abbrev cX1_member : ByteArray := prog_3_method_7_code
def yX1_member : MethodName := ⟨RX1, "member", "(II)I"⟩
def RX2 : String := "SignetRoom$Letter"
def TX2 : u_T := fun k => match k with
  | 0 => ("SignetRoom$Letter", "subject", "I", false)
  | 1 => ("SignetRoom$Letter", "issuer", "I", false)
  | 2 => ("SignetRoom$Letter", "key", "I", false)
  | 3 => ("SignetRoom$Letter", "serial", "I", false)
  | 4 => ("SignetRoom$Letter", "from", "I", false)
  | 5 => ("SignetRoom$Letter", "to", "I", false)
  | 6 => ("SignetRoom$Letter", "isMaster", "Z", false)
  | 7 => ("SignetRoom$Letter", "reach", "I", false)
  | 8 => ("SignetRoom$Letter", "uses", "I", false)
  | 9 => ("SignetRoom$Letter", "bound", "I", false)
  | 10 => ("SignetRoom$Letter", "seal", "I", false)
  | _ => ("SignetRoom$Letter", "isAnchor", "Z", false)
def tyX2 : Nat → FieldType := fun k => match k with
  | 0 => .int
  | 1 => .int
  | 2 => .int
  | 3 => .int
  | 4 => .int
  | 5 => .int
  | 6 => .boolean
  | 7 => .int
  | 8 => .int
  | 9 => .int
  | 10 => .int
  | _ => .boolean
abbrev wsX20 : List Cond := u_ws RX2 TX2 12
theorem nmX2 : ∀ a, a < 12 → ∀ b, b < 12 → a ≠ b → (TX2 a).2.1 ≠ (TX2 b).2.1 := by decide +kernel
theorem tyX2_ok : ∀ k, k < 12 → parseFieldDescriptor (TX2 k).2.2.1 = some (tyX2 k) := by decide +kernel
abbrev cX2_init : ByteArray := prog_4_method_1_code
def yX2_init : MethodName := ⟨RX2, "<init>", "()V"⟩
abbrev cX2_write : ByteArray := prog_4_method_2_code
def yX2_write : MethodName := ⟨RX2, "write", "(IIII)V"⟩
abbrev cX2_print : ByteArray := prog_4_method_3_code
def yX2_print : MethodName := ⟨RX2, "print", "()I"⟩
abbrev cX2_isSealedBy : ByteArray := prog_4_method_4_code
def yX2_isSealedBy : MethodName := ⟨RX2, "isSealedBy", "(I)Z"⟩
abbrev cX2_flawAlone : ByteArray := prog_4_method_5_code
def yX2_flawAlone : MethodName := ⟨RX2, "flawAlone", "(II)I"⟩
abbrev cX2_property : ByteArray := prog_4_method_6_code
def yX2_property : MethodName := ⟨RX2, "property", "(I)I"⟩
def RX3 : String := "SignetRoom"
def TX3 : u_T := fun k => match k with
  | 0 => ("SignetRoom", "letters", "[LSignetRoom$Letter;", true)
  | 1 => ("SignetRoom", "lists", "[LSignetRoom$CallList;", true)
  | 2 => ("SignetRoom", "book", "LSignetRoom$ChainBook;", true)
  | 3 => ("SignetRoom", "verdictsBefore", "[I", true)
  | 4 => ("SignetRoom", "letterCount", "I", false)
  | 5 => ("SignetRoom", "listCount", "I", false)
  | _ => ("SignetRoom", "isStrictRoom", "Z", false)
def tyX3 : Nat → FieldType := fun k => match k with
  | 0 => .array (.object "SignetRoom$Letter")
  | 1 => .array (.object "SignetRoom$CallList")
  | 2 => .object "SignetRoom$ChainBook"
  | 3 => .array .int
  | 4 => .int
  | 5 => .int
  | _ => .boolean
abbrev wsX30 : List Cond := u_ws RX3 TX3 7
theorem nmX3 : ∀ a, a < 7 → ∀ b, b < 7 → a ≠ b → (TX3 a).2.1 ≠ (TX3 b).2.1 := by decide +kernel
theorem tyX3_ok : ∀ k, k < 7 → parseFieldDescriptor (TX3 k).2.2.1 = some (tyX3 k) := by decide +kernel
abbrev cX3_init : ByteArray := prog_1_method_1_code
def yX3_init : MethodName := ⟨RX3, "<init>", "()V"⟩
abbrev cX3_letter : ByteArray := prog_1_method_2_code
def yX3_letter : MethodName := ⟨RX3, "letter", "(IIII)I"⟩
abbrev cX3_times : ByteArray := prog_1_method_3_code
def yX3_times : MethodName := ⟨RX3, "times", "(III)I"⟩
abbrev cX3_master : ByteArray := prog_1_method_4_code
def yX3_master : MethodName := ⟨RX3, "master", "(IZI)I"⟩
abbrev cX3_good : ByteArray := prog_1_method_5_code
def yX3_good : MethodName := ⟨RX3, "good", "(III)I"⟩
abbrev cX3_sign : ByteArray := prog_1_method_6_code
def yX3_sign : MethodName := ⟨RX3, "sign", "(II)I"⟩
abbrev cX3_anchor : ByteArray := prog_1_method_7_code
def yX3_anchor : MethodName := ⟨RX3, "anchor", "(IZ)I"⟩
abbrev cX3_list : ByteArray := prog_1_method_8_code
def yX3_list : MethodName := ⟨RX3, "list", "(III)I"⟩
abbrev cX3_call : ByteArray := prog_1_method_9_code
def yX3_call : MethodName := ⟨RX3, "call", "(II)I"⟩
abbrev cX3_signList : ByteArray := prog_1_method_10_code
def yX3_signList : MethodName := ⟨RX3, "signList", "(II)I"⟩
abbrev cX3_strict : ByteArray := prog_1_method_11_code
def yX3_strict : MethodName := ⟨RX3, "strict", "(Z)Z"⟩
abbrev cX3_many : ByteArray := prog_1_method_12_code
def yX3_many : MethodName := ⟨RX3, "many", "(I)I"⟩
abbrev cX3_ofLetter : ByteArray := prog_1_method_13_code
def yX3_ofLetter : MethodName := ⟨RX3, "ofLetter", "(II)I"⟩
abbrev cX3_ofList : ByteArray := prog_1_method_14_code
def yX3_ofList : MethodName := ⟨RX3, "ofList", "(II)I"⟩
abbrev cX3_signed : ByteArray := prog_1_method_15_code
def yX3_signed : MethodName := ⟨RX3, "signed", "(II)I"⟩
abbrev cX3_signer : ByteArray := prog_1_method_16_code
def yX3_signer : MethodName := ⟨RX3, "signer", "(II)I"⟩
abbrev cX3_isUnder : ByteArray := prog_1_method_17_code
def yX3_isUnder : MethodName := ⟨RX3, "isUnder", "(II)Z"⟩
abbrev cX3_backs : ByteArray := prog_1_method_18_code
def yX3_backs : MethodName := ⟨RX3, "backs", "(II)Z"⟩
abbrev cX3_chains : ByteArray := prog_1_method_19_code
def yX3_chains : MethodName := ⟨RX3, "chains", "(I)I"⟩
abbrev cX3_verdict : ByteArray := prog_1_method_20_code
def yX3_verdict : MethodName := ⟨RX3, "verdict", "(III)I"⟩
abbrev cX3_chain : ByteArray := prog_1_method_21_code
def yX3_chain : MethodName := ⟨RX3, "chain", "(IIII)I"⟩
abbrev cX3_flawAt : ByteArray := prog_1_method_22_code
def yX3_flawAt : MethodName := ⟨RX3, "flawAt", "(III)I"⟩
abbrev cX3_isOf : ByteArray := prog_1_method_23_code
def yX3_isOf : MethodName := ⟨RX3, "isOf", "(IIII)Z"⟩
abbrev cX3_meanChain : ByteArray := prog_1_method_24_code
def yX3_meanChain : MethodName := ⟨RX3, "meanChain", "(II)D"⟩
abbrev cX3_holdsTo : ByteArray := prog_1_method_25_code
def yX3_holdsTo : MethodName := ⟨RX3, "holdsTo", "(III)I"⟩
abbrev cX3_otherwise : ByteArray := prog_1_method_26_code
def yX3_otherwise : MethodName := ⟨RX3, "otherwise", "(III)I"⟩
abbrev cX3_stolen : ByteArray := prog_1_method_27_code
def yX3_stolen : MethodName := ⟨RX3, "stolen", "(III)I"⟩
abbrev cX3_digest : ByteArray := prog_1_method_28_code
def yX3_digest : MethodName := ⟨RX3, "digest", "()J"⟩
abbrev cX3_withPropertiesOf : ByteArray := prog_1_method_29_code
def yX3_withPropertiesOf : MethodName := ⟨RX3, "withPropertiesOf", "(LSignetRoom$Letter;J)J"⟩
abbrev cX3_refuseUnless : ByteArray := prog_1_method_30_code
def yX3_refuseUnless : MethodName := ⟨RX3, "refuseUnless", "(Z)V"⟩
abbrev cX3_refuseUnlessMoment : ByteArray := prog_1_method_31_code
def yX3_refuseUnlessMoment : MethodName := ⟨RX3, "refuseUnlessMoment", "(II)V"⟩
abbrev cX3_refuseUnlessLetter : ByteArray := prog_1_method_32_code
def yX3_refuseUnlessLetter : MethodName := ⟨RX3, "refuseUnlessLetter", "(I)V"⟩
abbrev cX3_refuseUnlessList : ByteArray := prog_1_method_33_code
def yX3_refuseUnlessList : MethodName := ⟨RX3, "refuseUnlessList", "(I)V"⟩
abbrev cX3_isLetter : ByteArray := prog_1_method_34_code
def yX3_isLetter : MethodName := ⟨RX3, "isLetter", "(I)Z"⟩
abbrev cX3_isWithin : ByteArray := prog_1_method_35_code
def yX3_isWithin : MethodName := ⟨RX3, "isWithin", "(II)Z"⟩
abbrev cX3_isKey : ByteArray := prog_1_method_36_code
def yX3_isKey : MethodName := ⟨RX3, "isKey", "(I)Z"⟩
abbrev cX3_isSerial : ByteArray := prog_1_method_37_code
def yX3_isSerial : MethodName := ⟨RX3, "isSerial", "(I)Z"⟩
abbrev cX3_isTime : ByteArray := prog_1_method_38_code
def yX3_isTime : MethodName := ⟨RX3, "isTime", "(I)Z"⟩
abbrev cX3_isResidue : ByteArray := prog_1_method_39_code
def yX3_isResidue : MethodName := ⟨RX3, "isResidue", "(I)Z"⟩
abbrev cX3_isName : ByteArray := prog_1_method_40_code
def yX3_isName : MethodName := ⟨RX3, "isName", "(I)Z"⟩
abbrev cX3_isNameOrZero : ByteArray := prog_1_method_41_code
def yX3_isNameOrZero : MethodName := ⟨RX3, "isNameOrZero", "(I)Z"⟩
abbrev cX3_isBelow : ByteArray := prog_1_method_42_code
def yX3_isBelow : MethodName := ⟨RX3, "isBelow", "(II)Z"⟩
abbrev cX3_sealFor : ByteArray := prog_1_method_43_code
def yX3_sealFor : MethodName := ⟨RX3, "sealFor", "(II)I"⟩
abbrev cX3_mix : ByteArray := prog_1_method_44_code
def yX3_mix : MethodName := ⟨RX3, "mix", "(II)I"⟩
abbrev cX3_isBacking : ByteArray := prog_1_method_45_code
def yX3_isBacking : MethodName := ⟨RX3, "isBacking", "(LSignetRoom$Letter;LSignetRoom$Letter;)Z"⟩
abbrev cX3_backersOf : ByteArray := prog_1_method_46_code
def yX3_backersOf : MethodName := ⟨RX3, "backersOf", "(LSignetRoom$Letter;)I"⟩
abbrev cX3_anchorSet : ByteArray := prog_1_method_47_code
def yX3_anchorSet : MethodName := ⟨RX3, "anchorSet", "()I"⟩
abbrev cX3_countOf : ByteArray := prog_1_method_48_code
def yX3_countOf : MethodName := ⟨RX3, "countOf", "(I)I"⟩
abbrev cX3_pairCount : ByteArray := prog_1_method_49_code
def yX3_pairCount : MethodName := ⟨RX3, "pairCount", "()I"⟩
abbrev cX3_survey : ByteArray := prog_1_method_50_code
def yX3_survey : MethodName := ⟨RX3, "survey", "()V"⟩
abbrev cX3_decision : ByteArray := prog_1_method_51_code
def yX3_decision : MethodName := ⟨RX3, "decision", "(II)I"⟩
abbrev cX3_decidingPlace : ByteArray := prog_1_method_52_code
def yX3_decidingPlace : MethodName := ⟨RX3, "decidingPlace", "(II)I"⟩
abbrev cX3_firstHolding : ByteArray := prog_1_method_53_code
def yX3_firstHolding : MethodName := ⟨RX3, "firstHolding", "(II)I"⟩
abbrev cX3_firstFlawedPlace : ByteArray := prog_1_method_54_code
def yX3_firstFlawedPlace : MethodName := ⟨RX3, "firstFlawedPlace", "(III)I"⟩
abbrev cX3_flawOf : ByteArray := prog_1_method_55_code
def yX3_flawOf : MethodName := ⟨RX3, "flawOf", "(IIII)I"⟩
abbrev cX3_flawAsBacker : ByteArray := prog_1_method_56_code
def yX3_flawAsBacker : MethodName := ⟨RX3, "flawAsBacker", "(LSignetRoom$Letter;II)I"⟩
abbrev cX3_isCalledBack : ByteArray := prog_1_method_57_code
def yX3_isCalledBack : MethodName := ⟨RX3, "isCalledBack", "(LSignetRoom$Letter;II)Z"⟩
abbrev cX3_latestList : ByteArray := prog_1_method_58_code
def yX3_latestList : MethodName := ⟨RX3, "latestList", "(III)I"⟩
abbrev cX3_hasKey : ByteArray := prog_1_method_59_code
def yX3_hasKey : MethodName := ⟨RX3, "hasKey", "(II)Z"⟩
abbrev cX3_turnAnchor : ByteArray := prog_1_method_60_code
def yX3_turnAnchor : MethodName := ⟨RX3, "turnAnchor", "(LSignetRoom$Letter;)V"⟩
def RJ6 : String := "java/lang/Integer"
abbrev cJ6_bitCount_0f7a4 : ByteArray := prog_13_method_49_code
def yJ6_bitCount_0f7a4 : MethodName := ⟨RJ6, "bitCount", "(I)I"⟩
def wsX0_init : List Cond := .code yX0_init cX0_init 1 none :: ([.methodLink RX0 3 objectInit, .instanceMethod objectInit, .code objectInit ⟨#[0xb1]⟩ 1 none])
def wsX0_write : List Cond := .code yX0_write cX0_write 4 none :: ([.fieldLink RX0 9 "SignetRoom$CallList" "issuer" "I", .fieldLink RX0 15 "SignetRoom$CallList" "at" "I", .fieldLink RX0 18 "SignetRoom$CallList" "next" "I"] ++ wsX00)
def wsX3_mix : List Cond := .code yX3_mix cX3_mix 2 (some .int) :: ([])
def wsX0_print : List Cond := .code yX0_print cX0_print 1 (some .int) :: ([.fieldLink RX0 9 "SignetRoom$CallList" "issuer" "I", .fieldLink RX0 15 "SignetRoom$CallList" "at" "I", .fieldLink RX0 18 "SignetRoom$CallList" "next" "I", .fieldLink RX0 25 "SignetRoom$CallList" "serials" "I", .static yX3_mix, .initialized RX3, .code yX3_mix cX3_mix 2 (some .int)] ++ wsX00)
def wsX3_sealFor : List Cond := .code yX3_sealFor cX3_sealFor 2 (some .int) :: ([])
def wsX0_markSigners : List Cond := .code yX0_markSigners cX0_markSigners 3 none :: ([.fieldLink RX0 32 "SignetRoom$CallList" "signers" "I", .fieldLink RX0 38 "SignetRoom$CallList" "seal" "I", .methodLink RX0 28 yX0_print, .instanceMethod yX0_print, .selects RX0 yX0_print yX0_print, .initialized RX0, .code yX0_print cX0_print 1 (some .int), .fieldLink RX0 9 "SignetRoom$CallList" "issuer" "I", .fieldLink RX0 15 "SignetRoom$CallList" "at" "I", .fieldLink RX0 18 "SignetRoom$CallList" "next" "I", .fieldLink RX0 25 "SignetRoom$CallList" "serials" "I", .static yX3_mix, .initialized RX3, .code yX3_mix cX3_mix 2 (some .int), .static yX3_sealFor, .code yX3_sealFor cX3_sealFor 2 (some .int)] ++ wsX00)
def wsX0_hasSerial : List Cond := .code yX0_hasSerial cX0_hasSerial 2 (some .boolean) :: ([.fieldLink RX0 25 "SignetRoom$CallList" "serials" "I"] ++ wsX00)
def wsX0_property : List Cond := .code yX0_property cX0_property 2 (some .int) :: ([.fieldLink RX0 9 "SignetRoom$CallList" "issuer" "I", .fieldLink RX0 15 "SignetRoom$CallList" "at" "I", .fieldLink RX0 18 "SignetRoom$CallList" "next" "I", .fieldLink RX0 25 "SignetRoom$CallList" "serials" "I", .fieldLink RX0 38 "SignetRoom$CallList" "seal" "I", .methodLink RX0 28 yX0_print, .instanceMethod yX0_print, .selects RX0 yX0_print yX0_print, .initialized RX0, .code yX0_print cX0_print 1 (some .int), .static yX3_mix, .initialized RX3, .code yX3_mix cX3_mix 2 (some .int)] ++ wsX00)
def wsX1_init : List Cond := .code yX1_init cX1_init 1 none :: ([.methodLink RX1 3 objectInit, .instanceMethod objectInit, .code objectInit ⟨#[0xb1]⟩ 1 none, .arrayClass .int, .fieldLink RX1 9 "SignetRoom$ChainBook" "backers" "[I", .fieldLink RX1 15 "SignetRoom$ChainBook" "waysEndingIn" "[I", .classLink RX1 18 "[[I", .fieldLink RX1 20 "SignetRoom$ChainBook" "rows" "[[I", .fieldLink RX1 23 "SignetRoom$ChainBook" "lengths" "[I", .fieldLink RX1 26 "SignetRoom$ChainBook" "begun" "[I"] ++ wsX10)
def wsX1_markWays : List Cond := .code yX1_markWays cX1_markWays 6 none :: ([.fieldLink RX1 29 "SignetRoom$ChainBook" "letterCount" "I", .fieldLink RX1 15 "SignetRoom$ChainBook" "waysEndingIn" "[I", .fieldLink RX1 9 "SignetRoom$ChainBook" "backers" "[I"] ++ wsX10)
def wsX1_keep : List Cond := .code yX1_keep cX1_keep 2 none :: ([.fieldLink RX1 33 "SignetRoom$ChainBook" "chainCount" "I", .fieldLink RX1 26 "SignetRoom$ChainBook" "begun" "[I", .fieldLink RX1 20 "SignetRoom$ChainBook" "rows" "[[I", .methodLink RX1 44 arraycopyName, .native arraycopyName, .static arraycopyName, .initialized "java/lang/System", .fieldLink RX1 23 "SignetRoom$ChainBook" "lengths" "[I"] ++ wsX10)
def wsX1_extend : List Cond := .code yX1_extend cX1_extend 7 none :: ([.fieldLink RX1 15 "SignetRoom$ChainBook" "waysEndingIn" "[I", .fieldLink RX1 9 "SignetRoom$ChainBook" "backers" "[I", .fieldLink RX1 26 "SignetRoom$ChainBook" "begun" "[I", .fieldLink RX1 29 "SignetRoom$ChainBook" "letterCount" "I", .fieldLink RX1 33 "SignetRoom$ChainBook" "chainCount" "I", .methodLink RX1 40 yX1_keep, .instanceMethod yX1_keep, .selects RX1 yX1_keep yX1_keep, .initialized RX1, .code yX1_keep cX1_keep 2 none, .fieldLink RX1 20 "SignetRoom$ChainBook" "rows" "[[I", .methodLink RX1 44 arraycopyName, .native arraycopyName, .static arraycopyName, .initialized "java/lang/System", .fieldLink RX1 23 "SignetRoom$ChainBook" "lengths" "[I", .methodLink RX1 36 yX1_extend, .static yX1_extend] ++ wsX10)
def wsX1_findChainsOf : List Cond := .code yX1_findChainsOf cX1_findChainsOf 3 none :: ([.fieldLink RX1 33 "SignetRoom$ChainBook" "chainCount" "I", .fieldLink RX1 26 "SignetRoom$ChainBook" "begun" "[I", .fieldLink RX1 15 "SignetRoom$ChainBook" "waysEndingIn" "[I", .methodLink RX1 36 yX1_extend, .static yX1_extend, .initialized RX1, .code yX1_extend cX1_extend 7 none, .fieldLink RX1 9 "SignetRoom$ChainBook" "backers" "[I", .fieldLink RX1 29 "SignetRoom$ChainBook" "letterCount" "I", .methodLink RX1 40 yX1_keep, .instanceMethod yX1_keep, .selects RX1 yX1_keep yX1_keep, .code yX1_keep cX1_keep 2 none, .fieldLink RX1 20 "SignetRoom$ChainBook" "rows" "[[I", .methodLink RX1 44 arraycopyName, .native arraycopyName, .static arraycopyName, .initialized "java/lang/System", .fieldLink RX1 23 "SignetRoom$ChainBook" "lengths" "[I"] ++ wsX10)
def wsX1_lengthOf : List Cond := .code yX1_lengthOf cX1_lengthOf 2 (some .int) :: ([.fieldLink RX1 33 "SignetRoom$ChainBook" "chainCount" "I", .fieldLink RX1 23 "SignetRoom$ChainBook" "lengths" "[I"] ++ wsX10)
def wsX1_member : List Cond := .code yX1_member cX1_member 3 (some .int) :: ([.fieldLink RX1 33 "SignetRoom$ChainBook" "chainCount" "I", .fieldLink RX1 23 "SignetRoom$ChainBook" "lengths" "[I", .fieldLink RX1 20 "SignetRoom$ChainBook" "rows" "[[I"] ++ wsX10)
def wsX2_init : List Cond := .code yX2_init cX2_init 1 none :: ([.methodLink RX2 3 objectInit, .instanceMethod objectInit, .code objectInit ⟨#[0xb1]⟩ 1 none, .fieldLink RX2 9 "SignetRoom$Letter" "to" "I", .fieldLink RX2 15 "SignetRoom$Letter" "uses" "I"] ++ wsX20)
def wsX2_write : List Cond := .code yX2_write cX2_write 5 none :: ([.fieldLink RX2 18 "SignetRoom$Letter" "subject" "I", .fieldLink RX2 21 "SignetRoom$Letter" "issuer" "I", .fieldLink RX2 24 "SignetRoom$Letter" "key" "I", .fieldLink RX2 27 "SignetRoom$Letter" "serial" "I"] ++ wsX20)
def wsX2_print : List Cond := .code yX2_print cX2_print 2 (some .int) :: ([.fieldLink RX2 18 "SignetRoom$Letter" "subject" "I", .fieldLink RX2 21 "SignetRoom$Letter" "issuer" "I", .fieldLink RX2 24 "SignetRoom$Letter" "key" "I", .fieldLink RX2 27 "SignetRoom$Letter" "serial" "I", .fieldLink RX2 34 "SignetRoom$Letter" "from" "I", .fieldLink RX2 9 "SignetRoom$Letter" "to" "I", .fieldLink RX2 37 "SignetRoom$Letter" "isMaster" "Z", .fieldLink RX2 41 "SignetRoom$Letter" "reach" "I", .fieldLink RX2 15 "SignetRoom$Letter" "uses" "I", .fieldLink RX2 44 "SignetRoom$Letter" "bound" "I", .static yX3_mix, .initialized RX3, .code yX3_mix cX3_mix 2 (some .int)] ++ wsX20)
def wsX2_isSealedBy : List Cond := .code yX2_isSealedBy cX2_isSealedBy 2 (some .boolean) :: ([.fieldLink RX2 47 "SignetRoom$Letter" "seal" "I", .methodLink RX2 50 yX2_print, .instanceMethod yX2_print, .selects RX2 yX2_print yX2_print, .initialized RX2, .code yX2_print cX2_print 2 (some .int), .fieldLink RX2 18 "SignetRoom$Letter" "subject" "I", .fieldLink RX2 21 "SignetRoom$Letter" "issuer" "I", .fieldLink RX2 24 "SignetRoom$Letter" "key" "I", .fieldLink RX2 27 "SignetRoom$Letter" "serial" "I", .fieldLink RX2 34 "SignetRoom$Letter" "from" "I", .fieldLink RX2 9 "SignetRoom$Letter" "to" "I", .fieldLink RX2 37 "SignetRoom$Letter" "isMaster" "Z", .fieldLink RX2 41 "SignetRoom$Letter" "reach" "I", .fieldLink RX2 15 "SignetRoom$Letter" "uses" "I", .fieldLink RX2 44 "SignetRoom$Letter" "bound" "I", .static yX3_mix, .initialized RX3, .code yX3_mix cX3_mix 2 (some .int), .static yX3_sealFor, .code yX3_sealFor cX3_sealFor 2 (some .int)] ++ wsX20)
def wsX2_flawAlone : List Cond := .code yX2_flawAlone cX2_flawAlone 3 (some .int) :: ([.fieldLink RX2 34 "SignetRoom$Letter" "from" "I", .fieldLink RX2 9 "SignetRoom$Letter" "to" "I", .fieldLink RX2 15 "SignetRoom$Letter" "uses" "I"] ++ wsX20)
def wsX2_property : List Cond := .code yX2_property cX2_property 2 (some .int) :: ([.fieldLink RX2 18 "SignetRoom$Letter" "subject" "I", .fieldLink RX2 21 "SignetRoom$Letter" "issuer" "I", .fieldLink RX2 24 "SignetRoom$Letter" "key" "I", .fieldLink RX2 27 "SignetRoom$Letter" "serial" "I", .fieldLink RX2 34 "SignetRoom$Letter" "from" "I", .fieldLink RX2 9 "SignetRoom$Letter" "to" "I", .fieldLink RX2 37 "SignetRoom$Letter" "isMaster" "Z", .fieldLink RX2 41 "SignetRoom$Letter" "reach" "I", .fieldLink RX2 15 "SignetRoom$Letter" "uses" "I", .fieldLink RX2 44 "SignetRoom$Letter" "bound" "I", .fieldLink RX2 47 "SignetRoom$Letter" "seal" "I", .fieldLink RX2 57 "SignetRoom$Letter" "isAnchor" "Z", .methodLink RX2 50 yX2_print, .instanceMethod yX2_print, .selects RX2 yX2_print yX2_print, .initialized RX2, .code yX2_print cX2_print 2 (some .int), .static yX3_mix, .initialized RX3, .code yX3_mix cX3_mix 2 (some .int)] ++ wsX20)
def wsX3_init_r1 : List Cond := [Cond.methodLink RX3 1 objectInit, Cond.instanceMethod objectInit, Cond.code objectInit ⟨#[0xb1]⟩ 1 none, Cond.classLink RX3 9 RX2, Cond.fieldLink RX3 11 "SignetRoom" "letters" "[LSignetRoom$Letter;", Cond.classLink RX3 15 RX0, Cond.fieldLink RX3 17 "SignetRoom" "lists" "[LSignetRoom$CallList;", Cond.classLink RX3 21 RX1, Cond.instantiable RX1 7, Cond.initialized RX1, Cond.fieldLink RX3 24 "SignetRoom" "book" "LSignetRoom$ChainBook;", Cond.arrayClass .int, Cond.fieldLink RX3 28 "SignetRoom" "verdictsBefore" "[I", Cond.instantiable RX2 12, Cond.initialized RX2, Cond.instantiable RX0 6, Cond.initialized RX0, Cond.instanceMethod yX1_init, Cond.code yX1_init cX1_init 1 none, Cond.methodLink RX1 3 objectInit, Cond.fieldLink RX1 9 "SignetRoom$ChainBook" "backers" "[I", Cond.fieldLink RX1 15 "SignetRoom$ChainBook" "waysEndingIn" "[I", Cond.classLink RX1 18 "[[I", Cond.fieldLink RX1 20 "SignetRoom$ChainBook" "rows" "[[I"]
def wsX3_init_r2 : List Cond := [Cond.fieldLink RX1 23 "SignetRoom$ChainBook" "lengths" "[I", Cond.fieldLink RX1 26 "SignetRoom$ChainBook" "begun" "[I", Cond.instanceMethod yX2_init, Cond.code yX2_init cX2_init 1 none, Cond.methodLink RX2 3 objectInit, Cond.fieldLink RX2 9 "SignetRoom$Letter" "to" "I", Cond.fieldLink RX2 15 "SignetRoom$Letter" "uses" "I", Cond.instanceMethod yX0_init, Cond.code yX0_init cX0_init 1 none, Cond.methodLink RX0 3 objectInit]
def wsX3_init : List Cond := .code yX3_init cX3_init 2 none :: ((wsX3_init_r1 ++ wsX3_init_r2) ++ wsX30 ++ wsX10 ++ wsX20 ++ wsX00)
def wsX3_isName : List Cond := .code yX3_isName cX3_isName 2 (some .boolean) :: ([])
def wsX3_isWithin : List Cond := .code yX3_isWithin cX3_isWithin 2 (some .boolean) :: ([])
def wsX3_isKey : List Cond := .code yX3_isKey cX3_isKey 1 (some .boolean) :: ([.methodLink RX3 80 yX3_isWithin, .static yX3_isWithin, .initialized RX3, .code yX3_isWithin cX3_isWithin 2 (some .boolean)])
def wsX3_isSerial : List Cond := .code yX3_isSerial cX3_isSerial 1 (some .boolean) :: ([.methodLink RX3 80 yX3_isWithin, .static yX3_isWithin, .initialized RX3, .code yX3_isWithin cX3_isWithin 2 (some .boolean)])
def wsX3_refuseUnless : List Cond := .code yX3_refuseUnless cX3_refuseUnless 1 none :: ([.classLink RX3 208 "java/lang/IllegalArgumentException", .initialized "java/lang/IllegalArgumentException"] ++ (vx_atS RX3 212 "java/lang/IllegalArgumentException" ["java/lang/RuntimeException", "java/lang/Exception"]).filter goodWord)
def wsX3_letter_r1 : List Cond := [Cond.classLink RX3 52 "java/lang/IllegalStateException", Cond.initialized "java/lang/IllegalStateException", Cond.fieldLink RX3 48 "SignetRoom" "letterCount" "I", Cond.fieldLink RX3 11 "SignetRoom" "letters" "[LSignetRoom$Letter;", Cond.methodLink RX3 34 yX3_isName, Cond.static yX3_isName, Cond.initialized RX3, Cond.code yX3_isName cX3_isName 2 (some .boolean), Cond.methodLink RX3 38 yX3_isKey, Cond.static yX3_isKey, Cond.code yX3_isKey cX3_isKey 1 (some .boolean), Cond.methodLink RX3 80 yX3_isWithin, Cond.static yX3_isWithin, Cond.code yX3_isWithin cX3_isWithin 2 (some .boolean), Cond.methodLink RX3 41 yX3_isSerial, Cond.static yX3_isSerial, Cond.code yX3_isSerial cX3_isSerial 1 (some .boolean), Cond.methodLink RX3 44 yX3_refuseUnless, Cond.static yX3_refuseUnless, Cond.code yX3_refuseUnless cX3_refuseUnless 1 none, Cond.classLink RX3 208 "java/lang/IllegalArgumentException", Cond.initialized "java/lang/IllegalArgumentException", Cond.instanceMethod yX2_write, Cond.initialized RX2]
def wsX3_letter_r2 : List Cond := [Cond.selects RX2 yX2_write yX2_write, Cond.code yX2_write cX2_write 5 none, Cond.fieldLink RX2 18 "SignetRoom$Letter" "subject" "I", Cond.fieldLink RX2 21 "SignetRoom$Letter" "issuer" "I", Cond.fieldLink RX2 24 "SignetRoom$Letter" "key" "I", Cond.fieldLink RX2 27 "SignetRoom$Letter" "serial" "I"]
def wsX3_letter : List Cond := .code yX3_letter cX3_letter 6 (some .int) :: ((wsX3_letter_r1 ++ wsX3_letter_r2) ++ wsX30 ++ wsX20 ++ (vx_atS RX3 56 "java/lang/IllegalStateException" ["java/lang/RuntimeException", "java/lang/Exception"]).filter goodWord ++ (vx_atS RX3 212 "java/lang/IllegalArgumentException" ["java/lang/RuntimeException", "java/lang/Exception"]).filter goodWord)
def wsX3_isLetter : List Cond := .code yX3_isLetter cX3_isLetter 2 (some .boolean) :: ([.fieldLink RX3 48 "SignetRoom" "letterCount" "I"] ++ wsX30)
def wsX3_refuseUnlessLetter : List Cond := .code yX3_refuseUnlessLetter cX3_refuseUnlessLetter 2 none :: ([.classLink RX3 216 "java/lang/IndexOutOfBoundsException", .initialized "java/lang/IndexOutOfBoundsException", .methodLink RX3 213 yX3_isLetter, .instanceMethod yX3_isLetter, .selects RX3 yX3_isLetter yX3_isLetter, .initialized RX3, .code yX3_isLetter cX3_isLetter 2 (some .boolean), .fieldLink RX3 48 "SignetRoom" "letterCount" "I"] ++ wsX30 ++ (vx_atS RX3 220 "java/lang/IndexOutOfBoundsException" ["java/lang/RuntimeException", "java/lang/Exception"]).filter goodWord)
def wsX3_isTime : List Cond := .code yX3_isTime cX3_isTime 1 (some .boolean) :: ([.methodLink RX3 80 yX3_isWithin, .static yX3_isWithin, .initialized RX3, .code yX3_isWithin cX3_isWithin 2 (some .boolean)])
def wsX3_times_r1 : List Cond := [Cond.fieldLink RX3 11 "SignetRoom" "letters" "[LSignetRoom$Letter;", Cond.methodLink RX3 63 yX3_refuseUnlessLetter, Cond.instanceMethod yX3_refuseUnlessLetter, Cond.selects RX3 yX3_refuseUnlessLetter yX3_refuseUnlessLetter, Cond.initialized RX3, Cond.code yX3_refuseUnlessLetter cX3_refuseUnlessLetter 2 none, Cond.classLink RX3 216 "java/lang/IndexOutOfBoundsException", Cond.initialized "java/lang/IndexOutOfBoundsException", Cond.methodLink RX3 213 yX3_isLetter, Cond.instanceMethod yX3_isLetter, Cond.selects RX3 yX3_isLetter yX3_isLetter, Cond.code yX3_isLetter cX3_isLetter 2 (some .boolean), Cond.fieldLink RX3 48 "SignetRoom" "letterCount" "I", Cond.methodLink RX3 67 yX3_isTime, Cond.static yX3_isTime, Cond.code yX3_isTime cX3_isTime 1 (some .boolean), Cond.methodLink RX3 80 yX3_isWithin, Cond.static yX3_isWithin, Cond.code yX3_isWithin cX3_isWithin 2 (some .boolean), Cond.methodLink RX3 44 yX3_refuseUnless, Cond.static yX3_refuseUnless, Cond.code yX3_refuseUnless cX3_refuseUnless 1 none, Cond.classLink RX3 208 "java/lang/IllegalArgumentException", Cond.initialized "java/lang/IllegalArgumentException"]
def wsX3_times_r2 : List Cond := [Cond.instanceMethod yX2_print, Cond.initialized RX2, Cond.selects RX2 yX2_print yX2_print, Cond.code yX2_print cX2_print 2 (some .int), Cond.fieldLink RX2 18 "SignetRoom$Letter" "subject" "I", Cond.fieldLink RX2 21 "SignetRoom$Letter" "issuer" "I", Cond.fieldLink RX2 24 "SignetRoom$Letter" "key" "I", Cond.fieldLink RX2 27 "SignetRoom$Letter" "serial" "I", Cond.fieldLink RX2 34 "SignetRoom$Letter" "from" "I", Cond.fieldLink RX2 9 "SignetRoom$Letter" "to" "I", Cond.fieldLink RX2 37 "SignetRoom$Letter" "isMaster" "Z", Cond.fieldLink RX2 41 "SignetRoom$Letter" "reach" "I", Cond.fieldLink RX2 15 "SignetRoom$Letter" "uses" "I", Cond.fieldLink RX2 44 "SignetRoom$Letter" "bound" "I", Cond.static yX3_mix, Cond.code yX3_mix cX3_mix 2 (some .int)]
def wsX3_times : List Cond := .code yX3_times cX3_times 4 (some .int) :: ((wsX3_times_r1 ++ wsX3_times_r2) ++ wsX30 ++ wsX20 ++ (vx_atS RX3 220 "java/lang/IndexOutOfBoundsException" ["java/lang/RuntimeException", "java/lang/Exception"]).filter goodWord ++ (vx_atS RX3 212 "java/lang/IllegalArgumentException" ["java/lang/RuntimeException", "java/lang/Exception"]).filter goodWord)
def wsX3_master_r1 : List Cond := [Cond.fieldLink RX3 11 "SignetRoom" "letters" "[LSignetRoom$Letter;", Cond.methodLink RX3 63 yX3_refuseUnlessLetter, Cond.instanceMethod yX3_refuseUnlessLetter, Cond.selects RX3 yX3_refuseUnlessLetter yX3_refuseUnlessLetter, Cond.initialized RX3, Cond.code yX3_refuseUnlessLetter cX3_refuseUnlessLetter 2 none, Cond.classLink RX3 216 "java/lang/IndexOutOfBoundsException", Cond.initialized "java/lang/IndexOutOfBoundsException", Cond.methodLink RX3 213 yX3_isLetter, Cond.instanceMethod yX3_isLetter, Cond.selects RX3 yX3_isLetter yX3_isLetter, Cond.code yX3_isLetter cX3_isLetter 2 (some .boolean), Cond.fieldLink RX3 48 "SignetRoom" "letterCount" "I", Cond.methodLink RX3 80 yX3_isWithin, Cond.static yX3_isWithin, Cond.code yX3_isWithin cX3_isWithin 2 (some .boolean), Cond.methodLink RX3 44 yX3_refuseUnless, Cond.static yX3_refuseUnless, Cond.code yX3_refuseUnless cX3_refuseUnless 1 none, Cond.classLink RX3 208 "java/lang/IllegalArgumentException", Cond.initialized "java/lang/IllegalArgumentException", Cond.instanceMethod yX2_print, Cond.initialized RX2, Cond.selects RX2 yX2_print yX2_print]
def wsX3_master_r2 : List Cond := [Cond.code yX2_print cX2_print 2 (some .int), Cond.fieldLink RX2 18 "SignetRoom$Letter" "subject" "I", Cond.fieldLink RX2 21 "SignetRoom$Letter" "issuer" "I", Cond.fieldLink RX2 24 "SignetRoom$Letter" "key" "I", Cond.fieldLink RX2 27 "SignetRoom$Letter" "serial" "I", Cond.fieldLink RX2 34 "SignetRoom$Letter" "from" "I", Cond.fieldLink RX2 9 "SignetRoom$Letter" "to" "I", Cond.fieldLink RX2 37 "SignetRoom$Letter" "isMaster" "Z", Cond.fieldLink RX2 41 "SignetRoom$Letter" "reach" "I", Cond.fieldLink RX2 15 "SignetRoom$Letter" "uses" "I", Cond.fieldLink RX2 44 "SignetRoom$Letter" "bound" "I", Cond.static yX3_mix, Cond.code yX3_mix cX3_mix 2 (some .int)]
def wsX3_master : List Cond := .code yX3_master cX3_master 4 (some .int) :: ((wsX3_master_r1 ++ wsX3_master_r2) ++ wsX30 ++ wsX20 ++ (vx_atS RX3 220 "java/lang/IndexOutOfBoundsException" ["java/lang/RuntimeException", "java/lang/Exception"]).filter goodWord ++ (vx_atS RX3 212 "java/lang/IllegalArgumentException" ["java/lang/RuntimeException", "java/lang/Exception"]).filter goodWord)
def wsX3_isNameOrZero : List Cond := .code yX3_isNameOrZero cX3_isNameOrZero 1 (some .boolean) :: ([.methodLink RX3 34 yX3_isName, .static yX3_isName, .initialized RX3, .code yX3_isName cX3_isName 2 (some .boolean)])
def wsX3_good_r1 : List Cond := [Cond.fieldLink RX3 11 "SignetRoom" "letters" "[LSignetRoom$Letter;", Cond.methodLink RX3 63 yX3_refuseUnlessLetter, Cond.instanceMethod yX3_refuseUnlessLetter, Cond.selects RX3 yX3_refuseUnlessLetter yX3_refuseUnlessLetter, Cond.initialized RX3, Cond.code yX3_refuseUnlessLetter cX3_refuseUnlessLetter 2 none, Cond.classLink RX3 216 "java/lang/IndexOutOfBoundsException", Cond.initialized "java/lang/IndexOutOfBoundsException", Cond.methodLink RX3 213 yX3_isLetter, Cond.instanceMethod yX3_isLetter, Cond.selects RX3 yX3_isLetter yX3_isLetter, Cond.code yX3_isLetter cX3_isLetter 2 (some .boolean), Cond.fieldLink RX3 48 "SignetRoom" "letterCount" "I", Cond.methodLink RX3 80 yX3_isWithin, Cond.static yX3_isWithin, Cond.code yX3_isWithin cX3_isWithin 2 (some .boolean), Cond.methodLink RX3 91 yX3_isNameOrZero, Cond.static yX3_isNameOrZero, Cond.code yX3_isNameOrZero cX3_isNameOrZero 1 (some .boolean), Cond.methodLink RX3 34 yX3_isName, Cond.static yX3_isName, Cond.code yX3_isName cX3_isName 2 (some .boolean), Cond.methodLink RX3 44 yX3_refuseUnless, Cond.static yX3_refuseUnless]
def wsX3_good_r2 : List Cond := [Cond.code yX3_refuseUnless cX3_refuseUnless 1 none, Cond.classLink RX3 208 "java/lang/IllegalArgumentException", Cond.initialized "java/lang/IllegalArgumentException", Cond.instanceMethod yX2_print, Cond.initialized RX2, Cond.selects RX2 yX2_print yX2_print, Cond.code yX2_print cX2_print 2 (some .int), Cond.fieldLink RX2 18 "SignetRoom$Letter" "subject" "I", Cond.fieldLink RX2 21 "SignetRoom$Letter" "issuer" "I", Cond.fieldLink RX2 24 "SignetRoom$Letter" "key" "I", Cond.fieldLink RX2 27 "SignetRoom$Letter" "serial" "I", Cond.fieldLink RX2 34 "SignetRoom$Letter" "from" "I", Cond.fieldLink RX2 9 "SignetRoom$Letter" "to" "I", Cond.fieldLink RX2 37 "SignetRoom$Letter" "isMaster" "Z", Cond.fieldLink RX2 41 "SignetRoom$Letter" "reach" "I", Cond.fieldLink RX2 15 "SignetRoom$Letter" "uses" "I", Cond.fieldLink RX2 44 "SignetRoom$Letter" "bound" "I", Cond.static yX3_mix, Cond.code yX3_mix cX3_mix 2 (some .int)]
def wsX3_good : List Cond := .code yX3_good cX3_good 4 (some .int) :: ((wsX3_good_r1 ++ wsX3_good_r2) ++ wsX30 ++ wsX20 ++ (vx_atS RX3 220 "java/lang/IndexOutOfBoundsException" ["java/lang/RuntimeException", "java/lang/Exception"]).filter goodWord ++ (vx_atS RX3 212 "java/lang/IllegalArgumentException" ["java/lang/RuntimeException", "java/lang/Exception"]).filter goodWord)
def wsX3_sign_r1 : List Cond := [Cond.fieldLink RX3 11 "SignetRoom" "letters" "[LSignetRoom$Letter;", Cond.methodLink RX3 63 yX3_refuseUnlessLetter, Cond.instanceMethod yX3_refuseUnlessLetter, Cond.selects RX3 yX3_refuseUnlessLetter yX3_refuseUnlessLetter, Cond.initialized RX3, Cond.code yX3_refuseUnlessLetter cX3_refuseUnlessLetter 2 none, Cond.classLink RX3 216 "java/lang/IndexOutOfBoundsException", Cond.initialized "java/lang/IndexOutOfBoundsException", Cond.methodLink RX3 213 yX3_isLetter, Cond.instanceMethod yX3_isLetter, Cond.selects RX3 yX3_isLetter yX3_isLetter, Cond.code yX3_isLetter cX3_isLetter 2 (some .boolean), Cond.fieldLink RX3 48 "SignetRoom" "letterCount" "I", Cond.methodLink RX3 38 yX3_isKey, Cond.static yX3_isKey, Cond.code yX3_isKey cX3_isKey 1 (some .boolean), Cond.methodLink RX3 80 yX3_isWithin, Cond.static yX3_isWithin, Cond.code yX3_isWithin cX3_isWithin 2 (some .boolean), Cond.methodLink RX3 44 yX3_refuseUnless, Cond.static yX3_refuseUnless, Cond.code yX3_refuseUnless cX3_refuseUnless 1 none, Cond.classLink RX3 208 "java/lang/IllegalArgumentException", Cond.initialized "java/lang/IllegalArgumentException"]
def wsX3_sign_r2 : List Cond := [Cond.instanceMethod yX2_print, Cond.initialized RX2, Cond.selects RX2 yX2_print yX2_print, Cond.code yX2_print cX2_print 2 (some .int), Cond.fieldLink RX2 18 "SignetRoom$Letter" "subject" "I", Cond.fieldLink RX2 21 "SignetRoom$Letter" "issuer" "I", Cond.fieldLink RX2 24 "SignetRoom$Letter" "key" "I", Cond.fieldLink RX2 27 "SignetRoom$Letter" "serial" "I", Cond.fieldLink RX2 34 "SignetRoom$Letter" "from" "I", Cond.fieldLink RX2 9 "SignetRoom$Letter" "to" "I", Cond.fieldLink RX2 37 "SignetRoom$Letter" "isMaster" "Z", Cond.fieldLink RX2 41 "SignetRoom$Letter" "reach" "I", Cond.fieldLink RX2 15 "SignetRoom$Letter" "uses" "I", Cond.fieldLink RX2 44 "SignetRoom$Letter" "bound" "I", Cond.static yX3_mix, Cond.code yX3_mix cX3_mix 2 (some .int), Cond.methodLink RX3 100 yX3_sealFor, Cond.static yX3_sealFor, Cond.code yX3_sealFor cX3_sealFor 2 (some .int)]
def wsX3_sign : List Cond := .code yX3_sign cX3_sign 3 (some .int) :: ((wsX3_sign_r1 ++ wsX3_sign_r2) ++ wsX30 ++ wsX20 ++ (vx_atS RX3 220 "java/lang/IndexOutOfBoundsException" ["java/lang/RuntimeException", "java/lang/Exception"]).filter goodWord ++ (vx_atS RX3 212 "java/lang/IllegalArgumentException" ["java/lang/RuntimeException", "java/lang/Exception"]).filter goodWord)
def wsX3_anchorSet : List Cond := .code yX3_anchorSet cX3_anchorSet 3 (some .int) :: ([.fieldLink RX3 48 "SignetRoom" "letterCount" "I", .fieldLink RX3 11 "SignetRoom" "letters" "[LSignetRoom$Letter;"] ++ wsX30 ++ wsX20)
def wsJ6_bitCount_0f7a4 : List Cond := .code yJ6_bitCount_0f7a4 cJ6_bitCount_0f7a4 1 (some .int) :: ([.constant RJ6 265 (1431655765), .constant RJ6 266 (858993459), .constant RJ6 267 (252645135)])
def wsX3_anchor : List Cond := .code yX3_anchor cX3_anchor 3 (some .int) :: ([.fieldLink RX3 11 "SignetRoom" "letters" "[LSignetRoom$Letter;", .methodLink RX3 63 yX3_refuseUnlessLetter, .instanceMethod yX3_refuseUnlessLetter, .selects RX3 yX3_refuseUnlessLetter yX3_refuseUnlessLetter, .initialized RX3, .code yX3_refuseUnlessLetter cX3_refuseUnlessLetter 2 none, .classLink RX3 216 "java/lang/IndexOutOfBoundsException", .initialized "java/lang/IndexOutOfBoundsException", .methodLink RX3 213 yX3_isLetter, .instanceMethod yX3_isLetter, .selects RX3 yX3_isLetter yX3_isLetter, .code yX3_isLetter cX3_isLetter 2 (some .boolean), .fieldLink RX3 48 "SignetRoom" "letterCount" "I", .methodLink RX3 110 yX3_anchorSet, .instanceMethod yX3_anchorSet, .selects RX3 yX3_anchorSet yX3_anchorSet, .code yX3_anchorSet cX3_anchorSet 3 (some .int), .methodLink RX3 113 yJ6_bitCount_0f7a4, .static yJ6_bitCount_0f7a4, .initialized RJ6, .code yJ6_bitCount_0f7a4 cJ6_bitCount_0f7a4 1 (some .int), .constant RJ6 265 (1431655765), .constant RJ6 266 (858993459), .constant RJ6 267 (252645135)] ++ wsX30 ++ wsX20 ++ (vx_atS RX3 220 "java/lang/IndexOutOfBoundsException" ["java/lang/RuntimeException", "java/lang/Exception"]).filter goodWord)
def wsX3_list_r1 : List Cond := [Cond.classLink RX3 52 "java/lang/IllegalStateException", Cond.initialized "java/lang/IllegalStateException", Cond.fieldLink RX3 119 "SignetRoom" "listCount" "I", Cond.fieldLink RX3 17 "SignetRoom" "lists" "[LSignetRoom$CallList;", Cond.methodLink RX3 34 yX3_isName, Cond.static yX3_isName, Cond.initialized RX3, Cond.code yX3_isName cX3_isName 2 (some .boolean), Cond.methodLink RX3 67 yX3_isTime, Cond.static yX3_isTime, Cond.code yX3_isTime cX3_isTime 1 (some .boolean), Cond.methodLink RX3 80 yX3_isWithin, Cond.static yX3_isWithin, Cond.code yX3_isWithin cX3_isWithin 2 (some .boolean), Cond.methodLink RX3 44 yX3_refuseUnless, Cond.static yX3_refuseUnless, Cond.code yX3_refuseUnless cX3_refuseUnless 1 none, Cond.classLink RX3 208 "java/lang/IllegalArgumentException", Cond.initialized "java/lang/IllegalArgumentException", Cond.instanceMethod yX0_write, Cond.initialized RX0, Cond.selects RX0 yX0_write yX0_write, Cond.code yX0_write cX0_write 4 none, Cond.fieldLink RX0 9 "SignetRoom$CallList" "issuer" "I"]
def wsX3_list_r2 : List Cond := [Cond.fieldLink RX0 15 "SignetRoom$CallList" "at" "I", Cond.fieldLink RX0 18 "SignetRoom$CallList" "next" "I"]
def wsX3_list : List Cond := .code yX3_list cX3_list 5 (some .int) :: ((wsX3_list_r1 ++ wsX3_list_r2) ++ wsX30 ++ wsX00 ++ (vx_atS RX3 56 "java/lang/IllegalStateException" ["java/lang/RuntimeException", "java/lang/Exception"]).filter goodWord ++ (vx_atS RX3 212 "java/lang/IllegalArgumentException" ["java/lang/RuntimeException", "java/lang/Exception"]).filter goodWord)
def wsX3_refuseUnlessList : List Cond := .code yX3_refuseUnlessList cX3_refuseUnlessList 2 none :: ([.classLink RX3 216 "java/lang/IndexOutOfBoundsException", .initialized "java/lang/IndexOutOfBoundsException", .fieldLink RX3 119 "SignetRoom" "listCount" "I"] ++ wsX30 ++ (vx_atS RX3 220 "java/lang/IndexOutOfBoundsException" ["java/lang/RuntimeException", "java/lang/Exception"]).filter goodWord)
def wsX3_call_r1 : List Cond := [Cond.fieldLink RX3 17 "SignetRoom" "lists" "[LSignetRoom$CallList;", Cond.methodLink RX3 127 yX3_refuseUnlessList, Cond.instanceMethod yX3_refuseUnlessList, Cond.selects RX3 yX3_refuseUnlessList yX3_refuseUnlessList, Cond.initialized RX3, Cond.code yX3_refuseUnlessList cX3_refuseUnlessList 2 none, Cond.classLink RX3 216 "java/lang/IndexOutOfBoundsException", Cond.initialized "java/lang/IndexOutOfBoundsException", Cond.fieldLink RX3 119 "SignetRoom" "listCount" "I", Cond.methodLink RX3 41 yX3_isSerial, Cond.static yX3_isSerial, Cond.code yX3_isSerial cX3_isSerial 1 (some .boolean), Cond.methodLink RX3 80 yX3_isWithin, Cond.static yX3_isWithin, Cond.code yX3_isWithin cX3_isWithin 2 (some .boolean), Cond.methodLink RX3 44 yX3_refuseUnless, Cond.static yX3_refuseUnless, Cond.code yX3_refuseUnless cX3_refuseUnless 1 none, Cond.classLink RX3 208 "java/lang/IllegalArgumentException", Cond.initialized "java/lang/IllegalArgumentException", Cond.methodLink RX3 113 yJ6_bitCount_0f7a4, Cond.static yJ6_bitCount_0f7a4, Cond.initialized RJ6, Cond.code yJ6_bitCount_0f7a4 cJ6_bitCount_0f7a4 1 (some .int)]
def wsX3_call_r2 : List Cond := [Cond.constant RJ6 265 (1431655765), Cond.constant RJ6 266 (858993459), Cond.constant RJ6 267 (252645135)]
def wsX3_call : List Cond := .code yX3_call cX3_call 3 (some .int) :: ((wsX3_call_r1 ++ wsX3_call_r2) ++ wsX30 ++ wsX00 ++ (vx_atS RX3 220 "java/lang/IndexOutOfBoundsException" ["java/lang/RuntimeException", "java/lang/Exception"]).filter goodWord ++ (vx_atS RX3 212 "java/lang/IllegalArgumentException" ["java/lang/RuntimeException", "java/lang/Exception"]).filter goodWord)
def wsX3_signList_r1 : List Cond := [Cond.fieldLink RX3 17 "SignetRoom" "lists" "[LSignetRoom$CallList;", Cond.methodLink RX3 127 yX3_refuseUnlessList, Cond.instanceMethod yX3_refuseUnlessList, Cond.selects RX3 yX3_refuseUnlessList yX3_refuseUnlessList, Cond.initialized RX3, Cond.code yX3_refuseUnlessList cX3_refuseUnlessList 2 none, Cond.classLink RX3 216 "java/lang/IndexOutOfBoundsException", Cond.initialized "java/lang/IndexOutOfBoundsException", Cond.fieldLink RX3 119 "SignetRoom" "listCount" "I", Cond.methodLink RX3 38 yX3_isKey, Cond.static yX3_isKey, Cond.code yX3_isKey cX3_isKey 1 (some .boolean), Cond.methodLink RX3 80 yX3_isWithin, Cond.static yX3_isWithin, Cond.code yX3_isWithin cX3_isWithin 2 (some .boolean), Cond.methodLink RX3 44 yX3_refuseUnless, Cond.static yX3_refuseUnless, Cond.code yX3_refuseUnless cX3_refuseUnless 1 none, Cond.classLink RX3 208 "java/lang/IllegalArgumentException", Cond.initialized "java/lang/IllegalArgumentException", Cond.instanceMethod yX0_print, Cond.initialized RX0, Cond.selects RX0 yX0_print yX0_print, Cond.code yX0_print cX0_print 1 (some .int)]
def wsX3_signList_r2 : List Cond := [Cond.fieldLink RX0 9 "SignetRoom$CallList" "issuer" "I", Cond.fieldLink RX0 15 "SignetRoom$CallList" "at" "I", Cond.fieldLink RX0 18 "SignetRoom$CallList" "next" "I", Cond.fieldLink RX0 25 "SignetRoom$CallList" "serials" "I", Cond.static yX3_mix, Cond.code yX3_mix cX3_mix 2 (some .int), Cond.methodLink RX3 100 yX3_sealFor, Cond.static yX3_sealFor, Cond.code yX3_sealFor cX3_sealFor 2 (some .int)]
def wsX3_signList : List Cond := .code yX3_signList cX3_signList 3 (some .int) :: ((wsX3_signList_r1 ++ wsX3_signList_r2) ++ wsX30 ++ wsX00 ++ (vx_atS RX3 220 "java/lang/IndexOutOfBoundsException" ["java/lang/RuntimeException", "java/lang/Exception"]).filter goodWord ++ (vx_atS RX3 212 "java/lang/IllegalArgumentException" ["java/lang/RuntimeException", "java/lang/Exception"]).filter goodWord)
def wsX3_strict : List Cond := .code yX3_strict cX3_strict 3 (some .boolean) :: ([.fieldLink RX3 135 "SignetRoom" "isStrictRoom" "Z"] ++ wsX30)
def wsX3_isBacking : List Cond := .code yX3_isBacking cX3_isBacking 2 (some .boolean) :: ([.instanceMethod yX2_isSealedBy, .initialized RX2, .selects RX2 yX2_isSealedBy yX2_isSealedBy, .code yX2_isSealedBy cX2_isSealedBy 2 (some .boolean), .fieldLink RX2 47 "SignetRoom$Letter" "seal" "I", .methodLink RX2 50 yX2_print, .instanceMethod yX2_print, .selects RX2 yX2_print yX2_print, .code yX2_print cX2_print 2 (some .int), .fieldLink RX2 18 "SignetRoom$Letter" "subject" "I", .fieldLink RX2 21 "SignetRoom$Letter" "issuer" "I", .fieldLink RX2 24 "SignetRoom$Letter" "key" "I", .fieldLink RX2 27 "SignetRoom$Letter" "serial" "I", .fieldLink RX2 34 "SignetRoom$Letter" "from" "I", .fieldLink RX2 9 "SignetRoom$Letter" "to" "I", .fieldLink RX2 37 "SignetRoom$Letter" "isMaster" "Z", .fieldLink RX2 41 "SignetRoom$Letter" "reach" "I", .fieldLink RX2 15 "SignetRoom$Letter" "uses" "I", .fieldLink RX2 44 "SignetRoom$Letter" "bound" "I", .static yX3_mix, .initialized RX3, .code yX3_mix cX3_mix 2 (some .int), .static yX3_sealFor, .code yX3_sealFor cX3_sealFor 2 (some .int)] ++ wsX20)
def wsX3_backersOf_r1 : List Cond := [Cond.fieldLink RX3 48 "SignetRoom" "letterCount" "I", Cond.fieldLink RX3 11 "SignetRoom" "letters" "[LSignetRoom$Letter;", Cond.methodLink RX3 154 yX3_isBacking, Cond.static yX3_isBacking, Cond.initialized RX3, Cond.code yX3_isBacking cX3_isBacking 2 (some .boolean), Cond.instanceMethod yX2_isSealedBy, Cond.initialized RX2, Cond.selects RX2 yX2_isSealedBy yX2_isSealedBy, Cond.code yX2_isSealedBy cX2_isSealedBy 2 (some .boolean), Cond.fieldLink RX2 47 "SignetRoom$Letter" "seal" "I", Cond.methodLink RX2 50 yX2_print, Cond.instanceMethod yX2_print, Cond.selects RX2 yX2_print yX2_print, Cond.code yX2_print cX2_print 2 (some .int), Cond.fieldLink RX2 18 "SignetRoom$Letter" "subject" "I", Cond.fieldLink RX2 21 "SignetRoom$Letter" "issuer" "I", Cond.fieldLink RX2 24 "SignetRoom$Letter" "key" "I", Cond.fieldLink RX2 27 "SignetRoom$Letter" "serial" "I", Cond.fieldLink RX2 34 "SignetRoom$Letter" "from" "I", Cond.fieldLink RX2 9 "SignetRoom$Letter" "to" "I", Cond.fieldLink RX2 37 "SignetRoom$Letter" "isMaster" "Z", Cond.fieldLink RX2 41 "SignetRoom$Letter" "reach" "I", Cond.fieldLink RX2 15 "SignetRoom$Letter" "uses" "I"]
def wsX3_backersOf_r2 : List Cond := [Cond.fieldLink RX2 44 "SignetRoom$Letter" "bound" "I", Cond.static yX3_mix, Cond.code yX3_mix cX3_mix 2 (some .int), Cond.static yX3_sealFor, Cond.code yX3_sealFor cX3_sealFor 2 (some .int)]
def wsX3_backersOf : List Cond := .code yX3_backersOf cX3_backersOf 4 (some .int) :: ((wsX3_backersOf_r1 ++ wsX3_backersOf_r2) ++ wsX30 ++ wsX20)
def wsX3_survey_r1 : List Cond := [Cond.fieldLink RX3 48 "SignetRoom" "letterCount" "I", Cond.fieldLink RX3 24 "SignetRoom" "book" "LSignetRoom$ChainBook;", Cond.fieldLink RX3 11 "SignetRoom" "letters" "[LSignetRoom$Letter;", Cond.fieldLink RX3 119 "SignetRoom" "listCount" "I", Cond.fieldLink RX3 17 "SignetRoom" "lists" "[LSignetRoom$CallList;", Cond.methodLink RX3 235 yX3_backersOf, Cond.instanceMethod yX3_backersOf, Cond.selects RX3 yX3_backersOf yX3_backersOf, Cond.initialized RX3, Cond.code yX3_backersOf cX3_backersOf 4 (some .int), Cond.methodLink RX3 154 yX3_isBacking, Cond.static yX3_isBacking, Cond.code yX3_isBacking cX3_isBacking 2 (some .boolean), Cond.instanceMethod yX2_isSealedBy, Cond.initialized RX2, Cond.selects RX2 yX2_isSealedBy yX2_isSealedBy, Cond.code yX2_isSealedBy cX2_isSealedBy 2 (some .boolean), Cond.fieldLink RX2 47 "SignetRoom$Letter" "seal" "I", Cond.methodLink RX2 50 yX2_print, Cond.instanceMethod yX2_print, Cond.selects RX2 yX2_print yX2_print, Cond.code yX2_print cX2_print 2 (some .int), Cond.fieldLink RX2 18 "SignetRoom$Letter" "subject" "I", Cond.fieldLink RX2 21 "SignetRoom$Letter" "issuer" "I"]
def wsX3_survey_r2 : List Cond := [Cond.fieldLink RX2 24 "SignetRoom$Letter" "key" "I", Cond.fieldLink RX2 27 "SignetRoom$Letter" "serial" "I", Cond.fieldLink RX2 34 "SignetRoom$Letter" "from" "I", Cond.fieldLink RX2 9 "SignetRoom$Letter" "to" "I", Cond.fieldLink RX2 37 "SignetRoom$Letter" "isMaster" "Z", Cond.fieldLink RX2 41 "SignetRoom$Letter" "reach" "I", Cond.fieldLink RX2 15 "SignetRoom$Letter" "uses" "I", Cond.fieldLink RX2 44 "SignetRoom$Letter" "bound" "I", Cond.static yX3_mix, Cond.code yX3_mix cX3_mix 2 (some .int), Cond.static yX3_sealFor, Cond.code yX3_sealFor cX3_sealFor 2 (some .int), Cond.methodLink RX3 110 yX3_anchorSet, Cond.instanceMethod yX3_anchorSet, Cond.selects RX3 yX3_anchorSet yX3_anchorSet, Cond.code yX3_anchorSet cX3_anchorSet 3 (some .int), Cond.instanceMethod yX1_markWays, Cond.initialized RX1, Cond.selects RX1 yX1_markWays yX1_markWays, Cond.code yX1_markWays cX1_markWays 6 none, Cond.fieldLink RX1 29 "SignetRoom$ChainBook" "letterCount" "I", Cond.fieldLink RX1 15 "SignetRoom$ChainBook" "waysEndingIn" "[I", Cond.fieldLink RX1 9 "SignetRoom$ChainBook" "backers" "[I", Cond.instanceMethod yX0_markSigners]
def wsX3_survey_r3 : List Cond := [Cond.initialized RX0, Cond.selects RX0 yX0_markSigners yX0_markSigners, Cond.code yX0_markSigners cX0_markSigners 3 none, Cond.fieldLink RX0 32 "SignetRoom$CallList" "signers" "I", Cond.fieldLink RX0 38 "SignetRoom$CallList" "seal" "I", Cond.methodLink RX0 28 yX0_print, Cond.instanceMethod yX0_print, Cond.selects RX0 yX0_print yX0_print, Cond.code yX0_print cX0_print 1 (some .int), Cond.fieldLink RX0 9 "SignetRoom$CallList" "issuer" "I", Cond.fieldLink RX0 15 "SignetRoom$CallList" "at" "I", Cond.fieldLink RX0 18 "SignetRoom$CallList" "next" "I", Cond.fieldLink RX0 25 "SignetRoom$CallList" "serials" "I"]
def wsX3_survey : List Cond := .code yX3_survey cX3_survey 2 none :: ((wsX3_survey_r1 ++ (wsX3_survey_r2 ++ wsX3_survey_r3)) ++ wsX30 ++ wsX10 ++ wsX20 ++ wsX00)
def wsX3_pairCount : List Cond := .code yX3_pairCount cX3_pairCount 3 (some .int) :: ([.fieldLink RX3 48 "SignetRoom" "letterCount" "I", .fieldLink RX3 24 "SignetRoom" "book" "LSignetRoom$ChainBook;", .methodLink RX3 113 yJ6_bitCount_0f7a4, .static yJ6_bitCount_0f7a4, .initialized RJ6, .code yJ6_bitCount_0f7a4 cJ6_bitCount_0f7a4 1 (some .int), .constant RJ6 265 (1431655765), .constant RJ6 266 (858993459), .constant RJ6 267 (252645135)] ++ wsX30 ++ wsX10)
def wsX3_countOf : List Cond := .code yX3_countOf cX3_countOf 2 (some .int) :: ([.fieldLink RX3 48 "SignetRoom" "letterCount" "I", .fieldLink RX3 119 "SignetRoom" "listCount" "I", .methodLink RX3 110 yX3_anchorSet, .instanceMethod yX3_anchorSet, .selects RX3 yX3_anchorSet yX3_anchorSet, .initialized RX3, .code yX3_anchorSet cX3_anchorSet 3 (some .int), .fieldLink RX3 11 "SignetRoom" "letters" "[LSignetRoom$Letter;", .methodLink RX3 113 yJ6_bitCount_0f7a4, .static yJ6_bitCount_0f7a4, .initialized RJ6, .code yJ6_bitCount_0f7a4 cJ6_bitCount_0f7a4 1 (some .int), .constant RJ6 265 (1431655765), .constant RJ6 266 (858993459), .constant RJ6 267 (252645135), .methodLink RX3 229 yX3_pairCount, .instanceMethod yX3_pairCount, .selects RX3 yX3_pairCount yX3_pairCount, .code yX3_pairCount cX3_pairCount 3 (some .int), .fieldLink RX3 24 "SignetRoom" "book" "LSignetRoom$ChainBook;"] ++ wsX30 ++ wsX20 ++ wsX10)
def wsX3_many_r1 : List Cond := [Cond.methodLink RX3 80 yX3_isWithin, Cond.static yX3_isWithin, Cond.initialized RX3, Cond.code yX3_isWithin cX3_isWithin 2 (some .boolean), Cond.methodLink RX3 44 yX3_refuseUnless, Cond.static yX3_refuseUnless, Cond.code yX3_refuseUnless cX3_refuseUnless 1 none, Cond.classLink RX3 208 "java/lang/IllegalArgumentException", Cond.initialized "java/lang/IllegalArgumentException", Cond.methodLink RX3 138 yX3_survey, Cond.instanceMethod yX3_survey, Cond.selects RX3 yX3_survey yX3_survey, Cond.code yX3_survey cX3_survey 2 none, Cond.fieldLink RX3 48 "SignetRoom" "letterCount" "I", Cond.fieldLink RX3 24 "SignetRoom" "book" "LSignetRoom$ChainBook;", Cond.fieldLink RX3 11 "SignetRoom" "letters" "[LSignetRoom$Letter;", Cond.fieldLink RX3 119 "SignetRoom" "listCount" "I", Cond.fieldLink RX3 17 "SignetRoom" "lists" "[LSignetRoom$CallList;", Cond.methodLink RX3 235 yX3_backersOf, Cond.instanceMethod yX3_backersOf, Cond.selects RX3 yX3_backersOf yX3_backersOf, Cond.code yX3_backersOf cX3_backersOf 4 (some .int), Cond.methodLink RX3 154 yX3_isBacking, Cond.static yX3_isBacking]
def wsX3_many_r2 : List Cond := [Cond.code yX3_isBacking cX3_isBacking 2 (some .boolean), Cond.instanceMethod yX2_isSealedBy, Cond.initialized RX2, Cond.selects RX2 yX2_isSealedBy yX2_isSealedBy, Cond.code yX2_isSealedBy cX2_isSealedBy 2 (some .boolean), Cond.fieldLink RX2 47 "SignetRoom$Letter" "seal" "I", Cond.methodLink RX2 50 yX2_print, Cond.instanceMethod yX2_print, Cond.selects RX2 yX2_print yX2_print, Cond.code yX2_print cX2_print 2 (some .int), Cond.fieldLink RX2 18 "SignetRoom$Letter" "subject" "I", Cond.fieldLink RX2 21 "SignetRoom$Letter" "issuer" "I", Cond.fieldLink RX2 24 "SignetRoom$Letter" "key" "I", Cond.fieldLink RX2 27 "SignetRoom$Letter" "serial" "I", Cond.fieldLink RX2 34 "SignetRoom$Letter" "from" "I", Cond.fieldLink RX2 9 "SignetRoom$Letter" "to" "I", Cond.fieldLink RX2 37 "SignetRoom$Letter" "isMaster" "Z", Cond.fieldLink RX2 41 "SignetRoom$Letter" "reach" "I", Cond.fieldLink RX2 15 "SignetRoom$Letter" "uses" "I", Cond.fieldLink RX2 44 "SignetRoom$Letter" "bound" "I", Cond.static yX3_mix, Cond.code yX3_mix cX3_mix 2 (some .int), Cond.static yX3_sealFor, Cond.code yX3_sealFor cX3_sealFor 2 (some .int)]
def wsX3_many_r3 : List Cond := [Cond.methodLink RX3 110 yX3_anchorSet, Cond.instanceMethod yX3_anchorSet, Cond.selects RX3 yX3_anchorSet yX3_anchorSet, Cond.code yX3_anchorSet cX3_anchorSet 3 (some .int), Cond.instanceMethod yX1_markWays, Cond.initialized RX1, Cond.selects RX1 yX1_markWays yX1_markWays, Cond.code yX1_markWays cX1_markWays 6 none, Cond.fieldLink RX1 29 "SignetRoom$ChainBook" "letterCount" "I", Cond.fieldLink RX1 15 "SignetRoom$ChainBook" "waysEndingIn" "[I", Cond.fieldLink RX1 9 "SignetRoom$ChainBook" "backers" "[I", Cond.instanceMethod yX0_markSigners, Cond.initialized RX0, Cond.selects RX0 yX0_markSigners yX0_markSigners, Cond.code yX0_markSigners cX0_markSigners 3 none, Cond.fieldLink RX0 32 "SignetRoom$CallList" "signers" "I", Cond.fieldLink RX0 38 "SignetRoom$CallList" "seal" "I", Cond.methodLink RX0 28 yX0_print, Cond.instanceMethod yX0_print, Cond.selects RX0 yX0_print yX0_print, Cond.code yX0_print cX0_print 1 (some .int), Cond.fieldLink RX0 9 "SignetRoom$CallList" "issuer" "I", Cond.fieldLink RX0 15 "SignetRoom$CallList" "at" "I", Cond.fieldLink RX0 18 "SignetRoom$CallList" "next" "I"]
def wsX3_many_r4 : List Cond := [Cond.fieldLink RX0 25 "SignetRoom$CallList" "serials" "I", Cond.methodLink RX3 141 yX3_countOf, Cond.instanceMethod yX3_countOf, Cond.selects RX3 yX3_countOf yX3_countOf, Cond.code yX3_countOf cX3_countOf 2 (some .int), Cond.methodLink RX3 113 yJ6_bitCount_0f7a4, Cond.static yJ6_bitCount_0f7a4, Cond.initialized RJ6, Cond.code yJ6_bitCount_0f7a4 cJ6_bitCount_0f7a4 1 (some .int), Cond.constant RJ6 265 (1431655765), Cond.constant RJ6 266 (858993459), Cond.constant RJ6 267 (252645135), Cond.methodLink RX3 229 yX3_pairCount, Cond.instanceMethod yX3_pairCount, Cond.selects RX3 yX3_pairCount yX3_pairCount, Cond.code yX3_pairCount cX3_pairCount 3 (some .int)]
def wsX3_many : List Cond := .code yX3_many cX3_many 2 (some .int) :: ((wsX3_many_r1 ++ (wsX3_many_r2 ++ (wsX3_many_r3 ++ wsX3_many_r4))) ++ wsX30 ++ wsX10 ++ wsX20 ++ wsX00 ++ (vx_atS RX3 212 "java/lang/IllegalArgumentException" ["java/lang/RuntimeException", "java/lang/Exception"]).filter goodWord)
def wsX3_ofLetter_r1 : List Cond := [Cond.fieldLink RX3 11 "SignetRoom" "letters" "[LSignetRoom$Letter;", Cond.methodLink RX3 63 yX3_refuseUnlessLetter, Cond.instanceMethod yX3_refuseUnlessLetter, Cond.selects RX3 yX3_refuseUnlessLetter yX3_refuseUnlessLetter, Cond.initialized RX3, Cond.code yX3_refuseUnlessLetter cX3_refuseUnlessLetter 2 none, Cond.classLink RX3 216 "java/lang/IndexOutOfBoundsException", Cond.initialized "java/lang/IndexOutOfBoundsException", Cond.methodLink RX3 213 yX3_isLetter, Cond.instanceMethod yX3_isLetter, Cond.selects RX3 yX3_isLetter yX3_isLetter, Cond.code yX3_isLetter cX3_isLetter 2 (some .boolean), Cond.fieldLink RX3 48 "SignetRoom" "letterCount" "I", Cond.methodLink RX3 80 yX3_isWithin, Cond.static yX3_isWithin, Cond.code yX3_isWithin cX3_isWithin 2 (some .boolean), Cond.methodLink RX3 44 yX3_refuseUnless, Cond.static yX3_refuseUnless, Cond.code yX3_refuseUnless cX3_refuseUnless 1 none, Cond.classLink RX3 208 "java/lang/IllegalArgumentException", Cond.initialized "java/lang/IllegalArgumentException", Cond.instanceMethod yX2_property, Cond.initialized RX2, Cond.selects RX2 yX2_property yX2_property]
def wsX3_ofLetter_r2 : List Cond := [Cond.code yX2_property cX2_property 2 (some .int), Cond.fieldLink RX2 18 "SignetRoom$Letter" "subject" "I", Cond.fieldLink RX2 21 "SignetRoom$Letter" "issuer" "I", Cond.fieldLink RX2 24 "SignetRoom$Letter" "key" "I", Cond.fieldLink RX2 27 "SignetRoom$Letter" "serial" "I", Cond.fieldLink RX2 34 "SignetRoom$Letter" "from" "I", Cond.fieldLink RX2 9 "SignetRoom$Letter" "to" "I", Cond.fieldLink RX2 37 "SignetRoom$Letter" "isMaster" "Z", Cond.fieldLink RX2 41 "SignetRoom$Letter" "reach" "I", Cond.fieldLink RX2 15 "SignetRoom$Letter" "uses" "I", Cond.fieldLink RX2 44 "SignetRoom$Letter" "bound" "I", Cond.fieldLink RX2 47 "SignetRoom$Letter" "seal" "I", Cond.fieldLink RX2 57 "SignetRoom$Letter" "isAnchor" "Z", Cond.methodLink RX2 50 yX2_print, Cond.instanceMethod yX2_print, Cond.selects RX2 yX2_print yX2_print, Cond.code yX2_print cX2_print 2 (some .int), Cond.static yX3_mix, Cond.code yX3_mix cX3_mix 2 (some .int)]
def wsX3_ofLetter : List Cond := .code yX3_ofLetter cX3_ofLetter 3 (some .int) :: ((wsX3_ofLetter_r1 ++ wsX3_ofLetter_r2) ++ wsX30 ++ wsX20 ++ (vx_atS RX3 220 "java/lang/IndexOutOfBoundsException" ["java/lang/RuntimeException", "java/lang/Exception"]).filter goodWord ++ (vx_atS RX3 212 "java/lang/IllegalArgumentException" ["java/lang/RuntimeException", "java/lang/Exception"]).filter goodWord)
def wsX3_ofList_r1 : List Cond := [Cond.fieldLink RX3 17 "SignetRoom" "lists" "[LSignetRoom$CallList;", Cond.methodLink RX3 127 yX3_refuseUnlessList, Cond.instanceMethod yX3_refuseUnlessList, Cond.selects RX3 yX3_refuseUnlessList yX3_refuseUnlessList, Cond.initialized RX3, Cond.code yX3_refuseUnlessList cX3_refuseUnlessList 2 none, Cond.classLink RX3 216 "java/lang/IndexOutOfBoundsException", Cond.initialized "java/lang/IndexOutOfBoundsException", Cond.fieldLink RX3 119 "SignetRoom" "listCount" "I", Cond.methodLink RX3 80 yX3_isWithin, Cond.static yX3_isWithin, Cond.code yX3_isWithin cX3_isWithin 2 (some .boolean), Cond.methodLink RX3 44 yX3_refuseUnless, Cond.static yX3_refuseUnless, Cond.code yX3_refuseUnless cX3_refuseUnless 1 none, Cond.classLink RX3 208 "java/lang/IllegalArgumentException", Cond.initialized "java/lang/IllegalArgumentException", Cond.instanceMethod yX0_property, Cond.initialized RX0, Cond.selects RX0 yX0_property yX0_property, Cond.code yX0_property cX0_property 2 (some .int), Cond.fieldLink RX0 9 "SignetRoom$CallList" "issuer" "I", Cond.fieldLink RX0 15 "SignetRoom$CallList" "at" "I", Cond.fieldLink RX0 18 "SignetRoom$CallList" "next" "I"]
def wsX3_ofList_r2 : List Cond := [Cond.fieldLink RX0 25 "SignetRoom$CallList" "serials" "I", Cond.fieldLink RX0 38 "SignetRoom$CallList" "seal" "I", Cond.methodLink RX0 28 yX0_print, Cond.instanceMethod yX0_print, Cond.selects RX0 yX0_print yX0_print, Cond.code yX0_print cX0_print 1 (some .int), Cond.static yX3_mix, Cond.code yX3_mix cX3_mix 2 (some .int)]
def wsX3_ofList : List Cond := .code yX3_ofList cX3_ofList 3 (some .int) :: ((wsX3_ofList_r1 ++ wsX3_ofList_r2) ++ wsX30 ++ wsX00 ++ (vx_atS RX3 220 "java/lang/IndexOutOfBoundsException" ["java/lang/RuntimeException", "java/lang/Exception"]).filter goodWord ++ (vx_atS RX3 212 "java/lang/IllegalArgumentException" ["java/lang/RuntimeException", "java/lang/Exception"]).filter goodWord)
def wsX3_isResidue : List Cond := .code yX3_isResidue cX3_isResidue 1 (some .boolean) :: ([.methodLink RX3 80 yX3_isWithin, .static yX3_isWithin, .initialized RX3, .code yX3_isWithin cX3_isWithin 2 (some .boolean)])
def wsX3_signed : List Cond := .code yX3_signed cX3_signed 3 (some .int) :: ([.methodLink RX3 38 yX3_isKey, .static yX3_isKey, .initialized RX3, .code yX3_isKey cX3_isKey 1 (some .boolean), .methodLink RX3 80 yX3_isWithin, .static yX3_isWithin, .code yX3_isWithin cX3_isWithin 2 (some .boolean), .methodLink RX3 148 yX3_isResidue, .static yX3_isResidue, .code yX3_isResidue cX3_isResidue 1 (some .boolean), .methodLink RX3 44 yX3_refuseUnless, .static yX3_refuseUnless, .code yX3_refuseUnless cX3_refuseUnless 1 none, .classLink RX3 208 "java/lang/IllegalArgumentException", .initialized "java/lang/IllegalArgumentException", .methodLink RX3 100 yX3_sealFor, .static yX3_sealFor, .code yX3_sealFor cX3_sealFor 2 (some .int)] ++ (vx_atS RX3 212 "java/lang/IllegalArgumentException" ["java/lang/RuntimeException", "java/lang/Exception"]).filter goodWord)
def wsX3_signer : List Cond := .code yX3_signer cX3_signer 4 (some .int) :: ([.methodLink RX3 148 yX3_isResidue, .static yX3_isResidue, .initialized RX3, .code yX3_isResidue cX3_isResidue 1 (some .boolean), .methodLink RX3 80 yX3_isWithin, .static yX3_isWithin, .code yX3_isWithin cX3_isWithin 2 (some .boolean), .methodLink RX3 44 yX3_refuseUnless, .static yX3_refuseUnless, .code yX3_refuseUnless cX3_refuseUnless 1 none, .classLink RX3 208 "java/lang/IllegalArgumentException", .initialized "java/lang/IllegalArgumentException", .methodLink RX3 100 yX3_sealFor, .static yX3_sealFor, .code yX3_sealFor cX3_sealFor 2 (some .int)] ++ (vx_atS RX3 212 "java/lang/IllegalArgumentException" ["java/lang/RuntimeException", "java/lang/Exception"]).filter goodWord)
def wsX3_isBelow : List Cond := .code yX3_isBelow cX3_isBelow 3 (some .boolean) :: ([])
def wsX3_isUnder : List Cond := .code yX3_isUnder cX3_isUnder 3 (some .boolean) :: ([.methodLink RX3 34 yX3_isName, .static yX3_isName, .initialized RX3, .code yX3_isName cX3_isName 2 (some .boolean), .methodLink RX3 91 yX3_isNameOrZero, .static yX3_isNameOrZero, .code yX3_isNameOrZero cX3_isNameOrZero 1 (some .boolean), .methodLink RX3 44 yX3_refuseUnless, .static yX3_refuseUnless, .code yX3_refuseUnless cX3_refuseUnless 1 none, .classLink RX3 208 "java/lang/IllegalArgumentException", .initialized "java/lang/IllegalArgumentException", .methodLink RX3 151 yX3_isBelow, .static yX3_isBelow, .code yX3_isBelow cX3_isBelow 3 (some .boolean)] ++ (vx_atS RX3 212 "java/lang/IllegalArgumentException" ["java/lang/RuntimeException", "java/lang/Exception"]).filter goodWord)
def wsX3_backs_r1 : List Cond := [Cond.fieldLink RX3 11 "SignetRoom" "letters" "[LSignetRoom$Letter;", Cond.methodLink RX3 63 yX3_refuseUnlessLetter, Cond.instanceMethod yX3_refuseUnlessLetter, Cond.selects RX3 yX3_refuseUnlessLetter yX3_refuseUnlessLetter, Cond.initialized RX3, Cond.code yX3_refuseUnlessLetter cX3_refuseUnlessLetter 2 none, Cond.classLink RX3 216 "java/lang/IndexOutOfBoundsException", Cond.initialized "java/lang/IndexOutOfBoundsException", Cond.methodLink RX3 213 yX3_isLetter, Cond.instanceMethod yX3_isLetter, Cond.selects RX3 yX3_isLetter yX3_isLetter, Cond.code yX3_isLetter cX3_isLetter 2 (some .boolean), Cond.fieldLink RX3 48 "SignetRoom" "letterCount" "I", Cond.methodLink RX3 154 yX3_isBacking, Cond.static yX3_isBacking, Cond.code yX3_isBacking cX3_isBacking 2 (some .boolean), Cond.instanceMethod yX2_isSealedBy, Cond.initialized RX2, Cond.selects RX2 yX2_isSealedBy yX2_isSealedBy, Cond.code yX2_isSealedBy cX2_isSealedBy 2 (some .boolean), Cond.fieldLink RX2 47 "SignetRoom$Letter" "seal" "I", Cond.methodLink RX2 50 yX2_print, Cond.instanceMethod yX2_print, Cond.selects RX2 yX2_print yX2_print]
def wsX3_backs_r2 : List Cond := [Cond.code yX2_print cX2_print 2 (some .int), Cond.fieldLink RX2 18 "SignetRoom$Letter" "subject" "I", Cond.fieldLink RX2 21 "SignetRoom$Letter" "issuer" "I", Cond.fieldLink RX2 24 "SignetRoom$Letter" "key" "I", Cond.fieldLink RX2 27 "SignetRoom$Letter" "serial" "I", Cond.fieldLink RX2 34 "SignetRoom$Letter" "from" "I", Cond.fieldLink RX2 9 "SignetRoom$Letter" "to" "I", Cond.fieldLink RX2 37 "SignetRoom$Letter" "isMaster" "Z", Cond.fieldLink RX2 41 "SignetRoom$Letter" "reach" "I", Cond.fieldLink RX2 15 "SignetRoom$Letter" "uses" "I", Cond.fieldLink RX2 44 "SignetRoom$Letter" "bound" "I", Cond.static yX3_mix, Cond.code yX3_mix cX3_mix 2 (some .int), Cond.static yX3_sealFor, Cond.code yX3_sealFor cX3_sealFor 2 (some .int)]
def wsX3_backs : List Cond := .code yX3_backs cX3_backs 3 (some .boolean) :: ((wsX3_backs_r1 ++ wsX3_backs_r2) ++ wsX30 ++ wsX20 ++ (vx_atS RX3 220 "java/lang/IndexOutOfBoundsException" ["java/lang/RuntimeException", "java/lang/Exception"]).filter goodWord)
def wsX3_chains_r1 : List Cond := [Cond.fieldLink RX3 24 "SignetRoom" "book" "LSignetRoom$ChainBook;", Cond.methodLink RX3 63 yX3_refuseUnlessLetter, Cond.instanceMethod yX3_refuseUnlessLetter, Cond.selects RX3 yX3_refuseUnlessLetter yX3_refuseUnlessLetter, Cond.initialized RX3, Cond.code yX3_refuseUnlessLetter cX3_refuseUnlessLetter 2 none, Cond.classLink RX3 216 "java/lang/IndexOutOfBoundsException", Cond.initialized "java/lang/IndexOutOfBoundsException", Cond.methodLink RX3 213 yX3_isLetter, Cond.instanceMethod yX3_isLetter, Cond.selects RX3 yX3_isLetter yX3_isLetter, Cond.code yX3_isLetter cX3_isLetter 2 (some .boolean), Cond.fieldLink RX3 48 "SignetRoom" "letterCount" "I", Cond.methodLink RX3 138 yX3_survey, Cond.instanceMethod yX3_survey, Cond.selects RX3 yX3_survey yX3_survey, Cond.code yX3_survey cX3_survey 2 none, Cond.fieldLink RX3 11 "SignetRoom" "letters" "[LSignetRoom$Letter;", Cond.fieldLink RX3 119 "SignetRoom" "listCount" "I", Cond.fieldLink RX3 17 "SignetRoom" "lists" "[LSignetRoom$CallList;", Cond.methodLink RX3 235 yX3_backersOf, Cond.instanceMethod yX3_backersOf, Cond.selects RX3 yX3_backersOf yX3_backersOf, Cond.code yX3_backersOf cX3_backersOf 4 (some .int)]
def wsX3_chains_r2 : List Cond := [Cond.methodLink RX3 154 yX3_isBacking, Cond.static yX3_isBacking, Cond.code yX3_isBacking cX3_isBacking 2 (some .boolean), Cond.instanceMethod yX2_isSealedBy, Cond.initialized RX2, Cond.selects RX2 yX2_isSealedBy yX2_isSealedBy, Cond.code yX2_isSealedBy cX2_isSealedBy 2 (some .boolean), Cond.fieldLink RX2 47 "SignetRoom$Letter" "seal" "I", Cond.methodLink RX2 50 yX2_print, Cond.instanceMethod yX2_print, Cond.selects RX2 yX2_print yX2_print, Cond.code yX2_print cX2_print 2 (some .int), Cond.fieldLink RX2 18 "SignetRoom$Letter" "subject" "I", Cond.fieldLink RX2 21 "SignetRoom$Letter" "issuer" "I", Cond.fieldLink RX2 24 "SignetRoom$Letter" "key" "I", Cond.fieldLink RX2 27 "SignetRoom$Letter" "serial" "I", Cond.fieldLink RX2 34 "SignetRoom$Letter" "from" "I", Cond.fieldLink RX2 9 "SignetRoom$Letter" "to" "I", Cond.fieldLink RX2 37 "SignetRoom$Letter" "isMaster" "Z", Cond.fieldLink RX2 41 "SignetRoom$Letter" "reach" "I", Cond.fieldLink RX2 15 "SignetRoom$Letter" "uses" "I", Cond.fieldLink RX2 44 "SignetRoom$Letter" "bound" "I", Cond.static yX3_mix, Cond.code yX3_mix cX3_mix 2 (some .int)]
def wsX3_chains_r3 : List Cond := [Cond.static yX3_sealFor, Cond.code yX3_sealFor cX3_sealFor 2 (some .int), Cond.methodLink RX3 110 yX3_anchorSet, Cond.instanceMethod yX3_anchorSet, Cond.selects RX3 yX3_anchorSet yX3_anchorSet, Cond.code yX3_anchorSet cX3_anchorSet 3 (some .int), Cond.instanceMethod yX1_markWays, Cond.initialized RX1, Cond.selects RX1 yX1_markWays yX1_markWays, Cond.code yX1_markWays cX1_markWays 6 none, Cond.fieldLink RX1 29 "SignetRoom$ChainBook" "letterCount" "I", Cond.fieldLink RX1 15 "SignetRoom$ChainBook" "waysEndingIn" "[I", Cond.fieldLink RX1 9 "SignetRoom$ChainBook" "backers" "[I", Cond.instanceMethod yX0_markSigners, Cond.initialized RX0, Cond.selects RX0 yX0_markSigners yX0_markSigners, Cond.code yX0_markSigners cX0_markSigners 3 none, Cond.fieldLink RX0 32 "SignetRoom$CallList" "signers" "I", Cond.fieldLink RX0 38 "SignetRoom$CallList" "seal" "I", Cond.methodLink RX0 28 yX0_print, Cond.instanceMethod yX0_print, Cond.selects RX0 yX0_print yX0_print, Cond.code yX0_print cX0_print 1 (some .int), Cond.fieldLink RX0 9 "SignetRoom$CallList" "issuer" "I"]
def wsX3_chains_r4 : List Cond := [Cond.fieldLink RX0 15 "SignetRoom$CallList" "at" "I", Cond.fieldLink RX0 18 "SignetRoom$CallList" "next" "I", Cond.fieldLink RX0 25 "SignetRoom$CallList" "serials" "I", Cond.instanceMethod yX1_findChainsOf, Cond.selects RX1 yX1_findChainsOf yX1_findChainsOf, Cond.code yX1_findChainsOf cX1_findChainsOf 3 none, Cond.fieldLink RX1 33 "SignetRoom$ChainBook" "chainCount" "I", Cond.fieldLink RX1 26 "SignetRoom$ChainBook" "begun" "[I", Cond.methodLink RX1 36 yX1_extend, Cond.static yX1_extend, Cond.code yX1_extend cX1_extend 7 none, Cond.methodLink RX1 40 yX1_keep, Cond.instanceMethod yX1_keep, Cond.selects RX1 yX1_keep yX1_keep, Cond.code yX1_keep cX1_keep 2 none, Cond.fieldLink RX1 20 "SignetRoom$ChainBook" "rows" "[[I", Cond.methodLink RX1 44 arraycopyName, Cond.native arraycopyName, Cond.static arraycopyName, Cond.initialized "java/lang/System", Cond.fieldLink RX1 23 "SignetRoom$ChainBook" "lengths" "[I"]
def wsX3_chains : List Cond := .code yX3_chains cX3_chains 2 (some .int) :: ((wsX3_chains_r1 ++ (wsX3_chains_r2 ++ (wsX3_chains_r3 ++ wsX3_chains_r4))) ++ wsX30 ++ wsX10 ++ wsX20 ++ wsX00 ++ (vx_atS RX3 220 "java/lang/IndexOutOfBoundsException" ["java/lang/RuntimeException", "java/lang/Exception"]).filter goodWord)
def wsX3_refuseUnlessMoment : List Cond := .code yX3_refuseUnlessMoment cX3_refuseUnlessMoment 2 none :: ([.methodLink RX3 67 yX3_isTime, .static yX3_isTime, .initialized RX3, .code yX3_isTime cX3_isTime 1 (some .boolean), .methodLink RX3 80 yX3_isWithin, .static yX3_isWithin, .code yX3_isWithin cX3_isWithin 2 (some .boolean), .methodLink RX3 44 yX3_refuseUnless, .static yX3_refuseUnless, .code yX3_refuseUnless cX3_refuseUnless 1 none, .classLink RX3 208 "java/lang/IllegalArgumentException", .initialized "java/lang/IllegalArgumentException"] ++ (vx_atS RX3 212 "java/lang/IllegalArgumentException" ["java/lang/RuntimeException", "java/lang/Exception"]).filter goodWord)
def wsX3_flawAsBacker : List Cond := .code yX3_flawAsBacker cX3_flawAsBacker 6 (some .int) :: ([.fieldLink RX3 24 "SignetRoom" "book" "LSignetRoom$ChainBook;", .fieldLink RX3 11 "SignetRoom" "letters" "[LSignetRoom$Letter;", .instanceMethod yX1_member, .initialized RX1, .selects RX1 yX1_member yX1_member, .code yX1_member cX1_member 3 (some .int), .fieldLink RX1 33 "SignetRoom$ChainBook" "chainCount" "I", .fieldLink RX1 23 "SignetRoom$ChainBook" "lengths" "[I", .fieldLink RX1 20 "SignetRoom$ChainBook" "rows" "[[I", .methodLink RX3 213 yX3_isLetter, .instanceMethod yX3_isLetter, .selects RX3 yX3_isLetter yX3_isLetter, .initialized RX3, .code yX3_isLetter cX3_isLetter 2 (some .boolean), .fieldLink RX3 48 "SignetRoom" "letterCount" "I", .methodLink RX3 151 yX3_isBelow, .static yX3_isBelow, .code yX3_isBelow cX3_isBelow 3 (some .boolean)] ++ wsX20 ++ wsX30 ++ wsX10)
def wsX3_latestList : List Cond := .code yX3_latestList cX3_latestList 9 (some .int) :: ([.fieldLink RX3 119 "SignetRoom" "listCount" "I", .fieldLink RX3 17 "SignetRoom" "lists" "[LSignetRoom$CallList;"] ++ wsX30 ++ wsX00)
def wsX3_isCalledBack : List Cond := .code yX3_isCalledBack cX3_isCalledBack 6 (some .boolean) :: ([.fieldLink RX3 11 "SignetRoom" "letters" "[LSignetRoom$Letter;", .fieldLink RX3 135 "SignetRoom" "isStrictRoom" "Z", .fieldLink RX3 17 "SignetRoom" "lists" "[LSignetRoom$CallList;", .methodLink RX3 213 yX3_isLetter, .instanceMethod yX3_isLetter, .selects RX3 yX3_isLetter yX3_isLetter, .initialized RX3, .code yX3_isLetter cX3_isLetter 2 (some .boolean), .fieldLink RX3 48 "SignetRoom" "letterCount" "I", .methodLink RX3 260 yX3_latestList, .instanceMethod yX3_latestList, .selects RX3 yX3_latestList yX3_latestList, .code yX3_latestList cX3_latestList 9 (some .int), .fieldLink RX3 119 "SignetRoom" "listCount" "I", .instanceMethod yX0_hasSerial, .initialized RX0, .selects RX0 yX0_hasSerial yX0_hasSerial, .code yX0_hasSerial cX0_hasSerial 2 (some .boolean), .fieldLink RX0 25 "SignetRoom$CallList" "serials" "I"] ++ wsX20 ++ wsX30 ++ wsX00)
def wsX3_flawOf_r1 : List Cond := [Cond.fieldLink RX3 24 "SignetRoom" "book" "LSignetRoom$ChainBook;", Cond.fieldLink RX3 11 "SignetRoom" "letters" "[LSignetRoom$Letter;", Cond.instanceMethod yX1_member, Cond.initialized RX1, Cond.selects RX1 yX1_member yX1_member, Cond.code yX1_member cX1_member 3 (some .int), Cond.fieldLink RX1 33 "SignetRoom$ChainBook" "chainCount" "I", Cond.fieldLink RX1 23 "SignetRoom$ChainBook" "lengths" "[I", Cond.fieldLink RX1 20 "SignetRoom$ChainBook" "rows" "[[I", Cond.methodLink RX3 213 yX3_isLetter, Cond.instanceMethod yX3_isLetter, Cond.selects RX3 yX3_isLetter yX3_isLetter, Cond.initialized RX3, Cond.code yX3_isLetter cX3_isLetter 2 (some .boolean), Cond.fieldLink RX3 48 "SignetRoom" "letterCount" "I", Cond.instanceMethod yX2_flawAlone, Cond.initialized RX2, Cond.selects RX2 yX2_flawAlone yX2_flawAlone, Cond.code yX2_flawAlone cX2_flawAlone 3 (some .int), Cond.fieldLink RX2 34 "SignetRoom$Letter" "from" "I", Cond.fieldLink RX2 9 "SignetRoom$Letter" "to" "I", Cond.fieldLink RX2 15 "SignetRoom$Letter" "uses" "I", Cond.methodLink RX3 252 yX3_flawAsBacker, Cond.instanceMethod yX3_flawAsBacker]
def wsX3_flawOf_r2 : List Cond := [Cond.selects RX3 yX3_flawAsBacker yX3_flawAsBacker, Cond.code yX3_flawAsBacker cX3_flawAsBacker 6 (some .int), Cond.methodLink RX3 151 yX3_isBelow, Cond.static yX3_isBelow, Cond.code yX3_isBelow cX3_isBelow 3 (some .boolean), Cond.methodLink RX3 256 yX3_isCalledBack, Cond.instanceMethod yX3_isCalledBack, Cond.selects RX3 yX3_isCalledBack yX3_isCalledBack, Cond.code yX3_isCalledBack cX3_isCalledBack 6 (some .boolean), Cond.fieldLink RX3 135 "SignetRoom" "isStrictRoom" "Z", Cond.fieldLink RX3 17 "SignetRoom" "lists" "[LSignetRoom$CallList;", Cond.methodLink RX3 260 yX3_latestList, Cond.instanceMethod yX3_latestList, Cond.selects RX3 yX3_latestList yX3_latestList, Cond.code yX3_latestList cX3_latestList 9 (some .int), Cond.fieldLink RX3 119 "SignetRoom" "listCount" "I", Cond.instanceMethod yX0_hasSerial, Cond.initialized RX0, Cond.selects RX0 yX0_hasSerial yX0_hasSerial, Cond.code yX0_hasSerial cX0_hasSerial 2 (some .boolean), Cond.fieldLink RX0 25 "SignetRoom$CallList" "serials" "I"]
def wsX3_flawOf : List Cond := .code yX3_flawOf cX3_flawOf 8 (some .int) :: ((wsX3_flawOf_r1 ++ wsX3_flawOf_r2) ++ wsX30 ++ wsX10 ++ wsX20 ++ wsX00)
def wsX3_firstFlawedPlace_r1 : List Cond := [Cond.fieldLink RX3 24 "SignetRoom" "book" "LSignetRoom$ChainBook;", Cond.instanceMethod yX1_lengthOf, Cond.initialized RX1, Cond.selects RX1 yX1_lengthOf yX1_lengthOf, Cond.code yX1_lengthOf cX1_lengthOf 2 (some .int), Cond.fieldLink RX1 33 "SignetRoom$ChainBook" "chainCount" "I", Cond.fieldLink RX1 23 "SignetRoom$ChainBook" "lengths" "[I", Cond.methodLink RX3 245 yX3_flawOf, Cond.instanceMethod yX3_flawOf, Cond.selects RX3 yX3_flawOf yX3_flawOf, Cond.initialized RX3, Cond.code yX3_flawOf cX3_flawOf 8 (some .int), Cond.fieldLink RX3 11 "SignetRoom" "letters" "[LSignetRoom$Letter;", Cond.instanceMethod yX1_member, Cond.selects RX1 yX1_member yX1_member, Cond.code yX1_member cX1_member 3 (some .int), Cond.fieldLink RX1 20 "SignetRoom$ChainBook" "rows" "[[I", Cond.methodLink RX3 213 yX3_isLetter, Cond.instanceMethod yX3_isLetter, Cond.selects RX3 yX3_isLetter yX3_isLetter, Cond.code yX3_isLetter cX3_isLetter 2 (some .boolean), Cond.fieldLink RX3 48 "SignetRoom" "letterCount" "I", Cond.instanceMethod yX2_flawAlone, Cond.initialized RX2]
def wsX3_firstFlawedPlace_r2 : List Cond := [Cond.selects RX2 yX2_flawAlone yX2_flawAlone, Cond.code yX2_flawAlone cX2_flawAlone 3 (some .int), Cond.fieldLink RX2 34 "SignetRoom$Letter" "from" "I", Cond.fieldLink RX2 9 "SignetRoom$Letter" "to" "I", Cond.fieldLink RX2 15 "SignetRoom$Letter" "uses" "I", Cond.methodLink RX3 252 yX3_flawAsBacker, Cond.instanceMethod yX3_flawAsBacker, Cond.selects RX3 yX3_flawAsBacker yX3_flawAsBacker, Cond.code yX3_flawAsBacker cX3_flawAsBacker 6 (some .int), Cond.methodLink RX3 151 yX3_isBelow, Cond.static yX3_isBelow, Cond.code yX3_isBelow cX3_isBelow 3 (some .boolean), Cond.methodLink RX3 256 yX3_isCalledBack, Cond.instanceMethod yX3_isCalledBack, Cond.selects RX3 yX3_isCalledBack yX3_isCalledBack, Cond.code yX3_isCalledBack cX3_isCalledBack 6 (some .boolean), Cond.fieldLink RX3 135 "SignetRoom" "isStrictRoom" "Z", Cond.fieldLink RX3 17 "SignetRoom" "lists" "[LSignetRoom$CallList;", Cond.methodLink RX3 260 yX3_latestList, Cond.instanceMethod yX3_latestList, Cond.selects RX3 yX3_latestList yX3_latestList, Cond.code yX3_latestList cX3_latestList 9 (some .int), Cond.fieldLink RX3 119 "SignetRoom" "listCount" "I", Cond.instanceMethod yX0_hasSerial]
def wsX3_firstFlawedPlace_r3 : List Cond := [Cond.initialized RX0, Cond.selects RX0 yX0_hasSerial yX0_hasSerial, Cond.code yX0_hasSerial cX0_hasSerial 2 (some .boolean), Cond.fieldLink RX0 25 "SignetRoom$CallList" "serials" "I"]
def wsX3_firstFlawedPlace : List Cond := .code yX3_firstFlawedPlace cX3_firstFlawedPlace 6 (some .int) :: ((wsX3_firstFlawedPlace_r1 ++ (wsX3_firstFlawedPlace_r2 ++ wsX3_firstFlawedPlace_r3)) ++ wsX30 ++ wsX10 ++ wsX20 ++ wsX00)
def wsX3_firstHolding_r1 : List Cond := [Cond.fieldLink RX3 24 "SignetRoom" "book" "LSignetRoom$ChainBook;", Cond.methodLink RX3 189 yX3_firstFlawedPlace, Cond.instanceMethod yX3_firstFlawedPlace, Cond.selects RX3 yX3_firstFlawedPlace yX3_firstFlawedPlace, Cond.initialized RX3, Cond.code yX3_firstFlawedPlace cX3_firstFlawedPlace 6 (some .int), Cond.instanceMethod yX1_lengthOf, Cond.initialized RX1, Cond.selects RX1 yX1_lengthOf yX1_lengthOf, Cond.code yX1_lengthOf cX1_lengthOf 2 (some .int), Cond.fieldLink RX1 33 "SignetRoom$ChainBook" "chainCount" "I", Cond.fieldLink RX1 23 "SignetRoom$ChainBook" "lengths" "[I", Cond.methodLink RX3 245 yX3_flawOf, Cond.instanceMethod yX3_flawOf, Cond.selects RX3 yX3_flawOf yX3_flawOf, Cond.code yX3_flawOf cX3_flawOf 8 (some .int), Cond.fieldLink RX3 11 "SignetRoom" "letters" "[LSignetRoom$Letter;", Cond.instanceMethod yX1_member, Cond.selects RX1 yX1_member yX1_member, Cond.code yX1_member cX1_member 3 (some .int), Cond.fieldLink RX1 20 "SignetRoom$ChainBook" "rows" "[[I", Cond.methodLink RX3 213 yX3_isLetter, Cond.instanceMethod yX3_isLetter, Cond.selects RX3 yX3_isLetter yX3_isLetter]
def wsX3_firstHolding_r2 : List Cond := [Cond.code yX3_isLetter cX3_isLetter 2 (some .boolean), Cond.fieldLink RX3 48 "SignetRoom" "letterCount" "I", Cond.instanceMethod yX2_flawAlone, Cond.initialized RX2, Cond.selects RX2 yX2_flawAlone yX2_flawAlone, Cond.code yX2_flawAlone cX2_flawAlone 3 (some .int), Cond.fieldLink RX2 34 "SignetRoom$Letter" "from" "I", Cond.fieldLink RX2 9 "SignetRoom$Letter" "to" "I", Cond.fieldLink RX2 15 "SignetRoom$Letter" "uses" "I", Cond.methodLink RX3 252 yX3_flawAsBacker, Cond.instanceMethod yX3_flawAsBacker, Cond.selects RX3 yX3_flawAsBacker yX3_flawAsBacker, Cond.code yX3_flawAsBacker cX3_flawAsBacker 6 (some .int), Cond.methodLink RX3 151 yX3_isBelow, Cond.static yX3_isBelow, Cond.code yX3_isBelow cX3_isBelow 3 (some .boolean), Cond.methodLink RX3 256 yX3_isCalledBack, Cond.instanceMethod yX3_isCalledBack, Cond.selects RX3 yX3_isCalledBack yX3_isCalledBack, Cond.code yX3_isCalledBack cX3_isCalledBack 6 (some .boolean), Cond.fieldLink RX3 135 "SignetRoom" "isStrictRoom" "Z", Cond.fieldLink RX3 17 "SignetRoom" "lists" "[LSignetRoom$CallList;", Cond.methodLink RX3 260 yX3_latestList, Cond.instanceMethod yX3_latestList]
def wsX3_firstHolding_r3 : List Cond := [Cond.selects RX3 yX3_latestList yX3_latestList, Cond.code yX3_latestList cX3_latestList 9 (some .int), Cond.fieldLink RX3 119 "SignetRoom" "listCount" "I", Cond.instanceMethod yX0_hasSerial, Cond.initialized RX0, Cond.selects RX0 yX0_hasSerial yX0_hasSerial, Cond.code yX0_hasSerial cX0_hasSerial 2 (some .boolean), Cond.fieldLink RX0 25 "SignetRoom$CallList" "serials" "I"]
def wsX3_firstHolding : List Cond := .code yX3_firstHolding cX3_firstHolding 4 (some .int) :: ((wsX3_firstHolding_r1 ++ (wsX3_firstHolding_r2 ++ wsX3_firstHolding_r3)) ++ wsX30 ++ wsX10 ++ wsX20 ++ wsX00)
def wsX3_decision_r1 : List Cond := [Cond.fieldLink RX3 24 "SignetRoom" "book" "LSignetRoom$ChainBook;", Cond.methodLink RX3 171 yX3_firstHolding, Cond.instanceMethod yX3_firstHolding, Cond.selects RX3 yX3_firstHolding yX3_firstHolding, Cond.initialized RX3, Cond.code yX3_firstHolding cX3_firstHolding 4 (some .int), Cond.methodLink RX3 189 yX3_firstFlawedPlace, Cond.instanceMethod yX3_firstFlawedPlace, Cond.selects RX3 yX3_firstFlawedPlace yX3_firstFlawedPlace, Cond.code yX3_firstFlawedPlace cX3_firstFlawedPlace 6 (some .int), Cond.instanceMethod yX1_lengthOf, Cond.initialized RX1, Cond.selects RX1 yX1_lengthOf yX1_lengthOf, Cond.code yX1_lengthOf cX1_lengthOf 2 (some .int), Cond.fieldLink RX1 33 "SignetRoom$ChainBook" "chainCount" "I", Cond.fieldLink RX1 23 "SignetRoom$ChainBook" "lengths" "[I", Cond.methodLink RX3 245 yX3_flawOf, Cond.instanceMethod yX3_flawOf, Cond.selects RX3 yX3_flawOf yX3_flawOf, Cond.code yX3_flawOf cX3_flawOf 8 (some .int), Cond.fieldLink RX3 11 "SignetRoom" "letters" "[LSignetRoom$Letter;", Cond.instanceMethod yX1_member, Cond.selects RX1 yX1_member yX1_member, Cond.code yX1_member cX1_member 3 (some .int)]
def wsX3_decision_r2 : List Cond := [Cond.fieldLink RX1 20 "SignetRoom$ChainBook" "rows" "[[I", Cond.methodLink RX3 213 yX3_isLetter, Cond.instanceMethod yX3_isLetter, Cond.selects RX3 yX3_isLetter yX3_isLetter, Cond.code yX3_isLetter cX3_isLetter 2 (some .boolean), Cond.fieldLink RX3 48 "SignetRoom" "letterCount" "I", Cond.instanceMethod yX2_flawAlone, Cond.initialized RX2, Cond.selects RX2 yX2_flawAlone yX2_flawAlone, Cond.code yX2_flawAlone cX2_flawAlone 3 (some .int), Cond.fieldLink RX2 34 "SignetRoom$Letter" "from" "I", Cond.fieldLink RX2 9 "SignetRoom$Letter" "to" "I", Cond.fieldLink RX2 15 "SignetRoom$Letter" "uses" "I", Cond.methodLink RX3 252 yX3_flawAsBacker, Cond.instanceMethod yX3_flawAsBacker, Cond.selects RX3 yX3_flawAsBacker yX3_flawAsBacker, Cond.code yX3_flawAsBacker cX3_flawAsBacker 6 (some .int), Cond.methodLink RX3 151 yX3_isBelow, Cond.static yX3_isBelow, Cond.code yX3_isBelow cX3_isBelow 3 (some .boolean), Cond.methodLink RX3 256 yX3_isCalledBack, Cond.instanceMethod yX3_isCalledBack, Cond.selects RX3 yX3_isCalledBack yX3_isCalledBack, Cond.code yX3_isCalledBack cX3_isCalledBack 6 (some .boolean)]
def wsX3_decision_r3 : List Cond := [Cond.fieldLink RX3 135 "SignetRoom" "isStrictRoom" "Z", Cond.fieldLink RX3 17 "SignetRoom" "lists" "[LSignetRoom$CallList;", Cond.methodLink RX3 260 yX3_latestList, Cond.instanceMethod yX3_latestList, Cond.selects RX3 yX3_latestList yX3_latestList, Cond.code yX3_latestList cX3_latestList 9 (some .int), Cond.fieldLink RX3 119 "SignetRoom" "listCount" "I", Cond.instanceMethod yX0_hasSerial, Cond.initialized RX0, Cond.selects RX0 yX0_hasSerial yX0_hasSerial, Cond.code yX0_hasSerial cX0_hasSerial 2 (some .boolean), Cond.fieldLink RX0 25 "SignetRoom$CallList" "serials" "I"]
def wsX3_decision : List Cond := .code yX3_decision cX3_decision 3 (some .int) :: ((wsX3_decision_r1 ++ (wsX3_decision_r2 ++ wsX3_decision_r3)) ++ wsX30 ++ wsX10 ++ wsX20 ++ wsX00)
def wsX3_verdict_r1 : List Cond := [Cond.fieldLink RX3 24 "SignetRoom" "book" "LSignetRoom$ChainBook;", Cond.methodLink RX3 63 yX3_refuseUnlessLetter, Cond.instanceMethod yX3_refuseUnlessLetter, Cond.selects RX3 yX3_refuseUnlessLetter yX3_refuseUnlessLetter, Cond.initialized RX3, Cond.code yX3_refuseUnlessLetter cX3_refuseUnlessLetter 2 none, Cond.classLink RX3 216 "java/lang/IndexOutOfBoundsException", Cond.initialized "java/lang/IndexOutOfBoundsException", Cond.methodLink RX3 213 yX3_isLetter, Cond.instanceMethod yX3_isLetter, Cond.selects RX3 yX3_isLetter yX3_isLetter, Cond.code yX3_isLetter cX3_isLetter 2 (some .boolean), Cond.fieldLink RX3 48 "SignetRoom" "letterCount" "I", Cond.methodLink RX3 164 yX3_refuseUnlessMoment, Cond.static yX3_refuseUnlessMoment, Cond.code yX3_refuseUnlessMoment cX3_refuseUnlessMoment 2 none, Cond.methodLink RX3 67 yX3_isTime, Cond.static yX3_isTime, Cond.code yX3_isTime cX3_isTime 1 (some .boolean), Cond.methodLink RX3 80 yX3_isWithin, Cond.static yX3_isWithin, Cond.code yX3_isWithin cX3_isWithin 2 (some .boolean), Cond.methodLink RX3 44 yX3_refuseUnless, Cond.static yX3_refuseUnless]
def wsX3_verdict_r2 : List Cond := [Cond.code yX3_refuseUnless cX3_refuseUnless 1 none, Cond.classLink RX3 208 "java/lang/IllegalArgumentException", Cond.initialized "java/lang/IllegalArgumentException", Cond.methodLink RX3 138 yX3_survey, Cond.instanceMethod yX3_survey, Cond.selects RX3 yX3_survey yX3_survey, Cond.code yX3_survey cX3_survey 2 none, Cond.fieldLink RX3 11 "SignetRoom" "letters" "[LSignetRoom$Letter;", Cond.fieldLink RX3 119 "SignetRoom" "listCount" "I", Cond.fieldLink RX3 17 "SignetRoom" "lists" "[LSignetRoom$CallList;", Cond.methodLink RX3 235 yX3_backersOf, Cond.instanceMethod yX3_backersOf, Cond.selects RX3 yX3_backersOf yX3_backersOf, Cond.code yX3_backersOf cX3_backersOf 4 (some .int), Cond.methodLink RX3 154 yX3_isBacking, Cond.static yX3_isBacking, Cond.code yX3_isBacking cX3_isBacking 2 (some .boolean), Cond.instanceMethod yX2_isSealedBy, Cond.initialized RX2, Cond.selects RX2 yX2_isSealedBy yX2_isSealedBy, Cond.code yX2_isSealedBy cX2_isSealedBy 2 (some .boolean), Cond.fieldLink RX2 47 "SignetRoom$Letter" "seal" "I", Cond.methodLink RX2 50 yX2_print, Cond.instanceMethod yX2_print]
def wsX3_verdict_r3 : List Cond := [Cond.selects RX2 yX2_print yX2_print, Cond.code yX2_print cX2_print 2 (some .int), Cond.fieldLink RX2 18 "SignetRoom$Letter" "subject" "I", Cond.fieldLink RX2 21 "SignetRoom$Letter" "issuer" "I", Cond.fieldLink RX2 24 "SignetRoom$Letter" "key" "I", Cond.fieldLink RX2 27 "SignetRoom$Letter" "serial" "I", Cond.fieldLink RX2 34 "SignetRoom$Letter" "from" "I", Cond.fieldLink RX2 9 "SignetRoom$Letter" "to" "I", Cond.fieldLink RX2 37 "SignetRoom$Letter" "isMaster" "Z", Cond.fieldLink RX2 41 "SignetRoom$Letter" "reach" "I", Cond.fieldLink RX2 15 "SignetRoom$Letter" "uses" "I", Cond.fieldLink RX2 44 "SignetRoom$Letter" "bound" "I", Cond.static yX3_mix, Cond.code yX3_mix cX3_mix 2 (some .int), Cond.static yX3_sealFor, Cond.code yX3_sealFor cX3_sealFor 2 (some .int), Cond.methodLink RX3 110 yX3_anchorSet, Cond.instanceMethod yX3_anchorSet, Cond.selects RX3 yX3_anchorSet yX3_anchorSet, Cond.code yX3_anchorSet cX3_anchorSet 3 (some .int), Cond.instanceMethod yX1_markWays, Cond.initialized RX1, Cond.selects RX1 yX1_markWays yX1_markWays, Cond.code yX1_markWays cX1_markWays 6 none]
def wsX3_verdict_r4 : List Cond := [Cond.fieldLink RX1 29 "SignetRoom$ChainBook" "letterCount" "I", Cond.fieldLink RX1 15 "SignetRoom$ChainBook" "waysEndingIn" "[I", Cond.fieldLink RX1 9 "SignetRoom$ChainBook" "backers" "[I", Cond.instanceMethod yX0_markSigners, Cond.initialized RX0, Cond.selects RX0 yX0_markSigners yX0_markSigners, Cond.code yX0_markSigners cX0_markSigners 3 none, Cond.fieldLink RX0 32 "SignetRoom$CallList" "signers" "I", Cond.fieldLink RX0 38 "SignetRoom$CallList" "seal" "I", Cond.methodLink RX0 28 yX0_print, Cond.instanceMethod yX0_print, Cond.selects RX0 yX0_print yX0_print, Cond.code yX0_print cX0_print 1 (some .int), Cond.fieldLink RX0 9 "SignetRoom$CallList" "issuer" "I", Cond.fieldLink RX0 15 "SignetRoom$CallList" "at" "I", Cond.fieldLink RX0 18 "SignetRoom$CallList" "next" "I", Cond.fieldLink RX0 25 "SignetRoom$CallList" "serials" "I", Cond.instanceMethod yX1_findChainsOf, Cond.selects RX1 yX1_findChainsOf yX1_findChainsOf, Cond.code yX1_findChainsOf cX1_findChainsOf 3 none, Cond.fieldLink RX1 33 "SignetRoom$ChainBook" "chainCount" "I", Cond.fieldLink RX1 26 "SignetRoom$ChainBook" "begun" "[I", Cond.methodLink RX1 36 yX1_extend, Cond.static yX1_extend]
def wsX3_verdict_r5 : List Cond := [Cond.code yX1_extend cX1_extend 7 none, Cond.methodLink RX1 40 yX1_keep, Cond.instanceMethod yX1_keep, Cond.selects RX1 yX1_keep yX1_keep, Cond.code yX1_keep cX1_keep 2 none, Cond.fieldLink RX1 20 "SignetRoom$ChainBook" "rows" "[[I", Cond.methodLink RX1 44 arraycopyName, Cond.native arraycopyName, Cond.static arraycopyName, Cond.initialized "java/lang/System", Cond.fieldLink RX1 23 "SignetRoom$ChainBook" "lengths" "[I", Cond.methodLink RX3 168 yX3_decision, Cond.instanceMethod yX3_decision, Cond.selects RX3 yX3_decision yX3_decision, Cond.code yX3_decision cX3_decision 3 (some .int), Cond.methodLink RX3 171 yX3_firstHolding, Cond.instanceMethod yX3_firstHolding, Cond.selects RX3 yX3_firstHolding yX3_firstHolding, Cond.code yX3_firstHolding cX3_firstHolding 4 (some .int), Cond.methodLink RX3 189 yX3_firstFlawedPlace, Cond.instanceMethod yX3_firstFlawedPlace, Cond.selects RX3 yX3_firstFlawedPlace yX3_firstFlawedPlace, Cond.code yX3_firstFlawedPlace cX3_firstFlawedPlace 6 (some .int), Cond.instanceMethod yX1_lengthOf]
def wsX3_verdict_r6 : List Cond := [Cond.selects RX1 yX1_lengthOf yX1_lengthOf, Cond.code yX1_lengthOf cX1_lengthOf 2 (some .int), Cond.methodLink RX3 245 yX3_flawOf, Cond.instanceMethod yX3_flawOf, Cond.selects RX3 yX3_flawOf yX3_flawOf, Cond.code yX3_flawOf cX3_flawOf 8 (some .int), Cond.instanceMethod yX1_member, Cond.selects RX1 yX1_member yX1_member, Cond.code yX1_member cX1_member 3 (some .int), Cond.instanceMethod yX2_flawAlone, Cond.selects RX2 yX2_flawAlone yX2_flawAlone, Cond.code yX2_flawAlone cX2_flawAlone 3 (some .int), Cond.methodLink RX3 252 yX3_flawAsBacker, Cond.instanceMethod yX3_flawAsBacker, Cond.selects RX3 yX3_flawAsBacker yX3_flawAsBacker, Cond.code yX3_flawAsBacker cX3_flawAsBacker 6 (some .int), Cond.methodLink RX3 151 yX3_isBelow, Cond.static yX3_isBelow, Cond.code yX3_isBelow cX3_isBelow 3 (some .boolean), Cond.methodLink RX3 256 yX3_isCalledBack, Cond.instanceMethod yX3_isCalledBack, Cond.selects RX3 yX3_isCalledBack yX3_isCalledBack, Cond.code yX3_isCalledBack cX3_isCalledBack 6 (some .boolean), Cond.fieldLink RX3 135 "SignetRoom" "isStrictRoom" "Z"]
def wsX3_verdict_r7 : List Cond := [Cond.methodLink RX3 260 yX3_latestList, Cond.instanceMethod yX3_latestList, Cond.selects RX3 yX3_latestList yX3_latestList, Cond.code yX3_latestList cX3_latestList 9 (some .int), Cond.instanceMethod yX0_hasSerial, Cond.selects RX0 yX0_hasSerial yX0_hasSerial, Cond.code yX0_hasSerial cX0_hasSerial 2 (some .boolean)]
def wsX3_verdict : List Cond := .code yX3_verdict cX3_verdict 4 (some .int) :: ((wsX3_verdict_r1 ++ (wsX3_verdict_r2 ++ (wsX3_verdict_r3 ++ (wsX3_verdict_r4 ++ (wsX3_verdict_r5 ++ (wsX3_verdict_r6 ++ wsX3_verdict_r7)))))) ++ wsX30 ++ wsX10 ++ wsX20 ++ wsX00 ++ (vx_atS RX3 220 "java/lang/IndexOutOfBoundsException" ["java/lang/RuntimeException", "java/lang/Exception"]).filter goodWord ++ (vx_atS RX3 212 "java/lang/IllegalArgumentException" ["java/lang/RuntimeException", "java/lang/Exception"]).filter goodWord)
def wsX3_chain_r1 : List Cond := [Cond.fieldLink RX3 24 "SignetRoom" "book" "LSignetRoom$ChainBook;", Cond.methodLink RX3 63 yX3_refuseUnlessLetter, Cond.instanceMethod yX3_refuseUnlessLetter, Cond.selects RX3 yX3_refuseUnlessLetter yX3_refuseUnlessLetter, Cond.initialized RX3, Cond.code yX3_refuseUnlessLetter cX3_refuseUnlessLetter 2 none, Cond.classLink RX3 216 "java/lang/IndexOutOfBoundsException", Cond.initialized "java/lang/IndexOutOfBoundsException", Cond.methodLink RX3 213 yX3_isLetter, Cond.instanceMethod yX3_isLetter, Cond.selects RX3 yX3_isLetter yX3_isLetter, Cond.code yX3_isLetter cX3_isLetter 2 (some .boolean), Cond.fieldLink RX3 48 "SignetRoom" "letterCount" "I", Cond.methodLink RX3 164 yX3_refuseUnlessMoment, Cond.static yX3_refuseUnlessMoment, Cond.code yX3_refuseUnlessMoment cX3_refuseUnlessMoment 2 none, Cond.methodLink RX3 67 yX3_isTime, Cond.static yX3_isTime, Cond.code yX3_isTime cX3_isTime 1 (some .boolean), Cond.methodLink RX3 80 yX3_isWithin, Cond.static yX3_isWithin, Cond.code yX3_isWithin cX3_isWithin 2 (some .boolean), Cond.methodLink RX3 44 yX3_refuseUnless, Cond.static yX3_refuseUnless]
def wsX3_chain_r2 : List Cond := [Cond.code yX3_refuseUnless cX3_refuseUnless 1 none, Cond.classLink RX3 208 "java/lang/IllegalArgumentException", Cond.initialized "java/lang/IllegalArgumentException", Cond.methodLink RX3 138 yX3_survey, Cond.instanceMethod yX3_survey, Cond.selects RX3 yX3_survey yX3_survey, Cond.code yX3_survey cX3_survey 2 none, Cond.fieldLink RX3 11 "SignetRoom" "letters" "[LSignetRoom$Letter;", Cond.fieldLink RX3 119 "SignetRoom" "listCount" "I", Cond.fieldLink RX3 17 "SignetRoom" "lists" "[LSignetRoom$CallList;", Cond.methodLink RX3 235 yX3_backersOf, Cond.instanceMethod yX3_backersOf, Cond.selects RX3 yX3_backersOf yX3_backersOf, Cond.code yX3_backersOf cX3_backersOf 4 (some .int), Cond.methodLink RX3 154 yX3_isBacking, Cond.static yX3_isBacking, Cond.code yX3_isBacking cX3_isBacking 2 (some .boolean), Cond.instanceMethod yX2_isSealedBy, Cond.initialized RX2, Cond.selects RX2 yX2_isSealedBy yX2_isSealedBy, Cond.code yX2_isSealedBy cX2_isSealedBy 2 (some .boolean), Cond.fieldLink RX2 47 "SignetRoom$Letter" "seal" "I", Cond.methodLink RX2 50 yX2_print, Cond.instanceMethod yX2_print]
def wsX3_chain_r3 : List Cond := [Cond.selects RX2 yX2_print yX2_print, Cond.code yX2_print cX2_print 2 (some .int), Cond.fieldLink RX2 18 "SignetRoom$Letter" "subject" "I", Cond.fieldLink RX2 21 "SignetRoom$Letter" "issuer" "I", Cond.fieldLink RX2 24 "SignetRoom$Letter" "key" "I", Cond.fieldLink RX2 27 "SignetRoom$Letter" "serial" "I", Cond.fieldLink RX2 34 "SignetRoom$Letter" "from" "I", Cond.fieldLink RX2 9 "SignetRoom$Letter" "to" "I", Cond.fieldLink RX2 37 "SignetRoom$Letter" "isMaster" "Z", Cond.fieldLink RX2 41 "SignetRoom$Letter" "reach" "I", Cond.fieldLink RX2 15 "SignetRoom$Letter" "uses" "I", Cond.fieldLink RX2 44 "SignetRoom$Letter" "bound" "I", Cond.static yX3_mix, Cond.code yX3_mix cX3_mix 2 (some .int), Cond.static yX3_sealFor, Cond.code yX3_sealFor cX3_sealFor 2 (some .int), Cond.methodLink RX3 110 yX3_anchorSet, Cond.instanceMethod yX3_anchorSet, Cond.selects RX3 yX3_anchorSet yX3_anchorSet, Cond.code yX3_anchorSet cX3_anchorSet 3 (some .int), Cond.instanceMethod yX1_markWays, Cond.initialized RX1, Cond.selects RX1 yX1_markWays yX1_markWays, Cond.code yX1_markWays cX1_markWays 6 none]
def wsX3_chain_r4 : List Cond := [Cond.fieldLink RX1 29 "SignetRoom$ChainBook" "letterCount" "I", Cond.fieldLink RX1 15 "SignetRoom$ChainBook" "waysEndingIn" "[I", Cond.fieldLink RX1 9 "SignetRoom$ChainBook" "backers" "[I", Cond.instanceMethod yX0_markSigners, Cond.initialized RX0, Cond.selects RX0 yX0_markSigners yX0_markSigners, Cond.code yX0_markSigners cX0_markSigners 3 none, Cond.fieldLink RX0 32 "SignetRoom$CallList" "signers" "I", Cond.fieldLink RX0 38 "SignetRoom$CallList" "seal" "I", Cond.methodLink RX0 28 yX0_print, Cond.instanceMethod yX0_print, Cond.selects RX0 yX0_print yX0_print, Cond.code yX0_print cX0_print 1 (some .int), Cond.fieldLink RX0 9 "SignetRoom$CallList" "issuer" "I", Cond.fieldLink RX0 15 "SignetRoom$CallList" "at" "I", Cond.fieldLink RX0 18 "SignetRoom$CallList" "next" "I", Cond.fieldLink RX0 25 "SignetRoom$CallList" "serials" "I", Cond.instanceMethod yX1_findChainsOf, Cond.selects RX1 yX1_findChainsOf yX1_findChainsOf, Cond.code yX1_findChainsOf cX1_findChainsOf 3 none, Cond.fieldLink RX1 33 "SignetRoom$ChainBook" "chainCount" "I", Cond.fieldLink RX1 26 "SignetRoom$ChainBook" "begun" "[I", Cond.methodLink RX1 36 yX1_extend, Cond.static yX1_extend]
def wsX3_chain_r5 : List Cond := [Cond.code yX1_extend cX1_extend 7 none, Cond.methodLink RX1 40 yX1_keep, Cond.instanceMethod yX1_keep, Cond.selects RX1 yX1_keep yX1_keep, Cond.code yX1_keep cX1_keep 2 none, Cond.fieldLink RX1 20 "SignetRoom$ChainBook" "rows" "[[I", Cond.methodLink RX1 44 arraycopyName, Cond.native arraycopyName, Cond.static arraycopyName, Cond.initialized "java/lang/System", Cond.fieldLink RX1 23 "SignetRoom$ChainBook" "lengths" "[I", Cond.methodLink RX3 171 yX3_firstHolding, Cond.instanceMethod yX3_firstHolding, Cond.selects RX3 yX3_firstHolding yX3_firstHolding, Cond.code yX3_firstHolding cX3_firstHolding 4 (some .int), Cond.methodLink RX3 189 yX3_firstFlawedPlace, Cond.instanceMethod yX3_firstFlawedPlace, Cond.selects RX3 yX3_firstFlawedPlace yX3_firstFlawedPlace, Cond.code yX3_firstFlawedPlace cX3_firstFlawedPlace 6 (some .int), Cond.instanceMethod yX1_lengthOf, Cond.selects RX1 yX1_lengthOf yX1_lengthOf, Cond.code yX1_lengthOf cX1_lengthOf 2 (some .int), Cond.methodLink RX3 245 yX3_flawOf, Cond.instanceMethod yX3_flawOf]
def wsX3_chain_r6 : List Cond := [Cond.selects RX3 yX3_flawOf yX3_flawOf, Cond.code yX3_flawOf cX3_flawOf 8 (some .int), Cond.instanceMethod yX1_member, Cond.selects RX1 yX1_member yX1_member, Cond.code yX1_member cX1_member 3 (some .int), Cond.instanceMethod yX2_flawAlone, Cond.selects RX2 yX2_flawAlone yX2_flawAlone, Cond.code yX2_flawAlone cX2_flawAlone 3 (some .int), Cond.methodLink RX3 252 yX3_flawAsBacker, Cond.instanceMethod yX3_flawAsBacker, Cond.selects RX3 yX3_flawAsBacker yX3_flawAsBacker, Cond.code yX3_flawAsBacker cX3_flawAsBacker 6 (some .int), Cond.methodLink RX3 151 yX3_isBelow, Cond.static yX3_isBelow, Cond.code yX3_isBelow cX3_isBelow 3 (some .boolean), Cond.methodLink RX3 256 yX3_isCalledBack, Cond.instanceMethod yX3_isCalledBack, Cond.selects RX3 yX3_isCalledBack yX3_isCalledBack, Cond.code yX3_isCalledBack cX3_isCalledBack 6 (some .boolean), Cond.fieldLink RX3 135 "SignetRoom" "isStrictRoom" "Z", Cond.methodLink RX3 260 yX3_latestList, Cond.instanceMethod yX3_latestList, Cond.selects RX3 yX3_latestList yX3_latestList, Cond.code yX3_latestList cX3_latestList 9 (some .int)]
def wsX3_chain_r7 : List Cond := [Cond.instanceMethod yX0_hasSerial, Cond.selects RX0 yX0_hasSerial yX0_hasSerial, Cond.code yX0_hasSerial cX0_hasSerial 2 (some .boolean)]
def wsX3_chain : List Cond := .code yX3_chain cX3_chain 6 (some .int) :: ((wsX3_chain_r1 ++ (wsX3_chain_r2 ++ (wsX3_chain_r3 ++ (wsX3_chain_r4 ++ (wsX3_chain_r5 ++ (wsX3_chain_r6 ++ wsX3_chain_r7)))))) ++ wsX30 ++ wsX10 ++ wsX20 ++ wsX00 ++ (vx_atS RX3 220 "java/lang/IndexOutOfBoundsException" ["java/lang/RuntimeException", "java/lang/Exception"]).filter goodWord ++ (vx_atS RX3 212 "java/lang/IllegalArgumentException" ["java/lang/RuntimeException", "java/lang/Exception"]).filter goodWord)
def wsX3_decidingPlace_r1 : List Cond := [Cond.methodLink RX3 171 yX3_firstHolding, Cond.instanceMethod yX3_firstHolding, Cond.selects RX3 yX3_firstHolding yX3_firstHolding, Cond.initialized RX3, Cond.code yX3_firstHolding cX3_firstHolding 4 (some .int), Cond.fieldLink RX3 24 "SignetRoom" "book" "LSignetRoom$ChainBook;", Cond.methodLink RX3 189 yX3_firstFlawedPlace, Cond.instanceMethod yX3_firstFlawedPlace, Cond.selects RX3 yX3_firstFlawedPlace yX3_firstFlawedPlace, Cond.code yX3_firstFlawedPlace cX3_firstFlawedPlace 6 (some .int), Cond.instanceMethod yX1_lengthOf, Cond.initialized RX1, Cond.selects RX1 yX1_lengthOf yX1_lengthOf, Cond.code yX1_lengthOf cX1_lengthOf 2 (some .int), Cond.fieldLink RX1 33 "SignetRoom$ChainBook" "chainCount" "I", Cond.fieldLink RX1 23 "SignetRoom$ChainBook" "lengths" "[I", Cond.methodLink RX3 245 yX3_flawOf, Cond.instanceMethod yX3_flawOf, Cond.selects RX3 yX3_flawOf yX3_flawOf, Cond.code yX3_flawOf cX3_flawOf 8 (some .int), Cond.fieldLink RX3 11 "SignetRoom" "letters" "[LSignetRoom$Letter;", Cond.instanceMethod yX1_member, Cond.selects RX1 yX1_member yX1_member, Cond.code yX1_member cX1_member 3 (some .int)]
def wsX3_decidingPlace_r2 : List Cond := [Cond.fieldLink RX1 20 "SignetRoom$ChainBook" "rows" "[[I", Cond.methodLink RX3 213 yX3_isLetter, Cond.instanceMethod yX3_isLetter, Cond.selects RX3 yX3_isLetter yX3_isLetter, Cond.code yX3_isLetter cX3_isLetter 2 (some .boolean), Cond.fieldLink RX3 48 "SignetRoom" "letterCount" "I", Cond.instanceMethod yX2_flawAlone, Cond.initialized RX2, Cond.selects RX2 yX2_flawAlone yX2_flawAlone, Cond.code yX2_flawAlone cX2_flawAlone 3 (some .int), Cond.fieldLink RX2 34 "SignetRoom$Letter" "from" "I", Cond.fieldLink RX2 9 "SignetRoom$Letter" "to" "I", Cond.fieldLink RX2 15 "SignetRoom$Letter" "uses" "I", Cond.methodLink RX3 252 yX3_flawAsBacker, Cond.instanceMethod yX3_flawAsBacker, Cond.selects RX3 yX3_flawAsBacker yX3_flawAsBacker, Cond.code yX3_flawAsBacker cX3_flawAsBacker 6 (some .int), Cond.methodLink RX3 151 yX3_isBelow, Cond.static yX3_isBelow, Cond.code yX3_isBelow cX3_isBelow 3 (some .boolean), Cond.methodLink RX3 256 yX3_isCalledBack, Cond.instanceMethod yX3_isCalledBack, Cond.selects RX3 yX3_isCalledBack yX3_isCalledBack, Cond.code yX3_isCalledBack cX3_isCalledBack 6 (some .boolean)]
def wsX3_decidingPlace_r3 : List Cond := [Cond.fieldLink RX3 135 "SignetRoom" "isStrictRoom" "Z", Cond.fieldLink RX3 17 "SignetRoom" "lists" "[LSignetRoom$CallList;", Cond.methodLink RX3 260 yX3_latestList, Cond.instanceMethod yX3_latestList, Cond.selects RX3 yX3_latestList yX3_latestList, Cond.code yX3_latestList cX3_latestList 9 (some .int), Cond.fieldLink RX3 119 "SignetRoom" "listCount" "I", Cond.instanceMethod yX0_hasSerial, Cond.initialized RX0, Cond.selects RX0 yX0_hasSerial yX0_hasSerial, Cond.code yX0_hasSerial cX0_hasSerial 2 (some .boolean), Cond.fieldLink RX0 25 "SignetRoom$CallList" "serials" "I"]
def wsX3_decidingPlace : List Cond := .code yX3_decidingPlace cX3_decidingPlace 3 (some .int) :: ((wsX3_decidingPlace_r1 ++ (wsX3_decidingPlace_r2 ++ wsX3_decidingPlace_r3)) ++ wsX30 ++ wsX10 ++ wsX20 ++ wsX00)
def wsX3_flawAt_r1 : List Cond := [Cond.fieldLink RX3 24 "SignetRoom" "book" "LSignetRoom$ChainBook;", Cond.methodLink RX3 63 yX3_refuseUnlessLetter, Cond.instanceMethod yX3_refuseUnlessLetter, Cond.selects RX3 yX3_refuseUnlessLetter yX3_refuseUnlessLetter, Cond.initialized RX3, Cond.code yX3_refuseUnlessLetter cX3_refuseUnlessLetter 2 none, Cond.classLink RX3 216 "java/lang/IndexOutOfBoundsException", Cond.initialized "java/lang/IndexOutOfBoundsException", Cond.methodLink RX3 213 yX3_isLetter, Cond.instanceMethod yX3_isLetter, Cond.selects RX3 yX3_isLetter yX3_isLetter, Cond.code yX3_isLetter cX3_isLetter 2 (some .boolean), Cond.fieldLink RX3 48 "SignetRoom" "letterCount" "I", Cond.methodLink RX3 164 yX3_refuseUnlessMoment, Cond.static yX3_refuseUnlessMoment, Cond.code yX3_refuseUnlessMoment cX3_refuseUnlessMoment 2 none, Cond.methodLink RX3 67 yX3_isTime, Cond.static yX3_isTime, Cond.code yX3_isTime cX3_isTime 1 (some .boolean), Cond.methodLink RX3 80 yX3_isWithin, Cond.static yX3_isWithin, Cond.code yX3_isWithin cX3_isWithin 2 (some .boolean), Cond.methodLink RX3 44 yX3_refuseUnless, Cond.static yX3_refuseUnless]
def wsX3_flawAt_r2 : List Cond := [Cond.code yX3_refuseUnless cX3_refuseUnless 1 none, Cond.classLink RX3 208 "java/lang/IllegalArgumentException", Cond.initialized "java/lang/IllegalArgumentException", Cond.methodLink RX3 138 yX3_survey, Cond.instanceMethod yX3_survey, Cond.selects RX3 yX3_survey yX3_survey, Cond.code yX3_survey cX3_survey 2 none, Cond.fieldLink RX3 11 "SignetRoom" "letters" "[LSignetRoom$Letter;", Cond.fieldLink RX3 119 "SignetRoom" "listCount" "I", Cond.fieldLink RX3 17 "SignetRoom" "lists" "[LSignetRoom$CallList;", Cond.methodLink RX3 235 yX3_backersOf, Cond.instanceMethod yX3_backersOf, Cond.selects RX3 yX3_backersOf yX3_backersOf, Cond.code yX3_backersOf cX3_backersOf 4 (some .int), Cond.methodLink RX3 154 yX3_isBacking, Cond.static yX3_isBacking, Cond.code yX3_isBacking cX3_isBacking 2 (some .boolean), Cond.instanceMethod yX2_isSealedBy, Cond.initialized RX2, Cond.selects RX2 yX2_isSealedBy yX2_isSealedBy, Cond.code yX2_isSealedBy cX2_isSealedBy 2 (some .boolean), Cond.fieldLink RX2 47 "SignetRoom$Letter" "seal" "I", Cond.methodLink RX2 50 yX2_print, Cond.instanceMethod yX2_print]
def wsX3_flawAt_r3 : List Cond := [Cond.selects RX2 yX2_print yX2_print, Cond.code yX2_print cX2_print 2 (some .int), Cond.fieldLink RX2 18 "SignetRoom$Letter" "subject" "I", Cond.fieldLink RX2 21 "SignetRoom$Letter" "issuer" "I", Cond.fieldLink RX2 24 "SignetRoom$Letter" "key" "I", Cond.fieldLink RX2 27 "SignetRoom$Letter" "serial" "I", Cond.fieldLink RX2 34 "SignetRoom$Letter" "from" "I", Cond.fieldLink RX2 9 "SignetRoom$Letter" "to" "I", Cond.fieldLink RX2 37 "SignetRoom$Letter" "isMaster" "Z", Cond.fieldLink RX2 41 "SignetRoom$Letter" "reach" "I", Cond.fieldLink RX2 15 "SignetRoom$Letter" "uses" "I", Cond.fieldLink RX2 44 "SignetRoom$Letter" "bound" "I", Cond.static yX3_mix, Cond.code yX3_mix cX3_mix 2 (some .int), Cond.static yX3_sealFor, Cond.code yX3_sealFor cX3_sealFor 2 (some .int), Cond.methodLink RX3 110 yX3_anchorSet, Cond.instanceMethod yX3_anchorSet, Cond.selects RX3 yX3_anchorSet yX3_anchorSet, Cond.code yX3_anchorSet cX3_anchorSet 3 (some .int), Cond.instanceMethod yX1_markWays, Cond.initialized RX1, Cond.selects RX1 yX1_markWays yX1_markWays, Cond.code yX1_markWays cX1_markWays 6 none]
def wsX3_flawAt_r4 : List Cond := [Cond.fieldLink RX1 29 "SignetRoom$ChainBook" "letterCount" "I", Cond.fieldLink RX1 15 "SignetRoom$ChainBook" "waysEndingIn" "[I", Cond.fieldLink RX1 9 "SignetRoom$ChainBook" "backers" "[I", Cond.instanceMethod yX0_markSigners, Cond.initialized RX0, Cond.selects RX0 yX0_markSigners yX0_markSigners, Cond.code yX0_markSigners cX0_markSigners 3 none, Cond.fieldLink RX0 32 "SignetRoom$CallList" "signers" "I", Cond.fieldLink RX0 38 "SignetRoom$CallList" "seal" "I", Cond.methodLink RX0 28 yX0_print, Cond.instanceMethod yX0_print, Cond.selects RX0 yX0_print yX0_print, Cond.code yX0_print cX0_print 1 (some .int), Cond.fieldLink RX0 9 "SignetRoom$CallList" "issuer" "I", Cond.fieldLink RX0 15 "SignetRoom$CallList" "at" "I", Cond.fieldLink RX0 18 "SignetRoom$CallList" "next" "I", Cond.fieldLink RX0 25 "SignetRoom$CallList" "serials" "I", Cond.instanceMethod yX1_findChainsOf, Cond.selects RX1 yX1_findChainsOf yX1_findChainsOf, Cond.code yX1_findChainsOf cX1_findChainsOf 3 none, Cond.fieldLink RX1 33 "SignetRoom$ChainBook" "chainCount" "I", Cond.fieldLink RX1 26 "SignetRoom$ChainBook" "begun" "[I", Cond.methodLink RX1 36 yX1_extend, Cond.static yX1_extend]
def wsX3_flawAt_r5 : List Cond := [Cond.code yX1_extend cX1_extend 7 none, Cond.methodLink RX1 40 yX1_keep, Cond.instanceMethod yX1_keep, Cond.selects RX1 yX1_keep yX1_keep, Cond.code yX1_keep cX1_keep 2 none, Cond.fieldLink RX1 20 "SignetRoom$ChainBook" "rows" "[[I", Cond.methodLink RX1 44 arraycopyName, Cond.native arraycopyName, Cond.static arraycopyName, Cond.initialized "java/lang/System", Cond.fieldLink RX1 23 "SignetRoom$ChainBook" "lengths" "[I", Cond.methodLink RX3 177 yX3_decidingPlace, Cond.instanceMethod yX3_decidingPlace, Cond.selects RX3 yX3_decidingPlace yX3_decidingPlace, Cond.code yX3_decidingPlace cX3_decidingPlace 3 (some .int), Cond.methodLink RX3 171 yX3_firstHolding, Cond.instanceMethod yX3_firstHolding, Cond.selects RX3 yX3_firstHolding yX3_firstHolding, Cond.code yX3_firstHolding cX3_firstHolding 4 (some .int), Cond.methodLink RX3 189 yX3_firstFlawedPlace, Cond.instanceMethod yX3_firstFlawedPlace, Cond.selects RX3 yX3_firstFlawedPlace yX3_firstFlawedPlace, Cond.code yX3_firstFlawedPlace cX3_firstFlawedPlace 6 (some .int), Cond.instanceMethod yX1_lengthOf]
def wsX3_flawAt_r6 : List Cond := [Cond.selects RX1 yX1_lengthOf yX1_lengthOf, Cond.code yX1_lengthOf cX1_lengthOf 2 (some .int), Cond.methodLink RX3 245 yX3_flawOf, Cond.instanceMethod yX3_flawOf, Cond.selects RX3 yX3_flawOf yX3_flawOf, Cond.code yX3_flawOf cX3_flawOf 8 (some .int), Cond.instanceMethod yX1_member, Cond.selects RX1 yX1_member yX1_member, Cond.code yX1_member cX1_member 3 (some .int), Cond.instanceMethod yX2_flawAlone, Cond.selects RX2 yX2_flawAlone yX2_flawAlone, Cond.code yX2_flawAlone cX2_flawAlone 3 (some .int), Cond.methodLink RX3 252 yX3_flawAsBacker, Cond.instanceMethod yX3_flawAsBacker, Cond.selects RX3 yX3_flawAsBacker yX3_flawAsBacker, Cond.code yX3_flawAsBacker cX3_flawAsBacker 6 (some .int), Cond.methodLink RX3 151 yX3_isBelow, Cond.static yX3_isBelow, Cond.code yX3_isBelow cX3_isBelow 3 (some .boolean), Cond.methodLink RX3 256 yX3_isCalledBack, Cond.instanceMethod yX3_isCalledBack, Cond.selects RX3 yX3_isCalledBack yX3_isCalledBack, Cond.code yX3_isCalledBack cX3_isCalledBack 6 (some .boolean), Cond.fieldLink RX3 135 "SignetRoom" "isStrictRoom" "Z"]
def wsX3_flawAt_r7 : List Cond := [Cond.methodLink RX3 260 yX3_latestList, Cond.instanceMethod yX3_latestList, Cond.selects RX3 yX3_latestList yX3_latestList, Cond.code yX3_latestList cX3_latestList 9 (some .int), Cond.instanceMethod yX0_hasSerial, Cond.selects RX0 yX0_hasSerial yX0_hasSerial, Cond.code yX0_hasSerial cX0_hasSerial 2 (some .boolean)]
def wsX3_flawAt : List Cond := .code yX3_flawAt cX3_flawAt 4 (some .int) :: ((wsX3_flawAt_r1 ++ (wsX3_flawAt_r2 ++ (wsX3_flawAt_r3 ++ (wsX3_flawAt_r4 ++ (wsX3_flawAt_r5 ++ (wsX3_flawAt_r6 ++ wsX3_flawAt_r7)))))) ++ wsX30 ++ wsX10 ++ wsX20 ++ wsX00 ++ (vx_atS RX3 220 "java/lang/IndexOutOfBoundsException" ["java/lang/RuntimeException", "java/lang/Exception"]).filter goodWord ++ (vx_atS RX3 212 "java/lang/IllegalArgumentException" ["java/lang/RuntimeException", "java/lang/Exception"]).filter goodWord)
def wsX3_isOf_r1 : List Cond := [Cond.fieldLink RX3 48 "SignetRoom" "letterCount" "I", Cond.fieldLink RX3 11 "SignetRoom" "letters" "[LSignetRoom$Letter;", Cond.fieldLink RX3 24 "SignetRoom" "book" "LSignetRoom$ChainBook;", Cond.methodLink RX3 34 yX3_isName, Cond.static yX3_isName, Cond.initialized RX3, Cond.code yX3_isName cX3_isName 2 (some .boolean), Cond.methodLink RX3 38 yX3_isKey, Cond.static yX3_isKey, Cond.code yX3_isKey cX3_isKey 1 (some .boolean), Cond.methodLink RX3 80 yX3_isWithin, Cond.static yX3_isWithin, Cond.code yX3_isWithin cX3_isWithin 2 (some .boolean), Cond.methodLink RX3 44 yX3_refuseUnless, Cond.static yX3_refuseUnless, Cond.code yX3_refuseUnless cX3_refuseUnless 1 none, Cond.classLink RX3 208 "java/lang/IllegalArgumentException", Cond.initialized "java/lang/IllegalArgumentException", Cond.methodLink RX3 164 yX3_refuseUnlessMoment, Cond.static yX3_refuseUnlessMoment, Cond.code yX3_refuseUnlessMoment cX3_refuseUnlessMoment 2 none, Cond.methodLink RX3 67 yX3_isTime, Cond.static yX3_isTime, Cond.code yX3_isTime cX3_isTime 1 (some .boolean)]
def wsX3_isOf_r2 : List Cond := [Cond.methodLink RX3 138 yX3_survey, Cond.instanceMethod yX3_survey, Cond.selects RX3 yX3_survey yX3_survey, Cond.code yX3_survey cX3_survey 2 none, Cond.fieldLink RX3 119 "SignetRoom" "listCount" "I", Cond.fieldLink RX3 17 "SignetRoom" "lists" "[LSignetRoom$CallList;", Cond.methodLink RX3 235 yX3_backersOf, Cond.instanceMethod yX3_backersOf, Cond.selects RX3 yX3_backersOf yX3_backersOf, Cond.code yX3_backersOf cX3_backersOf 4 (some .int), Cond.methodLink RX3 154 yX3_isBacking, Cond.static yX3_isBacking, Cond.code yX3_isBacking cX3_isBacking 2 (some .boolean), Cond.instanceMethod yX2_isSealedBy, Cond.initialized RX2, Cond.selects RX2 yX2_isSealedBy yX2_isSealedBy, Cond.code yX2_isSealedBy cX2_isSealedBy 2 (some .boolean), Cond.fieldLink RX2 47 "SignetRoom$Letter" "seal" "I", Cond.methodLink RX2 50 yX2_print, Cond.instanceMethod yX2_print, Cond.selects RX2 yX2_print yX2_print, Cond.code yX2_print cX2_print 2 (some .int), Cond.fieldLink RX2 18 "SignetRoom$Letter" "subject" "I", Cond.fieldLink RX2 21 "SignetRoom$Letter" "issuer" "I"]
def wsX3_isOf_r3 : List Cond := [Cond.fieldLink RX2 24 "SignetRoom$Letter" "key" "I", Cond.fieldLink RX2 27 "SignetRoom$Letter" "serial" "I", Cond.fieldLink RX2 34 "SignetRoom$Letter" "from" "I", Cond.fieldLink RX2 9 "SignetRoom$Letter" "to" "I", Cond.fieldLink RX2 37 "SignetRoom$Letter" "isMaster" "Z", Cond.fieldLink RX2 41 "SignetRoom$Letter" "reach" "I", Cond.fieldLink RX2 15 "SignetRoom$Letter" "uses" "I", Cond.fieldLink RX2 44 "SignetRoom$Letter" "bound" "I", Cond.static yX3_mix, Cond.code yX3_mix cX3_mix 2 (some .int), Cond.static yX3_sealFor, Cond.code yX3_sealFor cX3_sealFor 2 (some .int), Cond.methodLink RX3 110 yX3_anchorSet, Cond.instanceMethod yX3_anchorSet, Cond.selects RX3 yX3_anchorSet yX3_anchorSet, Cond.code yX3_anchorSet cX3_anchorSet 3 (some .int), Cond.instanceMethod yX1_markWays, Cond.initialized RX1, Cond.selects RX1 yX1_markWays yX1_markWays, Cond.code yX1_markWays cX1_markWays 6 none, Cond.fieldLink RX1 29 "SignetRoom$ChainBook" "letterCount" "I", Cond.fieldLink RX1 15 "SignetRoom$ChainBook" "waysEndingIn" "[I", Cond.fieldLink RX1 9 "SignetRoom$ChainBook" "backers" "[I", Cond.instanceMethod yX0_markSigners]
def wsX3_isOf_r4 : List Cond := [Cond.initialized RX0, Cond.selects RX0 yX0_markSigners yX0_markSigners, Cond.code yX0_markSigners cX0_markSigners 3 none, Cond.fieldLink RX0 32 "SignetRoom$CallList" "signers" "I", Cond.fieldLink RX0 38 "SignetRoom$CallList" "seal" "I", Cond.methodLink RX0 28 yX0_print, Cond.instanceMethod yX0_print, Cond.selects RX0 yX0_print yX0_print, Cond.code yX0_print cX0_print 1 (some .int), Cond.fieldLink RX0 9 "SignetRoom$CallList" "issuer" "I", Cond.fieldLink RX0 15 "SignetRoom$CallList" "at" "I", Cond.fieldLink RX0 18 "SignetRoom$CallList" "next" "I", Cond.fieldLink RX0 25 "SignetRoom$CallList" "serials" "I", Cond.instanceMethod yX1_findChainsOf, Cond.selects RX1 yX1_findChainsOf yX1_findChainsOf, Cond.code yX1_findChainsOf cX1_findChainsOf 3 none, Cond.fieldLink RX1 33 "SignetRoom$ChainBook" "chainCount" "I", Cond.fieldLink RX1 26 "SignetRoom$ChainBook" "begun" "[I", Cond.methodLink RX1 36 yX1_extend, Cond.static yX1_extend, Cond.code yX1_extend cX1_extend 7 none, Cond.methodLink RX1 40 yX1_keep, Cond.instanceMethod yX1_keep, Cond.selects RX1 yX1_keep yX1_keep]
def wsX3_isOf_r5 : List Cond := [Cond.code yX1_keep cX1_keep 2 none, Cond.fieldLink RX1 20 "SignetRoom$ChainBook" "rows" "[[I", Cond.methodLink RX1 44 arraycopyName, Cond.native arraycopyName, Cond.static arraycopyName, Cond.initialized "java/lang/System", Cond.fieldLink RX1 23 "SignetRoom$ChainBook" "lengths" "[I", Cond.methodLink RX3 171 yX3_firstHolding, Cond.instanceMethod yX3_firstHolding, Cond.selects RX3 yX3_firstHolding yX3_firstHolding, Cond.code yX3_firstHolding cX3_firstHolding 4 (some .int), Cond.methodLink RX3 189 yX3_firstFlawedPlace, Cond.instanceMethod yX3_firstFlawedPlace, Cond.selects RX3 yX3_firstFlawedPlace yX3_firstFlawedPlace, Cond.code yX3_firstFlawedPlace cX3_firstFlawedPlace 6 (some .int), Cond.instanceMethod yX1_lengthOf, Cond.selects RX1 yX1_lengthOf yX1_lengthOf, Cond.code yX1_lengthOf cX1_lengthOf 2 (some .int), Cond.methodLink RX3 245 yX3_flawOf, Cond.instanceMethod yX3_flawOf, Cond.selects RX3 yX3_flawOf yX3_flawOf, Cond.code yX3_flawOf cX3_flawOf 8 (some .int), Cond.instanceMethod yX1_member, Cond.selects RX1 yX1_member yX1_member]
def wsX3_isOf_r6 : List Cond := [Cond.code yX1_member cX1_member 3 (some .int), Cond.methodLink RX3 213 yX3_isLetter, Cond.instanceMethod yX3_isLetter, Cond.selects RX3 yX3_isLetter yX3_isLetter, Cond.code yX3_isLetter cX3_isLetter 2 (some .boolean), Cond.instanceMethod yX2_flawAlone, Cond.selects RX2 yX2_flawAlone yX2_flawAlone, Cond.code yX2_flawAlone cX2_flawAlone 3 (some .int), Cond.methodLink RX3 252 yX3_flawAsBacker, Cond.instanceMethod yX3_flawAsBacker, Cond.selects RX3 yX3_flawAsBacker yX3_flawAsBacker, Cond.code yX3_flawAsBacker cX3_flawAsBacker 6 (some .int), Cond.methodLink RX3 151 yX3_isBelow, Cond.static yX3_isBelow, Cond.code yX3_isBelow cX3_isBelow 3 (some .boolean), Cond.methodLink RX3 256 yX3_isCalledBack, Cond.instanceMethod yX3_isCalledBack, Cond.selects RX3 yX3_isCalledBack yX3_isCalledBack, Cond.code yX3_isCalledBack cX3_isCalledBack 6 (some .boolean), Cond.fieldLink RX3 135 "SignetRoom" "isStrictRoom" "Z", Cond.methodLink RX3 260 yX3_latestList, Cond.instanceMethod yX3_latestList, Cond.selects RX3 yX3_latestList yX3_latestList, Cond.code yX3_latestList cX3_latestList 9 (some .int)]
def wsX3_isOf_r7 : List Cond := [Cond.instanceMethod yX0_hasSerial, Cond.selects RX0 yX0_hasSerial yX0_hasSerial, Cond.code yX0_hasSerial cX0_hasSerial 2 (some .boolean)]
def wsX3_isOf : List Cond := .code yX3_isOf cX3_isOf 7 (some .boolean) :: ((wsX3_isOf_r1 ++ (wsX3_isOf_r2 ++ (wsX3_isOf_r3 ++ (wsX3_isOf_r4 ++ (wsX3_isOf_r5 ++ (wsX3_isOf_r6 ++ wsX3_isOf_r7)))))) ++ wsX30 ++ wsX20 ++ wsX10 ++ wsX00 ++ (vx_atS RX3 212 "java/lang/IllegalArgumentException" ["java/lang/RuntimeException", "java/lang/Exception"]).filter goodWord)
def wsX3_meanChain_r1 : List Cond := [Cond.fieldLink RX3 48 "SignetRoom" "letterCount" "I", Cond.fieldLink RX3 24 "SignetRoom" "book" "LSignetRoom$ChainBook;", Cond.methodLink RX3 164 yX3_refuseUnlessMoment, Cond.static yX3_refuseUnlessMoment, Cond.initialized RX3, Cond.code yX3_refuseUnlessMoment cX3_refuseUnlessMoment 2 none, Cond.methodLink RX3 67 yX3_isTime, Cond.static yX3_isTime, Cond.code yX3_isTime cX3_isTime 1 (some .boolean), Cond.methodLink RX3 80 yX3_isWithin, Cond.static yX3_isWithin, Cond.code yX3_isWithin cX3_isWithin 2 (some .boolean), Cond.methodLink RX3 44 yX3_refuseUnless, Cond.static yX3_refuseUnless, Cond.code yX3_refuseUnless cX3_refuseUnless 1 none, Cond.classLink RX3 208 "java/lang/IllegalArgumentException", Cond.initialized "java/lang/IllegalArgumentException", Cond.methodLink RX3 138 yX3_survey, Cond.instanceMethod yX3_survey, Cond.selects RX3 yX3_survey yX3_survey, Cond.code yX3_survey cX3_survey 2 none, Cond.fieldLink RX3 11 "SignetRoom" "letters" "[LSignetRoom$Letter;", Cond.fieldLink RX3 119 "SignetRoom" "listCount" "I", Cond.fieldLink RX3 17 "SignetRoom" "lists" "[LSignetRoom$CallList;"]
def wsX3_meanChain_r2 : List Cond := [Cond.methodLink RX3 235 yX3_backersOf, Cond.instanceMethod yX3_backersOf, Cond.selects RX3 yX3_backersOf yX3_backersOf, Cond.code yX3_backersOf cX3_backersOf 4 (some .int), Cond.methodLink RX3 154 yX3_isBacking, Cond.static yX3_isBacking, Cond.code yX3_isBacking cX3_isBacking 2 (some .boolean), Cond.instanceMethod yX2_isSealedBy, Cond.initialized RX2, Cond.selects RX2 yX2_isSealedBy yX2_isSealedBy, Cond.code yX2_isSealedBy cX2_isSealedBy 2 (some .boolean), Cond.fieldLink RX2 47 "SignetRoom$Letter" "seal" "I", Cond.methodLink RX2 50 yX2_print, Cond.instanceMethod yX2_print, Cond.selects RX2 yX2_print yX2_print, Cond.code yX2_print cX2_print 2 (some .int), Cond.fieldLink RX2 18 "SignetRoom$Letter" "subject" "I", Cond.fieldLink RX2 21 "SignetRoom$Letter" "issuer" "I", Cond.fieldLink RX2 24 "SignetRoom$Letter" "key" "I", Cond.fieldLink RX2 27 "SignetRoom$Letter" "serial" "I", Cond.fieldLink RX2 34 "SignetRoom$Letter" "from" "I", Cond.fieldLink RX2 9 "SignetRoom$Letter" "to" "I", Cond.fieldLink RX2 37 "SignetRoom$Letter" "isMaster" "Z", Cond.fieldLink RX2 41 "SignetRoom$Letter" "reach" "I"]
def wsX3_meanChain_r3 : List Cond := [Cond.fieldLink RX2 15 "SignetRoom$Letter" "uses" "I", Cond.fieldLink RX2 44 "SignetRoom$Letter" "bound" "I", Cond.static yX3_mix, Cond.code yX3_mix cX3_mix 2 (some .int), Cond.static yX3_sealFor, Cond.code yX3_sealFor cX3_sealFor 2 (some .int), Cond.methodLink RX3 110 yX3_anchorSet, Cond.instanceMethod yX3_anchorSet, Cond.selects RX3 yX3_anchorSet yX3_anchorSet, Cond.code yX3_anchorSet cX3_anchorSet 3 (some .int), Cond.instanceMethod yX1_markWays, Cond.initialized RX1, Cond.selects RX1 yX1_markWays yX1_markWays, Cond.code yX1_markWays cX1_markWays 6 none, Cond.fieldLink RX1 29 "SignetRoom$ChainBook" "letterCount" "I", Cond.fieldLink RX1 15 "SignetRoom$ChainBook" "waysEndingIn" "[I", Cond.fieldLink RX1 9 "SignetRoom$ChainBook" "backers" "[I", Cond.instanceMethod yX0_markSigners, Cond.initialized RX0, Cond.selects RX0 yX0_markSigners yX0_markSigners, Cond.code yX0_markSigners cX0_markSigners 3 none, Cond.fieldLink RX0 32 "SignetRoom$CallList" "signers" "I", Cond.fieldLink RX0 38 "SignetRoom$CallList" "seal" "I", Cond.methodLink RX0 28 yX0_print]
def wsX3_meanChain_r4 : List Cond := [Cond.instanceMethod yX0_print, Cond.selects RX0 yX0_print yX0_print, Cond.code yX0_print cX0_print 1 (some .int), Cond.fieldLink RX0 9 "SignetRoom$CallList" "issuer" "I", Cond.fieldLink RX0 15 "SignetRoom$CallList" "at" "I", Cond.fieldLink RX0 18 "SignetRoom$CallList" "next" "I", Cond.fieldLink RX0 25 "SignetRoom$CallList" "serials" "I", Cond.instanceMethod yX1_findChainsOf, Cond.selects RX1 yX1_findChainsOf yX1_findChainsOf, Cond.code yX1_findChainsOf cX1_findChainsOf 3 none, Cond.fieldLink RX1 33 "SignetRoom$ChainBook" "chainCount" "I", Cond.fieldLink RX1 26 "SignetRoom$ChainBook" "begun" "[I", Cond.methodLink RX1 36 yX1_extend, Cond.static yX1_extend, Cond.code yX1_extend cX1_extend 7 none, Cond.methodLink RX1 40 yX1_keep, Cond.instanceMethod yX1_keep, Cond.selects RX1 yX1_keep yX1_keep, Cond.code yX1_keep cX1_keep 2 none, Cond.fieldLink RX1 20 "SignetRoom$ChainBook" "rows" "[[I", Cond.methodLink RX1 44 arraycopyName, Cond.native arraycopyName, Cond.static arraycopyName, Cond.initialized "java/lang/System"]
def wsX3_meanChain_r5 : List Cond := [Cond.fieldLink RX1 23 "SignetRoom$ChainBook" "lengths" "[I", Cond.methodLink RX3 171 yX3_firstHolding, Cond.instanceMethod yX3_firstHolding, Cond.selects RX3 yX3_firstHolding yX3_firstHolding, Cond.code yX3_firstHolding cX3_firstHolding 4 (some .int), Cond.methodLink RX3 189 yX3_firstFlawedPlace, Cond.instanceMethod yX3_firstFlawedPlace, Cond.selects RX3 yX3_firstFlawedPlace yX3_firstFlawedPlace, Cond.code yX3_firstFlawedPlace cX3_firstFlawedPlace 6 (some .int), Cond.instanceMethod yX1_lengthOf, Cond.selects RX1 yX1_lengthOf yX1_lengthOf, Cond.code yX1_lengthOf cX1_lengthOf 2 (some .int), Cond.methodLink RX3 245 yX3_flawOf, Cond.instanceMethod yX3_flawOf, Cond.selects RX3 yX3_flawOf yX3_flawOf, Cond.code yX3_flawOf cX3_flawOf 8 (some .int), Cond.instanceMethod yX1_member, Cond.selects RX1 yX1_member yX1_member, Cond.code yX1_member cX1_member 3 (some .int), Cond.methodLink RX3 213 yX3_isLetter, Cond.instanceMethod yX3_isLetter, Cond.selects RX3 yX3_isLetter yX3_isLetter, Cond.code yX3_isLetter cX3_isLetter 2 (some .boolean), Cond.instanceMethod yX2_flawAlone]
def wsX3_meanChain_r6 : List Cond := [Cond.selects RX2 yX2_flawAlone yX2_flawAlone, Cond.code yX2_flawAlone cX2_flawAlone 3 (some .int), Cond.methodLink RX3 252 yX3_flawAsBacker, Cond.instanceMethod yX3_flawAsBacker, Cond.selects RX3 yX3_flawAsBacker yX3_flawAsBacker, Cond.code yX3_flawAsBacker cX3_flawAsBacker 6 (some .int), Cond.methodLink RX3 151 yX3_isBelow, Cond.static yX3_isBelow, Cond.code yX3_isBelow cX3_isBelow 3 (some .boolean), Cond.methodLink RX3 256 yX3_isCalledBack, Cond.instanceMethod yX3_isCalledBack, Cond.selects RX3 yX3_isCalledBack yX3_isCalledBack, Cond.code yX3_isCalledBack cX3_isCalledBack 6 (some .boolean), Cond.fieldLink RX3 135 "SignetRoom" "isStrictRoom" "Z", Cond.methodLink RX3 260 yX3_latestList, Cond.instanceMethod yX3_latestList, Cond.selects RX3 yX3_latestList yX3_latestList, Cond.code yX3_latestList cX3_latestList 9 (some .int), Cond.instanceMethod yX0_hasSerial, Cond.selects RX0 yX0_hasSerial yX0_hasSerial, Cond.code yX0_hasSerial cX0_hasSerial 2 (some .boolean)]
def wsX3_meanChain : List Cond := .code yX3_meanChain cX3_meanChain 7 (some .double) :: ((wsX3_meanChain_r1 ++ (wsX3_meanChain_r2 ++ (wsX3_meanChain_r3 ++ (wsX3_meanChain_r4 ++ (wsX3_meanChain_r5 ++ wsX3_meanChain_r6))))) ++ wsX30 ++ wsX10 ++ wsX20 ++ wsX00 ++ (vx_atS RX3 212 "java/lang/IllegalArgumentException" ["java/lang/RuntimeException", "java/lang/Exception"]).filter goodWord)
def wsX3_holdsTo_r1 : List Cond := [Cond.fieldLink RX3 24 "SignetRoom" "book" "LSignetRoom$ChainBook;", Cond.methodLink RX3 63 yX3_refuseUnlessLetter, Cond.instanceMethod yX3_refuseUnlessLetter, Cond.selects RX3 yX3_refuseUnlessLetter yX3_refuseUnlessLetter, Cond.initialized RX3, Cond.code yX3_refuseUnlessLetter cX3_refuseUnlessLetter 2 none, Cond.classLink RX3 216 "java/lang/IndexOutOfBoundsException", Cond.initialized "java/lang/IndexOutOfBoundsException", Cond.methodLink RX3 213 yX3_isLetter, Cond.instanceMethod yX3_isLetter, Cond.selects RX3 yX3_isLetter yX3_isLetter, Cond.code yX3_isLetter cX3_isLetter 2 (some .boolean), Cond.fieldLink RX3 48 "SignetRoom" "letterCount" "I", Cond.methodLink RX3 164 yX3_refuseUnlessMoment, Cond.static yX3_refuseUnlessMoment, Cond.code yX3_refuseUnlessMoment cX3_refuseUnlessMoment 2 none, Cond.methodLink RX3 67 yX3_isTime, Cond.static yX3_isTime, Cond.code yX3_isTime cX3_isTime 1 (some .boolean), Cond.methodLink RX3 80 yX3_isWithin, Cond.static yX3_isWithin, Cond.code yX3_isWithin cX3_isWithin 2 (some .boolean), Cond.methodLink RX3 44 yX3_refuseUnless, Cond.static yX3_refuseUnless]
def wsX3_holdsTo_r2 : List Cond := [Cond.code yX3_refuseUnless cX3_refuseUnless 1 none, Cond.classLink RX3 208 "java/lang/IllegalArgumentException", Cond.initialized "java/lang/IllegalArgumentException", Cond.methodLink RX3 138 yX3_survey, Cond.instanceMethod yX3_survey, Cond.selects RX3 yX3_survey yX3_survey, Cond.code yX3_survey cX3_survey 2 none, Cond.fieldLink RX3 11 "SignetRoom" "letters" "[LSignetRoom$Letter;", Cond.fieldLink RX3 119 "SignetRoom" "listCount" "I", Cond.fieldLink RX3 17 "SignetRoom" "lists" "[LSignetRoom$CallList;", Cond.methodLink RX3 235 yX3_backersOf, Cond.instanceMethod yX3_backersOf, Cond.selects RX3 yX3_backersOf yX3_backersOf, Cond.code yX3_backersOf cX3_backersOf 4 (some .int), Cond.methodLink RX3 154 yX3_isBacking, Cond.static yX3_isBacking, Cond.code yX3_isBacking cX3_isBacking 2 (some .boolean), Cond.instanceMethod yX2_isSealedBy, Cond.initialized RX2, Cond.selects RX2 yX2_isSealedBy yX2_isSealedBy, Cond.code yX2_isSealedBy cX2_isSealedBy 2 (some .boolean), Cond.fieldLink RX2 47 "SignetRoom$Letter" "seal" "I", Cond.methodLink RX2 50 yX2_print, Cond.instanceMethod yX2_print]
def wsX3_holdsTo_r3 : List Cond := [Cond.selects RX2 yX2_print yX2_print, Cond.code yX2_print cX2_print 2 (some .int), Cond.fieldLink RX2 18 "SignetRoom$Letter" "subject" "I", Cond.fieldLink RX2 21 "SignetRoom$Letter" "issuer" "I", Cond.fieldLink RX2 24 "SignetRoom$Letter" "key" "I", Cond.fieldLink RX2 27 "SignetRoom$Letter" "serial" "I", Cond.fieldLink RX2 34 "SignetRoom$Letter" "from" "I", Cond.fieldLink RX2 9 "SignetRoom$Letter" "to" "I", Cond.fieldLink RX2 37 "SignetRoom$Letter" "isMaster" "Z", Cond.fieldLink RX2 41 "SignetRoom$Letter" "reach" "I", Cond.fieldLink RX2 15 "SignetRoom$Letter" "uses" "I", Cond.fieldLink RX2 44 "SignetRoom$Letter" "bound" "I", Cond.static yX3_mix, Cond.code yX3_mix cX3_mix 2 (some .int), Cond.static yX3_sealFor, Cond.code yX3_sealFor cX3_sealFor 2 (some .int), Cond.methodLink RX3 110 yX3_anchorSet, Cond.instanceMethod yX3_anchorSet, Cond.selects RX3 yX3_anchorSet yX3_anchorSet, Cond.code yX3_anchorSet cX3_anchorSet 3 (some .int), Cond.instanceMethod yX1_markWays, Cond.initialized RX1, Cond.selects RX1 yX1_markWays yX1_markWays, Cond.code yX1_markWays cX1_markWays 6 none]
def wsX3_holdsTo_r4 : List Cond := [Cond.fieldLink RX1 29 "SignetRoom$ChainBook" "letterCount" "I", Cond.fieldLink RX1 15 "SignetRoom$ChainBook" "waysEndingIn" "[I", Cond.fieldLink RX1 9 "SignetRoom$ChainBook" "backers" "[I", Cond.instanceMethod yX0_markSigners, Cond.initialized RX0, Cond.selects RX0 yX0_markSigners yX0_markSigners, Cond.code yX0_markSigners cX0_markSigners 3 none, Cond.fieldLink RX0 32 "SignetRoom$CallList" "signers" "I", Cond.fieldLink RX0 38 "SignetRoom$CallList" "seal" "I", Cond.methodLink RX0 28 yX0_print, Cond.instanceMethod yX0_print, Cond.selects RX0 yX0_print yX0_print, Cond.code yX0_print cX0_print 1 (some .int), Cond.fieldLink RX0 9 "SignetRoom$CallList" "issuer" "I", Cond.fieldLink RX0 15 "SignetRoom$CallList" "at" "I", Cond.fieldLink RX0 18 "SignetRoom$CallList" "next" "I", Cond.fieldLink RX0 25 "SignetRoom$CallList" "serials" "I", Cond.instanceMethod yX1_findChainsOf, Cond.selects RX1 yX1_findChainsOf yX1_findChainsOf, Cond.code yX1_findChainsOf cX1_findChainsOf 3 none, Cond.fieldLink RX1 33 "SignetRoom$ChainBook" "chainCount" "I", Cond.fieldLink RX1 26 "SignetRoom$ChainBook" "begun" "[I", Cond.methodLink RX1 36 yX1_extend, Cond.static yX1_extend]
def wsX3_holdsTo_r5 : List Cond := [Cond.code yX1_extend cX1_extend 7 none, Cond.methodLink RX1 40 yX1_keep, Cond.instanceMethod yX1_keep, Cond.selects RX1 yX1_keep yX1_keep, Cond.code yX1_keep cX1_keep 2 none, Cond.fieldLink RX1 20 "SignetRoom$ChainBook" "rows" "[[I", Cond.methodLink RX1 44 arraycopyName, Cond.native arraycopyName, Cond.static arraycopyName, Cond.initialized "java/lang/System", Cond.fieldLink RX1 23 "SignetRoom$ChainBook" "lengths" "[I", Cond.methodLink RX3 171 yX3_firstHolding, Cond.instanceMethod yX3_firstHolding, Cond.selects RX3 yX3_firstHolding yX3_firstHolding, Cond.code yX3_firstHolding cX3_firstHolding 4 (some .int), Cond.methodLink RX3 189 yX3_firstFlawedPlace, Cond.instanceMethod yX3_firstFlawedPlace, Cond.selects RX3 yX3_firstFlawedPlace yX3_firstFlawedPlace, Cond.code yX3_firstFlawedPlace cX3_firstFlawedPlace 6 (some .int), Cond.instanceMethod yX1_lengthOf, Cond.selects RX1 yX1_lengthOf yX1_lengthOf, Cond.code yX1_lengthOf cX1_lengthOf 2 (some .int), Cond.methodLink RX3 245 yX3_flawOf, Cond.instanceMethod yX3_flawOf]
def wsX3_holdsTo_r6 : List Cond := [Cond.selects RX3 yX3_flawOf yX3_flawOf, Cond.code yX3_flawOf cX3_flawOf 8 (some .int), Cond.instanceMethod yX1_member, Cond.selects RX1 yX1_member yX1_member, Cond.code yX1_member cX1_member 3 (some .int), Cond.instanceMethod yX2_flawAlone, Cond.selects RX2 yX2_flawAlone yX2_flawAlone, Cond.code yX2_flawAlone cX2_flawAlone 3 (some .int), Cond.methodLink RX3 252 yX3_flawAsBacker, Cond.instanceMethod yX3_flawAsBacker, Cond.selects RX3 yX3_flawAsBacker yX3_flawAsBacker, Cond.code yX3_flawAsBacker cX3_flawAsBacker 6 (some .int), Cond.methodLink RX3 151 yX3_isBelow, Cond.static yX3_isBelow, Cond.code yX3_isBelow cX3_isBelow 3 (some .boolean), Cond.methodLink RX3 256 yX3_isCalledBack, Cond.instanceMethod yX3_isCalledBack, Cond.selects RX3 yX3_isCalledBack yX3_isCalledBack, Cond.code yX3_isCalledBack cX3_isCalledBack 6 (some .boolean), Cond.fieldLink RX3 135 "SignetRoom" "isStrictRoom" "Z", Cond.methodLink RX3 260 yX3_latestList, Cond.instanceMethod yX3_latestList, Cond.selects RX3 yX3_latestList yX3_latestList, Cond.code yX3_latestList cX3_latestList 9 (some .int)]
def wsX3_holdsTo_r7 : List Cond := [Cond.instanceMethod yX0_hasSerial, Cond.selects RX0 yX0_hasSerial yX0_hasSerial, Cond.code yX0_hasSerial cX0_hasSerial 2 (some .boolean)]
def wsX3_holdsTo : List Cond := .code yX3_holdsTo cX3_holdsTo 6 (some .int) :: ((wsX3_holdsTo_r1 ++ (wsX3_holdsTo_r2 ++ (wsX3_holdsTo_r3 ++ (wsX3_holdsTo_r4 ++ (wsX3_holdsTo_r5 ++ (wsX3_holdsTo_r6 ++ wsX3_holdsTo_r7)))))) ++ wsX30 ++ wsX10 ++ wsX20 ++ wsX00 ++ (vx_atS RX3 220 "java/lang/IndexOutOfBoundsException" ["java/lang/RuntimeException", "java/lang/Exception"]).filter goodWord ++ (vx_atS RX3 212 "java/lang/IllegalArgumentException" ["java/lang/RuntimeException", "java/lang/Exception"]).filter goodWord)
def wsX3_turnAnchor : List Cond := .code yX3_turnAnchor cX3_turnAnchor 1 none :: ([] ++ wsX20)
def wsX3_otherwise_r1 : List Cond := [Cond.fieldLink RX3 48 "SignetRoom" "letterCount" "I", Cond.fieldLink RX3 24 "SignetRoom" "book" "LSignetRoom$ChainBook;", Cond.fieldLink RX3 28 "SignetRoom" "verdictsBefore" "[I", Cond.fieldLink RX3 11 "SignetRoom" "letters" "[LSignetRoom$Letter;", Cond.methodLink RX3 63 yX3_refuseUnlessLetter, Cond.instanceMethod yX3_refuseUnlessLetter, Cond.selects RX3 yX3_refuseUnlessLetter yX3_refuseUnlessLetter, Cond.initialized RX3, Cond.code yX3_refuseUnlessLetter cX3_refuseUnlessLetter 2 none, Cond.classLink RX3 216 "java/lang/IndexOutOfBoundsException", Cond.initialized "java/lang/IndexOutOfBoundsException", Cond.methodLink RX3 213 yX3_isLetter, Cond.instanceMethod yX3_isLetter, Cond.selects RX3 yX3_isLetter yX3_isLetter, Cond.code yX3_isLetter cX3_isLetter 2 (some .boolean), Cond.methodLink RX3 164 yX3_refuseUnlessMoment, Cond.static yX3_refuseUnlessMoment, Cond.code yX3_refuseUnlessMoment cX3_refuseUnlessMoment 2 none, Cond.methodLink RX3 67 yX3_isTime, Cond.static yX3_isTime, Cond.code yX3_isTime cX3_isTime 1 (some .boolean), Cond.methodLink RX3 80 yX3_isWithin, Cond.static yX3_isWithin, Cond.code yX3_isWithin cX3_isWithin 2 (some .boolean)]
def wsX3_otherwise_r2 : List Cond := [Cond.methodLink RX3 44 yX3_refuseUnless, Cond.static yX3_refuseUnless, Cond.code yX3_refuseUnless cX3_refuseUnless 1 none, Cond.classLink RX3 208 "java/lang/IllegalArgumentException", Cond.initialized "java/lang/IllegalArgumentException", Cond.methodLink RX3 138 yX3_survey, Cond.instanceMethod yX3_survey, Cond.selects RX3 yX3_survey yX3_survey, Cond.code yX3_survey cX3_survey 2 none, Cond.fieldLink RX3 119 "SignetRoom" "listCount" "I", Cond.fieldLink RX3 17 "SignetRoom" "lists" "[LSignetRoom$CallList;", Cond.methodLink RX3 235 yX3_backersOf, Cond.instanceMethod yX3_backersOf, Cond.selects RX3 yX3_backersOf yX3_backersOf, Cond.code yX3_backersOf cX3_backersOf 4 (some .int), Cond.methodLink RX3 154 yX3_isBacking, Cond.static yX3_isBacking, Cond.code yX3_isBacking cX3_isBacking 2 (some .boolean), Cond.instanceMethod yX2_isSealedBy, Cond.initialized RX2, Cond.selects RX2 yX2_isSealedBy yX2_isSealedBy, Cond.code yX2_isSealedBy cX2_isSealedBy 2 (some .boolean), Cond.fieldLink RX2 47 "SignetRoom$Letter" "seal" "I", Cond.methodLink RX2 50 yX2_print]
def wsX3_otherwise_r3 : List Cond := [Cond.instanceMethod yX2_print, Cond.selects RX2 yX2_print yX2_print, Cond.code yX2_print cX2_print 2 (some .int), Cond.fieldLink RX2 18 "SignetRoom$Letter" "subject" "I", Cond.fieldLink RX2 21 "SignetRoom$Letter" "issuer" "I", Cond.fieldLink RX2 24 "SignetRoom$Letter" "key" "I", Cond.fieldLink RX2 27 "SignetRoom$Letter" "serial" "I", Cond.fieldLink RX2 34 "SignetRoom$Letter" "from" "I", Cond.fieldLink RX2 9 "SignetRoom$Letter" "to" "I", Cond.fieldLink RX2 37 "SignetRoom$Letter" "isMaster" "Z", Cond.fieldLink RX2 41 "SignetRoom$Letter" "reach" "I", Cond.fieldLink RX2 15 "SignetRoom$Letter" "uses" "I", Cond.fieldLink RX2 44 "SignetRoom$Letter" "bound" "I", Cond.static yX3_mix, Cond.code yX3_mix cX3_mix 2 (some .int), Cond.static yX3_sealFor, Cond.code yX3_sealFor cX3_sealFor 2 (some .int), Cond.methodLink RX3 110 yX3_anchorSet, Cond.instanceMethod yX3_anchorSet, Cond.selects RX3 yX3_anchorSet yX3_anchorSet, Cond.code yX3_anchorSet cX3_anchorSet 3 (some .int), Cond.instanceMethod yX1_markWays, Cond.initialized RX1, Cond.selects RX1 yX1_markWays yX1_markWays]
def wsX3_otherwise_r4 : List Cond := [Cond.code yX1_markWays cX1_markWays 6 none, Cond.fieldLink RX1 29 "SignetRoom$ChainBook" "letterCount" "I", Cond.fieldLink RX1 15 "SignetRoom$ChainBook" "waysEndingIn" "[I", Cond.fieldLink RX1 9 "SignetRoom$ChainBook" "backers" "[I", Cond.instanceMethod yX0_markSigners, Cond.initialized RX0, Cond.selects RX0 yX0_markSigners yX0_markSigners, Cond.code yX0_markSigners cX0_markSigners 3 none, Cond.fieldLink RX0 32 "SignetRoom$CallList" "signers" "I", Cond.fieldLink RX0 38 "SignetRoom$CallList" "seal" "I", Cond.methodLink RX0 28 yX0_print, Cond.instanceMethod yX0_print, Cond.selects RX0 yX0_print yX0_print, Cond.code yX0_print cX0_print 1 (some .int), Cond.fieldLink RX0 9 "SignetRoom$CallList" "issuer" "I", Cond.fieldLink RX0 15 "SignetRoom$CallList" "at" "I", Cond.fieldLink RX0 18 "SignetRoom$CallList" "next" "I", Cond.fieldLink RX0 25 "SignetRoom$CallList" "serials" "I", Cond.instanceMethod yX1_findChainsOf, Cond.selects RX1 yX1_findChainsOf yX1_findChainsOf, Cond.code yX1_findChainsOf cX1_findChainsOf 3 none, Cond.fieldLink RX1 33 "SignetRoom$ChainBook" "chainCount" "I", Cond.fieldLink RX1 26 "SignetRoom$ChainBook" "begun" "[I", Cond.methodLink RX1 36 yX1_extend]
def wsX3_otherwise_r5 : List Cond := [Cond.static yX1_extend, Cond.code yX1_extend cX1_extend 7 none, Cond.methodLink RX1 40 yX1_keep, Cond.instanceMethod yX1_keep, Cond.selects RX1 yX1_keep yX1_keep, Cond.code yX1_keep cX1_keep 2 none, Cond.fieldLink RX1 20 "SignetRoom$ChainBook" "rows" "[[I", Cond.methodLink RX1 44 arraycopyName, Cond.native arraycopyName, Cond.static arraycopyName, Cond.initialized "java/lang/System", Cond.fieldLink RX1 23 "SignetRoom$ChainBook" "lengths" "[I", Cond.methodLink RX3 168 yX3_decision, Cond.instanceMethod yX3_decision, Cond.selects RX3 yX3_decision yX3_decision, Cond.code yX3_decision cX3_decision 3 (some .int), Cond.methodLink RX3 171 yX3_firstHolding, Cond.instanceMethod yX3_firstHolding, Cond.selects RX3 yX3_firstHolding yX3_firstHolding, Cond.code yX3_firstHolding cX3_firstHolding 4 (some .int), Cond.methodLink RX3 189 yX3_firstFlawedPlace, Cond.instanceMethod yX3_firstFlawedPlace, Cond.selects RX3 yX3_firstFlawedPlace yX3_firstFlawedPlace, Cond.code yX3_firstFlawedPlace cX3_firstFlawedPlace 6 (some .int)]
def wsX3_otherwise_r6 : List Cond := [Cond.instanceMethod yX1_lengthOf, Cond.selects RX1 yX1_lengthOf yX1_lengthOf, Cond.code yX1_lengthOf cX1_lengthOf 2 (some .int), Cond.methodLink RX3 245 yX3_flawOf, Cond.instanceMethod yX3_flawOf, Cond.selects RX3 yX3_flawOf yX3_flawOf, Cond.code yX3_flawOf cX3_flawOf 8 (some .int), Cond.instanceMethod yX1_member, Cond.selects RX1 yX1_member yX1_member, Cond.code yX1_member cX1_member 3 (some .int), Cond.instanceMethod yX2_flawAlone, Cond.selects RX2 yX2_flawAlone yX2_flawAlone, Cond.code yX2_flawAlone cX2_flawAlone 3 (some .int), Cond.methodLink RX3 252 yX3_flawAsBacker, Cond.instanceMethod yX3_flawAsBacker, Cond.selects RX3 yX3_flawAsBacker yX3_flawAsBacker, Cond.code yX3_flawAsBacker cX3_flawAsBacker 6 (some .int), Cond.methodLink RX3 151 yX3_isBelow, Cond.static yX3_isBelow, Cond.code yX3_isBelow cX3_isBelow 3 (some .boolean), Cond.methodLink RX3 256 yX3_isCalledBack, Cond.instanceMethod yX3_isCalledBack, Cond.selects RX3 yX3_isCalledBack yX3_isCalledBack, Cond.code yX3_isCalledBack cX3_isCalledBack 6 (some .boolean)]
def wsX3_otherwise_r7 : List Cond := [Cond.fieldLink RX3 135 "SignetRoom" "isStrictRoom" "Z", Cond.methodLink RX3 260 yX3_latestList, Cond.instanceMethod yX3_latestList, Cond.selects RX3 yX3_latestList yX3_latestList, Cond.code yX3_latestList cX3_latestList 9 (some .int), Cond.instanceMethod yX0_hasSerial, Cond.selects RX0 yX0_hasSerial yX0_hasSerial, Cond.code yX0_hasSerial cX0_hasSerial 2 (some .boolean), Cond.methodLink RX3 193 yX3_turnAnchor, Cond.static yX3_turnAnchor, Cond.code yX3_turnAnchor cX3_turnAnchor 1 none]
def wsX3_otherwise : List Cond := .code yX3_otherwise cX3_otherwise 6 (some .int) :: ((wsX3_otherwise_r1 ++ (wsX3_otherwise_r2 ++ (wsX3_otherwise_r3 ++ (wsX3_otherwise_r4 ++ (wsX3_otherwise_r5 ++ (wsX3_otherwise_r6 ++ wsX3_otherwise_r7)))))) ++ wsX30 ++ wsX10 ++ wsX20 ++ wsX00 ++ (vx_atS RX3 220 "java/lang/IndexOutOfBoundsException" ["java/lang/RuntimeException", "java/lang/Exception"]).filter goodWord ++ (vx_atS RX3 212 "java/lang/IllegalArgumentException" ["java/lang/RuntimeException", "java/lang/Exception"]).filter goodWord)
def wsX3_hasKey : List Cond := .code yX3_hasKey cX3_hasKey 6 (some .boolean) :: ([.fieldLink RX3 24 "SignetRoom" "book" "LSignetRoom$ChainBook;", .fieldLink RX3 11 "SignetRoom" "letters" "[LSignetRoom$Letter;", .instanceMethod yX1_lengthOf, .initialized RX1, .selects RX1 yX1_lengthOf yX1_lengthOf, .code yX1_lengthOf cX1_lengthOf 2 (some .int), .fieldLink RX1 33 "SignetRoom$ChainBook" "chainCount" "I", .fieldLink RX1 23 "SignetRoom$ChainBook" "lengths" "[I", .instanceMethod yX1_member, .selects RX1 yX1_member yX1_member, .code yX1_member cX1_member 3 (some .int), .fieldLink RX1 20 "SignetRoom$ChainBook" "rows" "[[I", .methodLink RX3 213 yX3_isLetter, .instanceMethod yX3_isLetter, .selects RX3 yX3_isLetter yX3_isLetter, .initialized RX3, .code yX3_isLetter cX3_isLetter 2 (some .boolean), .fieldLink RX3 48 "SignetRoom" "letterCount" "I"] ++ wsX30 ++ wsX20 ++ wsX10)
def wsX3_stolen_r1 : List Cond := [Cond.fieldLink RX3 48 "SignetRoom" "letterCount" "I", Cond.fieldLink RX3 24 "SignetRoom" "book" "LSignetRoom$ChainBook;", Cond.methodLink RX3 38 yX3_isKey, Cond.static yX3_isKey, Cond.initialized RX3, Cond.code yX3_isKey cX3_isKey 1 (some .boolean), Cond.methodLink RX3 80 yX3_isWithin, Cond.static yX3_isWithin, Cond.code yX3_isWithin cX3_isWithin 2 (some .boolean), Cond.methodLink RX3 44 yX3_refuseUnless, Cond.static yX3_refuseUnless, Cond.code yX3_refuseUnless cX3_refuseUnless 1 none, Cond.classLink RX3 208 "java/lang/IllegalArgumentException", Cond.initialized "java/lang/IllegalArgumentException", Cond.methodLink RX3 164 yX3_refuseUnlessMoment, Cond.static yX3_refuseUnlessMoment, Cond.code yX3_refuseUnlessMoment cX3_refuseUnlessMoment 2 none, Cond.methodLink RX3 67 yX3_isTime, Cond.static yX3_isTime, Cond.code yX3_isTime cX3_isTime 1 (some .boolean), Cond.methodLink RX3 138 yX3_survey, Cond.instanceMethod yX3_survey, Cond.selects RX3 yX3_survey yX3_survey, Cond.code yX3_survey cX3_survey 2 none]
def wsX3_stolen_r2 : List Cond := [Cond.fieldLink RX3 11 "SignetRoom" "letters" "[LSignetRoom$Letter;", Cond.fieldLink RX3 119 "SignetRoom" "listCount" "I", Cond.fieldLink RX3 17 "SignetRoom" "lists" "[LSignetRoom$CallList;", Cond.methodLink RX3 235 yX3_backersOf, Cond.instanceMethod yX3_backersOf, Cond.selects RX3 yX3_backersOf yX3_backersOf, Cond.code yX3_backersOf cX3_backersOf 4 (some .int), Cond.methodLink RX3 154 yX3_isBacking, Cond.static yX3_isBacking, Cond.code yX3_isBacking cX3_isBacking 2 (some .boolean), Cond.instanceMethod yX2_isSealedBy, Cond.initialized RX2, Cond.selects RX2 yX2_isSealedBy yX2_isSealedBy, Cond.code yX2_isSealedBy cX2_isSealedBy 2 (some .boolean), Cond.fieldLink RX2 47 "SignetRoom$Letter" "seal" "I", Cond.methodLink RX2 50 yX2_print, Cond.instanceMethod yX2_print, Cond.selects RX2 yX2_print yX2_print, Cond.code yX2_print cX2_print 2 (some .int), Cond.fieldLink RX2 18 "SignetRoom$Letter" "subject" "I", Cond.fieldLink RX2 21 "SignetRoom$Letter" "issuer" "I", Cond.fieldLink RX2 24 "SignetRoom$Letter" "key" "I", Cond.fieldLink RX2 27 "SignetRoom$Letter" "serial" "I", Cond.fieldLink RX2 34 "SignetRoom$Letter" "from" "I"]
def wsX3_stolen_r3 : List Cond := [Cond.fieldLink RX2 9 "SignetRoom$Letter" "to" "I", Cond.fieldLink RX2 37 "SignetRoom$Letter" "isMaster" "Z", Cond.fieldLink RX2 41 "SignetRoom$Letter" "reach" "I", Cond.fieldLink RX2 15 "SignetRoom$Letter" "uses" "I", Cond.fieldLink RX2 44 "SignetRoom$Letter" "bound" "I", Cond.static yX3_mix, Cond.code yX3_mix cX3_mix 2 (some .int), Cond.static yX3_sealFor, Cond.code yX3_sealFor cX3_sealFor 2 (some .int), Cond.methodLink RX3 110 yX3_anchorSet, Cond.instanceMethod yX3_anchorSet, Cond.selects RX3 yX3_anchorSet yX3_anchorSet, Cond.code yX3_anchorSet cX3_anchorSet 3 (some .int), Cond.instanceMethod yX1_markWays, Cond.initialized RX1, Cond.selects RX1 yX1_markWays yX1_markWays, Cond.code yX1_markWays cX1_markWays 6 none, Cond.fieldLink RX1 29 "SignetRoom$ChainBook" "letterCount" "I", Cond.fieldLink RX1 15 "SignetRoom$ChainBook" "waysEndingIn" "[I", Cond.fieldLink RX1 9 "SignetRoom$ChainBook" "backers" "[I", Cond.instanceMethod yX0_markSigners, Cond.initialized RX0, Cond.selects RX0 yX0_markSigners yX0_markSigners, Cond.code yX0_markSigners cX0_markSigners 3 none]
def wsX3_stolen_r4 : List Cond := [Cond.fieldLink RX0 32 "SignetRoom$CallList" "signers" "I", Cond.fieldLink RX0 38 "SignetRoom$CallList" "seal" "I", Cond.methodLink RX0 28 yX0_print, Cond.instanceMethod yX0_print, Cond.selects RX0 yX0_print yX0_print, Cond.code yX0_print cX0_print 1 (some .int), Cond.fieldLink RX0 9 "SignetRoom$CallList" "issuer" "I", Cond.fieldLink RX0 15 "SignetRoom$CallList" "at" "I", Cond.fieldLink RX0 18 "SignetRoom$CallList" "next" "I", Cond.fieldLink RX0 25 "SignetRoom$CallList" "serials" "I", Cond.instanceMethod yX1_findChainsOf, Cond.selects RX1 yX1_findChainsOf yX1_findChainsOf, Cond.code yX1_findChainsOf cX1_findChainsOf 3 none, Cond.fieldLink RX1 33 "SignetRoom$ChainBook" "chainCount" "I", Cond.fieldLink RX1 26 "SignetRoom$ChainBook" "begun" "[I", Cond.methodLink RX1 36 yX1_extend, Cond.static yX1_extend, Cond.code yX1_extend cX1_extend 7 none, Cond.methodLink RX1 40 yX1_keep, Cond.instanceMethod yX1_keep, Cond.selects RX1 yX1_keep yX1_keep, Cond.code yX1_keep cX1_keep 2 none, Cond.fieldLink RX1 20 "SignetRoom$ChainBook" "rows" "[[I", Cond.methodLink RX1 44 arraycopyName]
def wsX3_stolen_r5 : List Cond := [Cond.native arraycopyName, Cond.static arraycopyName, Cond.initialized "java/lang/System", Cond.fieldLink RX1 23 "SignetRoom$ChainBook" "lengths" "[I", Cond.methodLink RX3 171 yX3_firstHolding, Cond.instanceMethod yX3_firstHolding, Cond.selects RX3 yX3_firstHolding yX3_firstHolding, Cond.code yX3_firstHolding cX3_firstHolding 4 (some .int), Cond.methodLink RX3 189 yX3_firstFlawedPlace, Cond.instanceMethod yX3_firstFlawedPlace, Cond.selects RX3 yX3_firstFlawedPlace yX3_firstFlawedPlace, Cond.code yX3_firstFlawedPlace cX3_firstFlawedPlace 6 (some .int), Cond.instanceMethod yX1_lengthOf, Cond.selects RX1 yX1_lengthOf yX1_lengthOf, Cond.code yX1_lengthOf cX1_lengthOf 2 (some .int), Cond.methodLink RX3 245 yX3_flawOf, Cond.instanceMethod yX3_flawOf, Cond.selects RX3 yX3_flawOf yX3_flawOf, Cond.code yX3_flawOf cX3_flawOf 8 (some .int), Cond.instanceMethod yX1_member, Cond.selects RX1 yX1_member yX1_member, Cond.code yX1_member cX1_member 3 (some .int), Cond.methodLink RX3 213 yX3_isLetter, Cond.instanceMethod yX3_isLetter]
def wsX3_stolen_r6 : List Cond := [Cond.selects RX3 yX3_isLetter yX3_isLetter, Cond.code yX3_isLetter cX3_isLetter 2 (some .boolean), Cond.instanceMethod yX2_flawAlone, Cond.selects RX2 yX2_flawAlone yX2_flawAlone, Cond.code yX2_flawAlone cX2_flawAlone 3 (some .int), Cond.methodLink RX3 252 yX3_flawAsBacker, Cond.instanceMethod yX3_flawAsBacker, Cond.selects RX3 yX3_flawAsBacker yX3_flawAsBacker, Cond.code yX3_flawAsBacker cX3_flawAsBacker 6 (some .int), Cond.methodLink RX3 151 yX3_isBelow, Cond.static yX3_isBelow, Cond.code yX3_isBelow cX3_isBelow 3 (some .boolean), Cond.methodLink RX3 256 yX3_isCalledBack, Cond.instanceMethod yX3_isCalledBack, Cond.selects RX3 yX3_isCalledBack yX3_isCalledBack, Cond.code yX3_isCalledBack cX3_isCalledBack 6 (some .boolean), Cond.fieldLink RX3 135 "SignetRoom" "isStrictRoom" "Z", Cond.methodLink RX3 260 yX3_latestList, Cond.instanceMethod yX3_latestList, Cond.selects RX3 yX3_latestList yX3_latestList, Cond.code yX3_latestList cX3_latestList 9 (some .int), Cond.instanceMethod yX0_hasSerial, Cond.selects RX0 yX0_hasSerial yX0_hasSerial, Cond.code yX0_hasSerial cX0_hasSerial 2 (some .boolean)]
def wsX3_stolen_r7 : List Cond := [Cond.methodLink RX3 197 yX3_hasKey, Cond.instanceMethod yX3_hasKey, Cond.selects RX3 yX3_hasKey yX3_hasKey, Cond.code yX3_hasKey cX3_hasKey 6 (some .boolean)]
def wsX3_stolen : List Cond := .code yX3_stolen cX3_stolen 6 (some .int) :: ((wsX3_stolen_r1 ++ (wsX3_stolen_r2 ++ (wsX3_stolen_r3 ++ (wsX3_stolen_r4 ++ (wsX3_stolen_r5 ++ (wsX3_stolen_r6 ++ wsX3_stolen_r7)))))) ++ wsX30 ++ wsX10 ++ wsX20 ++ wsX00 ++ (vx_atS RX3 212 "java/lang/IllegalArgumentException" ["java/lang/RuntimeException", "java/lang/Exception"]).filter goodWord)
def wsX3_withPropertiesOf : List Cond := .code yX3_withPropertiesOf cX3_withPropertiesOf 6 (some .long) :: ([.constantLong RX3 202 (31), .instanceMethod yX2_property, .initialized RX2, .selects RX2 yX2_property yX2_property, .code yX2_property cX2_property 2 (some .int), .fieldLink RX2 18 "SignetRoom$Letter" "subject" "I", .fieldLink RX2 21 "SignetRoom$Letter" "issuer" "I", .fieldLink RX2 24 "SignetRoom$Letter" "key" "I", .fieldLink RX2 27 "SignetRoom$Letter" "serial" "I", .fieldLink RX2 34 "SignetRoom$Letter" "from" "I", .fieldLink RX2 9 "SignetRoom$Letter" "to" "I", .fieldLink RX2 37 "SignetRoom$Letter" "isMaster" "Z", .fieldLink RX2 41 "SignetRoom$Letter" "reach" "I", .fieldLink RX2 15 "SignetRoom$Letter" "uses" "I", .fieldLink RX2 44 "SignetRoom$Letter" "bound" "I", .fieldLink RX2 47 "SignetRoom$Letter" "seal" "I", .fieldLink RX2 57 "SignetRoom$Letter" "isAnchor" "Z", .methodLink RX2 50 yX2_print, .instanceMethod yX2_print, .selects RX2 yX2_print yX2_print, .code yX2_print cX2_print 2 (some .int), .static yX3_mix, .initialized RX3, .code yX3_mix cX3_mix 2 (some .int)] ++ wsX20)
def wsX3_digest_r1 : List Cond := [Cond.constantLong RX3 200 (58102), Cond.constantLong RX3 202 (31), Cond.fieldLink RX3 48 "SignetRoom" "letterCount" "I", Cond.fieldLink RX3 11 "SignetRoom" "letters" "[LSignetRoom$Letter;", Cond.fieldLink RX3 24 "SignetRoom" "book" "LSignetRoom$ChainBook;", Cond.fieldLink RX3 119 "SignetRoom" "listCount" "I", Cond.fieldLink RX3 17 "SignetRoom" "lists" "[LSignetRoom$CallList;", Cond.methodLink RX3 138 yX3_survey, Cond.instanceMethod yX3_survey, Cond.selects RX3 yX3_survey yX3_survey, Cond.initialized RX3, Cond.code yX3_survey cX3_survey 2 none, Cond.methodLink RX3 235 yX3_backersOf, Cond.instanceMethod yX3_backersOf, Cond.selects RX3 yX3_backersOf yX3_backersOf, Cond.code yX3_backersOf cX3_backersOf 4 (some .int), Cond.methodLink RX3 154 yX3_isBacking, Cond.static yX3_isBacking, Cond.code yX3_isBacking cX3_isBacking 2 (some .boolean), Cond.instanceMethod yX2_isSealedBy, Cond.initialized RX2, Cond.selects RX2 yX2_isSealedBy yX2_isSealedBy, Cond.code yX2_isSealedBy cX2_isSealedBy 2 (some .boolean), Cond.fieldLink RX2 47 "SignetRoom$Letter" "seal" "I"]
def wsX3_digest_r2 : List Cond := [Cond.methodLink RX2 50 yX2_print, Cond.instanceMethod yX2_print, Cond.selects RX2 yX2_print yX2_print, Cond.code yX2_print cX2_print 2 (some .int), Cond.fieldLink RX2 18 "SignetRoom$Letter" "subject" "I", Cond.fieldLink RX2 21 "SignetRoom$Letter" "issuer" "I", Cond.fieldLink RX2 24 "SignetRoom$Letter" "key" "I", Cond.fieldLink RX2 27 "SignetRoom$Letter" "serial" "I", Cond.fieldLink RX2 34 "SignetRoom$Letter" "from" "I", Cond.fieldLink RX2 9 "SignetRoom$Letter" "to" "I", Cond.fieldLink RX2 37 "SignetRoom$Letter" "isMaster" "Z", Cond.fieldLink RX2 41 "SignetRoom$Letter" "reach" "I", Cond.fieldLink RX2 15 "SignetRoom$Letter" "uses" "I", Cond.fieldLink RX2 44 "SignetRoom$Letter" "bound" "I", Cond.static yX3_mix, Cond.code yX3_mix cX3_mix 2 (some .int), Cond.static yX3_sealFor, Cond.code yX3_sealFor cX3_sealFor 2 (some .int), Cond.methodLink RX3 110 yX3_anchorSet, Cond.instanceMethod yX3_anchorSet, Cond.selects RX3 yX3_anchorSet yX3_anchorSet, Cond.code yX3_anchorSet cX3_anchorSet 3 (some .int), Cond.instanceMethod yX1_markWays, Cond.initialized RX1]
def wsX3_digest_r3 : List Cond := [Cond.selects RX1 yX1_markWays yX1_markWays, Cond.code yX1_markWays cX1_markWays 6 none, Cond.fieldLink RX1 29 "SignetRoom$ChainBook" "letterCount" "I", Cond.fieldLink RX1 15 "SignetRoom$ChainBook" "waysEndingIn" "[I", Cond.fieldLink RX1 9 "SignetRoom$ChainBook" "backers" "[I", Cond.instanceMethod yX0_markSigners, Cond.initialized RX0, Cond.selects RX0 yX0_markSigners yX0_markSigners, Cond.code yX0_markSigners cX0_markSigners 3 none, Cond.fieldLink RX0 32 "SignetRoom$CallList" "signers" "I", Cond.fieldLink RX0 38 "SignetRoom$CallList" "seal" "I", Cond.methodLink RX0 28 yX0_print, Cond.instanceMethod yX0_print, Cond.selects RX0 yX0_print yX0_print, Cond.code yX0_print cX0_print 1 (some .int), Cond.fieldLink RX0 9 "SignetRoom$CallList" "issuer" "I", Cond.fieldLink RX0 15 "SignetRoom$CallList" "at" "I", Cond.fieldLink RX0 18 "SignetRoom$CallList" "next" "I", Cond.fieldLink RX0 25 "SignetRoom$CallList" "serials" "I", Cond.methodLink RX3 141 yX3_countOf, Cond.instanceMethod yX3_countOf, Cond.selects RX3 yX3_countOf yX3_countOf, Cond.code yX3_countOf cX3_countOf 2 (some .int), Cond.methodLink RX3 113 yJ6_bitCount_0f7a4]
def wsX3_digest_r4 : List Cond := [Cond.static yJ6_bitCount_0f7a4, Cond.initialized RJ6, Cond.code yJ6_bitCount_0f7a4 cJ6_bitCount_0f7a4 1 (some .int), Cond.constant RJ6 265 (1431655765), Cond.constant RJ6 266 (858993459), Cond.constant RJ6 267 (252645135), Cond.methodLink RX3 229 yX3_pairCount, Cond.instanceMethod yX3_pairCount, Cond.selects RX3 yX3_pairCount yX3_pairCount, Cond.code yX3_pairCount cX3_pairCount 3 (some .int), Cond.methodLink RX3 204 yX3_withPropertiesOf, Cond.static yX3_withPropertiesOf, Cond.code yX3_withPropertiesOf cX3_withPropertiesOf 6 (some .long), Cond.instanceMethod yX2_property, Cond.selects RX2 yX2_property yX2_property, Cond.code yX2_property cX2_property 2 (some .int), Cond.fieldLink RX2 57 "SignetRoom$Letter" "isAnchor" "Z", Cond.instanceMethod yX1_findChainsOf, Cond.selects RX1 yX1_findChainsOf yX1_findChainsOf, Cond.code yX1_findChainsOf cX1_findChainsOf 3 none, Cond.fieldLink RX1 33 "SignetRoom$ChainBook" "chainCount" "I", Cond.fieldLink RX1 26 "SignetRoom$ChainBook" "begun" "[I", Cond.methodLink RX1 36 yX1_extend, Cond.static yX1_extend]
def wsX3_digest_r5 : List Cond := [Cond.code yX1_extend cX1_extend 7 none, Cond.methodLink RX1 40 yX1_keep, Cond.instanceMethod yX1_keep, Cond.selects RX1 yX1_keep yX1_keep, Cond.code yX1_keep cX1_keep 2 none, Cond.fieldLink RX1 20 "SignetRoom$ChainBook" "rows" "[[I", Cond.methodLink RX1 44 arraycopyName, Cond.native arraycopyName, Cond.static arraycopyName, Cond.initialized "java/lang/System", Cond.fieldLink RX1 23 "SignetRoom$ChainBook" "lengths" "[I", Cond.methodLink RX3 168 yX3_decision, Cond.instanceMethod yX3_decision, Cond.selects RX3 yX3_decision yX3_decision, Cond.code yX3_decision cX3_decision 3 (some .int), Cond.methodLink RX3 171 yX3_firstHolding, Cond.instanceMethod yX3_firstHolding, Cond.selects RX3 yX3_firstHolding yX3_firstHolding, Cond.code yX3_firstHolding cX3_firstHolding 4 (some .int), Cond.methodLink RX3 189 yX3_firstFlawedPlace, Cond.instanceMethod yX3_firstFlawedPlace, Cond.selects RX3 yX3_firstFlawedPlace yX3_firstFlawedPlace, Cond.code yX3_firstFlawedPlace cX3_firstFlawedPlace 6 (some .int), Cond.instanceMethod yX1_lengthOf]
def wsX3_digest_r6 : List Cond := [Cond.selects RX1 yX1_lengthOf yX1_lengthOf, Cond.code yX1_lengthOf cX1_lengthOf 2 (some .int), Cond.methodLink RX3 245 yX3_flawOf, Cond.instanceMethod yX3_flawOf, Cond.selects RX3 yX3_flawOf yX3_flawOf, Cond.code yX3_flawOf cX3_flawOf 8 (some .int), Cond.instanceMethod yX1_member, Cond.selects RX1 yX1_member yX1_member, Cond.code yX1_member cX1_member 3 (some .int), Cond.methodLink RX3 213 yX3_isLetter, Cond.instanceMethod yX3_isLetter, Cond.selects RX3 yX3_isLetter yX3_isLetter, Cond.code yX3_isLetter cX3_isLetter 2 (some .boolean), Cond.instanceMethod yX2_flawAlone, Cond.selects RX2 yX2_flawAlone yX2_flawAlone, Cond.code yX2_flawAlone cX2_flawAlone 3 (some .int), Cond.methodLink RX3 252 yX3_flawAsBacker, Cond.instanceMethod yX3_flawAsBacker, Cond.selects RX3 yX3_flawAsBacker yX3_flawAsBacker, Cond.code yX3_flawAsBacker cX3_flawAsBacker 6 (some .int), Cond.methodLink RX3 151 yX3_isBelow, Cond.static yX3_isBelow, Cond.code yX3_isBelow cX3_isBelow 3 (some .boolean), Cond.methodLink RX3 256 yX3_isCalledBack]
def wsX3_digest_r7 : List Cond := [Cond.instanceMethod yX3_isCalledBack, Cond.selects RX3 yX3_isCalledBack yX3_isCalledBack, Cond.code yX3_isCalledBack cX3_isCalledBack 6 (some .boolean), Cond.fieldLink RX3 135 "SignetRoom" "isStrictRoom" "Z", Cond.methodLink RX3 260 yX3_latestList, Cond.instanceMethod yX3_latestList, Cond.selects RX3 yX3_latestList yX3_latestList, Cond.code yX3_latestList cX3_latestList 9 (some .int), Cond.instanceMethod yX0_hasSerial, Cond.selects RX0 yX0_hasSerial yX0_hasSerial, Cond.code yX0_hasSerial cX0_hasSerial 2 (some .boolean), Cond.methodLink RX3 177 yX3_decidingPlace, Cond.instanceMethod yX3_decidingPlace, Cond.selects RX3 yX3_decidingPlace yX3_decidingPlace, Cond.code yX3_decidingPlace cX3_decidingPlace 3 (some .int), Cond.instanceMethod yX0_property, Cond.selects RX0 yX0_property yX0_property, Cond.code yX0_property cX0_property 2 (some .int)]
def wsX3_digest : List Cond := .code yX3_digest cX3_digest 6 (some .long) :: ((wsX3_digest_r1 ++ (wsX3_digest_r2 ++ (wsX3_digest_r3 ++ (wsX3_digest_r4 ++ (wsX3_digest_r5 ++ (wsX3_digest_r6 ++ wsX3_digest_r7)))))) ++ wsX30 ++ wsX10 ++ wsX20 ++ wsX00)
theorem dX0_init_0 : decode cX0_init 0 = .ok (.aload_n 0, 1) := by decide +kernel
theorem dX0_init_1 : decode cX0_init 1 = .ok (.invokespecial 3, 3) := by decide +kernel
theorem dX0_init_4 : decode cX0_init 4 = .ok (.return_, 1) := by decide +kernel
theorem dX0_write_0 : decode cX0_write 0 = .ok (.aload_n 0, 1) := by decide +kernel
theorem dX0_write_1 : decode cX0_write 1 = .ok (.iload_n 1, 1) := by decide +kernel
theorem dX0_write_2 : decode cX0_write 2 = .ok (.putfield 9, 3) := by decide +kernel
theorem dX0_write_5 : decode cX0_write 5 = .ok (.aload_n 0, 1) := by decide +kernel
theorem dX0_write_6 : decode cX0_write 6 = .ok (.iload_n 2, 1) := by decide +kernel
theorem dX0_write_7 : decode cX0_write 7 = .ok (.putfield 15, 3) := by decide +kernel
theorem dX0_write_10 : decode cX0_write 10 = .ok (.aload_n 0, 1) := by decide +kernel
theorem dX0_write_11 : decode cX0_write 11 = .ok (.iload_n 3, 1) := by decide +kernel
theorem dX0_write_12 : decode cX0_write 12 = .ok (.putfield 18, 3) := by decide +kernel
theorem dX0_write_15 : decode cX0_write 15 = .ok (.return_, 1) := by decide +kernel
set_option maxRecDepth 100000 in
set_option maxHeartbeats 4000000 in
theorem ggX0_print_X3_mix : GoodIn wsX0_print wsX3_mix := goodIn_r _ [7] rfl (by decide +kernel)
set_option maxRecDepth 20000 in
theorem gX0_print_X3_mix_n21 : GoodIn wsX0_print (wsX3_mix) := ggX0_print_X3_mix
theorem dX0_print_0 : decode cX0_print 0 = .ok (.bipush 19, 2) := by decide +kernel
theorem dX0_print_2 : decode cX0_print 2 = .ok (.aload_n 0, 1) := by decide +kernel
theorem dX0_print_3 : decode cX0_print 3 = .ok (.getfield 9, 3) := by decide +kernel
theorem dX0_print_6 : decode cX0_print 6 = .ok (.invokestatic 21, 3) := by decide +kernel
theorem dX0_print_9 : decode cX0_print 9 = .ok (.aload_n 0, 1) := by decide +kernel
theorem dX0_print_10 : decode cX0_print 10 = .ok (.getfield 15, 3) := by decide +kernel
theorem dX0_print_13 : decode cX0_print 13 = .ok (.invokestatic 21, 3) := by decide +kernel
theorem dX0_print_16 : decode cX0_print 16 = .ok (.aload_n 0, 1) := by decide +kernel
theorem dX0_print_17 : decode cX0_print 17 = .ok (.getfield 18, 3) := by decide +kernel
theorem dX0_print_20 : decode cX0_print 20 = .ok (.invokestatic 21, 3) := by decide +kernel
theorem dX0_print_23 : decode cX0_print 23 = .ok (.aload_n 0, 1) := by decide +kernel
theorem dX0_print_24 : decode cX0_print 24 = .ok (.getfield 25, 3) := by decide +kernel
theorem dX0_print_27 : decode cX0_print 27 = .ok (.sipush 997, 3) := by decide +kernel
theorem dX0_print_30 : decode cX0_print 30 = .ok (.irem, 1) := by decide +kernel
theorem dX0_print_31 : decode cX0_print 31 = .ok (.invokestatic 21, 3) := by decide +kernel
theorem dX0_print_34 : decode cX0_print 34 = .ok (.ireturn, 1) := by decide +kernel
set_option maxRecDepth 100000 in
set_option maxHeartbeats 4000000 in
theorem ggX0_markSigners_X0_print : GoodIn wsX0_markSigners wsX0_print := goodIn_r _ [7, 8, 9, 10, 11, 12, 13, 14, 17, 18, 19, 20, 21, 22] rfl (by decide +kernel)
set_option maxRecDepth 20000 in
theorem gX0_markSigners_X0_print : GoodIn wsX0_markSigners (wsV RX0 28 RX0 yX0_print wsX0_print) := goodIn_app (goodIn_of _ (by decide +kernel)) ggX0_markSigners_X0_print
set_option maxRecDepth 100000 in
set_option maxHeartbeats 4000000 in
theorem ggX0_markSigners_X3_sealFor : GoodIn wsX0_markSigners wsX3_sealFor := goodIn_r _ [16] rfl (by decide +kernel)
set_option maxRecDepth 20000 in
theorem gX0_markSigners_X3_sealFor_n35 : GoodIn wsX0_markSigners (wsX3_sealFor) := ggX0_markSigners_X3_sealFor
theorem dX0_markSigners_0 : decode cX0_markSigners 0 = .ok (.aload_n 0, 1) := by decide +kernel
theorem dX0_markSigners_1 : decode cX0_markSigners 1 = .ok (.invokevirtual 28, 3) := by decide +kernel
theorem dX0_markSigners_4 : decode cX0_markSigners 4 = .ok (.istore_n 1, 1) := by decide +kernel
theorem dX0_markSigners_5 : decode cX0_markSigners 5 = .ok (.aload_n 0, 1) := by decide +kernel
theorem dX0_markSigners_6 : decode cX0_markSigners 6 = .ok (.iconst 0, 1) := by decide +kernel
theorem dX0_markSigners_7 : decode cX0_markSigners 7 = .ok (.putfield 32, 3) := by decide +kernel
theorem dX0_markSigners_10 : decode cX0_markSigners 10 = .ok (.iconst 0, 1) := by decide +kernel
theorem dX0_markSigners_11 : decode cX0_markSigners 11 = .ok (.istore_n 2, 1) := by decide +kernel
theorem dX0_markSigners_12 : decode cX0_markSigners 12 = .ok (.iload_n 2, 1) := by decide +kernel
theorem dX0_markSigners_13 : decode cX0_markSigners 13 = .ok (.bipush 15, 2) := by decide +kernel
theorem dX0_markSigners_15 : decode cX0_markSigners 15 = .ok (.if_icmp .gt 33, 3) := by decide +kernel
theorem dX0_markSigners_18 : decode cX0_markSigners 18 = .ok (.iload_n 1, 1) := by decide +kernel
theorem dX0_markSigners_19 : decode cX0_markSigners 19 = .ok (.iload_n 2, 1) := by decide +kernel
theorem dX0_markSigners_20 : decode cX0_markSigners 20 = .ok (.invokestatic 35, 3) := by decide +kernel
theorem dX0_markSigners_23 : decode cX0_markSigners 23 = .ok (.aload_n 0, 1) := by decide +kernel
theorem dX0_markSigners_24 : decode cX0_markSigners 24 = .ok (.getfield 38, 3) := by decide +kernel
theorem dX0_markSigners_27 : decode cX0_markSigners 27 = .ok (.if_icmp .ne 15, 3) := by decide +kernel
theorem dX0_markSigners_30 : decode cX0_markSigners 30 = .ok (.aload_n 0, 1) := by decide +kernel
theorem dX0_markSigners_31 : decode cX0_markSigners 31 = .ok (.dup, 1) := by decide +kernel
theorem dX0_markSigners_32 : decode cX0_markSigners 32 = .ok (.getfield 32, 3) := by decide +kernel
theorem dX0_markSigners_35 : decode cX0_markSigners 35 = .ok (.iconst 1, 1) := by decide +kernel
theorem dX0_markSigners_36 : decode cX0_markSigners 36 = .ok (.iload_n 2, 1) := by decide +kernel
theorem dX0_markSigners_37 : decode cX0_markSigners 37 = .ok (.ishl, 1) := by decide +kernel
theorem dX0_markSigners_38 : decode cX0_markSigners 38 = .ok (.ior, 1) := by decide +kernel
theorem dX0_markSigners_39 : decode cX0_markSigners 39 = .ok (.putfield 32, 3) := by decide +kernel
theorem dX0_markSigners_42 : decode cX0_markSigners 42 = .ok (.iinc 2 1, 3) := by decide +kernel
theorem dX0_markSigners_45 : decode cX0_markSigners 45 = .ok (.goto (-33), 3) := by decide +kernel
theorem dX0_markSigners_48 : decode cX0_markSigners 48 = .ok (.return_, 1) := by decide +kernel
theorem dX0_hasSerial_0 : decode cX0_hasSerial 0 = .ok (.aload_n 0, 1) := by decide +kernel
theorem dX0_hasSerial_1 : decode cX0_hasSerial 1 = .ok (.getfield 25, 3) := by decide +kernel
theorem dX0_hasSerial_4 : decode cX0_hasSerial 4 = .ok (.iload_n 1, 1) := by decide +kernel
theorem dX0_hasSerial_5 : decode cX0_hasSerial 5 = .ok (.ishr, 1) := by decide +kernel
theorem dX0_hasSerial_6 : decode cX0_hasSerial 6 = .ok (.iconst 1, 1) := by decide +kernel
theorem dX0_hasSerial_7 : decode cX0_hasSerial 7 = .ok (.iand, 1) := by decide +kernel
theorem dX0_hasSerial_8 : decode cX0_hasSerial 8 = .ok (.ifCond .eq 7, 3) := by decide +kernel
theorem dX0_hasSerial_11 : decode cX0_hasSerial 11 = .ok (.iconst 1, 1) := by decide +kernel
theorem dX0_hasSerial_12 : decode cX0_hasSerial 12 = .ok (.goto 4, 3) := by decide +kernel
theorem dX0_hasSerial_15 : decode cX0_hasSerial 15 = .ok (.iconst 0, 1) := by decide +kernel
theorem dX0_hasSerial_16 : decode cX0_hasSerial 16 = .ok (.ireturn, 1) := by decide +kernel
set_option maxRecDepth 100000 in
set_option maxHeartbeats 4000000 in
theorem ggX0_property_X0_print : GoodIn wsX0_property wsX0_print := goodIn_r _ [10, 1, 2, 3, 4, 11, 12, 13, 14, 15, 16, 17, 18, 19] rfl (by decide +kernel)
set_option maxRecDepth 20000 in
theorem gX0_property_X0_print : GoodIn wsX0_property (wsV RX0 28 RX0 yX0_print wsX0_print) := goodIn_app (goodIn_of _ (by decide +kernel)) ggX0_property_X0_print
theorem dX0_property_0 : decode cX0_property 0 = .ok (.iload_n 1, 1) := by decide +kernel
theorem dX0_property_1 : decode cX0_property 1 = .ok (.tableswitch 60 0 4 #[35, 40, 45, 50, 55], 35) := by decide +kernel
theorem dX0_property_36 : decode cX0_property 36 = .ok (.aload_n 0, 1) := by decide +kernel
theorem dX0_property_37 : decode cX0_property 37 = .ok (.getfield 9, 3) := by decide +kernel
theorem dX0_property_40 : decode cX0_property 40 = .ok (.ireturn, 1) := by decide +kernel
theorem dX0_property_41 : decode cX0_property 41 = .ok (.aload_n 0, 1) := by decide +kernel
theorem dX0_property_42 : decode cX0_property 42 = .ok (.getfield 15, 3) := by decide +kernel
theorem dX0_property_45 : decode cX0_property 45 = .ok (.ireturn, 1) := by decide +kernel
theorem dX0_property_46 : decode cX0_property 46 = .ok (.aload_n 0, 1) := by decide +kernel
theorem dX0_property_47 : decode cX0_property 47 = .ok (.getfield 18, 3) := by decide +kernel
theorem dX0_property_50 : decode cX0_property 50 = .ok (.ireturn, 1) := by decide +kernel
theorem dX0_property_51 : decode cX0_property 51 = .ok (.aload_n 0, 1) := by decide +kernel
theorem dX0_property_52 : decode cX0_property 52 = .ok (.getfield 25, 3) := by decide +kernel
theorem dX0_property_55 : decode cX0_property 55 = .ok (.ireturn, 1) := by decide +kernel
theorem dX0_property_56 : decode cX0_property 56 = .ok (.aload_n 0, 1) := by decide +kernel
theorem dX0_property_57 : decode cX0_property 57 = .ok (.getfield 38, 3) := by decide +kernel
theorem dX0_property_60 : decode cX0_property 60 = .ok (.ireturn, 1) := by decide +kernel
theorem dX0_property_61 : decode cX0_property 61 = .ok (.aload_n 0, 1) := by decide +kernel
theorem dX0_property_62 : decode cX0_property 62 = .ok (.invokevirtual 28, 3) := by decide +kernel
theorem dX0_property_65 : decode cX0_property 65 = .ok (.ireturn, 1) := by decide +kernel
theorem dX1_init_0 : decode cX1_init 0 = .ok (.aload_n 0, 1) := by decide +kernel
theorem dX1_init_1 : decode cX1_init 1 = .ok (.invokespecial 3, 3) := by decide +kernel
theorem dX1_init_4 : decode cX1_init 4 = .ok (.aload_n 0, 1) := by decide +kernel
theorem dX1_init_5 : decode cX1_init 5 = .ok (.bipush 20, 2) := by decide +kernel
theorem dX1_init_7 : decode cX1_init 7 = .ok (.newarray .int, 2) := by decide +kernel
theorem dX1_init_9 : decode cX1_init 9 = .ok (.putfield 9, 3) := by decide +kernel
theorem dX1_init_12 : decode cX1_init 12 = .ok (.aload_n 0, 1) := by decide +kernel
theorem dX1_init_13 : decode cX1_init 13 = .ok (.bipush 6, 2) := by decide +kernel
theorem dX1_init_15 : decode cX1_init 15 = .ok (.newarray .int, 2) := by decide +kernel
theorem dX1_init_17 : decode cX1_init 17 = .ok (.putfield 15, 3) := by decide +kernel
theorem dX1_init_20 : decode cX1_init 20 = .ok (.aload_n 0, 1) := by decide +kernel
theorem dX1_init_21 : decode cX1_init 21 = .ok (.bipush 60, 2) := by decide +kernel
theorem dX1_init_23 : decode cX1_init 23 = .ok (.bipush 6, 2) := by decide +kernel
theorem dX1_init_25 : decode cX1_init 25 = .ok (.multianewarray 18 2, 4) := by decide +kernel
theorem dX1_init_29 : decode cX1_init 29 = .ok (.putfield 20, 3) := by decide +kernel
theorem dX1_init_32 : decode cX1_init 32 = .ok (.aload_n 0, 1) := by decide +kernel
theorem dX1_init_33 : decode cX1_init 33 = .ok (.bipush 60, 2) := by decide +kernel
theorem dX1_init_35 : decode cX1_init 35 = .ok (.newarray .int, 2) := by decide +kernel
theorem dX1_init_37 : decode cX1_init 37 = .ok (.putfield 23, 3) := by decide +kernel
theorem dX1_init_40 : decode cX1_init 40 = .ok (.aload_n 0, 1) := by decide +kernel
theorem dX1_init_41 : decode cX1_init 41 = .ok (.bipush 6, 2) := by decide +kernel
theorem dX1_init_43 : decode cX1_init 43 = .ok (.newarray .int, 2) := by decide +kernel
theorem dX1_init_45 : decode cX1_init 45 = .ok (.putfield 26, 3) := by decide +kernel
theorem dX1_init_48 : decode cX1_init 48 = .ok (.return_, 1) := by decide +kernel
theorem dX1_markWays_0 : decode cX1_markWays 0 = .ok (.aload_n 0, 1) := by decide +kernel
theorem dX1_markWays_1 : decode cX1_markWays 1 = .ok (.iload_n 1, 1) := by decide +kernel
theorem dX1_markWays_2 : decode cX1_markWays 2 = .ok (.putfield 29, 3) := by decide +kernel
theorem dX1_markWays_5 : decode cX1_markWays 5 = .ok (.aload_n 0, 1) := by decide +kernel
theorem dX1_markWays_6 : decode cX1_markWays 6 = .ok (.getfield 15, 3) := by decide +kernel
theorem dX1_markWays_9 : decode cX1_markWays 9 = .ok (.iconst 0, 1) := by decide +kernel
theorem dX1_markWays_10 : decode cX1_markWays 10 = .ok (.iload_n 2, 1) := by decide +kernel
theorem dX1_markWays_11 : decode cX1_markWays 11 = .ok (.iastore, 1) := by decide +kernel
theorem dX1_markWays_12 : decode cX1_markWays 12 = .ok (.iconst 1, 1) := by decide +kernel
theorem dX1_markWays_13 : decode cX1_markWays 13 = .ok (.istore_n 3, 1) := by decide +kernel
theorem dX1_markWays_14 : decode cX1_markWays 14 = .ok (.iload_n 3, 1) := by decide +kernel
theorem dX1_markWays_15 : decode cX1_markWays 15 = .ok (.bipush 6, 2) := by decide +kernel
theorem dX1_markWays_17 : decode cX1_markWays 17 = .ok (.if_icmp .ge 66, 3) := by decide +kernel
theorem dX1_markWays_20 : decode cX1_markWays 20 = .ok (.iconst 0, 1) := by decide +kernel
theorem dX1_markWays_21 : decode cX1_markWays 21 = .ok (.istore 4, 2) := by decide +kernel
theorem dX1_markWays_23 : decode cX1_markWays 23 = .ok (.iconst 0, 1) := by decide +kernel
theorem dX1_markWays_24 : decode cX1_markWays 24 = .ok (.istore 5, 2) := by decide +kernel
theorem dX1_markWays_26 : decode cX1_markWays 26 = .ok (.iload 5, 2) := by decide +kernel
theorem dX1_markWays_28 : decode cX1_markWays 28 = .ok (.aload_n 0, 1) := by decide +kernel
theorem dX1_markWays_29 : decode cX1_markWays 29 = .ok (.getfield 29, 3) := by decide +kernel
theorem dX1_markWays_32 : decode cX1_markWays 32 = .ok (.if_icmp .ge 37, 3) := by decide +kernel
theorem dX1_markWays_35 : decode cX1_markWays 35 = .ok (.aload_n 0, 1) := by decide +kernel
theorem dX1_markWays_36 : decode cX1_markWays 36 = .ok (.getfield 9, 3) := by decide +kernel
theorem dX1_markWays_39 : decode cX1_markWays 39 = .ok (.iload 5, 2) := by decide +kernel
theorem dX1_markWays_41 : decode cX1_markWays 41 = .ok (.iaload, 1) := by decide +kernel
theorem dX1_markWays_42 : decode cX1_markWays 42 = .ok (.aload_n 0, 1) := by decide +kernel
theorem dX1_markWays_43 : decode cX1_markWays 43 = .ok (.getfield 15, 3) := by decide +kernel
theorem dX1_markWays_46 : decode cX1_markWays 46 = .ok (.iload_n 3, 1) := by decide +kernel
theorem dX1_markWays_47 : decode cX1_markWays 47 = .ok (.iconst 1, 1) := by decide +kernel
theorem dX1_markWays_48 : decode cX1_markWays 48 = .ok (.isub, 1) := by decide +kernel
theorem dX1_markWays_49 : decode cX1_markWays 49 = .ok (.iaload, 1) := by decide +kernel
theorem dX1_markWays_50 : decode cX1_markWays 50 = .ok (.iand, 1) := by decide +kernel
theorem dX1_markWays_51 : decode cX1_markWays 51 = .ok (.ifCond .eq 12, 3) := by decide +kernel
theorem dX1_markWays_54 : decode cX1_markWays 54 = .ok (.iload 4, 2) := by decide +kernel
theorem dX1_markWays_56 : decode cX1_markWays 56 = .ok (.iconst 1, 1) := by decide +kernel
theorem dX1_markWays_57 : decode cX1_markWays 57 = .ok (.iload 5, 2) := by decide +kernel
theorem dX1_markWays_59 : decode cX1_markWays 59 = .ok (.ishl, 1) := by decide +kernel
theorem dX1_markWays_60 : decode cX1_markWays 60 = .ok (.ior, 1) := by decide +kernel
theorem dX1_markWays_61 : decode cX1_markWays 61 = .ok (.istore 4, 2) := by decide +kernel
theorem dX1_markWays_63 : decode cX1_markWays 63 = .ok (.iinc 5 1, 3) := by decide +kernel
theorem dX1_markWays_66 : decode cX1_markWays 66 = .ok (.goto (-40), 3) := by decide +kernel
theorem dX1_markWays_69 : decode cX1_markWays 69 = .ok (.aload_n 0, 1) := by decide +kernel
theorem dX1_markWays_70 : decode cX1_markWays 70 = .ok (.getfield 15, 3) := by decide +kernel
theorem dX1_markWays_73 : decode cX1_markWays 73 = .ok (.iload_n 3, 1) := by decide +kernel
theorem dX1_markWays_74 : decode cX1_markWays 74 = .ok (.iload 4, 2) := by decide +kernel
theorem dX1_markWays_76 : decode cX1_markWays 76 = .ok (.iastore, 1) := by decide +kernel
theorem dX1_markWays_77 : decode cX1_markWays 77 = .ok (.iinc 3 1, 3) := by decide +kernel
theorem dX1_markWays_80 : decode cX1_markWays 80 = .ok (.goto (-66), 3) := by decide +kernel
theorem dX1_markWays_83 : decode cX1_markWays 83 = .ok (.return_, 1) := by decide +kernel
set_option maxRecDepth 100000 in
set_option maxHeartbeats 4000000 in
theorem ggX1_findChainsOf_X1_extend : GoodIn wsX1_findChainsOf wsX1_extend := goodIn_r _ [7, 3, 8, 2, 9, 1, 10, 11, 12, 6, 13, 14, 15, 16, 17, 18, 19, 4, 5, 20, 21, 22, 23, 24, 25, 26] rfl (by decide +kernel)
set_option maxRecDepth 20000 in
theorem gX1_findChainsOf_X1_extend : GoodIn wsX1_findChainsOf (va_wsS RX1 36 yX1_extend wsX1_extend) := goodIn_app (goodIn_of _ (by decide +kernel)) ggX1_findChainsOf_X1_extend
theorem dX1_findChainsOf_0 : decode cX1_findChainsOf 0 = .ok (.aload_n 0, 1) := by decide +kernel
theorem dX1_findChainsOf_1 : decode cX1_findChainsOf 1 = .ok (.iconst 0, 1) := by decide +kernel
theorem dX1_findChainsOf_2 : decode cX1_findChainsOf 2 = .ok (.putfield 33, 3) := by decide +kernel
theorem dX1_findChainsOf_5 : decode cX1_findChainsOf 5 = .ok (.aload_n 0, 1) := by decide +kernel
theorem dX1_findChainsOf_6 : decode cX1_findChainsOf 6 = .ok (.getfield 26, 3) := by decide +kernel
theorem dX1_findChainsOf_9 : decode cX1_findChainsOf 9 = .ok (.iconst 0, 1) := by decide +kernel
theorem dX1_findChainsOf_10 : decode cX1_findChainsOf 10 = .ok (.iload_n 1, 1) := by decide +kernel
theorem dX1_findChainsOf_11 : decode cX1_findChainsOf 11 = .ok (.iastore, 1) := by decide +kernel
theorem dX1_findChainsOf_12 : decode cX1_findChainsOf 12 = .ok (.iconst 1, 1) := by decide +kernel
theorem dX1_findChainsOf_13 : decode cX1_findChainsOf 13 = .ok (.istore_n 2, 1) := by decide +kernel
theorem dX1_findChainsOf_14 : decode cX1_findChainsOf 14 = .ok (.iload_n 2, 1) := by decide +kernel
theorem dX1_findChainsOf_15 : decode cX1_findChainsOf 15 = .ok (.bipush 6, 2) := by decide +kernel
theorem dX1_findChainsOf_17 : decode cX1_findChainsOf 17 = .ok (.if_icmp .gt 33, 3) := by decide +kernel
theorem dX1_findChainsOf_20 : decode cX1_findChainsOf 20 = .ok (.aload_n 0, 1) := by decide +kernel
theorem dX1_findChainsOf_21 : decode cX1_findChainsOf 21 = .ok (.getfield 15, 3) := by decide +kernel
theorem dX1_findChainsOf_24 : decode cX1_findChainsOf 24 = .ok (.iload_n 2, 1) := by decide +kernel
theorem dX1_findChainsOf_25 : decode cX1_findChainsOf 25 = .ok (.iconst 1, 1) := by decide +kernel
theorem dX1_findChainsOf_26 : decode cX1_findChainsOf 26 = .ok (.isub, 1) := by decide +kernel
theorem dX1_findChainsOf_27 : decode cX1_findChainsOf 27 = .ok (.iaload, 1) := by decide +kernel
theorem dX1_findChainsOf_28 : decode cX1_findChainsOf 28 = .ok (.iload_n 1, 1) := by decide +kernel
theorem dX1_findChainsOf_29 : decode cX1_findChainsOf 29 = .ok (.ishr, 1) := by decide +kernel
theorem dX1_findChainsOf_30 : decode cX1_findChainsOf 30 = .ok (.iconst 1, 1) := by decide +kernel
theorem dX1_findChainsOf_31 : decode cX1_findChainsOf 31 = .ok (.iand, 1) := by decide +kernel
theorem dX1_findChainsOf_32 : decode cX1_findChainsOf 32 = .ok (.ifCond .eq 12, 3) := by decide +kernel
theorem dX1_findChainsOf_35 : decode cX1_findChainsOf 35 = .ok (.aload_n 0, 1) := by decide +kernel
theorem dX1_findChainsOf_36 : decode cX1_findChainsOf 36 = .ok (.iconst 1, 1) := by decide +kernel
theorem dX1_findChainsOf_37 : decode cX1_findChainsOf 37 = .ok (.iload_n 2, 1) := by decide +kernel
theorem dX1_findChainsOf_38 : decode cX1_findChainsOf 38 = .ok (.iconst 1, 1) := by decide +kernel
theorem dX1_findChainsOf_39 : decode cX1_findChainsOf 39 = .ok (.iload_n 1, 1) := by decide +kernel
theorem dX1_findChainsOf_40 : decode cX1_findChainsOf 40 = .ok (.ishl, 1) := by decide +kernel
theorem dX1_findChainsOf_41 : decode cX1_findChainsOf 41 = .ok (.invokestatic 36, 3) := by decide +kernel
theorem dX1_findChainsOf_44 : decode cX1_findChainsOf 44 = .ok (.iinc 2 1, 3) := by decide +kernel
theorem dX1_findChainsOf_47 : decode cX1_findChainsOf 47 = .ok (.goto (-33), 3) := by decide +kernel
theorem dX1_findChainsOf_50 : decode cX1_findChainsOf 50 = .ok (.return_, 1) := by decide +kernel
set_option maxRecDepth 100000 in
set_option maxHeartbeats 4000000 in
theorem ggX1_extend_X1_keep : GoodIn wsX1_extend wsX1_keep := goodIn_r _ [10, 5, 3, 11, 12, 13, 14, 15, 16, 19, 20, 21, 22, 23, 24, 25] rfl (by decide +kernel)
set_option maxRecDepth 20000 in
theorem gX1_extend_X1_keep : GoodIn wsX1_extend (wsV RX1 40 RX1 yX1_keep wsX1_keep) := goodIn_app (goodIn_of _ (by decide +kernel)) ggX1_extend_X1_keep
set_option maxRecDepth 100000 in
set_option maxHeartbeats 4000000 in
theorem ggX1_extend_X1_extend : GoodIn wsX1_extend wsX1_extend := goodIn_r _ [0, 1, 2, 3, 4, 5, 6, 7, 8, 9, 10, 11, 12, 13, 14, 15, 16, 17, 18, 19, 20, 21, 22, 23, 24, 25] rfl (by decide +kernel)
set_option maxRecDepth 20000 in
theorem gX1_extend_X1_extend : GoodIn wsX1_extend (va_wsS RX1 36 yX1_extend wsX1_extend) := goodIn_app (goodIn_of _ (by decide +kernel)) ggX1_extend_X1_extend
theorem dX1_extend_0 : decode cX1_extend 0 = .ok (.iload_n 1, 1) := by decide +kernel
theorem dX1_extend_1 : decode cX1_extend 1 = .ok (.iload_n 2, 1) := by decide +kernel
theorem dX1_extend_2 : decode cX1_extend 2 = .ok (.if_icmp .ge 9, 3) := by decide +kernel
theorem dX1_extend_5 : decode cX1_extend 5 = .ok (.iload_n 1, 1) := by decide +kernel
theorem dX1_extend_6 : decode cX1_extend 6 = .ok (.bipush 6, 2) := by decide +kernel
theorem dX1_extend_8 : decode cX1_extend 8 = .ok (.if_icmp .lt 9, 3) := by decide +kernel
theorem dX1_extend_11 : decode cX1_extend 11 = .ok (.aload_n 0, 1) := by decide +kernel
theorem dX1_extend_12 : decode cX1_extend 12 = .ok (.iload_n 2, 1) := by decide +kernel
theorem dX1_extend_13 : decode cX1_extend 13 = .ok (.invokevirtual 40, 3) := by decide +kernel
theorem dX1_extend_16 : decode cX1_extend 16 = .ok (.return_, 1) := by decide +kernel
theorem dX1_extend_17 : decode cX1_extend 17 = .ok (.aload_n 0, 1) := by decide +kernel
theorem dX1_extend_18 : decode cX1_extend 18 = .ok (.getfield 15, 3) := by decide +kernel
theorem dX1_extend_21 : decode cX1_extend 21 = .ok (.iload_n 2, 1) := by decide +kernel
theorem dX1_extend_22 : decode cX1_extend 22 = .ok (.iconst 1, 1) := by decide +kernel
theorem dX1_extend_23 : decode cX1_extend 23 = .ok (.isub, 1) := by decide +kernel
theorem dX1_extend_24 : decode cX1_extend 24 = .ok (.iload_n 1, 1) := by decide +kernel
theorem dX1_extend_25 : decode cX1_extend 25 = .ok (.isub, 1) := by decide +kernel
theorem dX1_extend_26 : decode cX1_extend 26 = .ok (.iaload, 1) := by decide +kernel
theorem dX1_extend_27 : decode cX1_extend 27 = .ok (.istore 4, 2) := by decide +kernel
theorem dX1_extend_29 : decode cX1_extend 29 = .ok (.aload_n 0, 1) := by decide +kernel
theorem dX1_extend_30 : decode cX1_extend 30 = .ok (.getfield 9, 3) := by decide +kernel
theorem dX1_extend_33 : decode cX1_extend 33 = .ok (.aload_n 0, 1) := by decide +kernel
theorem dX1_extend_34 : decode cX1_extend 34 = .ok (.getfield 26, 3) := by decide +kernel
theorem dX1_extend_37 : decode cX1_extend 37 = .ok (.iload_n 1, 1) := by decide +kernel
theorem dX1_extend_38 : decode cX1_extend 38 = .ok (.iconst 1, 1) := by decide +kernel
theorem dX1_extend_39 : decode cX1_extend 39 = .ok (.isub, 1) := by decide +kernel
theorem dX1_extend_40 : decode cX1_extend 40 = .ok (.iaload, 1) := by decide +kernel
theorem dX1_extend_41 : decode cX1_extend 41 = .ok (.iaload, 1) := by decide +kernel
theorem dX1_extend_42 : decode cX1_extend 42 = .ok (.iload 4, 2) := by decide +kernel
theorem dX1_extend_44 : decode cX1_extend 44 = .ok (.iand, 1) := by decide +kernel
theorem dX1_extend_45 : decode cX1_extend 45 = .ok (.iload_n 3, 1) := by decide +kernel
theorem dX1_extend_46 : decode cX1_extend 46 = .ok (.iconst (-1), 1) := by decide +kernel
theorem dX1_extend_47 : decode cX1_extend 47 = .ok (.ixor, 1) := by decide +kernel
theorem dX1_extend_48 : decode cX1_extend 48 = .ok (.iand, 1) := by decide +kernel
theorem dX1_extend_49 : decode cX1_extend 49 = .ok (.istore 5, 2) := by decide +kernel
theorem dX1_extend_51 : decode cX1_extend 51 = .ok (.iconst 0, 1) := by decide +kernel
theorem dX1_extend_52 : decode cX1_extend 52 = .ok (.istore 6, 2) := by decide +kernel
theorem dX1_extend_54 : decode cX1_extend 54 = .ok (.iload 6, 2) := by decide +kernel
theorem dX1_extend_56 : decode cX1_extend 56 = .ok (.aload_n 0, 1) := by decide +kernel
theorem dX1_extend_57 : decode cX1_extend 57 = .ok (.getfield 29, 3) := by decide +kernel
theorem dX1_extend_60 : decode cX1_extend 60 = .ok (.if_icmp .ge 50, 3) := by decide +kernel
theorem dX1_extend_63 : decode cX1_extend 63 = .ok (.iload 5, 2) := by decide +kernel
theorem dX1_extend_65 : decode cX1_extend 65 = .ok (.iload 6, 2) := by decide +kernel
theorem dX1_extend_67 : decode cX1_extend 67 = .ok (.ishr, 1) := by decide +kernel
theorem dX1_extend_68 : decode cX1_extend 68 = .ok (.iconst 1, 1) := by decide +kernel
theorem dX1_extend_69 : decode cX1_extend 69 = .ok (.iand, 1) := by decide +kernel
theorem dX1_extend_70 : decode cX1_extend 70 = .ok (.ifCond .eq 34, 3) := by decide +kernel
theorem dX1_extend_73 : decode cX1_extend 73 = .ok (.aload_n 0, 1) := by decide +kernel
theorem dX1_extend_74 : decode cX1_extend 74 = .ok (.getfield 33, 3) := by decide +kernel
theorem dX1_extend_77 : decode cX1_extend 77 = .ok (.bipush 60, 2) := by decide +kernel
theorem dX1_extend_79 : decode cX1_extend 79 = .ok (.if_icmp .ge 25, 3) := by decide +kernel
theorem dX1_extend_82 : decode cX1_extend 82 = .ok (.aload_n 0, 1) := by decide +kernel
theorem dX1_extend_83 : decode cX1_extend 83 = .ok (.getfield 26, 3) := by decide +kernel
theorem dX1_extend_86 : decode cX1_extend 86 = .ok (.iload_n 1, 1) := by decide +kernel
theorem dX1_extend_87 : decode cX1_extend 87 = .ok (.iload 6, 2) := by decide +kernel
theorem dX1_extend_89 : decode cX1_extend 89 = .ok (.iastore, 1) := by decide +kernel
theorem dX1_extend_90 : decode cX1_extend 90 = .ok (.aload_n 0, 1) := by decide +kernel
theorem dX1_extend_91 : decode cX1_extend 91 = .ok (.iload_n 1, 1) := by decide +kernel
theorem dX1_extend_92 : decode cX1_extend 92 = .ok (.iconst 1, 1) := by decide +kernel
theorem dX1_extend_93 : decode cX1_extend 93 = .ok (.iadd, 1) := by decide +kernel
theorem dX1_extend_94 : decode cX1_extend 94 = .ok (.iload_n 2, 1) := by decide +kernel
theorem dX1_extend_95 : decode cX1_extend 95 = .ok (.iload_n 3, 1) := by decide +kernel
theorem dX1_extend_96 : decode cX1_extend 96 = .ok (.iconst 1, 1) := by decide +kernel
theorem dX1_extend_97 : decode cX1_extend 97 = .ok (.iload 6, 2) := by decide +kernel
theorem dX1_extend_99 : decode cX1_extend 99 = .ok (.ishl, 1) := by decide +kernel
theorem dX1_extend_100 : decode cX1_extend 100 = .ok (.ior, 1) := by decide +kernel
theorem dX1_extend_101 : decode cX1_extend 101 = .ok (.invokestatic 36, 3) := by decide +kernel
theorem dX1_extend_104 : decode cX1_extend 104 = .ok (.iinc 6 1, 3) := by decide +kernel
theorem dX1_extend_107 : decode cX1_extend 107 = .ok (.goto (-53), 3) := by decide +kernel
theorem dX1_extend_110 : decode cX1_extend 110 = .ok (.return_, 1) := by decide +kernel
theorem dX1_keep_0 : decode cX1_keep 0 = .ok (.aload_n 0, 1) := by decide +kernel
theorem dX1_keep_1 : decode cX1_keep 1 = .ok (.getfield 33, 3) := by decide +kernel
theorem dX1_keep_4 : decode cX1_keep 4 = .ok (.bipush 60, 2) := by decide +kernel
theorem dX1_keep_6 : decode cX1_keep 6 = .ok (.if_icmp .ge 43, 3) := by decide +kernel
theorem dX1_keep_9 : decode cX1_keep 9 = .ok (.aload_n 0, 1) := by decide +kernel
theorem dX1_keep_10 : decode cX1_keep 10 = .ok (.getfield 26, 3) := by decide +kernel
theorem dX1_keep_13 : decode cX1_keep 13 = .ok (.iconst 0, 1) := by decide +kernel
theorem dX1_keep_14 : decode cX1_keep 14 = .ok (.aload_n 0, 1) := by decide +kernel
theorem dX1_keep_15 : decode cX1_keep 15 = .ok (.getfield 20, 3) := by decide +kernel
theorem dX1_keep_18 : decode cX1_keep 18 = .ok (.aload_n 0, 1) := by decide +kernel
theorem dX1_keep_19 : decode cX1_keep 19 = .ok (.getfield 33, 3) := by decide +kernel
theorem dX1_keep_22 : decode cX1_keep 22 = .ok (.aaload, 1) := by decide +kernel
theorem dX1_keep_23 : decode cX1_keep 23 = .ok (.iconst 0, 1) := by decide +kernel
theorem dX1_keep_24 : decode cX1_keep 24 = .ok (.bipush 6, 2) := by decide +kernel
theorem dX1_keep_26 : decode cX1_keep 26 = .ok (.invokestatic 44, 3) := by decide +kernel
theorem dX1_keep_29 : decode cX1_keep 29 = .ok (.aload_n 0, 1) := by decide +kernel
theorem dX1_keep_30 : decode cX1_keep 30 = .ok (.getfield 23, 3) := by decide +kernel
theorem dX1_keep_33 : decode cX1_keep 33 = .ok (.aload_n 0, 1) := by decide +kernel
theorem dX1_keep_34 : decode cX1_keep 34 = .ok (.getfield 33, 3) := by decide +kernel
theorem dX1_keep_37 : decode cX1_keep 37 = .ok (.iload_n 1, 1) := by decide +kernel
theorem dX1_keep_38 : decode cX1_keep 38 = .ok (.iastore, 1) := by decide +kernel
theorem dX1_keep_39 : decode cX1_keep 39 = .ok (.aload_n 0, 1) := by decide +kernel
theorem dX1_keep_40 : decode cX1_keep 40 = .ok (.dup, 1) := by decide +kernel
theorem dX1_keep_41 : decode cX1_keep 41 = .ok (.getfield 33, 3) := by decide +kernel
theorem dX1_keep_44 : decode cX1_keep 44 = .ok (.iconst 1, 1) := by decide +kernel
theorem dX1_keep_45 : decode cX1_keep 45 = .ok (.iadd, 1) := by decide +kernel
theorem dX1_keep_46 : decode cX1_keep 46 = .ok (.putfield 33, 3) := by decide +kernel
theorem dX1_keep_49 : decode cX1_keep 49 = .ok (.return_, 1) := by decide +kernel
theorem dX1_lengthOf_0 : decode cX1_lengthOf 0 = .ok (.iload_n 1, 1) := by decide +kernel
theorem dX1_lengthOf_1 : decode cX1_lengthOf 1 = .ok (.ifCond .lt 11, 3) := by decide +kernel
theorem dX1_lengthOf_4 : decode cX1_lengthOf 4 = .ok (.iload_n 1, 1) := by decide +kernel
theorem dX1_lengthOf_5 : decode cX1_lengthOf 5 = .ok (.aload_n 0, 1) := by decide +kernel
theorem dX1_lengthOf_6 : decode cX1_lengthOf 6 = .ok (.getfield 33, 3) := by decide +kernel
theorem dX1_lengthOf_9 : decode cX1_lengthOf 9 = .ok (.if_icmp .lt 7, 3) := by decide +kernel
theorem dX1_lengthOf_12 : decode cX1_lengthOf 12 = .ok (.iconst 0, 1) := by decide +kernel
theorem dX1_lengthOf_13 : decode cX1_lengthOf 13 = .ok (.goto 9, 3) := by decide +kernel
theorem dX1_lengthOf_16 : decode cX1_lengthOf 16 = .ok (.aload_n 0, 1) := by decide +kernel
theorem dX1_lengthOf_17 : decode cX1_lengthOf 17 = .ok (.getfield 23, 3) := by decide +kernel
theorem dX1_lengthOf_20 : decode cX1_lengthOf 20 = .ok (.iload_n 1, 1) := by decide +kernel
theorem dX1_lengthOf_21 : decode cX1_lengthOf 21 = .ok (.iaload, 1) := by decide +kernel
theorem dX1_lengthOf_22 : decode cX1_lengthOf 22 = .ok (.ireturn, 1) := by decide +kernel
theorem dX1_member_0 : decode cX1_member 0 = .ok (.iload_n 1, 1) := by decide +kernel
theorem dX1_member_1 : decode cX1_member 1 = .ok (.ifCond .lt 25, 3) := by decide +kernel
theorem dX1_member_4 : decode cX1_member 4 = .ok (.iload_n 1, 1) := by decide +kernel
theorem dX1_member_5 : decode cX1_member 5 = .ok (.aload_n 0, 1) := by decide +kernel
theorem dX1_member_6 : decode cX1_member 6 = .ok (.getfield 33, 3) := by decide +kernel
theorem dX1_member_9 : decode cX1_member 9 = .ok (.if_icmp .ge 17, 3) := by decide +kernel
theorem dX1_member_12 : decode cX1_member 12 = .ok (.iload_n 2, 1) := by decide +kernel
theorem dX1_member_13 : decode cX1_member 13 = .ok (.ifCond .lt 13, 3) := by decide +kernel
theorem dX1_member_16 : decode cX1_member 16 = .ok (.iload_n 2, 1) := by decide +kernel
theorem dX1_member_17 : decode cX1_member 17 = .ok (.aload_n 0, 1) := by decide +kernel
theorem dX1_member_18 : decode cX1_member 18 = .ok (.getfield 23, 3) := by decide +kernel
theorem dX1_member_21 : decode cX1_member 21 = .ok (.iload_n 1, 1) := by decide +kernel
theorem dX1_member_22 : decode cX1_member 22 = .ok (.iaload, 1) := by decide +kernel
theorem dX1_member_23 : decode cX1_member 23 = .ok (.if_icmp .lt 5, 3) := by decide +kernel
theorem dX1_member_26 : decode cX1_member 26 = .ok (.iconst (-1), 1) := by decide +kernel
theorem dX1_member_27 : decode cX1_member 27 = .ok (.ireturn, 1) := by decide +kernel
theorem dX1_member_28 : decode cX1_member 28 = .ok (.aload_n 0, 1) := by decide +kernel
theorem dX1_member_29 : decode cX1_member 29 = .ok (.getfield 20, 3) := by decide +kernel
theorem dX1_member_32 : decode cX1_member 32 = .ok (.iload_n 1, 1) := by decide +kernel
theorem dX1_member_33 : decode cX1_member 33 = .ok (.aaload, 1) := by decide +kernel
theorem dX1_member_34 : decode cX1_member 34 = .ok (.iload_n 2, 1) := by decide +kernel
theorem dX1_member_35 : decode cX1_member 35 = .ok (.iaload, 1) := by decide +kernel
theorem dX1_member_36 : decode cX1_member 36 = .ok (.ireturn, 1) := by decide +kernel
theorem dX2_init_0 : decode cX2_init 0 = .ok (.aload_n 0, 1) := by decide +kernel
theorem dX2_init_1 : decode cX2_init 1 = .ok (.invokespecial 3, 3) := by decide +kernel
theorem dX2_init_4 : decode cX2_init 4 = .ok (.aload_n 0, 1) := by decide +kernel
theorem dX2_init_5 : decode cX2_init 5 = .ok (.sipush 999, 3) := by decide +kernel
theorem dX2_init_8 : decode cX2_init 8 = .ok (.putfield 9, 3) := by decide +kernel
theorem dX2_init_11 : decode cX2_init 11 = .ok (.aload_n 0, 1) := by decide +kernel
theorem dX2_init_12 : decode cX2_init 12 = .ok (.bipush 15, 2) := by decide +kernel
theorem dX2_init_14 : decode cX2_init 14 = .ok (.putfield 15, 3) := by decide +kernel
theorem dX2_init_17 : decode cX2_init 17 = .ok (.return_, 1) := by decide +kernel
theorem dX2_write_0 : decode cX2_write 0 = .ok (.aload_n 0, 1) := by decide +kernel
theorem dX2_write_1 : decode cX2_write 1 = .ok (.iload_n 1, 1) := by decide +kernel
theorem dX2_write_2 : decode cX2_write 2 = .ok (.putfield 18, 3) := by decide +kernel
theorem dX2_write_5 : decode cX2_write 5 = .ok (.aload_n 0, 1) := by decide +kernel
theorem dX2_write_6 : decode cX2_write 6 = .ok (.iload_n 2, 1) := by decide +kernel
theorem dX2_write_7 : decode cX2_write 7 = .ok (.putfield 21, 3) := by decide +kernel
theorem dX2_write_10 : decode cX2_write 10 = .ok (.aload_n 0, 1) := by decide +kernel
theorem dX2_write_11 : decode cX2_write 11 = .ok (.iload_n 3, 1) := by decide +kernel
theorem dX2_write_12 : decode cX2_write 12 = .ok (.putfield 24, 3) := by decide +kernel
theorem dX2_write_15 : decode cX2_write 15 = .ok (.aload_n 0, 1) := by decide +kernel
theorem dX2_write_16 : decode cX2_write 16 = .ok (.iload 4, 2) := by decide +kernel
theorem dX2_write_18 : decode cX2_write 18 = .ok (.putfield 27, 3) := by decide +kernel
theorem dX2_write_21 : decode cX2_write 21 = .ok (.return_, 1) := by decide +kernel
set_option maxRecDepth 100000 in
set_option maxHeartbeats 4000000 in
theorem ggX2_print_X3_mix : GoodIn wsX2_print wsX3_mix := goodIn_r _ [13] rfl (by decide +kernel)
set_option maxRecDepth 20000 in
theorem gX2_print_X3_mix_n30 : GoodIn wsX2_print (wsX3_mix) := ggX2_print_X3_mix
theorem dX2_print_0 : decode cX2_print 0 = .ok (.bipush 17, 2) := by decide +kernel
theorem dX2_print_2 : decode cX2_print 2 = .ok (.aload_n 0, 1) := by decide +kernel
theorem dX2_print_3 : decode cX2_print 3 = .ok (.getfield 18, 3) := by decide +kernel
theorem dX2_print_6 : decode cX2_print 6 = .ok (.invokestatic 30, 3) := by decide +kernel
theorem dX2_print_9 : decode cX2_print 9 = .ok (.aload_n 0, 1) := by decide +kernel
theorem dX2_print_10 : decode cX2_print 10 = .ok (.getfield 21, 3) := by decide +kernel
theorem dX2_print_13 : decode cX2_print 13 = .ok (.invokestatic 30, 3) := by decide +kernel
theorem dX2_print_16 : decode cX2_print 16 = .ok (.aload_n 0, 1) := by decide +kernel
theorem dX2_print_17 : decode cX2_print 17 = .ok (.getfield 24, 3) := by decide +kernel
theorem dX2_print_20 : decode cX2_print 20 = .ok (.invokestatic 30, 3) := by decide +kernel
theorem dX2_print_23 : decode cX2_print 23 = .ok (.aload_n 0, 1) := by decide +kernel
theorem dX2_print_24 : decode cX2_print 24 = .ok (.getfield 27, 3) := by decide +kernel
theorem dX2_print_27 : decode cX2_print 27 = .ok (.invokestatic 30, 3) := by decide +kernel
theorem dX2_print_30 : decode cX2_print 30 = .ok (.istore_n 1, 1) := by decide +kernel
theorem dX2_print_31 : decode cX2_print 31 = .ok (.iload_n 1, 1) := by decide +kernel
theorem dX2_print_32 : decode cX2_print 32 = .ok (.aload_n 0, 1) := by decide +kernel
theorem dX2_print_33 : decode cX2_print 33 = .ok (.getfield 34, 3) := by decide +kernel
theorem dX2_print_36 : decode cX2_print 36 = .ok (.invokestatic 30, 3) := by decide +kernel
theorem dX2_print_39 : decode cX2_print 39 = .ok (.aload_n 0, 1) := by decide +kernel
theorem dX2_print_40 : decode cX2_print 40 = .ok (.getfield 9, 3) := by decide +kernel
theorem dX2_print_43 : decode cX2_print 43 = .ok (.invokestatic 30, 3) := by decide +kernel
theorem dX2_print_46 : decode cX2_print 46 = .ok (.istore_n 1, 1) := by decide +kernel
theorem dX2_print_47 : decode cX2_print 47 = .ok (.iload_n 1, 1) := by decide +kernel
theorem dX2_print_48 : decode cX2_print 48 = .ok (.aload_n 0, 1) := by decide +kernel
theorem dX2_print_49 : decode cX2_print 49 = .ok (.getfield 37, 3) := by decide +kernel
theorem dX2_print_52 : decode cX2_print 52 = .ok (.ifCond .eq 7, 3) := by decide +kernel
theorem dX2_print_55 : decode cX2_print 55 = .ok (.iconst 1, 1) := by decide +kernel
theorem dX2_print_56 : decode cX2_print 56 = .ok (.goto 4, 3) := by decide +kernel
theorem dX2_print_59 : decode cX2_print 59 = .ok (.iconst 0, 1) := by decide +kernel
theorem dX2_print_60 : decode cX2_print 60 = .ok (.invokestatic 30, 3) := by decide +kernel
theorem dX2_print_63 : decode cX2_print 63 = .ok (.aload_n 0, 1) := by decide +kernel
theorem dX2_print_64 : decode cX2_print 64 = .ok (.getfield 41, 3) := by decide +kernel
theorem dX2_print_67 : decode cX2_print 67 = .ok (.invokestatic 30, 3) := by decide +kernel
theorem dX2_print_70 : decode cX2_print 70 = .ok (.istore_n 1, 1) := by decide +kernel
theorem dX2_print_71 : decode cX2_print 71 = .ok (.iload_n 1, 1) := by decide +kernel
theorem dX2_print_72 : decode cX2_print 72 = .ok (.aload_n 0, 1) := by decide +kernel
theorem dX2_print_73 : decode cX2_print 73 = .ok (.getfield 15, 3) := by decide +kernel
theorem dX2_print_76 : decode cX2_print 76 = .ok (.invokestatic 30, 3) := by decide +kernel
theorem dX2_print_79 : decode cX2_print 79 = .ok (.aload_n 0, 1) := by decide +kernel
theorem dX2_print_80 : decode cX2_print 80 = .ok (.getfield 44, 3) := by decide +kernel
theorem dX2_print_83 : decode cX2_print 83 = .ok (.invokestatic 30, 3) := by decide +kernel
theorem dX2_print_86 : decode cX2_print 86 = .ok (.ireturn, 1) := by decide +kernel
set_option maxRecDepth 100000 in
set_option maxHeartbeats 4000000 in
theorem ggX2_isSealedBy_X2_print : GoodIn wsX2_isSealedBy wsX2_print := goodIn_r _ [6, 7, 8, 9, 10, 11, 12, 13, 14, 15, 16, 17, 18, 19, 22, 23, 24, 25, 26, 27, 28, 29, 30, 31, 32, 33] rfl (by decide +kernel)
set_option maxRecDepth 20000 in
theorem gX2_isSealedBy_X2_print : GoodIn wsX2_isSealedBy (wsV RX2 50 RX2 yX2_print wsX2_print) := goodIn_app (goodIn_of _ (by decide +kernel)) ggX2_isSealedBy_X2_print
set_option maxRecDepth 100000 in
set_option maxHeartbeats 4000000 in
theorem ggX2_isSealedBy_X3_sealFor : GoodIn wsX2_isSealedBy wsX3_sealFor := goodIn_r _ [21] rfl (by decide +kernel)
set_option maxRecDepth 20000 in
theorem gX2_isSealedBy_X3_sealFor_n54 : GoodIn wsX2_isSealedBy (wsX3_sealFor) := ggX2_isSealedBy_X3_sealFor
theorem dX2_isSealedBy_0 : decode cX2_isSealedBy 0 = .ok (.aload_n 0, 1) := by decide +kernel
theorem dX2_isSealedBy_1 : decode cX2_isSealedBy 1 = .ok (.getfield 47, 3) := by decide +kernel
theorem dX2_isSealedBy_4 : decode cX2_isSealedBy 4 = .ok (.aload_n 0, 1) := by decide +kernel
theorem dX2_isSealedBy_5 : decode cX2_isSealedBy 5 = .ok (.invokevirtual 50, 3) := by decide +kernel
theorem dX2_isSealedBy_8 : decode cX2_isSealedBy 8 = .ok (.iload_n 1, 1) := by decide +kernel
theorem dX2_isSealedBy_9 : decode cX2_isSealedBy 9 = .ok (.invokestatic 54, 3) := by decide +kernel
theorem dX2_isSealedBy_12 : decode cX2_isSealedBy 12 = .ok (.if_icmp .ne 7, 3) := by decide +kernel
theorem dX2_isSealedBy_15 : decode cX2_isSealedBy 15 = .ok (.iconst 1, 1) := by decide +kernel
theorem dX2_isSealedBy_16 : decode cX2_isSealedBy 16 = .ok (.goto 4, 3) := by decide +kernel
theorem dX2_isSealedBy_19 : decode cX2_isSealedBy 19 = .ok (.iconst 0, 1) := by decide +kernel
theorem dX2_isSealedBy_20 : decode cX2_isSealedBy 20 = .ok (.ireturn, 1) := by decide +kernel
theorem dX2_flawAlone_0 : decode cX2_flawAlone 0 = .ok (.iload_n 1, 1) := by decide +kernel
theorem dX2_flawAlone_1 : decode cX2_flawAlone 1 = .ok (.aload_n 0, 1) := by decide +kernel
theorem dX2_flawAlone_2 : decode cX2_flawAlone 2 = .ok (.getfield 34, 3) := by decide +kernel
theorem dX2_flawAlone_5 : decode cX2_flawAlone 5 = .ok (.if_icmp .ge 5, 3) := by decide +kernel
theorem dX2_flawAlone_8 : decode cX2_flawAlone 8 = .ok (.iconst 1, 1) := by decide +kernel
theorem dX2_flawAlone_9 : decode cX2_flawAlone 9 = .ok (.ireturn, 1) := by decide +kernel
theorem dX2_flawAlone_10 : decode cX2_flawAlone 10 = .ok (.iload_n 1, 1) := by decide +kernel
theorem dX2_flawAlone_11 : decode cX2_flawAlone 11 = .ok (.aload_n 0, 1) := by decide +kernel
theorem dX2_flawAlone_12 : decode cX2_flawAlone 12 = .ok (.getfield 9, 3) := by decide +kernel
theorem dX2_flawAlone_15 : decode cX2_flawAlone 15 = .ok (.if_icmp .le 5, 3) := by decide +kernel
theorem dX2_flawAlone_18 : decode cX2_flawAlone 18 = .ok (.iconst 2, 1) := by decide +kernel
theorem dX2_flawAlone_19 : decode cX2_flawAlone 19 = .ok (.ireturn, 1) := by decide +kernel
theorem dX2_flawAlone_20 : decode cX2_flawAlone 20 = .ok (.aload_n 0, 1) := by decide +kernel
theorem dX2_flawAlone_21 : decode cX2_flawAlone 21 = .ok (.getfield 15, 3) := by decide +kernel
theorem dX2_flawAlone_24 : decode cX2_flawAlone 24 = .ok (.iload_n 2, 1) := by decide +kernel
theorem dX2_flawAlone_25 : decode cX2_flawAlone 25 = .ok (.ishr, 1) := by decide +kernel
theorem dX2_flawAlone_26 : decode cX2_flawAlone 26 = .ok (.iconst 1, 1) := by decide +kernel
theorem dX2_flawAlone_27 : decode cX2_flawAlone 27 = .ok (.iand, 1) := by decide +kernel
theorem dX2_flawAlone_28 : decode cX2_flawAlone 28 = .ok (.ifCond .ne 7, 3) := by decide +kernel
theorem dX2_flawAlone_31 : decode cX2_flawAlone 31 = .ok (.iconst 3, 1) := by decide +kernel
theorem dX2_flawAlone_32 : decode cX2_flawAlone 32 = .ok (.goto 4, 3) := by decide +kernel
theorem dX2_flawAlone_35 : decode cX2_flawAlone 35 = .ok (.iconst 0, 1) := by decide +kernel
theorem dX2_flawAlone_36 : decode cX2_flawAlone 36 = .ok (.ireturn, 1) := by decide +kernel
set_option maxRecDepth 100000 in
set_option maxHeartbeats 4000000 in
theorem ggX2_property_X2_print : GoodIn wsX2_property wsX2_print := goodIn_r _ [17, 1, 2, 3, 4, 5, 6, 7, 8, 9, 10, 18, 19, 20, 21, 22, 23, 24, 25, 26, 27, 28, 29, 30, 31, 32] rfl (by decide +kernel)
set_option maxRecDepth 20000 in
theorem gX2_property_X2_print : GoodIn wsX2_property (wsV RX2 50 RX2 yX2_print wsX2_print) := goodIn_app (goodIn_of _ (by decide +kernel)) ggX2_property_X2_print
theorem dX2_property_0 : decode cX2_property 0 = .ok (.iload_n 1, 1) := by decide +kernel
theorem dX2_property_1 : decode cX2_property 1 = .ok (.tableswitch 131 0 11 #[63, 68, 73, 78, 83, 88, 93, 106, 111, 116, 121, 126], 63) := by decide +kernel
theorem dX2_property_64 : decode cX2_property 64 = .ok (.aload_n 0, 1) := by decide +kernel
theorem dX2_property_65 : decode cX2_property 65 = .ok (.getfield 18, 3) := by decide +kernel
theorem dX2_property_68 : decode cX2_property 68 = .ok (.ireturn, 1) := by decide +kernel
theorem dX2_property_69 : decode cX2_property 69 = .ok (.aload_n 0, 1) := by decide +kernel
theorem dX2_property_70 : decode cX2_property 70 = .ok (.getfield 21, 3) := by decide +kernel
theorem dX2_property_73 : decode cX2_property 73 = .ok (.ireturn, 1) := by decide +kernel
theorem dX2_property_74 : decode cX2_property 74 = .ok (.aload_n 0, 1) := by decide +kernel
theorem dX2_property_75 : decode cX2_property 75 = .ok (.getfield 24, 3) := by decide +kernel
theorem dX2_property_78 : decode cX2_property 78 = .ok (.ireturn, 1) := by decide +kernel
theorem dX2_property_79 : decode cX2_property 79 = .ok (.aload_n 0, 1) := by decide +kernel
theorem dX2_property_80 : decode cX2_property 80 = .ok (.getfield 27, 3) := by decide +kernel
theorem dX2_property_83 : decode cX2_property 83 = .ok (.ireturn, 1) := by decide +kernel
theorem dX2_property_84 : decode cX2_property 84 = .ok (.aload_n 0, 1) := by decide +kernel
theorem dX2_property_85 : decode cX2_property 85 = .ok (.getfield 34, 3) := by decide +kernel
theorem dX2_property_88 : decode cX2_property 88 = .ok (.ireturn, 1) := by decide +kernel
theorem dX2_property_89 : decode cX2_property 89 = .ok (.aload_n 0, 1) := by decide +kernel
theorem dX2_property_90 : decode cX2_property 90 = .ok (.getfield 9, 3) := by decide +kernel
theorem dX2_property_93 : decode cX2_property 93 = .ok (.ireturn, 1) := by decide +kernel
theorem dX2_property_94 : decode cX2_property 94 = .ok (.aload_n 0, 1) := by decide +kernel
theorem dX2_property_95 : decode cX2_property 95 = .ok (.getfield 37, 3) := by decide +kernel
theorem dX2_property_98 : decode cX2_property 98 = .ok (.ifCond .eq 7, 3) := by decide +kernel
theorem dX2_property_101 : decode cX2_property 101 = .ok (.iconst 1, 1) := by decide +kernel
theorem dX2_property_102 : decode cX2_property 102 = .ok (.goto 4, 3) := by decide +kernel
theorem dX2_property_105 : decode cX2_property 105 = .ok (.iconst 0, 1) := by decide +kernel
theorem dX2_property_106 : decode cX2_property 106 = .ok (.ireturn, 1) := by decide +kernel
theorem dX2_property_107 : decode cX2_property 107 = .ok (.aload_n 0, 1) := by decide +kernel
theorem dX2_property_108 : decode cX2_property 108 = .ok (.getfield 41, 3) := by decide +kernel
theorem dX2_property_111 : decode cX2_property 111 = .ok (.ireturn, 1) := by decide +kernel
theorem dX2_property_112 : decode cX2_property 112 = .ok (.aload_n 0, 1) := by decide +kernel
theorem dX2_property_113 : decode cX2_property 113 = .ok (.getfield 15, 3) := by decide +kernel
theorem dX2_property_116 : decode cX2_property 116 = .ok (.ireturn, 1) := by decide +kernel
theorem dX2_property_117 : decode cX2_property 117 = .ok (.aload_n 0, 1) := by decide +kernel
theorem dX2_property_118 : decode cX2_property 118 = .ok (.getfield 44, 3) := by decide +kernel
theorem dX2_property_121 : decode cX2_property 121 = .ok (.ireturn, 1) := by decide +kernel
theorem dX2_property_122 : decode cX2_property 122 = .ok (.aload_n 0, 1) := by decide +kernel
theorem dX2_property_123 : decode cX2_property 123 = .ok (.getfield 47, 3) := by decide +kernel
theorem dX2_property_126 : decode cX2_property 126 = .ok (.ireturn, 1) := by decide +kernel
theorem dX2_property_127 : decode cX2_property 127 = .ok (.aload_n 0, 1) := by decide +kernel
theorem dX2_property_128 : decode cX2_property 128 = .ok (.invokevirtual 50, 3) := by decide +kernel
theorem dX2_property_131 : decode cX2_property 131 = .ok (.ireturn, 1) := by decide +kernel
theorem dX2_property_132 : decode cX2_property 132 = .ok (.aload_n 0, 1) := by decide +kernel
theorem dX2_property_133 : decode cX2_property 133 = .ok (.getfield 57, 3) := by decide +kernel
theorem dX2_property_136 : decode cX2_property 136 = .ok (.ifCond .eq 7, 3) := by decide +kernel
theorem dX2_property_139 : decode cX2_property 139 = .ok (.iconst 1, 1) := by decide +kernel
theorem dX2_property_140 : decode cX2_property 140 = .ok (.goto 4, 3) := by decide +kernel
theorem dX2_property_143 : decode cX2_property 143 = .ok (.iconst 0, 1) := by decide +kernel
theorem dX2_property_144 : decode cX2_property 144 = .ok (.ireturn, 1) := by decide +kernel
set_option maxRecDepth 100000 in
set_option maxHeartbeats 4000000 in
theorem ggX3_init_X1_init : GoodIn wsX3_init wsX1_init := goodIn_r _ [19, 20, 2, 3, 12, 21, 22, 23, 24, 25, 26, 42, 43, 44, 45, 46, 47, 48] rfl (by decide +kernel)
set_option maxRecDepth 20000 in
theorem gX3_init_X1_init_n23 : GoodIn wsX3_init (wsX1_init) := ggX3_init_X1_init
set_option maxRecDepth 100000 in
set_option maxHeartbeats 4000000 in
theorem ggX3_init_X2_init : GoodIn wsX3_init wsX2_init := goodIn_r _ [28, 29, 2, 3, 30, 31, 49, 50, 51, 52, 53, 54, 55, 56, 57, 58, 59, 60] rfl (by decide +kernel)
set_option maxRecDepth 20000 in
theorem gX3_init_X2_init_n32 : GoodIn wsX3_init (wsX2_init) := ggX3_init_X2_init
set_option maxRecDepth 100000 in
set_option maxHeartbeats 4000000 in
theorem ggX3_init_X0_init : GoodIn wsX3_init wsX0_init := goodIn_r _ [33, 34, 2, 3] rfl (by decide +kernel)
set_option maxRecDepth 20000 in
theorem gX3_init_X0_init_n33 : GoodIn wsX3_init (wsX0_init) := ggX3_init_X0_init
theorem dX3_init_0 : decode cX3_init 0 = .ok (.aload_n 0, 1) := by decide +kernel
theorem dX3_init_1 : decode cX3_init 1 = .ok (.invokespecial 1, 3) := by decide +kernel
theorem dX3_init_4 : decode cX3_init 4 = .ok (.aload_n 0, 1) := by decide +kernel
theorem dX3_init_5 : decode cX3_init 5 = .ok (.bipush 20, 2) := by decide +kernel
theorem dX3_init_7 : decode cX3_init 7 = .ok (.anewarray 9, 3) := by decide +kernel
theorem dX3_init_10 : decode cX3_init 10 = .ok (.putfield 11, 3) := by decide +kernel
theorem dX3_init_13 : decode cX3_init 13 = .ok (.aload_n 0, 1) := by decide +kernel
theorem dX3_init_14 : decode cX3_init 14 = .ok (.bipush 8, 2) := by decide +kernel
theorem dX3_init_16 : decode cX3_init 16 = .ok (.anewarray 15, 3) := by decide +kernel
theorem dX3_init_19 : decode cX3_init 19 = .ok (.putfield 17, 3) := by decide +kernel
theorem dX3_init_22 : decode cX3_init 22 = .ok (.aload_n 0, 1) := by decide +kernel
theorem dX3_init_23 : decode cX3_init 23 = .ok (.new 21, 3) := by decide +kernel
theorem dX3_init_26 : decode cX3_init 26 = .ok (.dup, 1) := by decide +kernel
theorem dX3_init_27 : decode cX3_init 27 = .ok (.invokespecial 23, 3) := by decide +kernel
theorem dX3_init_30 : decode cX3_init 30 = .ok (.putfield 24, 3) := by decide +kernel
theorem dX3_init_33 : decode cX3_init 33 = .ok (.aload_n 0, 1) := by decide +kernel
theorem dX3_init_34 : decode cX3_init 34 = .ok (.bipush 20, 2) := by decide +kernel
theorem dX3_init_36 : decode cX3_init 36 = .ok (.newarray .int, 2) := by decide +kernel
theorem dX3_init_38 : decode cX3_init 38 = .ok (.putfield 28, 3) := by decide +kernel
theorem dX3_init_41 : decode cX3_init 41 = .ok (.iconst 0, 1) := by decide +kernel
theorem dX3_init_42 : decode cX3_init 42 = .ok (.istore_n 1, 1) := by decide +kernel
theorem dX3_init_43 : decode cX3_init 43 = .ok (.iload_n 1, 1) := by decide +kernel
theorem dX3_init_44 : decode cX3_init 44 = .ok (.bipush 20, 2) := by decide +kernel
theorem dX3_init_46 : decode cX3_init 46 = .ok (.if_icmp .ge 22, 3) := by decide +kernel
theorem dX3_init_49 : decode cX3_init 49 = .ok (.aload_n 0, 1) := by decide +kernel
theorem dX3_init_50 : decode cX3_init 50 = .ok (.getfield 11, 3) := by decide +kernel
theorem dX3_init_53 : decode cX3_init 53 = .ok (.iload_n 1, 1) := by decide +kernel
theorem dX3_init_54 : decode cX3_init 54 = .ok (.new 9, 3) := by decide +kernel
theorem dX3_init_57 : decode cX3_init 57 = .ok (.dup, 1) := by decide +kernel
theorem dX3_init_58 : decode cX3_init 58 = .ok (.invokespecial 32, 3) := by decide +kernel
theorem dX3_init_61 : decode cX3_init 61 = .ok (.aastore, 1) := by decide +kernel
theorem dX3_init_62 : decode cX3_init 62 = .ok (.iinc 1 1, 3) := by decide +kernel
theorem dX3_init_65 : decode cX3_init 65 = .ok (.goto (-22), 3) := by decide +kernel
theorem dX3_init_68 : decode cX3_init 68 = .ok (.iconst 0, 1) := by decide +kernel
theorem dX3_init_69 : decode cX3_init 69 = .ok (.istore_n 1, 1) := by decide +kernel
theorem dX3_init_70 : decode cX3_init 70 = .ok (.iload_n 1, 1) := by decide +kernel
theorem dX3_init_71 : decode cX3_init 71 = .ok (.bipush 8, 2) := by decide +kernel
theorem dX3_init_73 : decode cX3_init 73 = .ok (.if_icmp .ge 22, 3) := by decide +kernel
theorem dX3_init_76 : decode cX3_init 76 = .ok (.aload_n 0, 1) := by decide +kernel
theorem dX3_init_77 : decode cX3_init 77 = .ok (.getfield 17, 3) := by decide +kernel
theorem dX3_init_80 : decode cX3_init 80 = .ok (.iload_n 1, 1) := by decide +kernel
theorem dX3_init_81 : decode cX3_init 81 = .ok (.new 15, 3) := by decide +kernel
theorem dX3_init_84 : decode cX3_init 84 = .ok (.dup, 1) := by decide +kernel
theorem dX3_init_85 : decode cX3_init 85 = .ok (.invokespecial 33, 3) := by decide +kernel
theorem dX3_init_88 : decode cX3_init 88 = .ok (.aastore, 1) := by decide +kernel
theorem dX3_init_89 : decode cX3_init 89 = .ok (.iinc 1 1, 3) := by decide +kernel
theorem dX3_init_92 : decode cX3_init 92 = .ok (.goto (-22), 3) := by decide +kernel
theorem dX3_init_95 : decode cX3_init 95 = .ok (.return_, 1) := by decide +kernel
set_option maxRecDepth 100000 in
set_option maxHeartbeats 4000000 in
theorem ggX3_letter_X3_isName : GoodIn wsX3_letter wsX3_isName := goodIn_r _ [8] rfl (by decide +kernel)
set_option maxRecDepth 20000 in
theorem gX3_letter_X3_isName : GoodIn wsX3_letter (va_wsS RX3 34 yX3_isName wsX3_isName) := goodIn_app (goodIn_of _ (by decide +kernel)) ggX3_letter_X3_isName
set_option maxRecDepth 100000 in
set_option maxHeartbeats 4000000 in
theorem ggX3_letter_X3_isKey : GoodIn wsX3_letter wsX3_isKey := goodIn_r _ [11, 12, 13, 7, 14] rfl (by decide +kernel)
set_option maxRecDepth 20000 in
theorem gX3_letter_X3_isKey : GoodIn wsX3_letter (va_wsS RX3 38 yX3_isKey wsX3_isKey) := goodIn_app (goodIn_of _ (by decide +kernel)) ggX3_letter_X3_isKey
set_option maxRecDepth 100000 in
set_option maxHeartbeats 4000000 in
theorem ggX3_letter_X3_isSerial : GoodIn wsX3_letter wsX3_isSerial := goodIn_r _ [17, 12, 13, 7, 14] rfl (by decide +kernel)
set_option maxRecDepth 20000 in
theorem gX3_letter_X3_isSerial : GoodIn wsX3_letter (va_wsS RX3 41 yX3_isSerial wsX3_isSerial) := goodIn_app (goodIn_of _ (by decide +kernel)) ggX3_letter_X3_isSerial
set_option maxRecDepth 100000 in
set_option maxHeartbeats 4000000 in
theorem ggX3_letter_X3_refuseUnless : GoodIn wsX3_letter wsX3_refuseUnless := goodIn_ca (goodIn_r _ [20, 21, 22] rfl (by decide +kernel)) (goodIn_sub (fun _ h => List.mem_cons_of_mem _ (List.mem_append_right _ h)) (by decide +kernel))
set_option maxRecDepth 20000 in
theorem gX3_letter_X3_refuseUnless : GoodIn wsX3_letter (va_wsS RX3 44 yX3_refuseUnless wsX3_refuseUnless) := goodIn_app (goodIn_of _ (by decide +kernel)) ggX3_letter_X3_refuseUnless
set_option maxRecDepth 100000 in
set_option maxHeartbeats 4000000 in
theorem ggX3_letter_X2_write : GoodIn wsX3_letter wsX2_write := goodIn_r _ [26, 27, 28, 29, 30, 38, 39, 40, 41, 42, 43, 44, 45, 46, 47, 48, 49] rfl (by decide +kernel)
set_option maxRecDepth 20000 in
theorem gX3_letter_X2_write_n59 : GoodIn wsX3_letter (wsX2_write) := ggX3_letter_X2_write
theorem dX3_letter_0 : decode cX3_letter 0 = .ok (.iload_n 1, 1) := by decide +kernel
theorem dX3_letter_1 : decode cX3_letter 1 = .ok (.invokestatic 34, 3) := by decide +kernel
theorem dX3_letter_4 : decode cX3_letter 4 = .ok (.ifCond .eq 29, 3) := by decide +kernel
theorem dX3_letter_7 : decode cX3_letter 7 = .ok (.iload_n 2, 1) := by decide +kernel
theorem dX3_letter_8 : decode cX3_letter 8 = .ok (.invokestatic 34, 3) := by decide +kernel
theorem dX3_letter_11 : decode cX3_letter 11 = .ok (.ifCond .eq 22, 3) := by decide +kernel
theorem dX3_letter_14 : decode cX3_letter 14 = .ok (.iload_n 3, 1) := by decide +kernel
theorem dX3_letter_15 : decode cX3_letter 15 = .ok (.invokestatic 38, 3) := by decide +kernel
theorem dX3_letter_18 : decode cX3_letter 18 = .ok (.ifCond .eq 15, 3) := by decide +kernel
theorem dX3_letter_21 : decode cX3_letter 21 = .ok (.iload 4, 2) := by decide +kernel
theorem dX3_letter_23 : decode cX3_letter 23 = .ok (.invokestatic 41, 3) := by decide +kernel
theorem dX3_letter_26 : decode cX3_letter 26 = .ok (.ifCond .eq 7, 3) := by decide +kernel
theorem dX3_letter_29 : decode cX3_letter 29 = .ok (.iconst 1, 1) := by decide +kernel
theorem dX3_letter_30 : decode cX3_letter 30 = .ok (.goto 4, 3) := by decide +kernel
theorem dX3_letter_33 : decode cX3_letter 33 = .ok (.iconst 0, 1) := by decide +kernel
theorem dX3_letter_34 : decode cX3_letter 34 = .ok (.invokestatic 44, 3) := by decide +kernel
theorem dX3_letter_37 : decode cX3_letter 37 = .ok (.aload_n 0, 1) := by decide +kernel
theorem dX3_letter_38 : decode cX3_letter 38 = .ok (.getfield 48, 3) := by decide +kernel
theorem dX3_letter_41 : decode cX3_letter 41 = .ok (.bipush 20, 2) := by decide +kernel
theorem dX3_letter_43 : decode cX3_letter 43 = .ok (.if_icmp .lt 13, 3) := by decide +kernel
theorem dX3_letter_46 : decode cX3_letter 46 = .ok (.new 52, 3) := by decide +kernel
theorem dX3_letter_49 : decode cX3_letter 49 = .ok (.dup, 1) := by decide +kernel
theorem dX3_letter_50 : decode cX3_letter 50 = .ok (.ldc 54, 2) := by decide +kernel
theorem dX3_letter_52 : decode cX3_letter 52 = .ok (.invokespecial 56, 3) := by decide +kernel
theorem dX3_letter_55 : decode cX3_letter 55 = .ok (.athrow, 1) := by decide +kernel
theorem dX3_letter_56 : decode cX3_letter 56 = .ok (.aload_n 0, 1) := by decide +kernel
theorem dX3_letter_57 : decode cX3_letter 57 = .ok (.getfield 48, 3) := by decide +kernel
theorem dX3_letter_60 : decode cX3_letter 60 = .ok (.istore 5, 2) := by decide +kernel
theorem dX3_letter_62 : decode cX3_letter 62 = .ok (.aload_n 0, 1) := by decide +kernel
theorem dX3_letter_63 : decode cX3_letter 63 = .ok (.getfield 11, 3) := by decide +kernel
theorem dX3_letter_66 : decode cX3_letter 66 = .ok (.iload 5, 2) := by decide +kernel
theorem dX3_letter_68 : decode cX3_letter 68 = .ok (.aaload, 1) := by decide +kernel
theorem dX3_letter_69 : decode cX3_letter 69 = .ok (.iload_n 1, 1) := by decide +kernel
theorem dX3_letter_70 : decode cX3_letter 70 = .ok (.iload_n 2, 1) := by decide +kernel
theorem dX3_letter_71 : decode cX3_letter 71 = .ok (.iload_n 3, 1) := by decide +kernel
theorem dX3_letter_72 : decode cX3_letter 72 = .ok (.iload 4, 2) := by decide +kernel
theorem dX3_letter_74 : decode cX3_letter 74 = .ok (.invokevirtual 59, 3) := by decide +kernel
theorem dX3_letter_77 : decode cX3_letter 77 = .ok (.aload_n 0, 1) := by decide +kernel
theorem dX3_letter_78 : decode cX3_letter 78 = .ok (.iload 5, 2) := by decide +kernel
theorem dX3_letter_80 : decode cX3_letter 80 = .ok (.iconst 1, 1) := by decide +kernel
theorem dX3_letter_81 : decode cX3_letter 81 = .ok (.iadd, 1) := by decide +kernel
theorem dX3_letter_82 : decode cX3_letter 82 = .ok (.putfield 48, 3) := by decide +kernel
theorem dX3_letter_85 : decode cX3_letter 85 = .ok (.iload 5, 2) := by decide +kernel
theorem dX3_letter_87 : decode cX3_letter 87 = .ok (.ireturn, 1) := by decide +kernel
set_option maxRecDepth 100000 in
set_option maxHeartbeats 4000000 in
theorem ggX3_times_X3_refuseUnlessLetter : GoodIn wsX3_times wsX3_refuseUnlessLetter := goodIn_ca (goodIn_r _ [6, 7, 8, 9, 10, 11, 5, 12, 13, 41, 42, 43, 44, 45, 46, 47] rfl (by decide +kernel)) (goodIn_sub (fun _ h => List.mem_cons_of_mem _ (List.mem_append_left _ (List.mem_append_right _ h))) (by decide +kernel))
set_option maxRecDepth 20000 in
theorem gX3_times_X3_refuseUnlessLetter : GoodIn wsX3_times (wsV RX3 63 RX3 yX3_refuseUnlessLetter wsX3_refuseUnlessLetter) := goodIn_app (goodIn_of _ (by decide +kernel)) ggX3_times_X3_refuseUnlessLetter
set_option maxRecDepth 100000 in
set_option maxHeartbeats 4000000 in
theorem ggX3_times_X3_isTime : GoodIn wsX3_times wsX3_isTime := goodIn_r _ [16, 17, 18, 5, 19] rfl (by decide +kernel)
set_option maxRecDepth 20000 in
theorem gX3_times_X3_isTime : GoodIn wsX3_times (va_wsS RX3 67 yX3_isTime wsX3_isTime) := goodIn_app (goodIn_of _ (by decide +kernel)) ggX3_times_X3_isTime
set_option maxRecDepth 100000 in
set_option maxHeartbeats 4000000 in
theorem ggX3_times_X3_refuseUnless : GoodIn wsX3_times wsX3_refuseUnless := goodIn_ca (goodIn_r _ [22, 23, 24] rfl (by decide +kernel)) (goodIn_sub (fun _ h => List.mem_cons_of_mem _ (List.mem_append_right _ h)) (by decide +kernel))
set_option maxRecDepth 20000 in
theorem gX3_times_X3_refuseUnless : GoodIn wsX3_times (va_wsS RX3 44 yX3_refuseUnless wsX3_refuseUnless) := goodIn_app (goodIn_of _ (by decide +kernel)) ggX3_times_X3_refuseUnless
set_option maxRecDepth 100000 in
set_option maxHeartbeats 4000000 in
theorem ggX3_times_X2_print : GoodIn wsX3_times wsX2_print := goodIn_r _ [28, 29, 30, 31, 32, 33, 34, 35, 36, 37, 38, 39, 5, 40, 48, 49, 50, 51, 52, 53, 54, 55, 56, 57, 58, 59] rfl (by decide +kernel)
set_option maxRecDepth 20000 in
theorem gX3_times_X2_print_n76 : GoodIn wsX3_times (wsX2_print) := ggX3_times_X2_print
theorem dX3_times_0 : decode cX3_times 0 = .ok (.aload_n 0, 1) := by decide +kernel
theorem dX3_times_1 : decode cX3_times 1 = .ok (.iload_n 1, 1) := by decide +kernel
theorem dX3_times_2 : decode cX3_times 2 = .ok (.invokevirtual 63, 3) := by decide +kernel
theorem dX3_times_5 : decode cX3_times 5 = .ok (.iload_n 2, 1) := by decide +kernel
theorem dX3_times_6 : decode cX3_times 6 = .ok (.invokestatic 67, 3) := by decide +kernel
theorem dX3_times_9 : decode cX3_times 9 = .ok (.ifCond .eq 19, 3) := by decide +kernel
theorem dX3_times_12 : decode cX3_times 12 = .ok (.iload_n 3, 1) := by decide +kernel
theorem dX3_times_13 : decode cX3_times 13 = .ok (.invokestatic 67, 3) := by decide +kernel
theorem dX3_times_16 : decode cX3_times 16 = .ok (.ifCond .eq 12, 3) := by decide +kernel
theorem dX3_times_19 : decode cX3_times 19 = .ok (.iload_n 2, 1) := by decide +kernel
theorem dX3_times_20 : decode cX3_times 20 = .ok (.iload_n 3, 1) := by decide +kernel
theorem dX3_times_21 : decode cX3_times 21 = .ok (.if_icmp .gt 7, 3) := by decide +kernel
theorem dX3_times_24 : decode cX3_times 24 = .ok (.iconst 1, 1) := by decide +kernel
theorem dX3_times_25 : decode cX3_times 25 = .ok (.goto 4, 3) := by decide +kernel
theorem dX3_times_28 : decode cX3_times 28 = .ok (.iconst 0, 1) := by decide +kernel
theorem dX3_times_29 : decode cX3_times 29 = .ok (.invokestatic 44, 3) := by decide +kernel
theorem dX3_times_32 : decode cX3_times 32 = .ok (.aload_n 0, 1) := by decide +kernel
theorem dX3_times_33 : decode cX3_times 33 = .ok (.getfield 11, 3) := by decide +kernel
theorem dX3_times_36 : decode cX3_times 36 = .ok (.iload_n 1, 1) := by decide +kernel
theorem dX3_times_37 : decode cX3_times 37 = .ok (.aaload, 1) := by decide +kernel
theorem dX3_times_38 : decode cX3_times 38 = .ok (.iload_n 2, 1) := by decide +kernel
theorem dX3_times_39 : decode cX3_times 39 = .ok (.putfield 70, 3) := by decide +kernel
theorem dX3_times_42 : decode cX3_times 42 = .ok (.aload_n 0, 1) := by decide +kernel
theorem dX3_times_43 : decode cX3_times 43 = .ok (.getfield 11, 3) := by decide +kernel
theorem dX3_times_46 : decode cX3_times 46 = .ok (.iload_n 1, 1) := by decide +kernel
theorem dX3_times_47 : decode cX3_times 47 = .ok (.aaload, 1) := by decide +kernel
theorem dX3_times_48 : decode cX3_times 48 = .ok (.iload_n 3, 1) := by decide +kernel
theorem dX3_times_49 : decode cX3_times 49 = .ok (.putfield 73, 3) := by decide +kernel
theorem dX3_times_52 : decode cX3_times 52 = .ok (.aload_n 0, 1) := by decide +kernel
theorem dX3_times_53 : decode cX3_times 53 = .ok (.getfield 11, 3) := by decide +kernel
theorem dX3_times_56 : decode cX3_times 56 = .ok (.iload_n 1, 1) := by decide +kernel
theorem dX3_times_57 : decode cX3_times 57 = .ok (.aaload, 1) := by decide +kernel
theorem dX3_times_58 : decode cX3_times 58 = .ok (.invokevirtual 76, 3) := by decide +kernel
theorem dX3_times_61 : decode cX3_times 61 = .ok (.ireturn, 1) := by decide +kernel
set_option maxRecDepth 100000 in
set_option maxHeartbeats 4000000 in
theorem ggX3_master_X3_refuseUnlessLetter : GoodIn wsX3_master wsX3_refuseUnlessLetter := goodIn_ca (goodIn_r _ [6, 7, 8, 9, 10, 11, 5, 12, 13, 38, 39, 40, 41, 42, 43, 44] rfl (by decide +kernel)) (goodIn_sub (fun _ h => List.mem_cons_of_mem _ (List.mem_append_left _ (List.mem_append_right _ h))) (by decide +kernel))
set_option maxRecDepth 20000 in
theorem gX3_master_X3_refuseUnlessLetter : GoodIn wsX3_master (wsV RX3 63 RX3 yX3_refuseUnlessLetter wsX3_refuseUnlessLetter) := goodIn_app (goodIn_of _ (by decide +kernel)) ggX3_master_X3_refuseUnlessLetter
set_option maxRecDepth 100000 in
set_option maxHeartbeats 4000000 in
theorem ggX3_master_X3_isWithin : GoodIn wsX3_master wsX3_isWithin := goodIn_r _ [16] rfl (by decide +kernel)
set_option maxRecDepth 20000 in
theorem gX3_master_X3_isWithin : GoodIn wsX3_master (va_wsS RX3 80 yX3_isWithin wsX3_isWithin) := goodIn_app (goodIn_of _ (by decide +kernel)) ggX3_master_X3_isWithin
set_option maxRecDepth 100000 in
set_option maxHeartbeats 4000000 in
theorem ggX3_master_X3_refuseUnless : GoodIn wsX3_master wsX3_refuseUnless := goodIn_ca (goodIn_r _ [19, 20, 21] rfl (by decide +kernel)) (goodIn_sub (fun _ h => List.mem_cons_of_mem _ (List.mem_append_right _ h)) (by decide +kernel))
set_option maxRecDepth 20000 in
theorem gX3_master_X3_refuseUnless : GoodIn wsX3_master (va_wsS RX3 44 yX3_refuseUnless wsX3_refuseUnless) := goodIn_app (goodIn_of _ (by decide +kernel)) ggX3_master_X3_refuseUnless
set_option maxRecDepth 100000 in
set_option maxHeartbeats 4000000 in
theorem ggX3_master_X2_print : GoodIn wsX3_master wsX2_print := goodIn_r _ [25, 26, 27, 28, 29, 30, 31, 32, 33, 34, 35, 36, 5, 37, 45, 46, 47, 48, 49, 50, 51, 52, 53, 54, 55, 56] rfl (by decide +kernel)
set_option maxRecDepth 20000 in
theorem gX3_master_X2_print_n76 : GoodIn wsX3_master (wsX2_print) := ggX3_master_X2_print
theorem dX3_master_0 : decode cX3_master 0 = .ok (.aload_n 0, 1) := by decide +kernel
theorem dX3_master_1 : decode cX3_master 1 = .ok (.iload_n 1, 1) := by decide +kernel
theorem dX3_master_2 : decode cX3_master 2 = .ok (.invokevirtual 63, 3) := by decide +kernel
theorem dX3_master_5 : decode cX3_master 5 = .ok (.iload_n 3, 1) := by decide +kernel
theorem dX3_master_6 : decode cX3_master 6 = .ok (.iconst 5, 1) := by decide +kernel
theorem dX3_master_7 : decode cX3_master 7 = .ok (.invokestatic 80, 3) := by decide +kernel
theorem dX3_master_10 : decode cX3_master 10 = .ok (.invokestatic 44, 3) := by decide +kernel
theorem dX3_master_13 : decode cX3_master 13 = .ok (.aload_n 0, 1) := by decide +kernel
theorem dX3_master_14 : decode cX3_master 14 = .ok (.getfield 11, 3) := by decide +kernel
theorem dX3_master_17 : decode cX3_master 17 = .ok (.iload_n 1, 1) := by decide +kernel
theorem dX3_master_18 : decode cX3_master 18 = .ok (.aaload, 1) := by decide +kernel
theorem dX3_master_19 : decode cX3_master 19 = .ok (.iload_n 2, 1) := by decide +kernel
theorem dX3_master_20 : decode cX3_master 20 = .ok (.putfield 84, 3) := by decide +kernel
theorem dX3_master_23 : decode cX3_master 23 = .ok (.aload_n 0, 1) := by decide +kernel
theorem dX3_master_24 : decode cX3_master 24 = .ok (.getfield 11, 3) := by decide +kernel
theorem dX3_master_27 : decode cX3_master 27 = .ok (.iload_n 1, 1) := by decide +kernel
theorem dX3_master_28 : decode cX3_master 28 = .ok (.aaload, 1) := by decide +kernel
theorem dX3_master_29 : decode cX3_master 29 = .ok (.iload_n 3, 1) := by decide +kernel
theorem dX3_master_30 : decode cX3_master 30 = .ok (.putfield 88, 3) := by decide +kernel
theorem dX3_master_33 : decode cX3_master 33 = .ok (.aload_n 0, 1) := by decide +kernel
theorem dX3_master_34 : decode cX3_master 34 = .ok (.getfield 11, 3) := by decide +kernel
theorem dX3_master_37 : decode cX3_master 37 = .ok (.iload_n 1, 1) := by decide +kernel
theorem dX3_master_38 : decode cX3_master 38 = .ok (.aaload, 1) := by decide +kernel
theorem dX3_master_39 : decode cX3_master 39 = .ok (.invokevirtual 76, 3) := by decide +kernel
theorem dX3_master_42 : decode cX3_master 42 = .ok (.ireturn, 1) := by decide +kernel
set_option maxRecDepth 100000 in
set_option maxHeartbeats 4000000 in
theorem ggX3_good_X3_refuseUnlessLetter : GoodIn wsX3_good wsX3_refuseUnlessLetter := goodIn_ca (goodIn_r _ [6, 7, 8, 9, 10, 11, 5, 12, 13, 44, 45, 46, 47, 48, 49, 50] rfl (by decide +kernel)) (goodIn_sub (fun _ h => List.mem_cons_of_mem _ (List.mem_append_left _ (List.mem_append_right _ h))) (by decide +kernel))
set_option maxRecDepth 20000 in
theorem gX3_good_X3_refuseUnlessLetter : GoodIn wsX3_good (wsV RX3 63 RX3 yX3_refuseUnlessLetter wsX3_refuseUnlessLetter) := goodIn_app (goodIn_of _ (by decide +kernel)) ggX3_good_X3_refuseUnlessLetter
set_option maxRecDepth 100000 in
set_option maxHeartbeats 4000000 in
theorem ggX3_good_X3_isWithin : GoodIn wsX3_good wsX3_isWithin := goodIn_r _ [16] rfl (by decide +kernel)
set_option maxRecDepth 20000 in
theorem gX3_good_X3_isWithin : GoodIn wsX3_good (va_wsS RX3 80 yX3_isWithin wsX3_isWithin) := goodIn_app (goodIn_of _ (by decide +kernel)) ggX3_good_X3_isWithin
set_option maxRecDepth 100000 in
set_option maxHeartbeats 4000000 in
theorem ggX3_good_X3_isNameOrZero : GoodIn wsX3_good wsX3_isNameOrZero := goodIn_r _ [19, 20, 21, 5, 22] rfl (by decide +kernel)
set_option maxRecDepth 20000 in
theorem gX3_good_X3_isNameOrZero : GoodIn wsX3_good (va_wsS RX3 91 yX3_isNameOrZero wsX3_isNameOrZero) := goodIn_app (goodIn_of _ (by decide +kernel)) ggX3_good_X3_isNameOrZero
set_option maxRecDepth 100000 in
set_option maxHeartbeats 4000000 in
theorem ggX3_good_X3_refuseUnless : GoodIn wsX3_good wsX3_refuseUnless := goodIn_ca (goodIn_r _ [25, 26, 27] rfl (by decide +kernel)) (goodIn_sub (fun _ h => List.mem_cons_of_mem _ (List.mem_append_right _ h)) (by decide +kernel))
set_option maxRecDepth 20000 in
theorem gX3_good_X3_refuseUnless : GoodIn wsX3_good (va_wsS RX3 44 yX3_refuseUnless wsX3_refuseUnless) := goodIn_app (goodIn_of _ (by decide +kernel)) ggX3_good_X3_refuseUnless
set_option maxRecDepth 100000 in
set_option maxHeartbeats 4000000 in
theorem ggX3_good_X2_print : GoodIn wsX3_good wsX2_print := goodIn_r _ [31, 32, 33, 34, 35, 36, 37, 38, 39, 40, 41, 42, 5, 43, 51, 52, 53, 54, 55, 56, 57, 58, 59, 60, 61, 62] rfl (by decide +kernel)
set_option maxRecDepth 20000 in
theorem gX3_good_X2_print_n76 : GoodIn wsX3_good (wsX2_print) := ggX3_good_X2_print
theorem dX3_good_0 : decode cX3_good 0 = .ok (.aload_n 0, 1) := by decide +kernel
theorem dX3_good_1 : decode cX3_good 1 = .ok (.iload_n 1, 1) := by decide +kernel
theorem dX3_good_2 : decode cX3_good 2 = .ok (.invokevirtual 63, 3) := by decide +kernel
theorem dX3_good_5 : decode cX3_good 5 = .ok (.iload_n 2, 1) := by decide +kernel
theorem dX3_good_6 : decode cX3_good 6 = .ok (.bipush 15, 2) := by decide +kernel
theorem dX3_good_8 : decode cX3_good 8 = .ok (.invokestatic 80, 3) := by decide +kernel
theorem dX3_good_11 : decode cX3_good 11 = .ok (.ifCond .eq 14, 3) := by decide +kernel
theorem dX3_good_14 : decode cX3_good 14 = .ok (.iload_n 3, 1) := by decide +kernel
theorem dX3_good_15 : decode cX3_good 15 = .ok (.invokestatic 91, 3) := by decide +kernel
theorem dX3_good_18 : decode cX3_good 18 = .ok (.ifCond .eq 7, 3) := by decide +kernel
theorem dX3_good_21 : decode cX3_good 21 = .ok (.iconst 1, 1) := by decide +kernel
theorem dX3_good_22 : decode cX3_good 22 = .ok (.goto 4, 3) := by decide +kernel
theorem dX3_good_25 : decode cX3_good 25 = .ok (.iconst 0, 1) := by decide +kernel
theorem dX3_good_26 : decode cX3_good 26 = .ok (.invokestatic 44, 3) := by decide +kernel
theorem dX3_good_29 : decode cX3_good 29 = .ok (.aload_n 0, 1) := by decide +kernel
theorem dX3_good_30 : decode cX3_good 30 = .ok (.getfield 11, 3) := by decide +kernel
theorem dX3_good_33 : decode cX3_good 33 = .ok (.iload_n 1, 1) := by decide +kernel
theorem dX3_good_34 : decode cX3_good 34 = .ok (.aaload, 1) := by decide +kernel
theorem dX3_good_35 : decode cX3_good 35 = .ok (.iload_n 2, 1) := by decide +kernel
theorem dX3_good_36 : decode cX3_good 36 = .ok (.putfield 94, 3) := by decide +kernel
theorem dX3_good_39 : decode cX3_good 39 = .ok (.aload_n 0, 1) := by decide +kernel
theorem dX3_good_40 : decode cX3_good 40 = .ok (.getfield 11, 3) := by decide +kernel
theorem dX3_good_43 : decode cX3_good 43 = .ok (.iload_n 1, 1) := by decide +kernel
theorem dX3_good_44 : decode cX3_good 44 = .ok (.aaload, 1) := by decide +kernel
theorem dX3_good_45 : decode cX3_good 45 = .ok (.iload_n 3, 1) := by decide +kernel
theorem dX3_good_46 : decode cX3_good 46 = .ok (.putfield 97, 3) := by decide +kernel
theorem dX3_good_49 : decode cX3_good 49 = .ok (.aload_n 0, 1) := by decide +kernel
theorem dX3_good_50 : decode cX3_good 50 = .ok (.getfield 11, 3) := by decide +kernel
theorem dX3_good_53 : decode cX3_good 53 = .ok (.iload_n 1, 1) := by decide +kernel
theorem dX3_good_54 : decode cX3_good 54 = .ok (.aaload, 1) := by decide +kernel
theorem dX3_good_55 : decode cX3_good 55 = .ok (.invokevirtual 76, 3) := by decide +kernel
theorem dX3_good_58 : decode cX3_good 58 = .ok (.ireturn, 1) := by decide +kernel
set_option maxRecDepth 100000 in
set_option maxHeartbeats 4000000 in
theorem ggX3_sign_X3_refuseUnlessLetter : GoodIn wsX3_sign wsX3_refuseUnlessLetter := goodIn_ca (goodIn_r _ [6, 7, 8, 9, 10, 11, 5, 12, 13, 44, 45, 46, 47, 48, 49, 50] rfl (by decide +kernel)) (goodIn_sub (fun _ h => List.mem_cons_of_mem _ (List.mem_append_left _ (List.mem_append_right _ h))) (by decide +kernel))
set_option maxRecDepth 20000 in
theorem gX3_sign_X3_refuseUnlessLetter : GoodIn wsX3_sign (wsV RX3 63 RX3 yX3_refuseUnlessLetter wsX3_refuseUnlessLetter) := goodIn_app (goodIn_of _ (by decide +kernel)) ggX3_sign_X3_refuseUnlessLetter
set_option maxRecDepth 100000 in
set_option maxHeartbeats 4000000 in
theorem ggX3_sign_X3_isKey : GoodIn wsX3_sign wsX3_isKey := goodIn_r _ [16, 17, 18, 5, 19] rfl (by decide +kernel)
set_option maxRecDepth 20000 in
theorem gX3_sign_X3_isKey : GoodIn wsX3_sign (va_wsS RX3 38 yX3_isKey wsX3_isKey) := goodIn_app (goodIn_of _ (by decide +kernel)) ggX3_sign_X3_isKey
set_option maxRecDepth 100000 in
set_option maxHeartbeats 4000000 in
theorem ggX3_sign_X3_refuseUnless : GoodIn wsX3_sign wsX3_refuseUnless := goodIn_ca (goodIn_r _ [22, 23, 24] rfl (by decide +kernel)) (goodIn_sub (fun _ h => List.mem_cons_of_mem _ (List.mem_append_right _ h)) (by decide +kernel))
set_option maxRecDepth 20000 in
theorem gX3_sign_X3_refuseUnless : GoodIn wsX3_sign (va_wsS RX3 44 yX3_refuseUnless wsX3_refuseUnless) := goodIn_app (goodIn_of _ (by decide +kernel)) ggX3_sign_X3_refuseUnless
set_option maxRecDepth 100000 in
set_option maxHeartbeats 4000000 in
theorem ggX3_sign_X2_print : GoodIn wsX3_sign wsX2_print := goodIn_r _ [28, 29, 30, 31, 32, 33, 34, 35, 36, 37, 38, 39, 5, 40, 51, 52, 53, 54, 55, 56, 57, 58, 59, 60, 61, 62] rfl (by decide +kernel)
set_option maxRecDepth 20000 in
theorem gX3_sign_X2_print_n76 : GoodIn wsX3_sign (wsX2_print) := ggX3_sign_X2_print
set_option maxRecDepth 100000 in
set_option maxHeartbeats 4000000 in
theorem ggX3_sign_X3_sealFor : GoodIn wsX3_sign wsX3_sealFor := goodIn_r _ [43] rfl (by decide +kernel)
set_option maxRecDepth 20000 in
theorem gX3_sign_X3_sealFor : GoodIn wsX3_sign (va_wsS RX3 100 yX3_sealFor wsX3_sealFor) := goodIn_app (goodIn_of _ (by decide +kernel)) ggX3_sign_X3_sealFor
theorem dX3_sign_0 : decode cX3_sign 0 = .ok (.aload_n 0, 1) := by decide +kernel
theorem dX3_sign_1 : decode cX3_sign 1 = .ok (.iload_n 1, 1) := by decide +kernel
theorem dX3_sign_2 : decode cX3_sign 2 = .ok (.invokevirtual 63, 3) := by decide +kernel
theorem dX3_sign_5 : decode cX3_sign 5 = .ok (.iload_n 2, 1) := by decide +kernel
theorem dX3_sign_6 : decode cX3_sign 6 = .ok (.invokestatic 38, 3) := by decide +kernel
theorem dX3_sign_9 : decode cX3_sign 9 = .ok (.invokestatic 44, 3) := by decide +kernel
theorem dX3_sign_12 : decode cX3_sign 12 = .ok (.aload_n 0, 1) := by decide +kernel
theorem dX3_sign_13 : decode cX3_sign 13 = .ok (.getfield 11, 3) := by decide +kernel
theorem dX3_sign_16 : decode cX3_sign 16 = .ok (.iload_n 1, 1) := by decide +kernel
theorem dX3_sign_17 : decode cX3_sign 17 = .ok (.aaload, 1) := by decide +kernel
theorem dX3_sign_18 : decode cX3_sign 18 = .ok (.aload_n 0, 1) := by decide +kernel
theorem dX3_sign_19 : decode cX3_sign 19 = .ok (.getfield 11, 3) := by decide +kernel
theorem dX3_sign_22 : decode cX3_sign 22 = .ok (.iload_n 1, 1) := by decide +kernel
theorem dX3_sign_23 : decode cX3_sign 23 = .ok (.aaload, 1) := by decide +kernel
theorem dX3_sign_24 : decode cX3_sign 24 = .ok (.invokevirtual 76, 3) := by decide +kernel
theorem dX3_sign_27 : decode cX3_sign 27 = .ok (.iload_n 2, 1) := by decide +kernel
theorem dX3_sign_28 : decode cX3_sign 28 = .ok (.invokestatic 100, 3) := by decide +kernel
theorem dX3_sign_31 : decode cX3_sign 31 = .ok (.putfield 104, 3) := by decide +kernel
theorem dX3_sign_34 : decode cX3_sign 34 = .ok (.aload_n 0, 1) := by decide +kernel
theorem dX3_sign_35 : decode cX3_sign 35 = .ok (.getfield 11, 3) := by decide +kernel
theorem dX3_sign_38 : decode cX3_sign 38 = .ok (.iload_n 1, 1) := by decide +kernel
theorem dX3_sign_39 : decode cX3_sign 39 = .ok (.aaload, 1) := by decide +kernel
theorem dX3_sign_40 : decode cX3_sign 40 = .ok (.getfield 104, 3) := by decide +kernel
theorem dX3_sign_43 : decode cX3_sign 43 = .ok (.ireturn, 1) := by decide +kernel
set_option maxRecDepth 100000 in
set_option maxHeartbeats 4000000 in
theorem ggX3_anchor_X3_refuseUnlessLetter : GoodIn wsX3_anchor wsX3_refuseUnlessLetter := goodIn_ca (goodIn_r _ [6, 7, 8, 9, 10, 11, 5, 12, 13, 25, 26, 27, 28, 29, 30, 31] rfl (by decide +kernel)) (goodIn_sub (fun _ h => List.mem_cons_of_mem _ (List.mem_append_right _ h)) (by decide +kernel))
set_option maxRecDepth 20000 in
theorem gX3_anchor_X3_refuseUnlessLetter : GoodIn wsX3_anchor (wsV RX3 63 RX3 yX3_refuseUnlessLetter wsX3_refuseUnlessLetter) := goodIn_app (goodIn_of _ (by decide +kernel)) ggX3_anchor_X3_refuseUnlessLetter
set_option maxRecDepth 100000 in
set_option maxHeartbeats 4000000 in
theorem ggX3_anchor_X3_anchorSet : GoodIn wsX3_anchor wsX3_anchorSet := goodIn_r _ [17, 13, 1, 25, 26, 27, 28, 29, 30, 31, 32, 33, 34, 35, 36, 37, 38, 39, 40, 41, 42, 43] rfl (by decide +kernel)
set_option maxRecDepth 20000 in
theorem gX3_anchor_X3_anchorSet : GoodIn wsX3_anchor (wsV RX3 110 RX3 yX3_anchorSet wsX3_anchorSet) := goodIn_app (goodIn_of _ (by decide +kernel)) ggX3_anchor_X3_anchorSet
set_option maxRecDepth 100000 in
set_option maxHeartbeats 4000000 in
theorem ggX3_anchor_J6_bitCount_0f7a4 : GoodIn wsX3_anchor wsJ6_bitCount_0f7a4 := goodIn_r _ [21, 22, 23, 24] rfl (by decide +kernel)
set_option maxRecDepth 20000 in
theorem gX3_anchor_J6_bitCount_0f7a4 : GoodIn wsX3_anchor (va_wsS RX3 113 yJ6_bitCount_0f7a4 wsJ6_bitCount_0f7a4) := goodIn_app (goodIn_of _ (by decide +kernel)) ggX3_anchor_J6_bitCount_0f7a4
theorem dX3_anchor_0 : decode cX3_anchor 0 = .ok (.aload_n 0, 1) := by decide +kernel
theorem dX3_anchor_1 : decode cX3_anchor 1 = .ok (.iload_n 1, 1) := by decide +kernel
theorem dX3_anchor_2 : decode cX3_anchor 2 = .ok (.invokevirtual 63, 3) := by decide +kernel
theorem dX3_anchor_5 : decode cX3_anchor 5 = .ok (.aload_n 0, 1) := by decide +kernel
theorem dX3_anchor_6 : decode cX3_anchor 6 = .ok (.getfield 11, 3) := by decide +kernel
theorem dX3_anchor_9 : decode cX3_anchor 9 = .ok (.iload_n 1, 1) := by decide +kernel
theorem dX3_anchor_10 : decode cX3_anchor 10 = .ok (.aaload, 1) := by decide +kernel
theorem dX3_anchor_11 : decode cX3_anchor 11 = .ok (.iload_n 2, 1) := by decide +kernel
theorem dX3_anchor_12 : decode cX3_anchor 12 = .ok (.putfield 107, 3) := by decide +kernel
theorem dX3_anchor_15 : decode cX3_anchor 15 = .ok (.aload_n 0, 1) := by decide +kernel
theorem dX3_anchor_16 : decode cX3_anchor 16 = .ok (.invokevirtual 110, 3) := by decide +kernel
theorem dX3_anchor_19 : decode cX3_anchor 19 = .ok (.invokestatic 113, 3) := by decide +kernel
theorem dX3_anchor_22 : decode cX3_anchor 22 = .ok (.ireturn, 1) := by decide +kernel
set_option maxRecDepth 100000 in
set_option maxHeartbeats 4000000 in
theorem ggX3_list_X3_isName : GoodIn wsX3_list wsX3_isName := goodIn_r _ [8] rfl (by decide +kernel)
set_option maxRecDepth 20000 in
theorem gX3_list_X3_isName : GoodIn wsX3_list (va_wsS RX3 34 yX3_isName wsX3_isName) := goodIn_app (goodIn_of _ (by decide +kernel)) ggX3_list_X3_isName
set_option maxRecDepth 100000 in
set_option maxHeartbeats 4000000 in
theorem ggX3_list_X3_isTime : GoodIn wsX3_list wsX3_isTime := goodIn_r _ [11, 12, 13, 7, 14] rfl (by decide +kernel)
set_option maxRecDepth 20000 in
theorem gX3_list_X3_isTime : GoodIn wsX3_list (va_wsS RX3 67 yX3_isTime wsX3_isTime) := goodIn_app (goodIn_of _ (by decide +kernel)) ggX3_list_X3_isTime
set_option maxRecDepth 100000 in
set_option maxHeartbeats 4000000 in
theorem ggX3_list_X3_refuseUnless : GoodIn wsX3_list wsX3_refuseUnless := goodIn_ca (goodIn_r _ [17, 18, 19] rfl (by decide +kernel)) (goodIn_sub (fun _ h => List.mem_cons_of_mem _ (List.mem_append_right _ h)) (by decide +kernel))
set_option maxRecDepth 20000 in
theorem gX3_list_X3_refuseUnless : GoodIn wsX3_list (va_wsS RX3 44 yX3_refuseUnless wsX3_refuseUnless) := goodIn_app (goodIn_of _ (by decide +kernel)) ggX3_list_X3_refuseUnless
set_option maxRecDepth 100000 in
set_option maxHeartbeats 4000000 in
theorem ggX3_list_X0_write : GoodIn wsX3_list wsX0_write := goodIn_r _ [23, 24, 25, 26, 34, 35, 36, 37, 38, 39] rfl (by decide +kernel)
set_option maxRecDepth 20000 in
theorem gX3_list_X0_write_n124 : GoodIn wsX3_list (wsX0_write) := ggX3_list_X0_write
theorem dX3_list_0 : decode cX3_list 0 = .ok (.iload_n 1, 1) := by decide +kernel
theorem dX3_list_1 : decode cX3_list 1 = .ok (.invokestatic 34, 3) := by decide +kernel
theorem dX3_list_4 : decode cX3_list 4 = .ok (.ifCond .eq 26, 3) := by decide +kernel
theorem dX3_list_7 : decode cX3_list 7 = .ok (.iload_n 2, 1) := by decide +kernel
theorem dX3_list_8 : decode cX3_list 8 = .ok (.invokestatic 67, 3) := by decide +kernel
theorem dX3_list_11 : decode cX3_list 11 = .ok (.ifCond .eq 19, 3) := by decide +kernel
theorem dX3_list_14 : decode cX3_list 14 = .ok (.iload_n 3, 1) := by decide +kernel
theorem dX3_list_15 : decode cX3_list 15 = .ok (.invokestatic 67, 3) := by decide +kernel
theorem dX3_list_18 : decode cX3_list 18 = .ok (.ifCond .eq 12, 3) := by decide +kernel
theorem dX3_list_21 : decode cX3_list 21 = .ok (.iload_n 2, 1) := by decide +kernel
theorem dX3_list_22 : decode cX3_list 22 = .ok (.iload_n 3, 1) := by decide +kernel
theorem dX3_list_23 : decode cX3_list 23 = .ok (.if_icmp .gt 7, 3) := by decide +kernel
theorem dX3_list_26 : decode cX3_list 26 = .ok (.iconst 1, 1) := by decide +kernel
theorem dX3_list_27 : decode cX3_list 27 = .ok (.goto 4, 3) := by decide +kernel
theorem dX3_list_30 : decode cX3_list 30 = .ok (.iconst 0, 1) := by decide +kernel
theorem dX3_list_31 : decode cX3_list 31 = .ok (.invokestatic 44, 3) := by decide +kernel
theorem dX3_list_34 : decode cX3_list 34 = .ok (.aload_n 0, 1) := by decide +kernel
theorem dX3_list_35 : decode cX3_list 35 = .ok (.getfield 119, 3) := by decide +kernel
theorem dX3_list_38 : decode cX3_list 38 = .ok (.bipush 8, 2) := by decide +kernel
theorem dX3_list_40 : decode cX3_list 40 = .ok (.if_icmp .lt 13, 3) := by decide +kernel
theorem dX3_list_43 : decode cX3_list 43 = .ok (.new 52, 3) := by decide +kernel
theorem dX3_list_46 : decode cX3_list 46 = .ok (.dup, 1) := by decide +kernel
theorem dX3_list_47 : decode cX3_list 47 = .ok (.ldc 122, 2) := by decide +kernel
theorem dX3_list_49 : decode cX3_list 49 = .ok (.invokespecial 56, 3) := by decide +kernel
theorem dX3_list_52 : decode cX3_list 52 = .ok (.athrow, 1) := by decide +kernel
theorem dX3_list_53 : decode cX3_list 53 = .ok (.aload_n 0, 1) := by decide +kernel
theorem dX3_list_54 : decode cX3_list 54 = .ok (.getfield 119, 3) := by decide +kernel
theorem dX3_list_57 : decode cX3_list 57 = .ok (.istore 4, 2) := by decide +kernel
theorem dX3_list_59 : decode cX3_list 59 = .ok (.aload_n 0, 1) := by decide +kernel
theorem dX3_list_60 : decode cX3_list 60 = .ok (.getfield 17, 3) := by decide +kernel
theorem dX3_list_63 : decode cX3_list 63 = .ok (.iload 4, 2) := by decide +kernel
theorem dX3_list_65 : decode cX3_list 65 = .ok (.aaload, 1) := by decide +kernel
theorem dX3_list_66 : decode cX3_list 66 = .ok (.iload_n 1, 1) := by decide +kernel
theorem dX3_list_67 : decode cX3_list 67 = .ok (.iload_n 2, 1) := by decide +kernel
theorem dX3_list_68 : decode cX3_list 68 = .ok (.iload_n 3, 1) := by decide +kernel
theorem dX3_list_69 : decode cX3_list 69 = .ok (.invokevirtual 124, 3) := by decide +kernel
theorem dX3_list_72 : decode cX3_list 72 = .ok (.aload_n 0, 1) := by decide +kernel
theorem dX3_list_73 : decode cX3_list 73 = .ok (.iload 4, 2) := by decide +kernel
theorem dX3_list_75 : decode cX3_list 75 = .ok (.iconst 1, 1) := by decide +kernel
theorem dX3_list_76 : decode cX3_list 76 = .ok (.iadd, 1) := by decide +kernel
theorem dX3_list_77 : decode cX3_list 77 = .ok (.putfield 119, 3) := by decide +kernel
theorem dX3_list_80 : decode cX3_list 80 = .ok (.iload 4, 2) := by decide +kernel
theorem dX3_list_82 : decode cX3_list 82 = .ok (.ireturn, 1) := by decide +kernel
set_option maxRecDepth 100000 in
set_option maxHeartbeats 4000000 in
theorem ggX3_call_X3_refuseUnlessList : GoodIn wsX3_call wsX3_refuseUnlessList := goodIn_ca (goodIn_r _ [6, 7, 8, 9, 28, 29, 30, 31, 32, 33, 34] rfl (by decide +kernel)) (goodIn_sub (fun _ h => List.mem_cons_of_mem _ (List.mem_append_left _ (List.mem_append_right _ h))) (by decide +kernel))
set_option maxRecDepth 20000 in
theorem gX3_call_X3_refuseUnlessList : GoodIn wsX3_call (wsV RX3 127 RX3 yX3_refuseUnlessList wsX3_refuseUnlessList) := goodIn_app (goodIn_of _ (by decide +kernel)) ggX3_call_X3_refuseUnlessList
set_option maxRecDepth 100000 in
set_option maxHeartbeats 4000000 in
theorem ggX3_call_X3_isSerial : GoodIn wsX3_call wsX3_isSerial := goodIn_r _ [12, 13, 14, 5, 15] rfl (by decide +kernel)
set_option maxRecDepth 20000 in
theorem gX3_call_X3_isSerial : GoodIn wsX3_call (va_wsS RX3 41 yX3_isSerial wsX3_isSerial) := goodIn_app (goodIn_of _ (by decide +kernel)) ggX3_call_X3_isSerial
set_option maxRecDepth 100000 in
set_option maxHeartbeats 4000000 in
theorem ggX3_call_X3_refuseUnless : GoodIn wsX3_call wsX3_refuseUnless := goodIn_ca (goodIn_r _ [18, 19, 20] rfl (by decide +kernel)) (goodIn_sub (fun _ h => List.mem_cons_of_mem _ (List.mem_append_right _ h)) (by decide +kernel))
set_option maxRecDepth 20000 in
theorem gX3_call_X3_refuseUnless : GoodIn wsX3_call (va_wsS RX3 44 yX3_refuseUnless wsX3_refuseUnless) := goodIn_app (goodIn_of _ (by decide +kernel)) ggX3_call_X3_refuseUnless
set_option maxRecDepth 100000 in
set_option maxHeartbeats 4000000 in
theorem ggX3_call_J6_bitCount_0f7a4 : GoodIn wsX3_call wsJ6_bitCount_0f7a4 := goodIn_r _ [24, 25, 26, 27] rfl (by decide +kernel)
set_option maxRecDepth 20000 in
theorem gX3_call_J6_bitCount_0f7a4 : GoodIn wsX3_call (va_wsS RX3 113 yJ6_bitCount_0f7a4 wsJ6_bitCount_0f7a4) := goodIn_app (goodIn_of _ (by decide +kernel)) ggX3_call_J6_bitCount_0f7a4
theorem dX3_call_0 : decode cX3_call 0 = .ok (.aload_n 0, 1) := by decide +kernel
theorem dX3_call_1 : decode cX3_call 1 = .ok (.iload_n 1, 1) := by decide +kernel
theorem dX3_call_2 : decode cX3_call 2 = .ok (.invokevirtual 127, 3) := by decide +kernel
theorem dX3_call_5 : decode cX3_call 5 = .ok (.iload_n 2, 1) := by decide +kernel
theorem dX3_call_6 : decode cX3_call 6 = .ok (.invokestatic 41, 3) := by decide +kernel
theorem dX3_call_9 : decode cX3_call 9 = .ok (.invokestatic 44, 3) := by decide +kernel
theorem dX3_call_12 : decode cX3_call 12 = .ok (.aload_n 0, 1) := by decide +kernel
theorem dX3_call_13 : decode cX3_call 13 = .ok (.getfield 17, 3) := by decide +kernel
theorem dX3_call_16 : decode cX3_call 16 = .ok (.iload_n 1, 1) := by decide +kernel
theorem dX3_call_17 : decode cX3_call 17 = .ok (.aaload, 1) := by decide +kernel
theorem dX3_call_18 : decode cX3_call 18 = .ok (.dup, 1) := by decide +kernel
theorem dX3_call_19 : decode cX3_call 19 = .ok (.getfield 130, 3) := by decide +kernel
theorem dX3_call_22 : decode cX3_call 22 = .ok (.iconst 1, 1) := by decide +kernel
theorem dX3_call_23 : decode cX3_call 23 = .ok (.iload_n 2, 1) := by decide +kernel
theorem dX3_call_24 : decode cX3_call 24 = .ok (.ishl, 1) := by decide +kernel
theorem dX3_call_25 : decode cX3_call 25 = .ok (.ixor, 1) := by decide +kernel
theorem dX3_call_26 : decode cX3_call 26 = .ok (.putfield 130, 3) := by decide +kernel
theorem dX3_call_29 : decode cX3_call 29 = .ok (.aload_n 0, 1) := by decide +kernel
theorem dX3_call_30 : decode cX3_call 30 = .ok (.getfield 17, 3) := by decide +kernel
theorem dX3_call_33 : decode cX3_call 33 = .ok (.iload_n 1, 1) := by decide +kernel
theorem dX3_call_34 : decode cX3_call 34 = .ok (.aaload, 1) := by decide +kernel
theorem dX3_call_35 : decode cX3_call 35 = .ok (.getfield 130, 3) := by decide +kernel
theorem dX3_call_38 : decode cX3_call 38 = .ok (.invokestatic 113, 3) := by decide +kernel
theorem dX3_call_41 : decode cX3_call 41 = .ok (.ireturn, 1) := by decide +kernel
set_option maxRecDepth 100000 in
set_option maxHeartbeats 4000000 in
theorem ggX3_signList_X3_refuseUnlessList : GoodIn wsX3_signList wsX3_refuseUnlessList := goodIn_ca (goodIn_r _ [6, 7, 8, 9, 34, 35, 36, 37, 38, 39, 40] rfl (by decide +kernel)) (goodIn_sub (fun _ h => List.mem_cons_of_mem _ (List.mem_append_left _ (List.mem_append_right _ h))) (by decide +kernel))
set_option maxRecDepth 20000 in
theorem gX3_signList_X3_refuseUnlessList : GoodIn wsX3_signList (wsV RX3 127 RX3 yX3_refuseUnlessList wsX3_refuseUnlessList) := goodIn_app (goodIn_of _ (by decide +kernel)) ggX3_signList_X3_refuseUnlessList
set_option maxRecDepth 100000 in
set_option maxHeartbeats 4000000 in
theorem ggX3_signList_X3_isKey : GoodIn wsX3_signList wsX3_isKey := goodIn_r _ [12, 13, 14, 5, 15] rfl (by decide +kernel)
set_option maxRecDepth 20000 in
theorem gX3_signList_X3_isKey : GoodIn wsX3_signList (va_wsS RX3 38 yX3_isKey wsX3_isKey) := goodIn_app (goodIn_of _ (by decide +kernel)) ggX3_signList_X3_isKey
set_option maxRecDepth 100000 in
set_option maxHeartbeats 4000000 in
theorem ggX3_signList_X3_refuseUnless : GoodIn wsX3_signList wsX3_refuseUnless := goodIn_ca (goodIn_r _ [18, 19, 20] rfl (by decide +kernel)) (goodIn_sub (fun _ h => List.mem_cons_of_mem _ (List.mem_append_right _ h)) (by decide +kernel))
set_option maxRecDepth 20000 in
theorem gX3_signList_X3_refuseUnless : GoodIn wsX3_signList (va_wsS RX3 44 yX3_refuseUnless wsX3_refuseUnless) := goodIn_app (goodIn_of _ (by decide +kernel)) ggX3_signList_X3_refuseUnless
set_option maxRecDepth 100000 in
set_option maxHeartbeats 4000000 in
theorem ggX3_signList_X0_print : GoodIn wsX3_signList wsX0_print := goodIn_r _ [24, 25, 26, 27, 28, 29, 5, 30, 41, 42, 43, 44, 45, 46] rfl (by decide +kernel)
set_option maxRecDepth 20000 in
theorem gX3_signList_X0_print_n133 : GoodIn wsX3_signList (wsX0_print) := ggX3_signList_X0_print
set_option maxRecDepth 100000 in
set_option maxHeartbeats 4000000 in
theorem ggX3_signList_X3_sealFor : GoodIn wsX3_signList wsX3_sealFor := goodIn_r _ [33] rfl (by decide +kernel)
set_option maxRecDepth 20000 in
theorem gX3_signList_X3_sealFor : GoodIn wsX3_signList (va_wsS RX3 100 yX3_sealFor wsX3_sealFor) := goodIn_app (goodIn_of _ (by decide +kernel)) ggX3_signList_X3_sealFor
theorem dX3_signList_0 : decode cX3_signList 0 = .ok (.aload_n 0, 1) := by decide +kernel
theorem dX3_signList_1 : decode cX3_signList 1 = .ok (.iload_n 1, 1) := by decide +kernel
theorem dX3_signList_2 : decode cX3_signList 2 = .ok (.invokevirtual 127, 3) := by decide +kernel
theorem dX3_signList_5 : decode cX3_signList 5 = .ok (.iload_n 2, 1) := by decide +kernel
theorem dX3_signList_6 : decode cX3_signList 6 = .ok (.invokestatic 38, 3) := by decide +kernel
theorem dX3_signList_9 : decode cX3_signList 9 = .ok (.invokestatic 44, 3) := by decide +kernel
theorem dX3_signList_12 : decode cX3_signList 12 = .ok (.aload_n 0, 1) := by decide +kernel
theorem dX3_signList_13 : decode cX3_signList 13 = .ok (.getfield 17, 3) := by decide +kernel
theorem dX3_signList_16 : decode cX3_signList 16 = .ok (.iload_n 1, 1) := by decide +kernel
theorem dX3_signList_17 : decode cX3_signList 17 = .ok (.aaload, 1) := by decide +kernel
theorem dX3_signList_18 : decode cX3_signList 18 = .ok (.aload_n 0, 1) := by decide +kernel
theorem dX3_signList_19 : decode cX3_signList 19 = .ok (.getfield 17, 3) := by decide +kernel
theorem dX3_signList_22 : decode cX3_signList 22 = .ok (.iload_n 1, 1) := by decide +kernel
theorem dX3_signList_23 : decode cX3_signList 23 = .ok (.aaload, 1) := by decide +kernel
theorem dX3_signList_24 : decode cX3_signList 24 = .ok (.invokevirtual 133, 3) := by decide +kernel
theorem dX3_signList_27 : decode cX3_signList 27 = .ok (.iload_n 2, 1) := by decide +kernel
theorem dX3_signList_28 : decode cX3_signList 28 = .ok (.invokestatic 100, 3) := by decide +kernel
theorem dX3_signList_31 : decode cX3_signList 31 = .ok (.putfield 134, 3) := by decide +kernel
theorem dX3_signList_34 : decode cX3_signList 34 = .ok (.aload_n 0, 1) := by decide +kernel
theorem dX3_signList_35 : decode cX3_signList 35 = .ok (.getfield 17, 3) := by decide +kernel
theorem dX3_signList_38 : decode cX3_signList 38 = .ok (.iload_n 1, 1) := by decide +kernel
theorem dX3_signList_39 : decode cX3_signList 39 = .ok (.aaload, 1) := by decide +kernel
theorem dX3_signList_40 : decode cX3_signList 40 = .ok (.getfield 134, 3) := by decide +kernel
theorem dX3_signList_43 : decode cX3_signList 43 = .ok (.ireturn, 1) := by decide +kernel
theorem dX3_strict_0 : decode cX3_strict 0 = .ok (.aload_n 0, 1) := by decide +kernel
theorem dX3_strict_1 : decode cX3_strict 1 = .ok (.getfield 135, 3) := by decide +kernel
theorem dX3_strict_4 : decode cX3_strict 4 = .ok (.istore_n 2, 1) := by decide +kernel
theorem dX3_strict_5 : decode cX3_strict 5 = .ok (.aload_n 0, 1) := by decide +kernel
theorem dX3_strict_6 : decode cX3_strict 6 = .ok (.iload_n 1, 1) := by decide +kernel
theorem dX3_strict_7 : decode cX3_strict 7 = .ok (.putfield 135, 3) := by decide +kernel
theorem dX3_strict_10 : decode cX3_strict 10 = .ok (.iload_n 2, 1) := by decide +kernel
theorem dX3_strict_11 : decode cX3_strict 11 = .ok (.ireturn, 1) := by decide +kernel
set_option maxRecDepth 100000 in
set_option maxHeartbeats 4000000 in
theorem ggX3_many_X3_isWithin : GoodIn wsX3_many wsX3_isWithin := goodIn_r _ [4] rfl (by decide +kernel)
set_option maxRecDepth 20000 in
theorem gX3_many_X3_isWithin : GoodIn wsX3_many (va_wsS RX3 80 yX3_isWithin wsX3_isWithin) := goodIn_app (goodIn_of _ (by decide +kernel)) ggX3_many_X3_isWithin
set_option maxRecDepth 100000 in
set_option maxHeartbeats 4000000 in
theorem ggX3_many_X3_refuseUnless : GoodIn wsX3_many wsX3_refuseUnless := goodIn_ca (goodIn_r _ [7, 8, 9] rfl (by decide +kernel)) (goodIn_sub (fun _ h => List.mem_cons_of_mem _ (List.mem_append_right _ h)) (by decide +kernel))
set_option maxRecDepth 20000 in
theorem gX3_many_X3_refuseUnless : GoodIn wsX3_many (va_wsS RX3 44 yX3_refuseUnless wsX3_refuseUnless) := goodIn_app (goodIn_of _ (by decide +kernel)) ggX3_many_X3_refuseUnless
set_option maxRecDepth 100000 in
set_option maxHeartbeats 4000000 in
theorem ggX3_many_X3_survey : GoodIn wsX3_many wsX3_survey := goodIn_r _ [13, 14, 15, 16, 17, 18, 19, 20, 21, 3, 22, 23, 24, 25, 26, 27, 28, 29, 30, 31, 32, 33, 34, 35, 36, 37, 38, 39, 40, 41, 42, 43, 44, 45, 46, 47, 48, 49, 50, 51, 52, 53, 54, 55, 56, 57, 58, 59, 60, 61, 62, 63, 64, 65, 66, 67, 68, 69, 70, 71, 72, 73, 89, 90, 91, 92, 93, 94, 95, 96, 97, 98, 99, 100, 101, 102, 103, 104, 105, 106, 107, 108, 109, 110, 111, 112, 113, 114, 115, 116, 117, 118, 119, 120] rfl (by decide +kernel)
set_option maxRecDepth 20000 in
theorem gX3_many_X3_survey : GoodIn wsX3_many (wsV RX3 138 RX3 yX3_survey wsX3_survey) := goodIn_app (goodIn_of _ (by decide +kernel)) ggX3_many_X3_survey
set_option maxRecDepth 100000 in
set_option maxHeartbeats 4000000 in
theorem ggX3_many_X3_countOf : GoodIn wsX3_many wsX3_countOf := goodIn_r _ [77, 14, 17, 49, 50, 51, 3, 52, 16, 78, 79, 80, 81, 82, 83, 84, 85, 86, 87, 88, 15, 89, 90, 91, 92, 93, 94, 95, 103, 104, 105, 106, 107, 108, 109, 110, 111, 112, 113, 114, 96, 97, 98, 99, 100, 101, 102] rfl (by decide +kernel)
set_option maxRecDepth 20000 in
theorem gX3_many_X3_countOf : GoodIn wsX3_many (wsV RX3 141 RX3 yX3_countOf wsX3_countOf) := goodIn_app (goodIn_of _ (by decide +kernel)) ggX3_many_X3_countOf
theorem dX3_many_0 : decode cX3_many 0 = .ok (.iload_n 1, 1) := by decide +kernel
theorem dX3_many_1 : decode cX3_many 1 = .ok (.iconst 3, 1) := by decide +kernel
theorem dX3_many_2 : decode cX3_many 2 = .ok (.invokestatic 80, 3) := by decide +kernel
theorem dX3_many_5 : decode cX3_many 5 = .ok (.invokestatic 44, 3) := by decide +kernel
theorem dX3_many_8 : decode cX3_many 8 = .ok (.aload_n 0, 1) := by decide +kernel
theorem dX3_many_9 : decode cX3_many 9 = .ok (.invokevirtual 138, 3) := by decide +kernel
theorem dX3_many_12 : decode cX3_many 12 = .ok (.aload_n 0, 1) := by decide +kernel
theorem dX3_many_13 : decode cX3_many 13 = .ok (.iload_n 1, 1) := by decide +kernel
theorem dX3_many_14 : decode cX3_many 14 = .ok (.invokevirtual 141, 3) := by decide +kernel
theorem dX3_many_17 : decode cX3_many 17 = .ok (.ireturn, 1) := by decide +kernel
set_option maxRecDepth 100000 in
set_option maxHeartbeats 4000000 in
theorem ggX3_ofLetter_X3_refuseUnlessLetter : GoodIn wsX3_ofLetter wsX3_refuseUnlessLetter := goodIn_ca (goodIn_r _ [6, 7, 8, 9, 10, 11, 5, 12, 13, 44, 45, 46, 47, 48, 49, 50] rfl (by decide +kernel)) (goodIn_sub (fun _ h => List.mem_cons_of_mem _ (List.mem_append_left _ (List.mem_append_right _ h))) (by decide +kernel))
set_option maxRecDepth 20000 in
theorem gX3_ofLetter_X3_refuseUnlessLetter : GoodIn wsX3_ofLetter (wsV RX3 63 RX3 yX3_refuseUnlessLetter wsX3_refuseUnlessLetter) := goodIn_app (goodIn_of _ (by decide +kernel)) ggX3_ofLetter_X3_refuseUnlessLetter
set_option maxRecDepth 100000 in
set_option maxHeartbeats 4000000 in
theorem ggX3_ofLetter_X3_isWithin : GoodIn wsX3_ofLetter wsX3_isWithin := goodIn_r _ [16] rfl (by decide +kernel)
set_option maxRecDepth 20000 in
theorem gX3_ofLetter_X3_isWithin : GoodIn wsX3_ofLetter (va_wsS RX3 80 yX3_isWithin wsX3_isWithin) := goodIn_app (goodIn_of _ (by decide +kernel)) ggX3_ofLetter_X3_isWithin
set_option maxRecDepth 100000 in
set_option maxHeartbeats 4000000 in
theorem ggX3_ofLetter_X3_refuseUnless : GoodIn wsX3_ofLetter wsX3_refuseUnless := goodIn_ca (goodIn_r _ [19, 20, 21] rfl (by decide +kernel)) (goodIn_sub (fun _ h => List.mem_cons_of_mem _ (List.mem_append_right _ h)) (by decide +kernel))
set_option maxRecDepth 20000 in
theorem gX3_ofLetter_X3_refuseUnless : GoodIn wsX3_ofLetter (va_wsS RX3 44 yX3_refuseUnless wsX3_refuseUnless) := goodIn_app (goodIn_of _ (by decide +kernel)) ggX3_ofLetter_X3_refuseUnless
set_option maxRecDepth 100000 in
set_option maxHeartbeats 4000000 in
theorem ggX3_ofLetter_X2_property : GoodIn wsX3_ofLetter wsX2_property := goodIn_r _ [25, 26, 27, 28, 29, 30, 31, 32, 33, 34, 35, 36, 37, 38, 39, 40, 23, 41, 42, 5, 43, 51, 52, 53, 54, 55, 56, 57, 58, 59, 60, 61, 62] rfl (by decide +kernel)
set_option maxRecDepth 20000 in
theorem gX3_ofLetter_X2_property_n144 : GoodIn wsX3_ofLetter (wsX2_property) := ggX3_ofLetter_X2_property
theorem dX3_ofLetter_0 : decode cX3_ofLetter 0 = .ok (.aload_n 0, 1) := by decide +kernel
theorem dX3_ofLetter_1 : decode cX3_ofLetter 1 = .ok (.iload_n 1, 1) := by decide +kernel
theorem dX3_ofLetter_2 : decode cX3_ofLetter 2 = .ok (.invokevirtual 63, 3) := by decide +kernel
theorem dX3_ofLetter_5 : decode cX3_ofLetter 5 = .ok (.iload_n 2, 1) := by decide +kernel
theorem dX3_ofLetter_6 : decode cX3_ofLetter 6 = .ok (.bipush 12, 2) := by decide +kernel
theorem dX3_ofLetter_8 : decode cX3_ofLetter 8 = .ok (.invokestatic 80, 3) := by decide +kernel
theorem dX3_ofLetter_11 : decode cX3_ofLetter 11 = .ok (.invokestatic 44, 3) := by decide +kernel
theorem dX3_ofLetter_14 : decode cX3_ofLetter 14 = .ok (.aload_n 0, 1) := by decide +kernel
theorem dX3_ofLetter_15 : decode cX3_ofLetter 15 = .ok (.getfield 11, 3) := by decide +kernel
theorem dX3_ofLetter_18 : decode cX3_ofLetter 18 = .ok (.iload_n 1, 1) := by decide +kernel
theorem dX3_ofLetter_19 : decode cX3_ofLetter 19 = .ok (.aaload, 1) := by decide +kernel
theorem dX3_ofLetter_20 : decode cX3_ofLetter 20 = .ok (.iload_n 2, 1) := by decide +kernel
theorem dX3_ofLetter_21 : decode cX3_ofLetter 21 = .ok (.invokevirtual 144, 3) := by decide +kernel
theorem dX3_ofLetter_24 : decode cX3_ofLetter 24 = .ok (.ireturn, 1) := by decide +kernel
set_option maxRecDepth 100000 in
set_option maxHeartbeats 4000000 in
theorem ggX3_ofList_X3_refuseUnlessList : GoodIn wsX3_ofList wsX3_refuseUnlessList := goodIn_ca (goodIn_r _ [6, 7, 8, 9, 33, 34, 35, 36, 37, 38, 39] rfl (by decide +kernel)) (goodIn_sub (fun _ h => List.mem_cons_of_mem _ (List.mem_append_left _ (List.mem_append_right _ h))) (by decide +kernel))
set_option maxRecDepth 20000 in
theorem gX3_ofList_X3_refuseUnlessList : GoodIn wsX3_ofList (wsV RX3 127 RX3 yX3_refuseUnlessList wsX3_refuseUnlessList) := goodIn_app (goodIn_of _ (by decide +kernel)) ggX3_ofList_X3_refuseUnlessList
set_option maxRecDepth 100000 in
set_option maxHeartbeats 4000000 in
theorem ggX3_ofList_X3_isWithin : GoodIn wsX3_ofList wsX3_isWithin := goodIn_r _ [12] rfl (by decide +kernel)
set_option maxRecDepth 20000 in
theorem gX3_ofList_X3_isWithin : GoodIn wsX3_ofList (va_wsS RX3 80 yX3_isWithin wsX3_isWithin) := goodIn_app (goodIn_of _ (by decide +kernel)) ggX3_ofList_X3_isWithin
set_option maxRecDepth 100000 in
set_option maxHeartbeats 4000000 in
theorem ggX3_ofList_X3_refuseUnless : GoodIn wsX3_ofList wsX3_refuseUnless := goodIn_ca (goodIn_r _ [15, 16, 17] rfl (by decide +kernel)) (goodIn_sub (fun _ h => List.mem_cons_of_mem _ (List.mem_append_right _ h)) (by decide +kernel))
set_option maxRecDepth 20000 in
theorem gX3_ofList_X3_refuseUnless : GoodIn wsX3_ofList (va_wsS RX3 44 yX3_refuseUnless wsX3_refuseUnless) := goodIn_app (goodIn_of _ (by decide +kernel)) ggX3_ofList_X3_refuseUnless
set_option maxRecDepth 100000 in
set_option maxHeartbeats 4000000 in
theorem ggX3_ofList_X0_property : GoodIn wsX3_ofList wsX0_property := goodIn_r _ [21, 22, 23, 24, 25, 26, 27, 28, 29, 19, 30, 31, 5, 32, 40, 41, 42, 43, 44, 45] rfl (by decide +kernel)
set_option maxRecDepth 20000 in
theorem gX3_ofList_X0_property_n147 : GoodIn wsX3_ofList (wsX0_property) := ggX3_ofList_X0_property
theorem dX3_ofList_0 : decode cX3_ofList 0 = .ok (.aload_n 0, 1) := by decide +kernel
theorem dX3_ofList_1 : decode cX3_ofList 1 = .ok (.iload_n 1, 1) := by decide +kernel
theorem dX3_ofList_2 : decode cX3_ofList 2 = .ok (.invokevirtual 127, 3) := by decide +kernel
theorem dX3_ofList_5 : decode cX3_ofList 5 = .ok (.iload_n 2, 1) := by decide +kernel
theorem dX3_ofList_6 : decode cX3_ofList 6 = .ok (.iconst 5, 1) := by decide +kernel
theorem dX3_ofList_7 : decode cX3_ofList 7 = .ok (.invokestatic 80, 3) := by decide +kernel
theorem dX3_ofList_10 : decode cX3_ofList 10 = .ok (.invokestatic 44, 3) := by decide +kernel
theorem dX3_ofList_13 : decode cX3_ofList 13 = .ok (.aload_n 0, 1) := by decide +kernel
theorem dX3_ofList_14 : decode cX3_ofList 14 = .ok (.getfield 17, 3) := by decide +kernel
theorem dX3_ofList_17 : decode cX3_ofList 17 = .ok (.iload_n 1, 1) := by decide +kernel
theorem dX3_ofList_18 : decode cX3_ofList 18 = .ok (.aaload, 1) := by decide +kernel
theorem dX3_ofList_19 : decode cX3_ofList 19 = .ok (.iload_n 2, 1) := by decide +kernel
theorem dX3_ofList_20 : decode cX3_ofList 20 = .ok (.invokevirtual 147, 3) := by decide +kernel
theorem dX3_ofList_23 : decode cX3_ofList 23 = .ok (.ireturn, 1) := by decide +kernel
set_option maxRecDepth 100000 in
set_option maxHeartbeats 4000000 in
theorem ggX3_signed_X3_isKey : GoodIn wsX3_signed wsX3_isKey := goodIn_r _ [4, 5, 6, 3, 7] rfl (by decide +kernel)
set_option maxRecDepth 20000 in
theorem gX3_signed_X3_isKey : GoodIn wsX3_signed (va_wsS RX3 38 yX3_isKey wsX3_isKey) := goodIn_app (goodIn_of _ (by decide +kernel)) ggX3_signed_X3_isKey
set_option maxRecDepth 100000 in
set_option maxHeartbeats 4000000 in
theorem ggX3_signed_X3_isResidue : GoodIn wsX3_signed wsX3_isResidue := goodIn_r _ [10, 5, 6, 3, 7] rfl (by decide +kernel)
set_option maxRecDepth 20000 in
theorem gX3_signed_X3_isResidue : GoodIn wsX3_signed (va_wsS RX3 148 yX3_isResidue wsX3_isResidue) := goodIn_app (goodIn_of _ (by decide +kernel)) ggX3_signed_X3_isResidue
set_option maxRecDepth 100000 in
set_option maxHeartbeats 4000000 in
theorem ggX3_signed_X3_refuseUnless : GoodIn wsX3_signed wsX3_refuseUnless := goodIn_ca (goodIn_r _ [13, 14, 15] rfl (by decide +kernel)) (goodIn_sub (fun _ h => List.mem_cons_of_mem _ (List.mem_append_right _ h)) (by decide +kernel))
set_option maxRecDepth 20000 in
theorem gX3_signed_X3_refuseUnless : GoodIn wsX3_signed (va_wsS RX3 44 yX3_refuseUnless wsX3_refuseUnless) := goodIn_app (goodIn_of _ (by decide +kernel)) ggX3_signed_X3_refuseUnless
set_option maxRecDepth 100000 in
set_option maxHeartbeats 4000000 in
theorem ggX3_signed_X3_sealFor : GoodIn wsX3_signed wsX3_sealFor := goodIn_r _ [18] rfl (by decide +kernel)
set_option maxRecDepth 20000 in
theorem gX3_signed_X3_sealFor : GoodIn wsX3_signed (va_wsS RX3 100 yX3_sealFor wsX3_sealFor) := goodIn_app (goodIn_of _ (by decide +kernel)) ggX3_signed_X3_sealFor
theorem dX3_signed_0 : decode cX3_signed 0 = .ok (.iload_n 1, 1) := by decide +kernel
theorem dX3_signed_1 : decode cX3_signed 1 = .ok (.invokestatic 38, 3) := by decide +kernel
theorem dX3_signed_4 : decode cX3_signed 4 = .ok (.ifCond .eq 14, 3) := by decide +kernel
theorem dX3_signed_7 : decode cX3_signed 7 = .ok (.iload_n 2, 1) := by decide +kernel
theorem dX3_signed_8 : decode cX3_signed 8 = .ok (.invokestatic 148, 3) := by decide +kernel
theorem dX3_signed_11 : decode cX3_signed 11 = .ok (.ifCond .eq 7, 3) := by decide +kernel
theorem dX3_signed_14 : decode cX3_signed 14 = .ok (.iconst 1, 1) := by decide +kernel
theorem dX3_signed_15 : decode cX3_signed 15 = .ok (.goto 4, 3) := by decide +kernel
theorem dX3_signed_18 : decode cX3_signed 18 = .ok (.iconst 0, 1) := by decide +kernel
theorem dX3_signed_19 : decode cX3_signed 19 = .ok (.invokestatic 44, 3) := by decide +kernel
theorem dX3_signed_22 : decode cX3_signed 22 = .ok (.iload_n 2, 1) := by decide +kernel
theorem dX3_signed_23 : decode cX3_signed 23 = .ok (.iload_n 1, 1) := by decide +kernel
theorem dX3_signed_24 : decode cX3_signed 24 = .ok (.invokestatic 100, 3) := by decide +kernel
theorem dX3_signed_27 : decode cX3_signed 27 = .ok (.ireturn, 1) := by decide +kernel
set_option maxRecDepth 100000 in
set_option maxHeartbeats 4000000 in
theorem ggX3_signer_X3_isResidue : GoodIn wsX3_signer wsX3_isResidue := goodIn_r _ [4, 5, 6, 3, 7] rfl (by decide +kernel)
set_option maxRecDepth 20000 in
theorem gX3_signer_X3_isResidue : GoodIn wsX3_signer (va_wsS RX3 148 yX3_isResidue wsX3_isResidue) := goodIn_app (goodIn_of _ (by decide +kernel)) ggX3_signer_X3_isResidue
set_option maxRecDepth 100000 in
set_option maxHeartbeats 4000000 in
theorem ggX3_signer_X3_refuseUnless : GoodIn wsX3_signer wsX3_refuseUnless := goodIn_ca (goodIn_r _ [10, 11, 12] rfl (by decide +kernel)) (goodIn_sub (fun _ h => List.mem_cons_of_mem _ (List.mem_append_right _ h)) (by decide +kernel))
set_option maxRecDepth 20000 in
theorem gX3_signer_X3_refuseUnless : GoodIn wsX3_signer (va_wsS RX3 44 yX3_refuseUnless wsX3_refuseUnless) := goodIn_app (goodIn_of _ (by decide +kernel)) ggX3_signer_X3_refuseUnless
set_option maxRecDepth 100000 in
set_option maxHeartbeats 4000000 in
theorem ggX3_signer_X3_sealFor : GoodIn wsX3_signer wsX3_sealFor := goodIn_r _ [15] rfl (by decide +kernel)
set_option maxRecDepth 20000 in
theorem gX3_signer_X3_sealFor : GoodIn wsX3_signer (va_wsS RX3 100 yX3_sealFor wsX3_sealFor) := goodIn_app (goodIn_of _ (by decide +kernel)) ggX3_signer_X3_sealFor
theorem dX3_signer_0 : decode cX3_signer 0 = .ok (.iload_n 1, 1) := by decide +kernel
theorem dX3_signer_1 : decode cX3_signer 1 = .ok (.invokestatic 148, 3) := by decide +kernel
theorem dX3_signer_4 : decode cX3_signer 4 = .ok (.ifCond .eq 14, 3) := by decide +kernel
theorem dX3_signer_7 : decode cX3_signer 7 = .ok (.iload_n 2, 1) := by decide +kernel
theorem dX3_signer_8 : decode cX3_signer 8 = .ok (.invokestatic 148, 3) := by decide +kernel
theorem dX3_signer_11 : decode cX3_signer 11 = .ok (.ifCond .eq 7, 3) := by decide +kernel
theorem dX3_signer_14 : decode cX3_signer 14 = .ok (.iconst 1, 1) := by decide +kernel
theorem dX3_signer_15 : decode cX3_signer 15 = .ok (.goto 4, 3) := by decide +kernel
theorem dX3_signer_18 : decode cX3_signer 18 = .ok (.iconst 0, 1) := by decide +kernel
theorem dX3_signer_19 : decode cX3_signer 19 = .ok (.invokestatic 44, 3) := by decide +kernel
theorem dX3_signer_22 : decode cX3_signer 22 = .ok (.iconst 0, 1) := by decide +kernel
theorem dX3_signer_23 : decode cX3_signer 23 = .ok (.istore_n 3, 1) := by decide +kernel
theorem dX3_signer_24 : decode cX3_signer 24 = .ok (.iload_n 3, 1) := by decide +kernel
theorem dX3_signer_25 : decode cX3_signer 25 = .ok (.bipush 15, 2) := by decide +kernel
theorem dX3_signer_27 : decode cX3_signer 27 = .ok (.if_icmp .gt 20, 3) := by decide +kernel
theorem dX3_signer_30 : decode cX3_signer 30 = .ok (.iload_n 2, 1) := by decide +kernel
theorem dX3_signer_31 : decode cX3_signer 31 = .ok (.iload_n 3, 1) := by decide +kernel
theorem dX3_signer_32 : decode cX3_signer 32 = .ok (.invokestatic 100, 3) := by decide +kernel
theorem dX3_signer_35 : decode cX3_signer 35 = .ok (.iload_n 1, 1) := by decide +kernel
theorem dX3_signer_36 : decode cX3_signer 36 = .ok (.if_icmp .ne 5, 3) := by decide +kernel
theorem dX3_signer_39 : decode cX3_signer 39 = .ok (.iload_n 3, 1) := by decide +kernel
theorem dX3_signer_40 : decode cX3_signer 40 = .ok (.ireturn, 1) := by decide +kernel
theorem dX3_signer_41 : decode cX3_signer 41 = .ok (.iinc 3 1, 3) := by decide +kernel
theorem dX3_signer_44 : decode cX3_signer 44 = .ok (.goto (-20), 3) := by decide +kernel
theorem dX3_signer_47 : decode cX3_signer 47 = .ok (.iconst (-1), 1) := by decide +kernel
theorem dX3_signer_48 : decode cX3_signer 48 = .ok (.ireturn, 1) := by decide +kernel
set_option maxRecDepth 100000 in
set_option maxHeartbeats 4000000 in
theorem ggX3_isUnder_X3_isName : GoodIn wsX3_isUnder wsX3_isName := goodIn_r _ [4] rfl (by decide +kernel)
set_option maxRecDepth 20000 in
theorem gX3_isUnder_X3_isName : GoodIn wsX3_isUnder (va_wsS RX3 34 yX3_isName wsX3_isName) := goodIn_app (goodIn_of _ (by decide +kernel)) ggX3_isUnder_X3_isName
set_option maxRecDepth 100000 in
set_option maxHeartbeats 4000000 in
theorem ggX3_isUnder_X3_isNameOrZero : GoodIn wsX3_isUnder wsX3_isNameOrZero := goodIn_r _ [7, 1, 2, 3, 4] rfl (by decide +kernel)
set_option maxRecDepth 20000 in
theorem gX3_isUnder_X3_isNameOrZero : GoodIn wsX3_isUnder (va_wsS RX3 91 yX3_isNameOrZero wsX3_isNameOrZero) := goodIn_app (goodIn_of _ (by decide +kernel)) ggX3_isUnder_X3_isNameOrZero
set_option maxRecDepth 100000 in
set_option maxHeartbeats 4000000 in
theorem ggX3_isUnder_X3_refuseUnless : GoodIn wsX3_isUnder wsX3_refuseUnless := goodIn_ca (goodIn_r _ [10, 11, 12] rfl (by decide +kernel)) (goodIn_sub (fun _ h => List.mem_cons_of_mem _ (List.mem_append_right _ h)) (by decide +kernel))
set_option maxRecDepth 20000 in
theorem gX3_isUnder_X3_refuseUnless : GoodIn wsX3_isUnder (va_wsS RX3 44 yX3_refuseUnless wsX3_refuseUnless) := goodIn_app (goodIn_of _ (by decide +kernel)) ggX3_isUnder_X3_refuseUnless
set_option maxRecDepth 100000 in
set_option maxHeartbeats 4000000 in
theorem ggX3_isUnder_X3_isBelow : GoodIn wsX3_isUnder wsX3_isBelow := goodIn_r _ [15] rfl (by decide +kernel)
set_option maxRecDepth 20000 in
theorem gX3_isUnder_X3_isBelow : GoodIn wsX3_isUnder (va_wsS RX3 151 yX3_isBelow wsX3_isBelow) := goodIn_app (goodIn_of _ (by decide +kernel)) ggX3_isUnder_X3_isBelow
theorem dX3_isUnder_0 : decode cX3_isUnder 0 = .ok (.iload_n 1, 1) := by decide +kernel
theorem dX3_isUnder_1 : decode cX3_isUnder 1 = .ok (.invokestatic 34, 3) := by decide +kernel
theorem dX3_isUnder_4 : decode cX3_isUnder 4 = .ok (.ifCond .eq 14, 3) := by decide +kernel
theorem dX3_isUnder_7 : decode cX3_isUnder 7 = .ok (.iload_n 2, 1) := by decide +kernel
theorem dX3_isUnder_8 : decode cX3_isUnder 8 = .ok (.invokestatic 91, 3) := by decide +kernel
theorem dX3_isUnder_11 : decode cX3_isUnder 11 = .ok (.ifCond .eq 7, 3) := by decide +kernel
theorem dX3_isUnder_14 : decode cX3_isUnder 14 = .ok (.iconst 1, 1) := by decide +kernel
theorem dX3_isUnder_15 : decode cX3_isUnder 15 = .ok (.goto 4, 3) := by decide +kernel
theorem dX3_isUnder_18 : decode cX3_isUnder 18 = .ok (.iconst 0, 1) := by decide +kernel
theorem dX3_isUnder_19 : decode cX3_isUnder 19 = .ok (.invokestatic 44, 3) := by decide +kernel
theorem dX3_isUnder_22 : decode cX3_isUnder 22 = .ok (.iload_n 1, 1) := by decide +kernel
theorem dX3_isUnder_23 : decode cX3_isUnder 23 = .ok (.iload_n 2, 1) := by decide +kernel
theorem dX3_isUnder_24 : decode cX3_isUnder 24 = .ok (.invokestatic 151, 3) := by decide +kernel
theorem dX3_isUnder_27 : decode cX3_isUnder 27 = .ok (.ireturn, 1) := by decide +kernel
set_option maxRecDepth 100000 in
set_option maxHeartbeats 4000000 in
theorem ggX3_backs_X3_refuseUnlessLetter : GoodIn wsX3_backs wsX3_refuseUnlessLetter := goodIn_ca (goodIn_r _ [6, 7, 8, 9, 10, 11, 5, 12, 13, 40, 41, 42, 43, 44, 45, 46] rfl (by decide +kernel)) (goodIn_sub (fun _ h => List.mem_cons_of_mem _ (List.mem_append_right _ h)) (by decide +kernel))
set_option maxRecDepth 20000 in
theorem gX3_backs_X3_refuseUnlessLetter : GoodIn wsX3_backs (wsV RX3 63 RX3 yX3_refuseUnlessLetter wsX3_refuseUnlessLetter) := goodIn_app (goodIn_of _ (by decide +kernel)) ggX3_backs_X3_refuseUnlessLetter
set_option maxRecDepth 100000 in
set_option maxHeartbeats 4000000 in
theorem ggX3_backs_X3_isBacking : GoodIn wsX3_backs wsX3_isBacking := goodIn_r _ [16, 17, 18, 19, 20, 21, 22, 23, 24, 25, 26, 27, 28, 29, 30, 31, 32, 33, 34, 35, 36, 5, 37, 38, 39, 47, 48, 49, 50, 51, 52, 53, 54, 55, 56, 57, 58] rfl (by decide +kernel)
set_option maxRecDepth 20000 in
theorem gX3_backs_X3_isBacking : GoodIn wsX3_backs (va_wsS RX3 154 yX3_isBacking wsX3_isBacking) := goodIn_app (goodIn_of _ (by decide +kernel)) ggX3_backs_X3_isBacking
theorem dX3_backs_0 : decode cX3_backs 0 = .ok (.aload_n 0, 1) := by decide +kernel
theorem dX3_backs_1 : decode cX3_backs 1 = .ok (.iload_n 1, 1) := by decide +kernel
theorem dX3_backs_2 : decode cX3_backs 2 = .ok (.invokevirtual 63, 3) := by decide +kernel
theorem dX3_backs_5 : decode cX3_backs 5 = .ok (.aload_n 0, 1) := by decide +kernel
theorem dX3_backs_6 : decode cX3_backs 6 = .ok (.iload_n 2, 1) := by decide +kernel
theorem dX3_backs_7 : decode cX3_backs 7 = .ok (.invokevirtual 63, 3) := by decide +kernel
theorem dX3_backs_10 : decode cX3_backs 10 = .ok (.aload_n 0, 1) := by decide +kernel
theorem dX3_backs_11 : decode cX3_backs 11 = .ok (.getfield 11, 3) := by decide +kernel
theorem dX3_backs_14 : decode cX3_backs 14 = .ok (.iload_n 1, 1) := by decide +kernel
theorem dX3_backs_15 : decode cX3_backs 15 = .ok (.aaload, 1) := by decide +kernel
theorem dX3_backs_16 : decode cX3_backs 16 = .ok (.aload_n 0, 1) := by decide +kernel
theorem dX3_backs_17 : decode cX3_backs 17 = .ok (.getfield 11, 3) := by decide +kernel
theorem dX3_backs_20 : decode cX3_backs 20 = .ok (.iload_n 2, 1) := by decide +kernel
theorem dX3_backs_21 : decode cX3_backs 21 = .ok (.aaload, 1) := by decide +kernel
theorem dX3_backs_22 : decode cX3_backs 22 = .ok (.invokestatic 154, 3) := by decide +kernel
theorem dX3_backs_25 : decode cX3_backs 25 = .ok (.ireturn, 1) := by decide +kernel
set_option maxRecDepth 100000 in
set_option maxHeartbeats 4000000 in
theorem ggX3_chains_X3_refuseUnlessLetter : GoodIn wsX3_chains wsX3_refuseUnlessLetter := goodIn_ca (goodIn_r _ [6, 7, 8, 9, 10, 11, 5, 12, 13, 94, 95, 96, 97, 98, 99, 100] rfl (by decide +kernel)) (goodIn_sub (fun _ h => List.mem_cons_of_mem _ (List.mem_append_right _ h)) (by decide +kernel))
set_option maxRecDepth 20000 in
theorem gX3_chains_X3_refuseUnlessLetter : GoodIn wsX3_chains (wsV RX3 63 RX3 yX3_refuseUnlessLetter wsX3_refuseUnlessLetter) := goodIn_app (goodIn_of _ (by decide +kernel)) ggX3_chains_X3_refuseUnlessLetter
set_option maxRecDepth 100000 in
set_option maxHeartbeats 4000000 in
theorem ggX3_chains_X3_survey : GoodIn wsX3_chains wsX3_survey := goodIn_r _ [17, 13, 1, 18, 19, 20, 21, 22, 23, 5, 24, 25, 26, 27, 28, 29, 30, 31, 32, 33, 34, 35, 36, 37, 38, 39, 40, 41, 42, 43, 44, 45, 46, 47, 48, 49, 50, 51, 52, 53, 54, 55, 56, 57, 58, 59, 60, 61, 62, 63, 64, 65, 66, 67, 68, 69, 70, 71, 72, 73, 74, 75, 94, 95, 96, 97, 98, 99, 100, 101, 102, 103, 104, 105, 106, 107, 108, 109, 110, 111, 112, 113, 114, 115, 116, 117, 118, 119, 120, 121, 122, 123, 124, 125] rfl (by decide +kernel)
set_option maxRecDepth 20000 in
theorem gX3_chains_X3_survey : GoodIn wsX3_chains (wsV RX3 138 RX3 yX3_survey wsX3_survey) := goodIn_app (goodIn_of _ (by decide +kernel)) ggX3_chains_X3_survey
set_option maxRecDepth 100000 in
set_option maxHeartbeats 4000000 in
theorem ggX3_chains_X1_findChainsOf : GoodIn wsX3_chains wsX1_findChainsOf := goodIn_r _ [78, 79, 80, 60, 81, 82, 56, 83, 61, 59, 84, 85, 86, 87, 88, 89, 90, 91, 92, 93, 101, 102, 103, 104, 105, 106, 107] rfl (by decide +kernel)
set_option maxRecDepth 20000 in
theorem gX3_chains_X1_findChainsOf_n158 : GoodIn wsX3_chains (wsX1_findChainsOf) := ggX3_chains_X1_findChainsOf
theorem dX3_chains_0 : decode cX3_chains 0 = .ok (.aload_n 0, 1) := by decide +kernel
theorem dX3_chains_1 : decode cX3_chains 1 = .ok (.iload_n 1, 1) := by decide +kernel
theorem dX3_chains_2 : decode cX3_chains 2 = .ok (.invokevirtual 63, 3) := by decide +kernel
theorem dX3_chains_5 : decode cX3_chains 5 = .ok (.aload_n 0, 1) := by decide +kernel
theorem dX3_chains_6 : decode cX3_chains 6 = .ok (.invokevirtual 138, 3) := by decide +kernel
theorem dX3_chains_9 : decode cX3_chains 9 = .ok (.aload_n 0, 1) := by decide +kernel
theorem dX3_chains_10 : decode cX3_chains 10 = .ok (.getfield 24, 3) := by decide +kernel
theorem dX3_chains_13 : decode cX3_chains 13 = .ok (.iload_n 1, 1) := by decide +kernel
theorem dX3_chains_14 : decode cX3_chains 14 = .ok (.invokevirtual 158, 3) := by decide +kernel
theorem dX3_chains_17 : decode cX3_chains 17 = .ok (.aload_n 0, 1) := by decide +kernel
theorem dX3_chains_18 : decode cX3_chains 18 = .ok (.getfield 24, 3) := by decide +kernel
theorem dX3_chains_21 : decode cX3_chains 21 = .ok (.getfield 161, 3) := by decide +kernel
theorem dX3_chains_24 : decode cX3_chains 24 = .ok (.ireturn, 1) := by decide +kernel
set_option maxRecDepth 100000 in
set_option maxHeartbeats 4000000 in
theorem ggX3_verdict_X3_refuseUnlessLetter : GoodIn wsX3_verdict wsX3_refuseUnlessLetter := goodIn_ca (goodIn_r _ [6, 7, 8, 9, 10, 11, 5, 12, 13, 152, 153, 154, 155, 156, 157, 158] rfl (by decide +kernel)) (goodIn_sub (fun _ h => List.mem_cons_of_mem _ (List.mem_append_left _ (List.mem_append_right _ h))) (by decide +kernel))
set_option maxRecDepth 20000 in
theorem gX3_verdict_X3_refuseUnlessLetter : GoodIn wsX3_verdict (wsV RX3 63 RX3 yX3_refuseUnlessLetter wsX3_refuseUnlessLetter) := goodIn_app (goodIn_of _ (by decide +kernel)) ggX3_verdict_X3_refuseUnlessLetter
set_option maxRecDepth 100000 in
set_option maxHeartbeats 4000000 in
theorem ggX3_verdict_X3_refuseUnlessMoment : GoodIn wsX3_verdict wsX3_refuseUnlessMoment := goodIn_ca (goodIn_r _ [16, 17, 18, 5, 19, 20, 21, 22, 23, 24, 25, 26, 27] rfl (by decide +kernel)) (goodIn_sub (fun _ h => List.mem_cons_of_mem _ (List.mem_append_right _ h)) (by decide +kernel))
set_option maxRecDepth 20000 in
theorem gX3_verdict_X3_refuseUnlessMoment : GoodIn wsX3_verdict (va_wsS RX3 164 yX3_refuseUnlessMoment wsX3_refuseUnlessMoment) := goodIn_app (goodIn_of _ (by decide +kernel)) ggX3_verdict_X3_refuseUnlessMoment
set_option maxRecDepth 100000 in
set_option maxHeartbeats 4000000 in
theorem ggX3_verdict_X3_survey : GoodIn wsX3_verdict wsX3_survey := goodIn_r _ [31, 13, 1, 32, 33, 34, 35, 36, 37, 5, 38, 39, 40, 41, 42, 43, 44, 45, 46, 47, 48, 49, 50, 51, 52, 53, 54, 55, 56, 57, 58, 59, 60, 61, 62, 63, 64, 65, 66, 67, 68, 69, 70, 71, 72, 73, 74, 75, 76, 77, 78, 79, 80, 81, 82, 83, 84, 85, 86, 87, 88, 89, 152, 153, 154, 155, 156, 157, 158, 159, 160, 161, 162, 163, 164, 165, 166, 167, 168, 169, 170, 171, 172, 173, 174, 175, 176, 177, 178, 179, 180, 181, 182, 183] rfl (by decide +kernel)
set_option maxRecDepth 20000 in
theorem gX3_verdict_X3_survey : GoodIn wsX3_verdict (wsV RX3 138 RX3 yX3_survey wsX3_survey) := goodIn_app (goodIn_of _ (by decide +kernel)) ggX3_verdict_X3_survey
set_option maxRecDepth 100000 in
set_option maxHeartbeats 4000000 in
theorem ggX3_verdict_X1_findChainsOf : GoodIn wsX3_verdict wsX1_findChainsOf := goodIn_r _ [92, 93, 94, 74, 95, 96, 70, 97, 75, 73, 98, 99, 100, 101, 102, 103, 104, 105, 106, 107, 159, 160, 161, 162, 163, 164, 165] rfl (by decide +kernel)
set_option maxRecDepth 20000 in
theorem gX3_verdict_X1_findChainsOf_n158 : GoodIn wsX3_verdict (wsX1_findChainsOf) := ggX3_verdict_X1_findChainsOf
set_option maxRecDepth 100000 in
set_option maxHeartbeats 4000000 in
theorem ggX3_verdict_X3_decision : GoodIn wsX3_verdict wsX3_decision := goodIn_r _ [111, 1, 112, 113, 114, 5, 115, 116, 117, 118, 119, 120, 70, 121, 122, 93, 107, 123, 124, 125, 126, 32, 127, 128, 129, 102, 9, 10, 11, 12, 13, 130, 43, 131, 132, 55, 56, 59, 133, 134, 135, 136, 137, 138, 139, 140, 141, 142, 143, 144, 34, 145, 146, 147, 148, 33, 149, 77, 150, 151, 89, 152, 153, 154, 155, 156, 157, 158, 159, 160, 161, 162, 163, 164, 165, 166, 167, 168, 169, 170, 171, 172, 173, 174, 175, 176, 177, 178, 179, 180, 181, 182, 183] rfl (by decide +kernel)
set_option maxRecDepth 20000 in
theorem gX3_verdict_X3_decision : GoodIn wsX3_verdict (wsV RX3 168 RX3 yX3_decision wsX3_decision) := goodIn_app (goodIn_of _ (by decide +kernel)) ggX3_verdict_X3_decision
theorem dX3_verdict_0 : decode cX3_verdict 0 = .ok (.aload_n 0, 1) := by decide +kernel
theorem dX3_verdict_1 : decode cX3_verdict 1 = .ok (.iload_n 1, 1) := by decide +kernel
theorem dX3_verdict_2 : decode cX3_verdict 2 = .ok (.invokevirtual 63, 3) := by decide +kernel
theorem dX3_verdict_5 : decode cX3_verdict 5 = .ok (.iload_n 2, 1) := by decide +kernel
theorem dX3_verdict_6 : decode cX3_verdict 6 = .ok (.iload_n 3, 1) := by decide +kernel
theorem dX3_verdict_7 : decode cX3_verdict 7 = .ok (.invokestatic 164, 3) := by decide +kernel
theorem dX3_verdict_10 : decode cX3_verdict 10 = .ok (.aload_n 0, 1) := by decide +kernel
theorem dX3_verdict_11 : decode cX3_verdict 11 = .ok (.invokevirtual 138, 3) := by decide +kernel
theorem dX3_verdict_14 : decode cX3_verdict 14 = .ok (.aload_n 0, 1) := by decide +kernel
theorem dX3_verdict_15 : decode cX3_verdict 15 = .ok (.getfield 24, 3) := by decide +kernel
theorem dX3_verdict_18 : decode cX3_verdict 18 = .ok (.iload_n 1, 1) := by decide +kernel
theorem dX3_verdict_19 : decode cX3_verdict 19 = .ok (.invokevirtual 158, 3) := by decide +kernel
theorem dX3_verdict_22 : decode cX3_verdict 22 = .ok (.aload_n 0, 1) := by decide +kernel
theorem dX3_verdict_23 : decode cX3_verdict 23 = .ok (.iload_n 2, 1) := by decide +kernel
theorem dX3_verdict_24 : decode cX3_verdict 24 = .ok (.iload_n 3, 1) := by decide +kernel
theorem dX3_verdict_25 : decode cX3_verdict 25 = .ok (.invokevirtual 168, 3) := by decide +kernel
theorem dX3_verdict_28 : decode cX3_verdict 28 = .ok (.ireturn, 1) := by decide +kernel
set_option maxRecDepth 100000 in
set_option maxHeartbeats 4000000 in
theorem ggX3_chain_X3_refuseUnlessLetter : GoodIn wsX3_chain wsX3_refuseUnlessLetter := goodIn_ca (goodIn_r _ [6, 7, 8, 9, 10, 11, 5, 12, 13, 148, 149, 150, 151, 152, 153, 154] rfl (by decide +kernel)) (goodIn_sub (fun _ h => List.mem_cons_of_mem _ (List.mem_append_left _ (List.mem_append_right _ h))) (by decide +kernel))
set_option maxRecDepth 20000 in
theorem gX3_chain_X3_refuseUnlessLetter : GoodIn wsX3_chain (wsV RX3 63 RX3 yX3_refuseUnlessLetter wsX3_refuseUnlessLetter) := goodIn_app (goodIn_of _ (by decide +kernel)) ggX3_chain_X3_refuseUnlessLetter
set_option maxRecDepth 100000 in
set_option maxHeartbeats 4000000 in
theorem ggX3_chain_X3_refuseUnlessMoment : GoodIn wsX3_chain wsX3_refuseUnlessMoment := goodIn_ca (goodIn_r _ [16, 17, 18, 5, 19, 20, 21, 22, 23, 24, 25, 26, 27] rfl (by decide +kernel)) (goodIn_sub (fun _ h => List.mem_cons_of_mem _ (List.mem_append_right _ h)) (by decide +kernel))
set_option maxRecDepth 20000 in
theorem gX3_chain_X3_refuseUnlessMoment : GoodIn wsX3_chain (va_wsS RX3 164 yX3_refuseUnlessMoment wsX3_refuseUnlessMoment) := goodIn_app (goodIn_of _ (by decide +kernel)) ggX3_chain_X3_refuseUnlessMoment
set_option maxRecDepth 100000 in
set_option maxHeartbeats 4000000 in
theorem ggX3_chain_X3_survey : GoodIn wsX3_chain wsX3_survey := goodIn_r _ [31, 13, 1, 32, 33, 34, 35, 36, 37, 5, 38, 39, 40, 41, 42, 43, 44, 45, 46, 47, 48, 49, 50, 51, 52, 53, 54, 55, 56, 57, 58, 59, 60, 61, 62, 63, 64, 65, 66, 67, 68, 69, 70, 71, 72, 73, 74, 75, 76, 77, 78, 79, 80, 81, 82, 83, 84, 85, 86, 87, 88, 89, 148, 149, 150, 151, 152, 153, 154, 155, 156, 157, 158, 159, 160, 161, 162, 163, 164, 165, 166, 167, 168, 169, 170, 171, 172, 173, 174, 175, 176, 177, 178, 179] rfl (by decide +kernel)
set_option maxRecDepth 20000 in
theorem gX3_chain_X3_survey : GoodIn wsX3_chain (wsV RX3 138 RX3 yX3_survey wsX3_survey) := goodIn_app (goodIn_of _ (by decide +kernel)) ggX3_chain_X3_survey
set_option maxRecDepth 100000 in
set_option maxHeartbeats 4000000 in
theorem ggX3_chain_X1_findChainsOf : GoodIn wsX3_chain wsX1_findChainsOf := goodIn_r _ [92, 93, 94, 74, 95, 96, 70, 97, 75, 73, 98, 99, 100, 101, 102, 103, 104, 105, 106, 107, 155, 156, 157, 158, 159, 160, 161] rfl (by decide +kernel)
set_option maxRecDepth 20000 in
theorem gX3_chain_X1_findChainsOf_n158 : GoodIn wsX3_chain (wsX1_findChainsOf) := ggX3_chain_X1_findChainsOf
set_option maxRecDepth 100000 in
set_option maxHeartbeats 4000000 in
theorem ggX3_chain_X3_firstHolding : GoodIn wsX3_chain wsX3_firstHolding := goodIn_r _ [111, 1, 112, 113, 114, 5, 115, 116, 70, 117, 118, 93, 107, 119, 120, 121, 122, 32, 123, 124, 125, 102, 9, 10, 11, 12, 13, 126, 43, 127, 128, 55, 56, 59, 129, 130, 131, 132, 133, 134, 135, 136, 137, 138, 139, 140, 34, 141, 142, 143, 144, 33, 145, 77, 146, 147, 89, 148, 149, 150, 151, 152, 153, 154, 155, 156, 157, 158, 159, 160, 161, 162, 163, 164, 165, 166, 167, 168, 169, 170, 171, 172, 173, 174, 175, 176, 177, 178, 179] rfl (by decide +kernel)
set_option maxRecDepth 20000 in
theorem gX3_chain_X3_firstHolding : GoodIn wsX3_chain (wsV RX3 171 RX3 yX3_firstHolding wsX3_firstHolding) := goodIn_app (goodIn_of _ (by decide +kernel)) ggX3_chain_X3_firstHolding
set_option maxRecDepth 100000 in
set_option maxHeartbeats 4000000 in
theorem ggX3_chain_X1_member : GoodIn wsX3_chain wsX1_member := goodIn_r _ [125, 93, 107, 102, 155, 156, 157, 158, 159, 160, 161] rfl (by decide +kernel)
set_option maxRecDepth 20000 in
theorem gX3_chain_X1_member_n174 : GoodIn wsX3_chain (wsX1_member) := ggX3_chain_X1_member
theorem dX3_chain_0 : decode cX3_chain 0 = .ok (.aload_n 0, 1) := by decide +kernel
theorem dX3_chain_1 : decode cX3_chain 1 = .ok (.iload_n 1, 1) := by decide +kernel
theorem dX3_chain_2 : decode cX3_chain 2 = .ok (.invokevirtual 63, 3) := by decide +kernel
theorem dX3_chain_5 : decode cX3_chain 5 = .ok (.iload_n 2, 1) := by decide +kernel
theorem dX3_chain_6 : decode cX3_chain 6 = .ok (.iload_n 3, 1) := by decide +kernel
theorem dX3_chain_7 : decode cX3_chain 7 = .ok (.invokestatic 164, 3) := by decide +kernel
theorem dX3_chain_10 : decode cX3_chain 10 = .ok (.aload_n 0, 1) := by decide +kernel
theorem dX3_chain_11 : decode cX3_chain 11 = .ok (.invokevirtual 138, 3) := by decide +kernel
theorem dX3_chain_14 : decode cX3_chain 14 = .ok (.aload_n 0, 1) := by decide +kernel
theorem dX3_chain_15 : decode cX3_chain 15 = .ok (.getfield 24, 3) := by decide +kernel
theorem dX3_chain_18 : decode cX3_chain 18 = .ok (.iload_n 1, 1) := by decide +kernel
theorem dX3_chain_19 : decode cX3_chain 19 = .ok (.invokevirtual 158, 3) := by decide +kernel
theorem dX3_chain_22 : decode cX3_chain 22 = .ok (.aload_n 0, 1) := by decide +kernel
theorem dX3_chain_23 : decode cX3_chain 23 = .ok (.iload_n 2, 1) := by decide +kernel
theorem dX3_chain_24 : decode cX3_chain 24 = .ok (.iload_n 3, 1) := by decide +kernel
theorem dX3_chain_25 : decode cX3_chain 25 = .ok (.invokevirtual 171, 3) := by decide +kernel
theorem dX3_chain_28 : decode cX3_chain 28 = .ok (.istore 5, 2) := by decide +kernel
theorem dX3_chain_30 : decode cX3_chain 30 = .ok (.aload_n 0, 1) := by decide +kernel
theorem dX3_chain_31 : decode cX3_chain 31 = .ok (.getfield 24, 3) := by decide +kernel
theorem dX3_chain_34 : decode cX3_chain 34 = .ok (.iload 5, 2) := by decide +kernel
theorem dX3_chain_36 : decode cX3_chain 36 = .ok (.iconst (-1), 1) := by decide +kernel
theorem dX3_chain_37 : decode cX3_chain 37 = .ok (.if_icmp .ne 7, 3) := by decide +kernel
theorem dX3_chain_40 : decode cX3_chain 40 = .ok (.iconst 0, 1) := by decide +kernel
theorem dX3_chain_41 : decode cX3_chain 41 = .ok (.goto 5, 3) := by decide +kernel
theorem dX3_chain_44 : decode cX3_chain 44 = .ok (.iload 5, 2) := by decide +kernel
theorem dX3_chain_46 : decode cX3_chain 46 = .ok (.iload 4, 2) := by decide +kernel
theorem dX3_chain_48 : decode cX3_chain 48 = .ok (.invokevirtual 174, 3) := by decide +kernel
theorem dX3_chain_51 : decode cX3_chain 51 = .ok (.ireturn, 1) := by decide +kernel
set_option maxRecDepth 100000 in
set_option maxHeartbeats 4000000 in
theorem ggX3_flawAt_X3_refuseUnlessLetter : GoodIn wsX3_flawAt wsX3_refuseUnlessLetter := goodIn_ca (goodIn_r _ [6, 7, 8, 9, 10, 11, 5, 12, 13, 152, 153, 154, 155, 156, 157, 158] rfl (by decide +kernel)) (goodIn_sub (fun _ h => List.mem_cons_of_mem _ (List.mem_append_left _ (List.mem_append_right _ h))) (by decide +kernel))
set_option maxRecDepth 20000 in
theorem gX3_flawAt_X3_refuseUnlessLetter : GoodIn wsX3_flawAt (wsV RX3 63 RX3 yX3_refuseUnlessLetter wsX3_refuseUnlessLetter) := goodIn_app (goodIn_of _ (by decide +kernel)) ggX3_flawAt_X3_refuseUnlessLetter
set_option maxRecDepth 100000 in
set_option maxHeartbeats 4000000 in
theorem ggX3_flawAt_X3_refuseUnlessMoment : GoodIn wsX3_flawAt wsX3_refuseUnlessMoment := goodIn_ca (goodIn_r _ [16, 17, 18, 5, 19, 20, 21, 22, 23, 24, 25, 26, 27] rfl (by decide +kernel)) (goodIn_sub (fun _ h => List.mem_cons_of_mem _ (List.mem_append_right _ h)) (by decide +kernel))
set_option maxRecDepth 20000 in
theorem gX3_flawAt_X3_refuseUnlessMoment : GoodIn wsX3_flawAt (va_wsS RX3 164 yX3_refuseUnlessMoment wsX3_refuseUnlessMoment) := goodIn_app (goodIn_of _ (by decide +kernel)) ggX3_flawAt_X3_refuseUnlessMoment
set_option maxRecDepth 100000 in
set_option maxHeartbeats 4000000 in
theorem ggX3_flawAt_X3_survey : GoodIn wsX3_flawAt wsX3_survey := goodIn_r _ [31, 13, 1, 32, 33, 34, 35, 36, 37, 5, 38, 39, 40, 41, 42, 43, 44, 45, 46, 47, 48, 49, 50, 51, 52, 53, 54, 55, 56, 57, 58, 59, 60, 61, 62, 63, 64, 65, 66, 67, 68, 69, 70, 71, 72, 73, 74, 75, 76, 77, 78, 79, 80, 81, 82, 83, 84, 85, 86, 87, 88, 89, 152, 153, 154, 155, 156, 157, 158, 159, 160, 161, 162, 163, 164, 165, 166, 167, 168, 169, 170, 171, 172, 173, 174, 175, 176, 177, 178, 179, 180, 181, 182, 183] rfl (by decide +kernel)
set_option maxRecDepth 20000 in
theorem gX3_flawAt_X3_survey : GoodIn wsX3_flawAt (wsV RX3 138 RX3 yX3_survey wsX3_survey) := goodIn_app (goodIn_of _ (by decide +kernel)) ggX3_flawAt_X3_survey
set_option maxRecDepth 100000 in
set_option maxHeartbeats 4000000 in
theorem ggX3_flawAt_X1_findChainsOf : GoodIn wsX3_flawAt wsX1_findChainsOf := goodIn_r _ [92, 93, 94, 74, 95, 96, 70, 97, 75, 73, 98, 99, 100, 101, 102, 103, 104, 105, 106, 107, 159, 160, 161, 162, 163, 164, 165] rfl (by decide +kernel)
set_option maxRecDepth 20000 in
theorem gX3_flawAt_X1_findChainsOf_n158 : GoodIn wsX3_flawAt (wsX1_findChainsOf) := ggX3_flawAt_X1_findChainsOf
set_option maxRecDepth 100000 in
set_option maxHeartbeats 4000000 in
theorem ggX3_flawAt_X3_decidingPlace : GoodIn wsX3_flawAt wsX3_decidingPlace := goodIn_r _ [111, 112, 113, 114, 5, 115, 1, 116, 117, 118, 119, 120, 70, 121, 122, 93, 107, 123, 124, 125, 126, 32, 127, 128, 129, 102, 9, 10, 11, 12, 13, 130, 43, 131, 132, 55, 56, 59, 133, 134, 135, 136, 137, 138, 139, 140, 141, 142, 143, 144, 34, 145, 146, 147, 148, 33, 149, 77, 150, 151, 89, 152, 153, 154, 155, 156, 157, 158, 159, 160, 161, 162, 163, 164, 165, 166, 167, 168, 169, 170, 171, 172, 173, 174, 175, 176, 177, 178, 179, 180, 181, 182, 183] rfl (by decide +kernel)
set_option maxRecDepth 20000 in
theorem gX3_flawAt_X3_decidingPlace : GoodIn wsX3_flawAt (wsV RX3 177 RX3 yX3_decidingPlace wsX3_decidingPlace) := goodIn_app (goodIn_of _ (by decide +kernel)) ggX3_flawAt_X3_decidingPlace
theorem dX3_flawAt_0 : decode cX3_flawAt 0 = .ok (.aload_n 0, 1) := by decide +kernel
theorem dX3_flawAt_1 : decode cX3_flawAt 1 = .ok (.iload_n 1, 1) := by decide +kernel
theorem dX3_flawAt_2 : decode cX3_flawAt 2 = .ok (.invokevirtual 63, 3) := by decide +kernel
theorem dX3_flawAt_5 : decode cX3_flawAt 5 = .ok (.iload_n 2, 1) := by decide +kernel
theorem dX3_flawAt_6 : decode cX3_flawAt 6 = .ok (.iload_n 3, 1) := by decide +kernel
theorem dX3_flawAt_7 : decode cX3_flawAt 7 = .ok (.invokestatic 164, 3) := by decide +kernel
theorem dX3_flawAt_10 : decode cX3_flawAt 10 = .ok (.aload_n 0, 1) := by decide +kernel
theorem dX3_flawAt_11 : decode cX3_flawAt 11 = .ok (.invokevirtual 138, 3) := by decide +kernel
theorem dX3_flawAt_14 : decode cX3_flawAt 14 = .ok (.aload_n 0, 1) := by decide +kernel
theorem dX3_flawAt_15 : decode cX3_flawAt 15 = .ok (.getfield 24, 3) := by decide +kernel
theorem dX3_flawAt_18 : decode cX3_flawAt 18 = .ok (.iload_n 1, 1) := by decide +kernel
theorem dX3_flawAt_19 : decode cX3_flawAt 19 = .ok (.invokevirtual 158, 3) := by decide +kernel
theorem dX3_flawAt_22 : decode cX3_flawAt 22 = .ok (.aload_n 0, 1) := by decide +kernel
theorem dX3_flawAt_23 : decode cX3_flawAt 23 = .ok (.iload_n 2, 1) := by decide +kernel
theorem dX3_flawAt_24 : decode cX3_flawAt 24 = .ok (.iload_n 3, 1) := by decide +kernel
theorem dX3_flawAt_25 : decode cX3_flawAt 25 = .ok (.invokevirtual 177, 3) := by decide +kernel
theorem dX3_flawAt_28 : decode cX3_flawAt 28 = .ok (.ireturn, 1) := by decide +kernel
set_option maxRecDepth 100000 in
set_option maxHeartbeats 4000000 in
theorem ggX3_isOf_X3_isName : GoodIn wsX3_isOf wsX3_isName := goodIn_r _ [7] rfl (by decide +kernel)
set_option maxRecDepth 20000 in
theorem gX3_isOf_X3_isName : GoodIn wsX3_isOf (va_wsS RX3 34 yX3_isName wsX3_isName) := goodIn_app (goodIn_of _ (by decide +kernel)) ggX3_isOf_X3_isName
set_option maxRecDepth 100000 in
set_option maxHeartbeats 4000000 in
theorem ggX3_isOf_X3_isKey : GoodIn wsX3_isOf wsX3_isKey := goodIn_r _ [10, 11, 12, 6, 13] rfl (by decide +kernel)
set_option maxRecDepth 20000 in
theorem gX3_isOf_X3_isKey : GoodIn wsX3_isOf (va_wsS RX3 38 yX3_isKey wsX3_isKey) := goodIn_app (goodIn_of _ (by decide +kernel)) ggX3_isOf_X3_isKey
set_option maxRecDepth 100000 in
set_option maxHeartbeats 4000000 in
theorem ggX3_isOf_X3_refuseUnless : GoodIn wsX3_isOf wsX3_refuseUnless := goodIn_ca (goodIn_r _ [16, 17, 18] rfl (by decide +kernel)) (goodIn_sub (fun _ h => List.mem_cons_of_mem _ (List.mem_append_right _ h)) (by decide +kernel))
set_option maxRecDepth 20000 in
theorem gX3_isOf_X3_refuseUnless : GoodIn wsX3_isOf (va_wsS RX3 44 yX3_refuseUnless wsX3_refuseUnless) := goodIn_app (goodIn_of _ (by decide +kernel)) ggX3_isOf_X3_refuseUnless
set_option maxRecDepth 100000 in
set_option maxHeartbeats 4000000 in
theorem ggX3_isOf_X3_refuseUnlessMoment : GoodIn wsX3_isOf wsX3_refuseUnlessMoment := goodIn_ca (goodIn_r _ [21, 22, 23, 6, 24, 11, 12, 13, 14, 15, 16, 17, 18] rfl (by decide +kernel)) (goodIn_sub (fun _ h => List.mem_cons_of_mem _ (List.mem_append_right _ h)) (by decide +kernel))
set_option maxRecDepth 20000 in
theorem gX3_isOf_X3_refuseUnlessMoment : GoodIn wsX3_isOf (va_wsS RX3 164 yX3_refuseUnlessMoment wsX3_refuseUnlessMoment) := goodIn_app (goodIn_of _ (by decide +kernel)) ggX3_isOf_X3_refuseUnlessMoment
set_option maxRecDepth 100000 in
set_option maxHeartbeats 4000000 in
theorem ggX3_isOf_X3_survey : GoodIn wsX3_isOf wsX3_survey := goodIn_r _ [28, 1, 3, 2, 29, 30, 31, 32, 33, 6, 34, 35, 36, 37, 38, 39, 40, 41, 42, 43, 44, 45, 46, 47, 48, 49, 50, 51, 52, 53, 54, 55, 56, 57, 58, 59, 60, 61, 62, 63, 64, 65, 66, 67, 68, 69, 70, 71, 72, 73, 74, 75, 76, 77, 78, 79, 80, 81, 82, 83, 84, 85, 148, 149, 150, 151, 152, 153, 154, 167, 168, 169, 170, 171, 172, 173, 155, 156, 157, 158, 159, 160, 161, 162, 163, 164, 165, 166, 174, 175, 176, 177, 178, 179] rfl (by decide +kernel)
set_option maxRecDepth 20000 in
theorem gX3_isOf_X3_survey : GoodIn wsX3_isOf (wsV RX3 138 RX3 yX3_survey wsX3_survey) := goodIn_app (goodIn_of _ (by decide +kernel)) ggX3_isOf_X3_survey
set_option maxRecDepth 100000 in
set_option maxHeartbeats 4000000 in
theorem ggX3_isOf_X1_findChainsOf : GoodIn wsX3_isOf wsX1_findChainsOf := goodIn_r _ [88, 89, 90, 70, 91, 92, 66, 93, 71, 69, 94, 95, 96, 97, 98, 99, 100, 101, 102, 103, 167, 168, 169, 170, 171, 172, 173] rfl (by decide +kernel)
set_option maxRecDepth 20000 in
theorem gX3_isOf_X1_findChainsOf_n158 : GoodIn wsX3_isOf (wsX1_findChainsOf) := ggX3_isOf_X1_findChainsOf
set_option maxRecDepth 100000 in
set_option maxHeartbeats 4000000 in
theorem ggX3_isOf_X3_firstHolding : GoodIn wsX3_isOf wsX3_firstHolding := goodIn_r _ [107, 3, 108, 109, 110, 6, 111, 112, 66, 113, 114, 89, 103, 115, 116, 117, 118, 2, 119, 120, 121, 98, 122, 123, 124, 125, 1, 126, 39, 127, 128, 51, 52, 55, 129, 130, 131, 132, 133, 134, 135, 136, 137, 138, 139, 140, 30, 141, 142, 143, 144, 29, 145, 73, 146, 147, 85, 148, 149, 150, 151, 152, 153, 154, 167, 168, 169, 170, 171, 172, 173, 155, 156, 157, 158, 159, 160, 161, 162, 163, 164, 165, 166, 174, 175, 176, 177, 178, 179] rfl (by decide +kernel)
set_option maxRecDepth 20000 in
theorem gX3_isOf_X3_firstHolding : GoodIn wsX3_isOf (wsV RX3 171 RX3 yX3_firstHolding wsX3_firstHolding) := goodIn_app (goodIn_of _ (by decide +kernel)) ggX3_isOf_X3_firstHolding
theorem dX3_isOf_0 : decode cX3_isOf 0 = .ok (.iload_n 1, 1) := by decide +kernel
theorem dX3_isOf_1 : decode cX3_isOf 1 = .ok (.invokestatic 34, 3) := by decide +kernel
theorem dX3_isOf_4 : decode cX3_isOf 4 = .ok (.ifCond .eq 14, 3) := by decide +kernel
theorem dX3_isOf_7 : decode cX3_isOf 7 = .ok (.iload_n 2, 1) := by decide +kernel
theorem dX3_isOf_8 : decode cX3_isOf 8 = .ok (.invokestatic 38, 3) := by decide +kernel
theorem dX3_isOf_11 : decode cX3_isOf 11 = .ok (.ifCond .eq 7, 3) := by decide +kernel
theorem dX3_isOf_14 : decode cX3_isOf 14 = .ok (.iconst 1, 1) := by decide +kernel
theorem dX3_isOf_15 : decode cX3_isOf 15 = .ok (.goto 4, 3) := by decide +kernel
theorem dX3_isOf_18 : decode cX3_isOf 18 = .ok (.iconst 0, 1) := by decide +kernel
theorem dX3_isOf_19 : decode cX3_isOf 19 = .ok (.invokestatic 44, 3) := by decide +kernel
theorem dX3_isOf_22 : decode cX3_isOf 22 = .ok (.iload_n 3, 1) := by decide +kernel
theorem dX3_isOf_23 : decode cX3_isOf 23 = .ok (.iload 4, 2) := by decide +kernel
theorem dX3_isOf_25 : decode cX3_isOf 25 = .ok (.invokestatic 164, 3) := by decide +kernel
theorem dX3_isOf_28 : decode cX3_isOf 28 = .ok (.aload_n 0, 1) := by decide +kernel
theorem dX3_isOf_29 : decode cX3_isOf 29 = .ok (.invokevirtual 138, 3) := by decide +kernel
theorem dX3_isOf_32 : decode cX3_isOf 32 = .ok (.iconst 0, 1) := by decide +kernel
theorem dX3_isOf_33 : decode cX3_isOf 33 = .ok (.istore 5, 2) := by decide +kernel
theorem dX3_isOf_35 : decode cX3_isOf 35 = .ok (.iload 5, 2) := by decide +kernel
theorem dX3_isOf_37 : decode cX3_isOf 37 = .ok (.aload_n 0, 1) := by decide +kernel
theorem dX3_isOf_38 : decode cX3_isOf 38 = .ok (.getfield 48, 3) := by decide +kernel
theorem dX3_isOf_41 : decode cX3_isOf 41 = .ok (.if_icmp .ge 58, 3) := by decide +kernel
theorem dX3_isOf_44 : decode cX3_isOf 44 = .ok (.aload_n 0, 1) := by decide +kernel
theorem dX3_isOf_45 : decode cX3_isOf 45 = .ok (.getfield 11, 3) := by decide +kernel
theorem dX3_isOf_48 : decode cX3_isOf 48 = .ok (.iload 5, 2) := by decide +kernel
theorem dX3_isOf_50 : decode cX3_isOf 50 = .ok (.aaload, 1) := by decide +kernel
theorem dX3_isOf_51 : decode cX3_isOf 51 = .ok (.astore 6, 2) := by decide +kernel
theorem dX3_isOf_53 : decode cX3_isOf 53 = .ok (.aload 6, 2) := by decide +kernel
theorem dX3_isOf_55 : decode cX3_isOf 55 = .ok (.getfield 180, 3) := by decide +kernel
theorem dX3_isOf_58 : decode cX3_isOf 58 = .ok (.iload_n 1, 1) := by decide +kernel
theorem dX3_isOf_59 : decode cX3_isOf 59 = .ok (.if_icmp .ne 34, 3) := by decide +kernel
theorem dX3_isOf_62 : decode cX3_isOf 62 = .ok (.aload 6, 2) := by decide +kernel
theorem dX3_isOf_64 : decode cX3_isOf 64 = .ok (.getfield 183, 3) := by decide +kernel
theorem dX3_isOf_67 : decode cX3_isOf 67 = .ok (.iload_n 2, 1) := by decide +kernel
theorem dX3_isOf_68 : decode cX3_isOf 68 = .ok (.if_icmp .ne 25, 3) := by decide +kernel
theorem dX3_isOf_71 : decode cX3_isOf 71 = .ok (.aload_n 0, 1) := by decide +kernel
theorem dX3_isOf_72 : decode cX3_isOf 72 = .ok (.getfield 24, 3) := by decide +kernel
theorem dX3_isOf_75 : decode cX3_isOf 75 = .ok (.iload 5, 2) := by decide +kernel
theorem dX3_isOf_77 : decode cX3_isOf 77 = .ok (.invokevirtual 158, 3) := by decide +kernel
theorem dX3_isOf_80 : decode cX3_isOf 80 = .ok (.aload_n 0, 1) := by decide +kernel
theorem dX3_isOf_81 : decode cX3_isOf 81 = .ok (.iload_n 3, 1) := by decide +kernel
theorem dX3_isOf_82 : decode cX3_isOf 82 = .ok (.iload 4, 2) := by decide +kernel
theorem dX3_isOf_84 : decode cX3_isOf 84 = .ok (.invokevirtual 171, 3) := by decide +kernel
theorem dX3_isOf_87 : decode cX3_isOf 87 = .ok (.iconst (-1), 1) := by decide +kernel
theorem dX3_isOf_88 : decode cX3_isOf 88 = .ok (.if_icmp .eq 5, 3) := by decide +kernel
theorem dX3_isOf_91 : decode cX3_isOf 91 = .ok (.iconst 1, 1) := by decide +kernel
theorem dX3_isOf_92 : decode cX3_isOf 92 = .ok (.ireturn, 1) := by decide +kernel
theorem dX3_isOf_93 : decode cX3_isOf 93 = .ok (.iinc 5 1, 3) := by decide +kernel
theorem dX3_isOf_96 : decode cX3_isOf 96 = .ok (.goto (-61), 3) := by decide +kernel
theorem dX3_isOf_99 : decode cX3_isOf 99 = .ok (.iconst 0, 1) := by decide +kernel
theorem dX3_isOf_100 : decode cX3_isOf 100 = .ok (.ireturn, 1) := by decide +kernel
set_option maxRecDepth 100000 in
set_option maxHeartbeats 4000000 in
theorem ggX3_meanChain_X3_refuseUnlessMoment : GoodIn wsX3_meanChain wsX3_refuseUnlessMoment := goodIn_ca (goodIn_r _ [6, 7, 8, 5, 9, 10, 11, 12, 13, 14, 15, 16, 17] rfl (by decide +kernel)) (goodIn_sub (fun _ h => List.mem_cons_of_mem _ (List.mem_append_right _ h)) (by decide +kernel))
set_option maxRecDepth 20000 in
theorem gX3_meanChain_X3_refuseUnlessMoment : GoodIn wsX3_meanChain (va_wsS RX3 164 yX3_refuseUnlessMoment wsX3_refuseUnlessMoment) := goodIn_app (goodIn_of _ (by decide +kernel)) ggX3_meanChain_X3_refuseUnlessMoment
set_option maxRecDepth 100000 in
set_option maxHeartbeats 4000000 in
theorem ggX3_meanChain_X3_survey : GoodIn wsX3_meanChain wsX3_survey := goodIn_r _ [21, 1, 2, 22, 23, 24, 25, 26, 27, 5, 28, 29, 30, 31, 32, 33, 34, 35, 36, 37, 38, 39, 40, 41, 42, 43, 44, 45, 46, 47, 48, 49, 50, 51, 52, 53, 54, 55, 56, 57, 58, 59, 60, 61, 62, 63, 64, 65, 66, 67, 68, 69, 70, 71, 72, 73, 74, 75, 76, 77, 78, 79, 142, 143, 144, 145, 146, 147, 148, 149, 150, 151, 152, 153, 154, 155, 156, 157, 158, 159, 160, 161, 162, 163, 164, 165, 166, 167, 168, 169, 170, 171, 172, 173] rfl (by decide +kernel)
set_option maxRecDepth 20000 in
theorem gX3_meanChain_X3_survey : GoodIn wsX3_meanChain (wsV RX3 138 RX3 yX3_survey wsX3_survey) := goodIn_app (goodIn_of _ (by decide +kernel)) ggX3_meanChain_X3_survey
set_option maxRecDepth 100000 in
set_option maxHeartbeats 4000000 in
theorem ggX3_meanChain_X1_findChainsOf : GoodIn wsX3_meanChain wsX1_findChainsOf := goodIn_r _ [82, 83, 84, 64, 85, 86, 60, 87, 65, 63, 88, 89, 90, 91, 92, 93, 94, 95, 96, 97, 149, 150, 151, 152, 153, 154, 155] rfl (by decide +kernel)
set_option maxRecDepth 20000 in
theorem gX3_meanChain_X1_findChainsOf_n158 : GoodIn wsX3_meanChain (wsX1_findChainsOf) := ggX3_meanChain_X1_findChainsOf
set_option maxRecDepth 100000 in
set_option maxHeartbeats 4000000 in
theorem ggX3_meanChain_X3_firstHolding : GoodIn wsX3_meanChain wsX3_firstHolding := goodIn_r _ [101, 2, 102, 103, 104, 5, 105, 106, 60, 107, 108, 83, 97, 109, 110, 111, 112, 22, 113, 114, 115, 92, 116, 117, 118, 119, 1, 120, 33, 121, 122, 45, 46, 49, 123, 124, 125, 126, 127, 128, 129, 130, 131, 132, 133, 134, 24, 135, 136, 137, 138, 23, 139, 67, 140, 141, 79, 142, 143, 144, 145, 146, 147, 148, 149, 150, 151, 152, 153, 154, 155, 156, 157, 158, 159, 160, 161, 162, 163, 164, 165, 166, 167, 168, 169, 170, 171, 172, 173] rfl (by decide +kernel)
set_option maxRecDepth 20000 in
theorem gX3_meanChain_X3_firstHolding : GoodIn wsX3_meanChain (wsV RX3 171 RX3 yX3_firstHolding wsX3_firstHolding) := goodIn_app (goodIn_of _ (by decide +kernel)) ggX3_meanChain_X3_firstHolding
set_option maxRecDepth 100000 in
set_option maxHeartbeats 4000000 in
theorem ggX3_meanChain_X1_lengthOf : GoodIn wsX3_meanChain wsX1_lengthOf := goodIn_r _ [108, 83, 97, 149, 150, 151, 152, 153, 154, 155] rfl (by decide +kernel)
set_option maxRecDepth 20000 in
theorem gX3_meanChain_X1_lengthOf_n186 : GoodIn wsX3_meanChain (wsX1_lengthOf) := ggX3_meanChain_X1_lengthOf
theorem dX3_meanChain_0 : decode cX3_meanChain 0 = .ok (.iload_n 1, 1) := by decide +kernel
theorem dX3_meanChain_1 : decode cX3_meanChain 1 = .ok (.iload_n 2, 1) := by decide +kernel
theorem dX3_meanChain_2 : decode cX3_meanChain 2 = .ok (.invokestatic 164, 3) := by decide +kernel
theorem dX3_meanChain_5 : decode cX3_meanChain 5 = .ok (.aload_n 0, 1) := by decide +kernel
theorem dX3_meanChain_6 : decode cX3_meanChain 6 = .ok (.invokevirtual 138, 3) := by decide +kernel
theorem dX3_meanChain_9 : decode cX3_meanChain 9 = .ok (.iconst 0, 1) := by decide +kernel
theorem dX3_meanChain_10 : decode cX3_meanChain 10 = .ok (.istore_n 3, 1) := by decide +kernel
theorem dX3_meanChain_11 : decode cX3_meanChain 11 = .ok (.iconst 0, 1) := by decide +kernel
theorem dX3_meanChain_12 : decode cX3_meanChain 12 = .ok (.istore 4, 2) := by decide +kernel
theorem dX3_meanChain_14 : decode cX3_meanChain 14 = .ok (.iconst 0, 1) := by decide +kernel
theorem dX3_meanChain_15 : decode cX3_meanChain 15 = .ok (.istore 5, 2) := by decide +kernel
theorem dX3_meanChain_17 : decode cX3_meanChain 17 = .ok (.iload 5, 2) := by decide +kernel
theorem dX3_meanChain_19 : decode cX3_meanChain 19 = .ok (.aload_n 0, 1) := by decide +kernel
theorem dX3_meanChain_20 : decode cX3_meanChain 20 = .ok (.getfield 48, 3) := by decide +kernel
theorem dX3_meanChain_23 : decode cX3_meanChain 23 = .ok (.if_icmp .ge 49, 3) := by decide +kernel
theorem dX3_meanChain_26 : decode cX3_meanChain 26 = .ok (.aload_n 0, 1) := by decide +kernel
theorem dX3_meanChain_27 : decode cX3_meanChain 27 = .ok (.getfield 24, 3) := by decide +kernel
theorem dX3_meanChain_30 : decode cX3_meanChain 30 = .ok (.iload 5, 2) := by decide +kernel
theorem dX3_meanChain_32 : decode cX3_meanChain 32 = .ok (.invokevirtual 158, 3) := by decide +kernel
theorem dX3_meanChain_35 : decode cX3_meanChain 35 = .ok (.aload_n 0, 1) := by decide +kernel
theorem dX3_meanChain_36 : decode cX3_meanChain 36 = .ok (.iload_n 1, 1) := by decide +kernel
theorem dX3_meanChain_37 : decode cX3_meanChain 37 = .ok (.iload_n 2, 1) := by decide +kernel
theorem dX3_meanChain_38 : decode cX3_meanChain 38 = .ok (.invokevirtual 171, 3) := by decide +kernel
theorem dX3_meanChain_41 : decode cX3_meanChain 41 = .ok (.istore 6, 2) := by decide +kernel
theorem dX3_meanChain_43 : decode cX3_meanChain 43 = .ok (.iload 6, 2) := by decide +kernel
theorem dX3_meanChain_45 : decode cX3_meanChain 45 = .ok (.iconst (-1), 1) := by decide +kernel
theorem dX3_meanChain_46 : decode cX3_meanChain 46 = .ok (.if_icmp .eq 20, 3) := by decide +kernel
theorem dX3_meanChain_49 : decode cX3_meanChain 49 = .ok (.iinc 3 1, 3) := by decide +kernel
theorem dX3_meanChain_52 : decode cX3_meanChain 52 = .ok (.iload 4, 2) := by decide +kernel
theorem dX3_meanChain_54 : decode cX3_meanChain 54 = .ok (.aload_n 0, 1) := by decide +kernel
theorem dX3_meanChain_55 : decode cX3_meanChain 55 = .ok (.getfield 24, 3) := by decide +kernel
theorem dX3_meanChain_58 : decode cX3_meanChain 58 = .ok (.iload 6, 2) := by decide +kernel
theorem dX3_meanChain_60 : decode cX3_meanChain 60 = .ok (.invokevirtual 186, 3) := by decide +kernel
theorem dX3_meanChain_63 : decode cX3_meanChain 63 = .ok (.iadd, 1) := by decide +kernel
theorem dX3_meanChain_64 : decode cX3_meanChain 64 = .ok (.istore 4, 2) := by decide +kernel
theorem dX3_meanChain_66 : decode cX3_meanChain 66 = .ok (.iinc 5 1, 3) := by decide +kernel
theorem dX3_meanChain_69 : decode cX3_meanChain 69 = .ok (.goto (-52), 3) := by decide +kernel
theorem dX3_meanChain_72 : decode cX3_meanChain 72 = .ok (.iload_n 3, 1) := by decide +kernel
theorem dX3_meanChain_73 : decode cX3_meanChain 73 = .ok (.ifCond .ne 7, 3) := by decide +kernel
theorem dX3_meanChain_76 : decode cX3_meanChain 76 = .ok (.dconst 0, 1) := by decide +kernel
theorem dX3_meanChain_77 : decode cX3_meanChain 77 = .ok (.goto 9, 3) := by decide +kernel
theorem dX3_meanChain_80 : decode cX3_meanChain 80 = .ok (.iload 4, 2) := by decide +kernel
theorem dX3_meanChain_82 : decode cX3_meanChain 82 = .ok (.i2d, 1) := by decide +kernel
theorem dX3_meanChain_83 : decode cX3_meanChain 83 = .ok (.iload_n 3, 1) := by decide +kernel
theorem dX3_meanChain_84 : decode cX3_meanChain 84 = .ok (.i2d, 1) := by decide +kernel
theorem dX3_meanChain_85 : decode cX3_meanChain 85 = .ok (.ddiv, 1) := by decide +kernel
theorem dX3_meanChain_86 : decode cX3_meanChain 86 = .ok (.dreturn, 1) := by decide +kernel
set_option maxRecDepth 100000 in
set_option maxHeartbeats 4000000 in
theorem ggX3_holdsTo_X3_refuseUnlessLetter : GoodIn wsX3_holdsTo wsX3_refuseUnlessLetter := goodIn_ca (goodIn_r _ [6, 7, 8, 9, 10, 11, 5, 12, 13, 148, 149, 150, 151, 152, 153, 154] rfl (by decide +kernel)) (goodIn_sub (fun _ h => List.mem_cons_of_mem _ (List.mem_append_left _ (List.mem_append_right _ h))) (by decide +kernel))
set_option maxRecDepth 20000 in
theorem gX3_holdsTo_X3_refuseUnlessLetter : GoodIn wsX3_holdsTo (wsV RX3 63 RX3 yX3_refuseUnlessLetter wsX3_refuseUnlessLetter) := goodIn_app (goodIn_of _ (by decide +kernel)) ggX3_holdsTo_X3_refuseUnlessLetter
set_option maxRecDepth 100000 in
set_option maxHeartbeats 4000000 in
theorem ggX3_holdsTo_X3_refuseUnlessMoment : GoodIn wsX3_holdsTo wsX3_refuseUnlessMoment := goodIn_ca (goodIn_r _ [16, 17, 18, 5, 19, 20, 21, 22, 23, 24, 25, 26, 27] rfl (by decide +kernel)) (goodIn_sub (fun _ h => List.mem_cons_of_mem _ (List.mem_append_right _ h)) (by decide +kernel))
set_option maxRecDepth 20000 in
theorem gX3_holdsTo_X3_refuseUnlessMoment : GoodIn wsX3_holdsTo (va_wsS RX3 164 yX3_refuseUnlessMoment wsX3_refuseUnlessMoment) := goodIn_app (goodIn_of _ (by decide +kernel)) ggX3_holdsTo_X3_refuseUnlessMoment
set_option maxRecDepth 100000 in
set_option maxHeartbeats 4000000 in
theorem ggX3_holdsTo_X3_survey : GoodIn wsX3_holdsTo wsX3_survey := goodIn_r _ [31, 13, 1, 32, 33, 34, 35, 36, 37, 5, 38, 39, 40, 41, 42, 43, 44, 45, 46, 47, 48, 49, 50, 51, 52, 53, 54, 55, 56, 57, 58, 59, 60, 61, 62, 63, 64, 65, 66, 67, 68, 69, 70, 71, 72, 73, 74, 75, 76, 77, 78, 79, 80, 81, 82, 83, 84, 85, 86, 87, 88, 89, 148, 149, 150, 151, 152, 153, 154, 155, 156, 157, 158, 159, 160, 161, 162, 163, 164, 165, 166, 167, 168, 169, 170, 171, 172, 173, 174, 175, 176, 177, 178, 179] rfl (by decide +kernel)
set_option maxRecDepth 20000 in
theorem gX3_holdsTo_X3_survey : GoodIn wsX3_holdsTo (wsV RX3 138 RX3 yX3_survey wsX3_survey) := goodIn_app (goodIn_of _ (by decide +kernel)) ggX3_holdsTo_X3_survey
set_option maxRecDepth 100000 in
set_option maxHeartbeats 4000000 in
theorem ggX3_holdsTo_X1_findChainsOf : GoodIn wsX3_holdsTo wsX1_findChainsOf := goodIn_r _ [92, 93, 94, 74, 95, 96, 70, 97, 75, 73, 98, 99, 100, 101, 102, 103, 104, 105, 106, 107, 155, 156, 157, 158, 159, 160, 161] rfl (by decide +kernel)
set_option maxRecDepth 20000 in
theorem gX3_holdsTo_X1_findChainsOf_n158 : GoodIn wsX3_holdsTo (wsX1_findChainsOf) := ggX3_holdsTo_X1_findChainsOf
set_option maxRecDepth 100000 in
set_option maxHeartbeats 4000000 in
theorem ggX3_holdsTo_X3_firstHolding : GoodIn wsX3_holdsTo wsX3_firstHolding := goodIn_r _ [111, 1, 112, 113, 114, 5, 115, 116, 70, 117, 118, 93, 107, 119, 120, 121, 122, 32, 123, 124, 125, 102, 9, 10, 11, 12, 13, 126, 43, 127, 128, 55, 56, 59, 129, 130, 131, 132, 133, 134, 135, 136, 137, 138, 139, 140, 34, 141, 142, 143, 144, 33, 145, 77, 146, 147, 89, 148, 149, 150, 151, 152, 153, 154, 155, 156, 157, 158, 159, 160, 161, 162, 163, 164, 165, 166, 167, 168, 169, 170, 171, 172, 173, 174, 175, 176, 177, 178, 179] rfl (by decide +kernel)
set_option maxRecDepth 20000 in
theorem gX3_holdsTo_X3_firstHolding : GoodIn wsX3_holdsTo (wsV RX3 171 RX3 yX3_firstHolding wsX3_firstHolding) := goodIn_app (goodIn_of _ (by decide +kernel)) ggX3_holdsTo_X3_firstHolding
set_option maxRecDepth 100000 in
set_option maxHeartbeats 4000000 in
theorem ggX3_holdsTo_X3_firstFlawedPlace : GoodIn wsX3_holdsTo wsX3_firstFlawedPlace := goodIn_r _ [115, 1, 116, 70, 117, 118, 93, 107, 119, 120, 121, 5, 122, 32, 123, 124, 125, 102, 9, 10, 11, 12, 13, 126, 43, 127, 128, 55, 56, 59, 129, 130, 131, 132, 133, 134, 135, 136, 137, 138, 139, 140, 34, 141, 142, 143, 144, 33, 145, 77, 146, 147, 89, 148, 149, 150, 151, 152, 153, 154, 155, 156, 157, 158, 159, 160, 161, 162, 163, 164, 165, 166, 167, 168, 169, 170, 171, 172, 173, 174, 175, 176, 177, 178, 179] rfl (by decide +kernel)
set_option maxRecDepth 20000 in
theorem gX3_holdsTo_X3_firstFlawedPlace : GoodIn wsX3_holdsTo (wsV RX3 189 RX3 yX3_firstFlawedPlace wsX3_firstFlawedPlace) := goodIn_app (goodIn_of _ (by decide +kernel)) ggX3_holdsTo_X3_firstFlawedPlace
theorem dX3_holdsTo_0 : decode cX3_holdsTo 0 = .ok (.aload_n 0, 1) := by decide +kernel
theorem dX3_holdsTo_1 : decode cX3_holdsTo 1 = .ok (.iload_n 1, 1) := by decide +kernel
theorem dX3_holdsTo_2 : decode cX3_holdsTo 2 = .ok (.invokevirtual 63, 3) := by decide +kernel
theorem dX3_holdsTo_5 : decode cX3_holdsTo 5 = .ok (.iload_n 2, 1) := by decide +kernel
theorem dX3_holdsTo_6 : decode cX3_holdsTo 6 = .ok (.iload_n 3, 1) := by decide +kernel
theorem dX3_holdsTo_7 : decode cX3_holdsTo 7 = .ok (.invokestatic 164, 3) := by decide +kernel
theorem dX3_holdsTo_10 : decode cX3_holdsTo 10 = .ok (.aload_n 0, 1) := by decide +kernel
theorem dX3_holdsTo_11 : decode cX3_holdsTo 11 = .ok (.invokevirtual 138, 3) := by decide +kernel
theorem dX3_holdsTo_14 : decode cX3_holdsTo 14 = .ok (.aload_n 0, 1) := by decide +kernel
theorem dX3_holdsTo_15 : decode cX3_holdsTo 15 = .ok (.getfield 24, 3) := by decide +kernel
theorem dX3_holdsTo_18 : decode cX3_holdsTo 18 = .ok (.iload_n 1, 1) := by decide +kernel
theorem dX3_holdsTo_19 : decode cX3_holdsTo 19 = .ok (.invokevirtual 158, 3) := by decide +kernel
theorem dX3_holdsTo_22 : decode cX3_holdsTo 22 = .ok (.aload_n 0, 1) := by decide +kernel
theorem dX3_holdsTo_23 : decode cX3_holdsTo 23 = .ok (.iload_n 2, 1) := by decide +kernel
theorem dX3_holdsTo_24 : decode cX3_holdsTo 24 = .ok (.iload_n 3, 1) := by decide +kernel
theorem dX3_holdsTo_25 : decode cX3_holdsTo 25 = .ok (.invokevirtual 171, 3) := by decide +kernel
theorem dX3_holdsTo_28 : decode cX3_holdsTo 28 = .ok (.istore 4, 2) := by decide +kernel
theorem dX3_holdsTo_30 : decode cX3_holdsTo 30 = .ok (.iload 4, 2) := by decide +kernel
theorem dX3_holdsTo_32 : decode cX3_holdsTo 32 = .ok (.iconst (-1), 1) := by decide +kernel
theorem dX3_holdsTo_33 : decode cX3_holdsTo 33 = .ok (.if_icmp .ne 5, 3) := by decide +kernel
theorem dX3_holdsTo_36 : decode cX3_holdsTo 36 = .ok (.iconst (-1), 1) := by decide +kernel
theorem dX3_holdsTo_37 : decode cX3_holdsTo 37 = .ok (.ireturn, 1) := by decide +kernel
theorem dX3_holdsTo_38 : decode cX3_holdsTo 38 = .ok (.iload_n 2, 1) := by decide +kernel
theorem dX3_holdsTo_39 : decode cX3_holdsTo 39 = .ok (.iconst 1, 1) := by decide +kernel
theorem dX3_holdsTo_40 : decode cX3_holdsTo 40 = .ok (.iadd, 1) := by decide +kernel
theorem dX3_holdsTo_41 : decode cX3_holdsTo 41 = .ok (.istore 5, 2) := by decide +kernel
theorem dX3_holdsTo_43 : decode cX3_holdsTo 43 = .ok (.iload 5, 2) := by decide +kernel
theorem dX3_holdsTo_45 : decode cX3_holdsTo 45 = .ok (.sipush 999, 3) := by decide +kernel
theorem dX3_holdsTo_48 : decode cX3_holdsTo 48 = .ok (.if_icmp .gt 42, 3) := by decide +kernel
theorem dX3_holdsTo_51 : decode cX3_holdsTo 51 = .ok (.aload_n 0, 1) := by decide +kernel
theorem dX3_holdsTo_52 : decode cX3_holdsTo 52 = .ok (.iload 4, 2) := by decide +kernel
theorem dX3_holdsTo_54 : decode cX3_holdsTo 54 = .ok (.iload 5, 2) := by decide +kernel
theorem dX3_holdsTo_56 : decode cX3_holdsTo 56 = .ok (.iload_n 3, 1) := by decide +kernel
theorem dX3_holdsTo_57 : decode cX3_holdsTo 57 = .ok (.invokevirtual 189, 3) := by decide +kernel
theorem dX3_holdsTo_60 : decode cX3_holdsTo 60 = .ok (.iconst (-1), 1) := by decide +kernel
theorem dX3_holdsTo_61 : decode cX3_holdsTo 61 = .ok (.if_icmp .eq 12, 3) := by decide +kernel
theorem dX3_holdsTo_64 : decode cX3_holdsTo 64 = .ok (.aload_n 0, 1) := by decide +kernel
theorem dX3_holdsTo_65 : decode cX3_holdsTo 65 = .ok (.iload 5, 2) := by decide +kernel
theorem dX3_holdsTo_67 : decode cX3_holdsTo 67 = .ok (.iload_n 3, 1) := by decide +kernel
theorem dX3_holdsTo_68 : decode cX3_holdsTo 68 = .ok (.invokevirtual 171, 3) := by decide +kernel
theorem dX3_holdsTo_71 : decode cX3_holdsTo 71 = .ok (.istore 4, 2) := by decide +kernel
theorem dX3_holdsTo_73 : decode cX3_holdsTo 73 = .ok (.iload 4, 2) := by decide +kernel
theorem dX3_holdsTo_75 : decode cX3_holdsTo 75 = .ok (.iconst (-1), 1) := by decide +kernel
theorem dX3_holdsTo_76 : decode cX3_holdsTo 76 = .ok (.if_icmp .ne 8, 3) := by decide +kernel
theorem dX3_holdsTo_79 : decode cX3_holdsTo 79 = .ok (.iload 5, 2) := by decide +kernel
theorem dX3_holdsTo_81 : decode cX3_holdsTo 81 = .ok (.iconst 1, 1) := by decide +kernel
theorem dX3_holdsTo_82 : decode cX3_holdsTo 82 = .ok (.isub, 1) := by decide +kernel
theorem dX3_holdsTo_83 : decode cX3_holdsTo 83 = .ok (.ireturn, 1) := by decide +kernel
theorem dX3_holdsTo_84 : decode cX3_holdsTo 84 = .ok (.iinc 5 1, 3) := by decide +kernel
theorem dX3_holdsTo_87 : decode cX3_holdsTo 87 = .ok (.goto (-44), 3) := by decide +kernel
theorem dX3_holdsTo_90 : decode cX3_holdsTo 90 = .ok (.sipush 999, 3) := by decide +kernel
theorem dX3_holdsTo_93 : decode cX3_holdsTo 93 = .ok (.ireturn, 1) := by decide +kernel
set_option maxRecDepth 100000 in
set_option maxHeartbeats 4000000 in
theorem ggX3_otherwise_X3_refuseUnlessLetter : GoodIn wsX3_otherwise wsX3_refuseUnlessLetter := goodIn_ca (goodIn_r _ [9, 10, 11, 12, 13, 14, 8, 15, 1, 156, 157, 158, 159, 160, 161, 162] rfl (by decide +kernel)) (goodIn_sub (fun _ h => List.mem_cons_of_mem _ (List.mem_append_left _ (List.mem_append_right _ h))) (by decide +kernel))
set_option maxRecDepth 20000 in
theorem gX3_otherwise_X3_refuseUnlessLetter : GoodIn wsX3_otherwise (wsV RX3 63 RX3 yX3_refuseUnlessLetter wsX3_refuseUnlessLetter) := goodIn_app (goodIn_of _ (by decide +kernel)) ggX3_otherwise_X3_refuseUnlessLetter
set_option maxRecDepth 100000 in
set_option maxHeartbeats 4000000 in
theorem ggX3_otherwise_X3_refuseUnlessMoment : GoodIn wsX3_otherwise wsX3_refuseUnlessMoment := goodIn_ca (goodIn_r _ [18, 19, 20, 8, 21, 22, 23, 24, 25, 26, 27, 28, 29] rfl (by decide +kernel)) (goodIn_sub (fun _ h => List.mem_cons_of_mem _ (List.mem_append_right _ h)) (by decide +kernel))
set_option maxRecDepth 20000 in
theorem gX3_otherwise_X3_refuseUnlessMoment : GoodIn wsX3_otherwise (va_wsS RX3 164 yX3_refuseUnlessMoment wsX3_refuseUnlessMoment) := goodIn_app (goodIn_of _ (by decide +kernel)) ggX3_otherwise_X3_refuseUnlessMoment
set_option maxRecDepth 100000 in
set_option maxHeartbeats 4000000 in
theorem ggX3_otherwise_X3_survey : GoodIn wsX3_otherwise wsX3_survey := goodIn_r _ [33, 1, 2, 4, 34, 35, 36, 37, 38, 8, 39, 40, 41, 42, 43, 44, 45, 46, 47, 48, 49, 50, 51, 52, 53, 54, 55, 56, 57, 58, 59, 60, 61, 62, 63, 64, 65, 66, 67, 68, 69, 70, 71, 72, 73, 74, 75, 76, 77, 78, 79, 80, 81, 82, 83, 84, 85, 86, 87, 88, 89, 90, 156, 157, 158, 159, 160, 161, 162, 163, 164, 165, 166, 167, 168, 169, 170, 171, 172, 173, 174, 175, 176, 177, 178, 179, 180, 181, 182, 183, 184, 185, 186, 187] rfl (by decide +kernel)
set_option maxRecDepth 20000 in
theorem gX3_otherwise_X3_survey : GoodIn wsX3_otherwise (wsV RX3 138 RX3 yX3_survey wsX3_survey) := goodIn_app (goodIn_of _ (by decide +kernel)) ggX3_otherwise_X3_survey
set_option maxRecDepth 100000 in
set_option maxHeartbeats 4000000 in
theorem ggX3_otherwise_X1_findChainsOf : GoodIn wsX3_otherwise wsX1_findChainsOf := goodIn_r _ [93, 94, 95, 75, 96, 97, 71, 98, 76, 74, 99, 100, 101, 102, 103, 104, 105, 106, 107, 108, 163, 164, 165, 166, 167, 168, 169] rfl (by decide +kernel)
set_option maxRecDepth 20000 in
theorem gX3_otherwise_X1_findChainsOf_n158 : GoodIn wsX3_otherwise (wsX1_findChainsOf) := ggX3_otherwise_X1_findChainsOf
set_option maxRecDepth 100000 in
set_option maxHeartbeats 4000000 in
theorem ggX3_otherwise_X3_decision : GoodIn wsX3_otherwise wsX3_decision := goodIn_r _ [112, 2, 113, 114, 115, 8, 116, 117, 118, 119, 120, 121, 71, 122, 123, 94, 108, 124, 125, 126, 127, 4, 128, 129, 130, 103, 12, 13, 14, 15, 1, 131, 44, 132, 133, 56, 57, 60, 134, 135, 136, 137, 138, 139, 140, 141, 142, 143, 144, 145, 35, 146, 147, 148, 149, 34, 150, 78, 151, 152, 90, 156, 157, 158, 159, 160, 161, 162, 163, 164, 165, 166, 167, 168, 169, 170, 171, 172, 173, 174, 175, 176, 177, 178, 179, 180, 181, 182, 183, 184, 185, 186, 187] rfl (by decide +kernel)
set_option maxRecDepth 20000 in
theorem gX3_otherwise_X3_decision : GoodIn wsX3_otherwise (wsV RX3 168 RX3 yX3_decision wsX3_decision) := goodIn_app (goodIn_of _ (by decide +kernel)) ggX3_otherwise_X3_decision
set_option maxRecDepth 100000 in
set_option maxHeartbeats 4000000 in
theorem ggX3_otherwise_X3_turnAnchor : GoodIn wsX3_otherwise wsX3_turnAnchor := goodIn_r _ [155, 170, 171, 172, 173, 174, 175, 176, 177, 178, 179, 180, 181] rfl (by decide +kernel)
set_option maxRecDepth 20000 in
theorem gX3_otherwise_X3_turnAnchor : GoodIn wsX3_otherwise (va_wsS RX3 193 yX3_turnAnchor wsX3_turnAnchor) := goodIn_app (goodIn_of _ (by decide +kernel)) ggX3_otherwise_X3_turnAnchor
theorem dX3_otherwise_0 : decode cX3_otherwise 0 = .ok (.aload_n 0, 1) := by decide +kernel
theorem dX3_otherwise_1 : decode cX3_otherwise 1 = .ok (.iload_n 1, 1) := by decide +kernel
theorem dX3_otherwise_2 : decode cX3_otherwise 2 = .ok (.invokevirtual 63, 3) := by decide +kernel
theorem dX3_otherwise_5 : decode cX3_otherwise 5 = .ok (.iload_n 2, 1) := by decide +kernel
theorem dX3_otherwise_6 : decode cX3_otherwise 6 = .ok (.iload_n 3, 1) := by decide +kernel
theorem dX3_otherwise_7 : decode cX3_otherwise 7 = .ok (.invokestatic 164, 3) := by decide +kernel
theorem dX3_otherwise_10 : decode cX3_otherwise 10 = .ok (.aload_n 0, 1) := by decide +kernel
theorem dX3_otherwise_11 : decode cX3_otherwise 11 = .ok (.invokevirtual 138, 3) := by decide +kernel
theorem dX3_otherwise_14 : decode cX3_otherwise 14 = .ok (.iconst 0, 1) := by decide +kernel
theorem dX3_otherwise_15 : decode cX3_otherwise 15 = .ok (.istore 4, 2) := by decide +kernel
theorem dX3_otherwise_17 : decode cX3_otherwise 17 = .ok (.iload 4, 2) := by decide +kernel
theorem dX3_otherwise_19 : decode cX3_otherwise 19 = .ok (.aload_n 0, 1) := by decide +kernel
theorem dX3_otherwise_20 : decode cX3_otherwise 20 = .ok (.getfield 48, 3) := by decide +kernel
theorem dX3_otherwise_23 : decode cX3_otherwise 23 = .ok (.if_icmp .ge 31, 3) := by decide +kernel
theorem dX3_otherwise_26 : decode cX3_otherwise 26 = .ok (.aload_n 0, 1) := by decide +kernel
theorem dX3_otherwise_27 : decode cX3_otherwise 27 = .ok (.getfield 24, 3) := by decide +kernel
theorem dX3_otherwise_30 : decode cX3_otherwise 30 = .ok (.iload 4, 2) := by decide +kernel
theorem dX3_otherwise_32 : decode cX3_otherwise 32 = .ok (.invokevirtual 158, 3) := by decide +kernel
theorem dX3_otherwise_35 : decode cX3_otherwise 35 = .ok (.aload_n 0, 1) := by decide +kernel
theorem dX3_otherwise_36 : decode cX3_otherwise 36 = .ok (.getfield 28, 3) := by decide +kernel
theorem dX3_otherwise_39 : decode cX3_otherwise 39 = .ok (.iload 4, 2) := by decide +kernel
theorem dX3_otherwise_41 : decode cX3_otherwise 41 = .ok (.aload_n 0, 1) := by decide +kernel
theorem dX3_otherwise_42 : decode cX3_otherwise 42 = .ok (.iload_n 2, 1) := by decide +kernel
theorem dX3_otherwise_43 : decode cX3_otherwise 43 = .ok (.iload_n 3, 1) := by decide +kernel
theorem dX3_otherwise_44 : decode cX3_otherwise 44 = .ok (.invokevirtual 168, 3) := by decide +kernel
theorem dX3_otherwise_47 : decode cX3_otherwise 47 = .ok (.iastore, 1) := by decide +kernel
theorem dX3_otherwise_48 : decode cX3_otherwise 48 = .ok (.iinc 4 1, 3) := by decide +kernel
theorem dX3_otherwise_51 : decode cX3_otherwise 51 = .ok (.goto (-34), 3) := by decide +kernel
theorem dX3_otherwise_54 : decode cX3_otherwise 54 = .ok (.aload_n 0, 1) := by decide +kernel
theorem dX3_otherwise_55 : decode cX3_otherwise 55 = .ok (.getfield 11, 3) := by decide +kernel
theorem dX3_otherwise_58 : decode cX3_otherwise 58 = .ok (.iload_n 1, 1) := by decide +kernel
theorem dX3_otherwise_59 : decode cX3_otherwise 59 = .ok (.aaload, 1) := by decide +kernel
theorem dX3_otherwise_60 : decode cX3_otherwise 60 = .ok (.invokestatic 193, 3) := by decide +kernel
theorem dX3_otherwise_63 : decode cX3_otherwise 63 = .ok (.aload_n 0, 1) := by decide +kernel
theorem dX3_otherwise_64 : decode cX3_otherwise 64 = .ok (.invokevirtual 138, 3) := by decide +kernel
theorem dX3_otherwise_67 : decode cX3_otherwise 67 = .ok (.iconst 0, 1) := by decide +kernel
theorem dX3_otherwise_68 : decode cX3_otherwise 68 = .ok (.istore 4, 2) := by decide +kernel
theorem dX3_otherwise_70 : decode cX3_otherwise 70 = .ok (.iconst 0, 1) := by decide +kernel
theorem dX3_otherwise_71 : decode cX3_otherwise 71 = .ok (.istore 5, 2) := by decide +kernel
theorem dX3_otherwise_73 : decode cX3_otherwise 73 = .ok (.iload 5, 2) := by decide +kernel
theorem dX3_otherwise_75 : decode cX3_otherwise 75 = .ok (.aload_n 0, 1) := by decide +kernel
theorem dX3_otherwise_76 : decode cX3_otherwise 76 = .ok (.getfield 48, 3) := by decide +kernel
theorem dX3_otherwise_79 : decode cX3_otherwise 79 = .ok (.if_icmp .ge 37, 3) := by decide +kernel
theorem dX3_otherwise_82 : decode cX3_otherwise 82 = .ok (.aload_n 0, 1) := by decide +kernel
theorem dX3_otherwise_83 : decode cX3_otherwise 83 = .ok (.getfield 24, 3) := by decide +kernel
theorem dX3_otherwise_86 : decode cX3_otherwise 86 = .ok (.iload 5, 2) := by decide +kernel
theorem dX3_otherwise_88 : decode cX3_otherwise 88 = .ok (.invokevirtual 158, 3) := by decide +kernel
theorem dX3_otherwise_91 : decode cX3_otherwise 91 = .ok (.aload_n 0, 1) := by decide +kernel
theorem dX3_otherwise_92 : decode cX3_otherwise 92 = .ok (.iload_n 2, 1) := by decide +kernel
theorem dX3_otherwise_93 : decode cX3_otherwise 93 = .ok (.iload_n 3, 1) := by decide +kernel
theorem dX3_otherwise_94 : decode cX3_otherwise 94 = .ok (.invokevirtual 168, 3) := by decide +kernel
theorem dX3_otherwise_97 : decode cX3_otherwise 97 = .ok (.aload_n 0, 1) := by decide +kernel
theorem dX3_otherwise_98 : decode cX3_otherwise 98 = .ok (.getfield 28, 3) := by decide +kernel
theorem dX3_otherwise_101 : decode cX3_otherwise 101 = .ok (.iload 5, 2) := by decide +kernel
theorem dX3_otherwise_103 : decode cX3_otherwise 103 = .ok (.iaload, 1) := by decide +kernel
theorem dX3_otherwise_104 : decode cX3_otherwise 104 = .ok (.if_icmp .eq 6, 3) := by decide +kernel
theorem dX3_otherwise_107 : decode cX3_otherwise 107 = .ok (.iinc 4 1, 3) := by decide +kernel
theorem dX3_otherwise_110 : decode cX3_otherwise 110 = .ok (.iinc 5 1, 3) := by decide +kernel
theorem dX3_otherwise_113 : decode cX3_otherwise 113 = .ok (.goto (-40), 3) := by decide +kernel
theorem dX3_otherwise_116 : decode cX3_otherwise 116 = .ok (.aload_n 0, 1) := by decide +kernel
theorem dX3_otherwise_117 : decode cX3_otherwise 117 = .ok (.getfield 11, 3) := by decide +kernel
theorem dX3_otherwise_120 : decode cX3_otherwise 120 = .ok (.iload_n 1, 1) := by decide +kernel
theorem dX3_otherwise_121 : decode cX3_otherwise 121 = .ok (.aaload, 1) := by decide +kernel
theorem dX3_otherwise_122 : decode cX3_otherwise 122 = .ok (.invokestatic 193, 3) := by decide +kernel
theorem dX3_otherwise_125 : decode cX3_otherwise 125 = .ok (.iload 4, 2) := by decide +kernel
theorem dX3_otherwise_127 : decode cX3_otherwise 127 = .ok (.ireturn, 1) := by decide +kernel
set_option maxRecDepth 100000 in
set_option maxHeartbeats 4000000 in
theorem ggX3_stolen_X3_isKey : GoodIn wsX3_stolen wsX3_isKey := goodIn_r _ [6, 7, 8, 5, 9] rfl (by decide +kernel)
set_option maxRecDepth 20000 in
theorem gX3_stolen_X3_isKey : GoodIn wsX3_stolen (va_wsS RX3 38 yX3_isKey wsX3_isKey) := goodIn_app (goodIn_of _ (by decide +kernel)) ggX3_stolen_X3_isKey
set_option maxRecDepth 100000 in
set_option maxHeartbeats 4000000 in
theorem ggX3_stolen_X3_refuseUnless : GoodIn wsX3_stolen wsX3_refuseUnless := goodIn_ca (goodIn_r _ [12, 13, 14] rfl (by decide +kernel)) (goodIn_sub (fun _ h => List.mem_cons_of_mem _ (List.mem_append_right _ h)) (by decide +kernel))
set_option maxRecDepth 20000 in
theorem gX3_stolen_X3_refuseUnless : GoodIn wsX3_stolen (va_wsS RX3 44 yX3_refuseUnless wsX3_refuseUnless) := goodIn_app (goodIn_of _ (by decide +kernel)) ggX3_stolen_X3_refuseUnless
set_option maxRecDepth 100000 in
set_option maxHeartbeats 4000000 in
theorem ggX3_stolen_X3_refuseUnlessMoment : GoodIn wsX3_stolen wsX3_refuseUnlessMoment := goodIn_ca (goodIn_r _ [17, 18, 19, 5, 20, 7, 8, 9, 10, 11, 12, 13, 14] rfl (by decide +kernel)) (goodIn_sub (fun _ h => List.mem_cons_of_mem _ (List.mem_append_right _ h)) (by decide +kernel))
set_option maxRecDepth 20000 in
theorem gX3_stolen_X3_refuseUnlessMoment : GoodIn wsX3_stolen (va_wsS RX3 164 yX3_refuseUnlessMoment wsX3_refuseUnlessMoment) := goodIn_app (goodIn_of _ (by decide +kernel)) ggX3_stolen_X3_refuseUnlessMoment
set_option maxRecDepth 100000 in
set_option maxHeartbeats 4000000 in
theorem ggX3_stolen_X3_survey : GoodIn wsX3_stolen wsX3_survey := goodIn_r _ [24, 1, 2, 25, 26, 27, 28, 29, 30, 5, 31, 32, 33, 34, 35, 36, 37, 38, 39, 40, 41, 42, 43, 44, 45, 46, 47, 48, 49, 50, 51, 52, 53, 54, 55, 56, 57, 58, 59, 60, 61, 62, 63, 64, 65, 66, 67, 68, 69, 70, 71, 72, 73, 74, 75, 76, 77, 78, 79, 80, 81, 82, 149, 150, 151, 152, 153, 154, 155, 156, 157, 158, 159, 160, 161, 162, 163, 164, 165, 166, 167, 168, 169, 170, 171, 172, 173, 174, 175, 176, 177, 178, 179, 180] rfl (by decide +kernel)
set_option maxRecDepth 20000 in
theorem gX3_stolen_X3_survey : GoodIn wsX3_stolen (wsV RX3 138 RX3 yX3_survey wsX3_survey) := goodIn_app (goodIn_of _ (by decide +kernel)) ggX3_stolen_X3_survey
set_option maxRecDepth 100000 in
set_option maxHeartbeats 4000000 in
theorem ggX3_stolen_X1_findChainsOf : GoodIn wsX3_stolen wsX1_findChainsOf := goodIn_r _ [85, 86, 87, 67, 88, 89, 63, 90, 68, 66, 91, 92, 93, 94, 95, 96, 97, 98, 99, 100, 156, 157, 158, 159, 160, 161, 162] rfl (by decide +kernel)
set_option maxRecDepth 20000 in
theorem gX3_stolen_X1_findChainsOf_n158 : GoodIn wsX3_stolen (wsX1_findChainsOf) := ggX3_stolen_X1_findChainsOf
set_option maxRecDepth 100000 in
set_option maxHeartbeats 4000000 in
theorem ggX3_stolen_X3_firstHolding : GoodIn wsX3_stolen wsX3_firstHolding := goodIn_r _ [104, 2, 105, 106, 107, 5, 108, 109, 63, 110, 111, 86, 100, 112, 113, 114, 115, 25, 116, 117, 118, 95, 119, 120, 121, 122, 1, 123, 36, 124, 125, 48, 49, 52, 126, 127, 128, 129, 130, 131, 132, 133, 134, 135, 136, 137, 27, 138, 139, 140, 141, 26, 142, 70, 143, 144, 82, 149, 150, 151, 152, 153, 154, 155, 156, 157, 158, 159, 160, 161, 162, 163, 164, 165, 166, 167, 168, 169, 170, 171, 172, 173, 174, 175, 176, 177, 178, 179, 180] rfl (by decide +kernel)
set_option maxRecDepth 20000 in
theorem gX3_stolen_X3_firstHolding : GoodIn wsX3_stolen (wsV RX3 171 RX3 yX3_firstHolding wsX3_firstHolding) := goodIn_app (goodIn_of _ (by decide +kernel)) ggX3_stolen_X3_firstHolding
set_option maxRecDepth 100000 in
set_option maxHeartbeats 4000000 in
theorem ggX3_stolen_X3_hasKey : GoodIn wsX3_stolen wsX3_hasKey := goodIn_r _ [148, 2, 25, 109, 63, 110, 111, 86, 100, 116, 117, 118, 95, 119, 120, 121, 5, 122, 1, 149, 150, 151, 152, 153, 154, 155, 163, 164, 165, 166, 167, 168, 169, 170, 171, 172, 173, 174, 156, 157, 158, 159, 160, 161, 162] rfl (by decide +kernel)
set_option maxRecDepth 20000 in
theorem gX3_stolen_X3_hasKey : GoodIn wsX3_stolen (wsV RX3 197 RX3 yX3_hasKey wsX3_hasKey) := goodIn_app (goodIn_of _ (by decide +kernel)) ggX3_stolen_X3_hasKey
theorem dX3_stolen_0 : decode cX3_stolen 0 = .ok (.iload_n 1, 1) := by decide +kernel
theorem dX3_stolen_1 : decode cX3_stolen 1 = .ok (.invokestatic 38, 3) := by decide +kernel
theorem dX3_stolen_4 : decode cX3_stolen 4 = .ok (.invokestatic 44, 3) := by decide +kernel
theorem dX3_stolen_7 : decode cX3_stolen 7 = .ok (.iload_n 2, 1) := by decide +kernel
theorem dX3_stolen_8 : decode cX3_stolen 8 = .ok (.iload_n 3, 1) := by decide +kernel
theorem dX3_stolen_9 : decode cX3_stolen 9 = .ok (.invokestatic 164, 3) := by decide +kernel
theorem dX3_stolen_12 : decode cX3_stolen 12 = .ok (.aload_n 0, 1) := by decide +kernel
theorem dX3_stolen_13 : decode cX3_stolen 13 = .ok (.invokevirtual 138, 3) := by decide +kernel
theorem dX3_stolen_16 : decode cX3_stolen 16 = .ok (.iconst 0, 1) := by decide +kernel
theorem dX3_stolen_17 : decode cX3_stolen 17 = .ok (.istore 4, 2) := by decide +kernel
theorem dX3_stolen_19 : decode cX3_stolen 19 = .ok (.iconst 0, 1) := by decide +kernel
theorem dX3_stolen_20 : decode cX3_stolen 20 = .ok (.istore 5, 2) := by decide +kernel
theorem dX3_stolen_22 : decode cX3_stolen 22 = .ok (.iload 5, 2) := by decide +kernel
theorem dX3_stolen_24 : decode cX3_stolen 24 = .ok (.aload_n 0, 1) := by decide +kernel
theorem dX3_stolen_25 : decode cX3_stolen 25 = .ok (.getfield 48, 3) := by decide +kernel
theorem dX3_stolen_28 : decode cX3_stolen 28 = .ok (.if_icmp .ge 35, 3) := by decide +kernel
theorem dX3_stolen_31 : decode cX3_stolen 31 = .ok (.aload_n 0, 1) := by decide +kernel
theorem dX3_stolen_32 : decode cX3_stolen 32 = .ok (.getfield 24, 3) := by decide +kernel
theorem dX3_stolen_35 : decode cX3_stolen 35 = .ok (.iload 5, 2) := by decide +kernel
theorem dX3_stolen_37 : decode cX3_stolen 37 = .ok (.invokevirtual 158, 3) := by decide +kernel
theorem dX3_stolen_40 : decode cX3_stolen 40 = .ok (.aload_n 0, 1) := by decide +kernel
theorem dX3_stolen_41 : decode cX3_stolen 41 = .ok (.aload_n 0, 1) := by decide +kernel
theorem dX3_stolen_42 : decode cX3_stolen 42 = .ok (.iload_n 2, 1) := by decide +kernel
theorem dX3_stolen_43 : decode cX3_stolen 43 = .ok (.iload_n 3, 1) := by decide +kernel
theorem dX3_stolen_44 : decode cX3_stolen 44 = .ok (.invokevirtual 171, 3) := by decide +kernel
theorem dX3_stolen_47 : decode cX3_stolen 47 = .ok (.iload_n 1, 1) := by decide +kernel
theorem dX3_stolen_48 : decode cX3_stolen 48 = .ok (.invokevirtual 197, 3) := by decide +kernel
theorem dX3_stolen_51 : decode cX3_stolen 51 = .ok (.ifCond .eq 6, 3) := by decide +kernel
theorem dX3_stolen_54 : decode cX3_stolen 54 = .ok (.iinc 4 1, 3) := by decide +kernel
theorem dX3_stolen_57 : decode cX3_stolen 57 = .ok (.iinc 5 1, 3) := by decide +kernel
theorem dX3_stolen_60 : decode cX3_stolen 60 = .ok (.goto (-38), 3) := by decide +kernel
theorem dX3_stolen_63 : decode cX3_stolen 63 = .ok (.iload 4, 2) := by decide +kernel
theorem dX3_stolen_65 : decode cX3_stolen 65 = .ok (.ireturn, 1) := by decide +kernel
set_option maxRecDepth 100000 in
set_option maxHeartbeats 4000000 in
theorem ggX3_digest_X3_survey : GoodIn wsX3_digest wsX3_survey := goodIn_r _ [12, 3, 5, 4, 6, 7, 13, 14, 15, 11, 16, 17, 18, 19, 20, 21, 22, 23, 24, 25, 26, 27, 28, 29, 30, 31, 32, 33, 34, 35, 36, 37, 38, 39, 40, 41, 42, 43, 44, 45, 46, 47, 48, 49, 50, 51, 52, 53, 54, 55, 56, 57, 58, 59, 60, 61, 62, 63, 64, 65, 66, 67, 163, 164, 165, 166, 167, 168, 169, 170, 171, 172, 173, 174, 175, 176, 177, 178, 179, 180, 181, 182, 183, 184, 185, 186, 187, 188, 189, 190, 191, 192, 193, 194] rfl (by decide +kernel)
set_option maxRecDepth 20000 in
theorem gX3_digest_X3_survey : GoodIn wsX3_digest (wsV RX3 138 RX3 yX3_survey wsX3_survey) := goodIn_app (goodIn_of _ (by decide +kernel)) ggX3_digest_X3_survey
set_option maxRecDepth 100000 in
set_option maxHeartbeats 4000000 in
theorem ggX3_digest_X3_countOf : GoodIn wsX3_digest wsX3_countOf := goodIn_r _ [71, 3, 6, 43, 44, 45, 11, 46, 4, 72, 73, 74, 75, 76, 77, 78, 79, 80, 81, 82, 5, 163, 164, 165, 166, 167, 168, 169, 177, 178, 179, 180, 181, 182, 183, 184, 185, 186, 187, 188, 170, 171, 172, 173, 174, 175, 176] rfl (by decide +kernel)
set_option maxRecDepth 20000 in
theorem gX3_digest_X3_countOf : GoodIn wsX3_digest (wsV RX3 141 RX3 yX3_countOf wsX3_countOf) := goodIn_app (goodIn_of _ (by decide +kernel)) ggX3_digest_X3_countOf
set_option maxRecDepth 100000 in
set_option maxHeartbeats 4000000 in
theorem ggX3_digest_X3_withPropertiesOf : GoodIn wsX3_digest wsX3_withPropertiesOf := goodIn_r _ [85, 2, 86, 21, 87, 88, 29, 30, 31, 32, 33, 34, 35, 36, 37, 38, 24, 89, 25, 26, 27, 28, 39, 11, 40, 177, 178, 179, 180, 181, 182, 183, 184, 185, 186, 187, 188] rfl (by decide +kernel)
set_option maxRecDepth 20000 in
theorem gX3_digest_X3_withPropertiesOf : GoodIn wsX3_digest (va_wsS RX3 204 yX3_withPropertiesOf wsX3_withPropertiesOf) := goodIn_app (goodIn_of _ (by decide +kernel)) ggX3_digest_X3_withPropertiesOf
set_option maxRecDepth 100000 in
set_option maxHeartbeats 4000000 in
theorem ggX3_digest_X1_findChainsOf : GoodIn wsX3_digest wsX1_findChainsOf := goodIn_r _ [92, 93, 94, 52, 95, 96, 48, 97, 53, 51, 98, 99, 100, 101, 102, 103, 104, 105, 106, 107, 170, 171, 172, 173, 174, 175, 176] rfl (by decide +kernel)
set_option maxRecDepth 20000 in
theorem gX3_digest_X1_findChainsOf_n158 : GoodIn wsX3_digest (wsX1_findChainsOf) := ggX3_digest_X1_findChainsOf
set_option maxRecDepth 100000 in
set_option maxHeartbeats 4000000 in
theorem ggX3_digest_X3_decision : GoodIn wsX3_digest wsX3_decision := goodIn_r _ [111, 5, 112, 113, 114, 11, 115, 116, 117, 118, 119, 120, 48, 121, 122, 93, 107, 123, 124, 125, 126, 4, 127, 128, 129, 102, 130, 131, 132, 133, 3, 134, 21, 135, 136, 33, 34, 37, 137, 138, 139, 140, 141, 142, 143, 144, 145, 146, 147, 148, 7, 149, 150, 151, 152, 6, 153, 55, 154, 155, 67, 163, 164, 165, 166, 167, 168, 169, 170, 171, 172, 173, 174, 175, 176, 177, 178, 179, 180, 181, 182, 183, 184, 185, 186, 187, 188, 189, 190, 191, 192, 193, 194] rfl (by decide +kernel)
set_option maxRecDepth 20000 in
theorem gX3_digest_X3_decision : GoodIn wsX3_digest (wsV RX3 168 RX3 yX3_decision wsX3_decision) := goodIn_app (goodIn_of _ (by decide +kernel)) ggX3_digest_X3_decision
set_option maxRecDepth 100000 in
set_option maxHeartbeats 4000000 in
theorem ggX3_digest_X3_decidingPlace : GoodIn wsX3_digest wsX3_decidingPlace := goodIn_r _ [159, 112, 113, 114, 11, 115, 5, 116, 117, 118, 119, 120, 48, 121, 122, 93, 107, 123, 124, 125, 126, 4, 127, 128, 129, 102, 130, 131, 132, 133, 3, 134, 21, 135, 136, 33, 34, 37, 137, 138, 139, 140, 141, 142, 143, 144, 145, 146, 147, 148, 7, 149, 150, 151, 152, 6, 153, 55, 154, 155, 67, 163, 164, 165, 166, 167, 168, 169, 170, 171, 172, 173, 174, 175, 176, 177, 178, 179, 180, 181, 182, 183, 184, 185, 186, 187, 188, 189, 190, 191, 192, 193, 194] rfl (by decide +kernel)
set_option maxRecDepth 20000 in
theorem gX3_digest_X3_decidingPlace : GoodIn wsX3_digest (wsV RX3 177 RX3 yX3_decidingPlace wsX3_decidingPlace) := goodIn_app (goodIn_of _ (by decide +kernel)) ggX3_digest_X3_decidingPlace
set_option maxRecDepth 100000 in
set_option maxHeartbeats 4000000 in
theorem ggX3_digest_X0_property : GoodIn wsX3_digest wsX0_property := goodIn_r _ [162, 64, 65, 66, 67, 59, 60, 61, 62, 55, 63, 39, 11, 40, 189, 190, 191, 192, 193, 194] rfl (by decide +kernel)
set_option maxRecDepth 20000 in
theorem gX3_digest_X0_property_n147 : GoodIn wsX3_digest (wsX0_property) := ggX3_digest_X0_property
theorem dX3_digest_0 : decode cX3_digest 0 = .ok (.aload_n 0, 1) := by decide +kernel
theorem dX3_digest_1 : decode cX3_digest 1 = .ok (.invokevirtual 138, 3) := by decide +kernel
theorem dX3_digest_4 : decode cX3_digest 4 = .ok (.ldc2_w 200, 3) := by decide +kernel
theorem dX3_digest_7 : decode cX3_digest 7 = .ok (.lstore_n 1, 1) := by decide +kernel
theorem dX3_digest_8 : decode cX3_digest 8 = .ok (.iconst 0, 1) := by decide +kernel
theorem dX3_digest_9 : decode cX3_digest 9 = .ok (.istore_n 3, 1) := by decide +kernel
theorem dX3_digest_10 : decode cX3_digest 10 = .ok (.iload_n 3, 1) := by decide +kernel
theorem dX3_digest_11 : decode cX3_digest 11 = .ok (.iconst 3, 1) := by decide +kernel
theorem dX3_digest_12 : decode cX3_digest 12 = .ok (.if_icmp .gt 22, 3) := by decide +kernel
theorem dX3_digest_15 : decode cX3_digest 15 = .ok (.lload_n 1, 1) := by decide +kernel
theorem dX3_digest_16 : decode cX3_digest 16 = .ok (.ldc2_w 202, 3) := by decide +kernel
theorem dX3_digest_19 : decode cX3_digest 19 = .ok (.lmul, 1) := by decide +kernel
theorem dX3_digest_20 : decode cX3_digest 20 = .ok (.aload_n 0, 1) := by decide +kernel
theorem dX3_digest_21 : decode cX3_digest 21 = .ok (.iload_n 3, 1) := by decide +kernel
theorem dX3_digest_22 : decode cX3_digest 22 = .ok (.invokevirtual 141, 3) := by decide +kernel
theorem dX3_digest_25 : decode cX3_digest 25 = .ok (.i2l, 1) := by decide +kernel
theorem dX3_digest_26 : decode cX3_digest 26 = .ok (.ladd, 1) := by decide +kernel
theorem dX3_digest_27 : decode cX3_digest 27 = .ok (.lstore_n 1, 1) := by decide +kernel
theorem dX3_digest_28 : decode cX3_digest 28 = .ok (.iinc 3 1, 3) := by decide +kernel
theorem dX3_digest_31 : decode cX3_digest 31 = .ok (.goto (-21), 3) := by decide +kernel
theorem dX3_digest_34 : decode cX3_digest 34 = .ok (.iconst 0, 1) := by decide +kernel
theorem dX3_digest_35 : decode cX3_digest 35 = .ok (.istore_n 3, 1) := by decide +kernel
theorem dX3_digest_36 : decode cX3_digest 36 = .ok (.iload_n 3, 1) := by decide +kernel
theorem dX3_digest_37 : decode cX3_digest 37 = .ok (.aload_n 0, 1) := by decide +kernel
theorem dX3_digest_38 : decode cX3_digest 38 = .ok (.getfield 48, 3) := by decide +kernel
theorem dX3_digest_41 : decode cX3_digest 41 = .ok (.if_icmp .ge 111, 3) := by decide +kernel
theorem dX3_digest_44 : decode cX3_digest 44 = .ok (.aload_n 0, 1) := by decide +kernel
theorem dX3_digest_45 : decode cX3_digest 45 = .ok (.getfield 11, 3) := by decide +kernel
theorem dX3_digest_48 : decode cX3_digest 48 = .ok (.iload_n 3, 1) := by decide +kernel
theorem dX3_digest_49 : decode cX3_digest 49 = .ok (.aaload, 1) := by decide +kernel
theorem dX3_digest_50 : decode cX3_digest 50 = .ok (.lload_n 1, 1) := by decide +kernel
theorem dX3_digest_51 : decode cX3_digest 51 = .ok (.invokestatic 204, 3) := by decide +kernel
theorem dX3_digest_54 : decode cX3_digest 54 = .ok (.lstore_n 1, 1) := by decide +kernel
theorem dX3_digest_55 : decode cX3_digest 55 = .ok (.aload_n 0, 1) := by decide +kernel
theorem dX3_digest_56 : decode cX3_digest 56 = .ok (.getfield 24, 3) := by decide +kernel
theorem dX3_digest_59 : decode cX3_digest 59 = .ok (.iload_n 3, 1) := by decide +kernel
theorem dX3_digest_60 : decode cX3_digest 60 = .ok (.invokevirtual 158, 3) := by decide +kernel
theorem dX3_digest_63 : decode cX3_digest 63 = .ok (.lload_n 1, 1) := by decide +kernel
theorem dX3_digest_64 : decode cX3_digest 64 = .ok (.ldc2_w 202, 3) := by decide +kernel
theorem dX3_digest_67 : decode cX3_digest 67 = .ok (.lmul, 1) := by decide +kernel
theorem dX3_digest_68 : decode cX3_digest 68 = .ok (.aload_n 0, 1) := by decide +kernel
theorem dX3_digest_69 : decode cX3_digest 69 = .ok (.getfield 24, 3) := by decide +kernel
theorem dX3_digest_72 : decode cX3_digest 72 = .ok (.getfield 161, 3) := by decide +kernel
theorem dX3_digest_75 : decode cX3_digest 75 = .ok (.i2l, 1) := by decide +kernel
theorem dX3_digest_76 : decode cX3_digest 76 = .ok (.ladd, 1) := by decide +kernel
theorem dX3_digest_77 : decode cX3_digest 77 = .ok (.lstore_n 1, 1) := by decide +kernel
theorem dX3_digest_78 : decode cX3_digest 78 = .ok (.bipush 100, 2) := by decide +kernel
theorem dX3_digest_80 : decode cX3_digest 80 = .ok (.istore 4, 2) := by decide +kernel
theorem dX3_digest_82 : decode cX3_digest 82 = .ok (.iload 4, 2) := by decide +kernel
theorem dX3_digest_84 : decode cX3_digest 84 = .ok (.sipush 500, 3) := by decide +kernel
theorem dX3_digest_87 : decode cX3_digest 87 = .ok (.if_icmp .gt 59, 3) := by decide +kernel
theorem dX3_digest_90 : decode cX3_digest 90 = .ok (.iconst 0, 1) := by decide +kernel
theorem dX3_digest_91 : decode cX3_digest 91 = .ok (.istore 5, 2) := by decide +kernel
theorem dX3_digest_93 : decode cX3_digest 93 = .ok (.iload 5, 2) := by decide +kernel
theorem dX3_digest_95 : decode cX3_digest 95 = .ok (.iconst 2, 1) := by decide +kernel
theorem dX3_digest_96 : decode cX3_digest 96 = .ok (.if_icmp .gt 41, 3) := by decide +kernel
theorem dX3_digest_99 : decode cX3_digest 99 = .ok (.lload_n 1, 1) := by decide +kernel
theorem dX3_digest_100 : decode cX3_digest 100 = .ok (.ldc2_w 202, 3) := by decide +kernel
theorem dX3_digest_103 : decode cX3_digest 103 = .ok (.lmul, 1) := by decide +kernel
theorem dX3_digest_104 : decode cX3_digest 104 = .ok (.aload_n 0, 1) := by decide +kernel
theorem dX3_digest_105 : decode cX3_digest 105 = .ok (.iload 4, 2) := by decide +kernel
theorem dX3_digest_107 : decode cX3_digest 107 = .ok (.iload 5, 2) := by decide +kernel
theorem dX3_digest_109 : decode cX3_digest 109 = .ok (.invokevirtual 168, 3) := by decide +kernel
theorem dX3_digest_112 : decode cX3_digest 112 = .ok (.i2l, 1) := by decide +kernel
theorem dX3_digest_113 : decode cX3_digest 113 = .ok (.ladd, 1) := by decide +kernel
theorem dX3_digest_114 : decode cX3_digest 114 = .ok (.lstore_n 1, 1) := by decide +kernel
theorem dX3_digest_115 : decode cX3_digest 115 = .ok (.lload_n 1, 1) := by decide +kernel
theorem dX3_digest_116 : decode cX3_digest 116 = .ok (.ldc2_w 202, 3) := by decide +kernel
theorem dX3_digest_119 : decode cX3_digest 119 = .ok (.lmul, 1) := by decide +kernel
theorem dX3_digest_120 : decode cX3_digest 120 = .ok (.aload_n 0, 1) := by decide +kernel
theorem dX3_digest_121 : decode cX3_digest 121 = .ok (.iload 4, 2) := by decide +kernel
theorem dX3_digest_123 : decode cX3_digest 123 = .ok (.iload 5, 2) := by decide +kernel
theorem dX3_digest_125 : decode cX3_digest 125 = .ok (.invokevirtual 177, 3) := by decide +kernel
theorem dX3_digest_128 : decode cX3_digest 128 = .ok (.i2l, 1) := by decide +kernel
theorem dX3_digest_129 : decode cX3_digest 129 = .ok (.ladd, 1) := by decide +kernel
theorem dX3_digest_130 : decode cX3_digest 130 = .ok (.lstore_n 1, 1) := by decide +kernel
theorem dX3_digest_131 : decode cX3_digest 131 = .ok (.iinc 5 2, 3) := by decide +kernel
theorem dX3_digest_134 : decode cX3_digest 134 = .ok (.goto (-41), 3) := by decide +kernel
theorem dX3_digest_137 : decode cX3_digest 137 = .ok (.iinc 4 400, 6) := by decide +kernel
theorem dX3_digest_143 : decode cX3_digest 143 = .ok (.goto (-61), 3) := by decide +kernel
theorem dX3_digest_146 : decode cX3_digest 146 = .ok (.iinc 3 1, 3) := by decide +kernel
theorem dX3_digest_149 : decode cX3_digest 149 = .ok (.goto (-113), 3) := by decide +kernel
theorem dX3_digest_152 : decode cX3_digest 152 = .ok (.iconst 0, 1) := by decide +kernel
theorem dX3_digest_153 : decode cX3_digest 153 = .ok (.istore_n 3, 1) := by decide +kernel
theorem dX3_digest_154 : decode cX3_digest 154 = .ok (.iload_n 3, 1) := by decide +kernel
theorem dX3_digest_155 : decode cX3_digest 155 = .ok (.aload_n 0, 1) := by decide +kernel
theorem dX3_digest_156 : decode cX3_digest 156 = .ok (.getfield 119, 3) := by decide +kernel
theorem dX3_digest_159 : decode cX3_digest 159 = .ok (.if_icmp .ge 43, 3) := by decide +kernel
theorem dX3_digest_162 : decode cX3_digest 162 = .ok (.iconst 0, 1) := by decide +kernel
theorem dX3_digest_163 : decode cX3_digest 163 = .ok (.istore 4, 2) := by decide +kernel
theorem dX3_digest_165 : decode cX3_digest 165 = .ok (.iload 4, 2) := by decide +kernel
theorem dX3_digest_167 : decode cX3_digest 167 = .ok (.iconst 5, 1) := by decide +kernel
theorem dX3_digest_168 : decode cX3_digest 168 = .ok (.if_icmp .gt 28, 3) := by decide +kernel
theorem dX3_digest_171 : decode cX3_digest 171 = .ok (.lload_n 1, 1) := by decide +kernel
theorem dX3_digest_172 : decode cX3_digest 172 = .ok (.ldc2_w 202, 3) := by decide +kernel
theorem dX3_digest_175 : decode cX3_digest 175 = .ok (.lmul, 1) := by decide +kernel
theorem dX3_digest_176 : decode cX3_digest 176 = .ok (.aload_n 0, 1) := by decide +kernel
theorem dX3_digest_177 : decode cX3_digest 177 = .ok (.getfield 17, 3) := by decide +kernel
theorem dX3_digest_180 : decode cX3_digest 180 = .ok (.iload_n 3, 1) := by decide +kernel
theorem dX3_digest_181 : decode cX3_digest 181 = .ok (.aaload, 1) := by decide +kernel
theorem dX3_digest_182 : decode cX3_digest 182 = .ok (.iload 4, 2) := by decide +kernel
theorem dX3_digest_184 : decode cX3_digest 184 = .ok (.invokevirtual 147, 3) := by decide +kernel
theorem dX3_digest_187 : decode cX3_digest 187 = .ok (.i2l, 1) := by decide +kernel
theorem dX3_digest_188 : decode cX3_digest 188 = .ok (.ladd, 1) := by decide +kernel
theorem dX3_digest_189 : decode cX3_digest 189 = .ok (.lstore_n 1, 1) := by decide +kernel
theorem dX3_digest_190 : decode cX3_digest 190 = .ok (.iinc 4 1, 3) := by decide +kernel
theorem dX3_digest_193 : decode cX3_digest 193 = .ok (.goto (-28), 3) := by decide +kernel
theorem dX3_digest_196 : decode cX3_digest 196 = .ok (.iinc 3 1, 3) := by decide +kernel
theorem dX3_digest_199 : decode cX3_digest 199 = .ok (.goto (-45), 3) := by decide +kernel
theorem dX3_digest_202 : decode cX3_digest 202 = .ok (.lload_n 1, 1) := by decide +kernel
theorem dX3_digest_203 : decode cX3_digest 203 = .ok (.lreturn, 1) := by decide +kernel
set_option maxRecDepth 100000 in
set_option maxHeartbeats 4000000 in
theorem ggX3_withPropertiesOf_X2_property : GoodIn wsX3_withPropertiesOf wsX2_property := goodIn_r _ [5, 6, 7, 8, 9, 10, 11, 12, 13, 14, 15, 16, 17, 18, 19, 20, 3, 21, 22, 23, 24, 25, 26, 27, 28, 29, 30, 31, 32, 33, 34, 35, 36] rfl (by decide +kernel)
set_option maxRecDepth 20000 in
theorem gX3_withPropertiesOf_X2_property_n144 : GoodIn wsX3_withPropertiesOf (wsX2_property) := ggX3_withPropertiesOf_X2_property
theorem dX3_withPropertiesOf_0 : decode cX3_withPropertiesOf 0 = .ok (.lload_n 1, 1) := by decide +kernel
theorem dX3_withPropertiesOf_1 : decode cX3_withPropertiesOf 1 = .ok (.lstore_n 3, 1) := by decide +kernel
theorem dX3_withPropertiesOf_2 : decode cX3_withPropertiesOf 2 = .ok (.iconst 0, 1) := by decide +kernel
theorem dX3_withPropertiesOf_3 : decode cX3_withPropertiesOf 3 = .ok (.istore 5, 2) := by decide +kernel
theorem dX3_withPropertiesOf_5 : decode cX3_withPropertiesOf 5 = .ok (.iload 5, 2) := by decide +kernel
theorem dX3_withPropertiesOf_7 : decode cX3_withPropertiesOf 7 = .ok (.bipush 12, 2) := by decide +kernel
theorem dX3_withPropertiesOf_9 : decode cX3_withPropertiesOf 9 = .ok (.if_icmp .gt 23, 3) := by decide +kernel
theorem dX3_withPropertiesOf_12 : decode cX3_withPropertiesOf 12 = .ok (.lload_n 3, 1) := by decide +kernel
theorem dX3_withPropertiesOf_13 : decode cX3_withPropertiesOf 13 = .ok (.ldc2_w 202, 3) := by decide +kernel
theorem dX3_withPropertiesOf_16 : decode cX3_withPropertiesOf 16 = .ok (.lmul, 1) := by decide +kernel
theorem dX3_withPropertiesOf_17 : decode cX3_withPropertiesOf 17 = .ok (.aload_n 0, 1) := by decide +kernel
theorem dX3_withPropertiesOf_18 : decode cX3_withPropertiesOf 18 = .ok (.iload 5, 2) := by decide +kernel
theorem dX3_withPropertiesOf_20 : decode cX3_withPropertiesOf 20 = .ok (.invokevirtual 144, 3) := by decide +kernel
theorem dX3_withPropertiesOf_23 : decode cX3_withPropertiesOf 23 = .ok (.i2l, 1) := by decide +kernel
theorem dX3_withPropertiesOf_24 : decode cX3_withPropertiesOf 24 = .ok (.ladd, 1) := by decide +kernel
theorem dX3_withPropertiesOf_25 : decode cX3_withPropertiesOf 25 = .ok (.lstore_n 3, 1) := by decide +kernel
theorem dX3_withPropertiesOf_26 : decode cX3_withPropertiesOf 26 = .ok (.iinc 5 1, 3) := by decide +kernel
theorem dX3_withPropertiesOf_29 : decode cX3_withPropertiesOf 29 = .ok (.goto (-24), 3) := by decide +kernel
theorem dX3_withPropertiesOf_32 : decode cX3_withPropertiesOf 32 = .ok (.lload_n 3, 1) := by decide +kernel
theorem dX3_withPropertiesOf_33 : decode cX3_withPropertiesOf 33 = .ok (.lreturn, 1) := by decide +kernel
theorem dX3_refuseUnless_0 : decode cX3_refuseUnless 0 = .ok (.iload_n 0, 1) := by decide +kernel
theorem dX3_refuseUnless_1 : decode cX3_refuseUnless 1 = .ok (.ifCond .ne 13, 3) := by decide +kernel
theorem dX3_refuseUnless_4 : decode cX3_refuseUnless 4 = .ok (.new 208, 3) := by decide +kernel
theorem dX3_refuseUnless_7 : decode cX3_refuseUnless 7 = .ok (.dup, 1) := by decide +kernel
theorem dX3_refuseUnless_8 : decode cX3_refuseUnless 8 = .ok (.ldc 210, 2) := by decide +kernel
theorem dX3_refuseUnless_10 : decode cX3_refuseUnless 10 = .ok (.invokespecial 212, 3) := by decide +kernel
theorem dX3_refuseUnless_13 : decode cX3_refuseUnless 13 = .ok (.athrow, 1) := by decide +kernel
theorem dX3_refuseUnless_14 : decode cX3_refuseUnless 14 = .ok (.return_, 1) := by decide +kernel
set_option maxRecDepth 100000 in
set_option maxHeartbeats 4000000 in
theorem ggX3_refuseUnlessMoment_X3_isTime : GoodIn wsX3_refuseUnlessMoment wsX3_isTime := goodIn_r _ [4, 5, 6, 3, 7] rfl (by decide +kernel)
set_option maxRecDepth 20000 in
theorem gX3_refuseUnlessMoment_X3_isTime : GoodIn wsX3_refuseUnlessMoment (va_wsS RX3 67 yX3_isTime wsX3_isTime) := goodIn_app (goodIn_of _ (by decide +kernel)) ggX3_refuseUnlessMoment_X3_isTime
set_option maxRecDepth 100000 in
set_option maxHeartbeats 4000000 in
theorem ggX3_refuseUnlessMoment_X3_isWithin : GoodIn wsX3_refuseUnlessMoment wsX3_isWithin := goodIn_r _ [7] rfl (by decide +kernel)
set_option maxRecDepth 20000 in
theorem gX3_refuseUnlessMoment_X3_isWithin : GoodIn wsX3_refuseUnlessMoment (va_wsS RX3 80 yX3_isWithin wsX3_isWithin) := goodIn_app (goodIn_of _ (by decide +kernel)) ggX3_refuseUnlessMoment_X3_isWithin
set_option maxRecDepth 100000 in
set_option maxHeartbeats 4000000 in
theorem ggX3_refuseUnlessMoment_X3_refuseUnless : GoodIn wsX3_refuseUnlessMoment wsX3_refuseUnless := goodIn_ca (goodIn_r _ [10, 11, 12] rfl (by decide +kernel)) (goodIn_sub (fun _ h => List.mem_cons_of_mem _ (List.mem_append_right _ h)) (by decide +kernel))
set_option maxRecDepth 20000 in
theorem gX3_refuseUnlessMoment_X3_refuseUnless : GoodIn wsX3_refuseUnlessMoment (va_wsS RX3 44 yX3_refuseUnless wsX3_refuseUnless) := goodIn_app (goodIn_of _ (by decide +kernel)) ggX3_refuseUnlessMoment_X3_refuseUnless
theorem dX3_refuseUnlessMoment_0 : decode cX3_refuseUnlessMoment 0 = .ok (.iload_n 0, 1) := by decide +kernel
theorem dX3_refuseUnlessMoment_1 : decode cX3_refuseUnlessMoment 1 = .ok (.invokestatic 67, 3) := by decide +kernel
theorem dX3_refuseUnlessMoment_4 : decode cX3_refuseUnlessMoment 4 = .ok (.ifCond .eq 15, 3) := by decide +kernel
theorem dX3_refuseUnlessMoment_7 : decode cX3_refuseUnlessMoment 7 = .ok (.iload_n 1, 1) := by decide +kernel
theorem dX3_refuseUnlessMoment_8 : decode cX3_refuseUnlessMoment 8 = .ok (.iconst 3, 1) := by decide +kernel
theorem dX3_refuseUnlessMoment_9 : decode cX3_refuseUnlessMoment 9 = .ok (.invokestatic 80, 3) := by decide +kernel
theorem dX3_refuseUnlessMoment_12 : decode cX3_refuseUnlessMoment 12 = .ok (.ifCond .eq 7, 3) := by decide +kernel
theorem dX3_refuseUnlessMoment_15 : decode cX3_refuseUnlessMoment 15 = .ok (.iconst 1, 1) := by decide +kernel
theorem dX3_refuseUnlessMoment_16 : decode cX3_refuseUnlessMoment 16 = .ok (.goto 4, 3) := by decide +kernel
theorem dX3_refuseUnlessMoment_19 : decode cX3_refuseUnlessMoment 19 = .ok (.iconst 0, 1) := by decide +kernel
theorem dX3_refuseUnlessMoment_20 : decode cX3_refuseUnlessMoment 20 = .ok (.invokestatic 44, 3) := by decide +kernel
theorem dX3_refuseUnlessMoment_23 : decode cX3_refuseUnlessMoment 23 = .ok (.return_, 1) := by decide +kernel
set_option maxRecDepth 100000 in
set_option maxHeartbeats 4000000 in
theorem ggX3_refuseUnlessLetter_X3_isLetter : GoodIn wsX3_refuseUnlessLetter wsX3_isLetter := goodIn_r _ [7, 8, 9, 10, 11, 12, 13, 14, 15] rfl (by decide +kernel)
set_option maxRecDepth 20000 in
theorem gX3_refuseUnlessLetter_X3_isLetter : GoodIn wsX3_refuseUnlessLetter (wsV RX3 213 RX3 yX3_isLetter wsX3_isLetter) := goodIn_app (goodIn_of _ (by decide +kernel)) ggX3_refuseUnlessLetter_X3_isLetter
theorem dX3_refuseUnlessLetter_0 : decode cX3_refuseUnlessLetter 0 = .ok (.aload_n 0, 1) := by decide +kernel
theorem dX3_refuseUnlessLetter_1 : decode cX3_refuseUnlessLetter 1 = .ok (.iload_n 1, 1) := by decide +kernel
theorem dX3_refuseUnlessLetter_2 : decode cX3_refuseUnlessLetter 2 = .ok (.invokevirtual 213, 3) := by decide +kernel
theorem dX3_refuseUnlessLetter_5 : decode cX3_refuseUnlessLetter 5 = .ok (.ifCond .ne 13, 3) := by decide +kernel
theorem dX3_refuseUnlessLetter_8 : decode cX3_refuseUnlessLetter 8 = .ok (.new 216, 3) := by decide +kernel
theorem dX3_refuseUnlessLetter_11 : decode cX3_refuseUnlessLetter 11 = .ok (.dup, 1) := by decide +kernel
theorem dX3_refuseUnlessLetter_12 : decode cX3_refuseUnlessLetter 12 = .ok (.ldc 218, 2) := by decide +kernel
theorem dX3_refuseUnlessLetter_14 : decode cX3_refuseUnlessLetter 14 = .ok (.invokespecial 220, 3) := by decide +kernel
theorem dX3_refuseUnlessLetter_17 : decode cX3_refuseUnlessLetter 17 = .ok (.athrow, 1) := by decide +kernel
theorem dX3_refuseUnlessLetter_18 : decode cX3_refuseUnlessLetter 18 = .ok (.return_, 1) := by decide +kernel
theorem dX3_refuseUnlessList_0 : decode cX3_refuseUnlessList 0 = .ok (.iload_n 1, 1) := by decide +kernel
theorem dX3_refuseUnlessList_1 : decode cX3_refuseUnlessList 1 = .ok (.ifCond .lt 11, 3) := by decide +kernel
theorem dX3_refuseUnlessList_4 : decode cX3_refuseUnlessList 4 = .ok (.iload_n 1, 1) := by decide +kernel
theorem dX3_refuseUnlessList_5 : decode cX3_refuseUnlessList 5 = .ok (.aload_n 0, 1) := by decide +kernel
theorem dX3_refuseUnlessList_6 : decode cX3_refuseUnlessList 6 = .ok (.getfield 119, 3) := by decide +kernel
theorem dX3_refuseUnlessList_9 : decode cX3_refuseUnlessList 9 = .ok (.if_icmp .lt 13, 3) := by decide +kernel
theorem dX3_refuseUnlessList_12 : decode cX3_refuseUnlessList 12 = .ok (.new 216, 3) := by decide +kernel
theorem dX3_refuseUnlessList_15 : decode cX3_refuseUnlessList 15 = .ok (.dup, 1) := by decide +kernel
theorem dX3_refuseUnlessList_16 : decode cX3_refuseUnlessList 16 = .ok (.ldc 221, 2) := by decide +kernel
theorem dX3_refuseUnlessList_18 : decode cX3_refuseUnlessList 18 = .ok (.invokespecial 220, 3) := by decide +kernel
theorem dX3_refuseUnlessList_21 : decode cX3_refuseUnlessList 21 = .ok (.athrow, 1) := by decide +kernel
theorem dX3_refuseUnlessList_22 : decode cX3_refuseUnlessList 22 = .ok (.return_, 1) := by decide +kernel
theorem dX3_isLetter_0 : decode cX3_isLetter 0 = .ok (.iload_n 1, 1) := by decide +kernel
theorem dX3_isLetter_1 : decode cX3_isLetter 1 = .ok (.ifCond .lt 15, 3) := by decide +kernel
theorem dX3_isLetter_4 : decode cX3_isLetter 4 = .ok (.iload_n 1, 1) := by decide +kernel
theorem dX3_isLetter_5 : decode cX3_isLetter 5 = .ok (.aload_n 0, 1) := by decide +kernel
theorem dX3_isLetter_6 : decode cX3_isLetter 6 = .ok (.getfield 48, 3) := by decide +kernel
theorem dX3_isLetter_9 : decode cX3_isLetter 9 = .ok (.if_icmp .ge 7, 3) := by decide +kernel
theorem dX3_isLetter_12 : decode cX3_isLetter 12 = .ok (.iconst 1, 1) := by decide +kernel
theorem dX3_isLetter_13 : decode cX3_isLetter 13 = .ok (.goto 4, 3) := by decide +kernel
theorem dX3_isLetter_16 : decode cX3_isLetter 16 = .ok (.iconst 0, 1) := by decide +kernel
theorem dX3_isLetter_17 : decode cX3_isLetter 17 = .ok (.ireturn, 1) := by decide +kernel
theorem dX3_isWithin_0 : decode cX3_isWithin 0 = .ok (.iload_n 0, 1) := by decide +kernel
theorem dX3_isWithin_1 : decode cX3_isWithin 1 = .ok (.ifCond .lt 12, 3) := by decide +kernel
theorem dX3_isWithin_4 : decode cX3_isWithin 4 = .ok (.iload_n 0, 1) := by decide +kernel
theorem dX3_isWithin_5 : decode cX3_isWithin 5 = .ok (.iload_n 1, 1) := by decide +kernel
theorem dX3_isWithin_6 : decode cX3_isWithin 6 = .ok (.if_icmp .gt 7, 3) := by decide +kernel
theorem dX3_isWithin_9 : decode cX3_isWithin 9 = .ok (.iconst 1, 1) := by decide +kernel
theorem dX3_isWithin_10 : decode cX3_isWithin 10 = .ok (.goto 4, 3) := by decide +kernel
theorem dX3_isWithin_13 : decode cX3_isWithin 13 = .ok (.iconst 0, 1) := by decide +kernel
theorem dX3_isWithin_14 : decode cX3_isWithin 14 = .ok (.ireturn, 1) := by decide +kernel
set_option maxRecDepth 100000 in
set_option maxHeartbeats 4000000 in
theorem ggX3_isKey_X3_isWithin : GoodIn wsX3_isKey wsX3_isWithin := goodIn_r _ [4] rfl (by decide +kernel)
set_option maxRecDepth 20000 in
theorem gX3_isKey_X3_isWithin : GoodIn wsX3_isKey (va_wsS RX3 80 yX3_isWithin wsX3_isWithin) := goodIn_app (goodIn_of _ (by decide +kernel)) ggX3_isKey_X3_isWithin
theorem dX3_isKey_0 : decode cX3_isKey 0 = .ok (.iload_n 0, 1) := by decide +kernel
theorem dX3_isKey_1 : decode cX3_isKey 1 = .ok (.bipush 15, 2) := by decide +kernel
theorem dX3_isKey_3 : decode cX3_isKey 3 = .ok (.invokestatic 80, 3) := by decide +kernel
theorem dX3_isKey_6 : decode cX3_isKey 6 = .ok (.ireturn, 1) := by decide +kernel
set_option maxRecDepth 100000 in
set_option maxHeartbeats 4000000 in
theorem ggX3_isSerial_X3_isWithin : GoodIn wsX3_isSerial wsX3_isWithin := goodIn_r _ [4] rfl (by decide +kernel)
set_option maxRecDepth 20000 in
theorem gX3_isSerial_X3_isWithin : GoodIn wsX3_isSerial (va_wsS RX3 80 yX3_isWithin wsX3_isWithin) := goodIn_app (goodIn_of _ (by decide +kernel)) ggX3_isSerial_X3_isWithin
theorem dX3_isSerial_0 : decode cX3_isSerial 0 = .ok (.iload_n 0, 1) := by decide +kernel
theorem dX3_isSerial_1 : decode cX3_isSerial 1 = .ok (.bipush 30, 2) := by decide +kernel
theorem dX3_isSerial_3 : decode cX3_isSerial 3 = .ok (.invokestatic 80, 3) := by decide +kernel
theorem dX3_isSerial_6 : decode cX3_isSerial 6 = .ok (.ireturn, 1) := by decide +kernel
set_option maxRecDepth 100000 in
set_option maxHeartbeats 4000000 in
theorem ggX3_isTime_X3_isWithin : GoodIn wsX3_isTime wsX3_isWithin := goodIn_r _ [4] rfl (by decide +kernel)
set_option maxRecDepth 20000 in
theorem gX3_isTime_X3_isWithin : GoodIn wsX3_isTime (va_wsS RX3 80 yX3_isWithin wsX3_isWithin) := goodIn_app (goodIn_of _ (by decide +kernel)) ggX3_isTime_X3_isWithin
theorem dX3_isTime_0 : decode cX3_isTime 0 = .ok (.iload_n 0, 1) := by decide +kernel
theorem dX3_isTime_1 : decode cX3_isTime 1 = .ok (.sipush 999, 3) := by decide +kernel
theorem dX3_isTime_4 : decode cX3_isTime 4 = .ok (.invokestatic 80, 3) := by decide +kernel
theorem dX3_isTime_7 : decode cX3_isTime 7 = .ok (.ireturn, 1) := by decide +kernel
set_option maxRecDepth 100000 in
set_option maxHeartbeats 4000000 in
theorem ggX3_isResidue_X3_isWithin : GoodIn wsX3_isResidue wsX3_isWithin := goodIn_r _ [4] rfl (by decide +kernel)
set_option maxRecDepth 20000 in
theorem gX3_isResidue_X3_isWithin : GoodIn wsX3_isResidue (va_wsS RX3 80 yX3_isWithin wsX3_isWithin) := goodIn_app (goodIn_of _ (by decide +kernel)) ggX3_isResidue_X3_isWithin
theorem dX3_isResidue_0 : decode cX3_isResidue 0 = .ok (.iload_n 0, 1) := by decide +kernel
theorem dX3_isResidue_1 : decode cX3_isResidue 1 = .ok (.sipush 996, 3) := by decide +kernel
theorem dX3_isResidue_4 : decode cX3_isResidue 4 = .ok (.invokestatic 80, 3) := by decide +kernel
theorem dX3_isResidue_7 : decode cX3_isResidue 7 = .ok (.ireturn, 1) := by decide +kernel
theorem dX3_isName_0 : decode cX3_isName 0 = .ok (.iload_n 0, 1) := by decide +kernel
theorem dX3_isName_1 : decode cX3_isName 1 = .ok (.iconst 1, 1) := by decide +kernel
theorem dX3_isName_2 : decode cX3_isName 2 = .ok (.if_icmp .lt 10, 3) := by decide +kernel
theorem dX3_isName_5 : decode cX3_isName 5 = .ok (.iload_n 0, 1) := by decide +kernel
theorem dX3_isName_6 : decode cX3_isName 6 = .ok (.sipush 9999, 3) := by decide +kernel
theorem dX3_isName_9 : decode cX3_isName 9 = .ok (.if_icmp .le 5, 3) := by decide +kernel
theorem dX3_isName_12 : decode cX3_isName 12 = .ok (.iconst 0, 1) := by decide +kernel
theorem dX3_isName_13 : decode cX3_isName 13 = .ok (.ireturn, 1) := by decide +kernel
theorem dX3_isName_14 : decode cX3_isName 14 = .ok (.iload_n 0, 1) := by decide +kernel
theorem dX3_isName_15 : decode cX3_isName 15 = .ok (.istore_n 1, 1) := by decide +kernel
theorem dX3_isName_16 : decode cX3_isName 16 = .ok (.iload_n 1, 1) := by decide +kernel
theorem dX3_isName_17 : decode cX3_isName 17 = .ok (.ifCond .le 20, 3) := by decide +kernel
theorem dX3_isName_20 : decode cX3_isName 20 = .ok (.iload_n 1, 1) := by decide +kernel
theorem dX3_isName_21 : decode cX3_isName 21 = .ok (.bipush 10, 2) := by decide +kernel
theorem dX3_isName_23 : decode cX3_isName 23 = .ok (.irem, 1) := by decide +kernel
theorem dX3_isName_24 : decode cX3_isName 24 = .ok (.ifCond .ne 5, 3) := by decide +kernel
theorem dX3_isName_27 : decode cX3_isName 27 = .ok (.iconst 0, 1) := by decide +kernel
theorem dX3_isName_28 : decode cX3_isName 28 = .ok (.ireturn, 1) := by decide +kernel
theorem dX3_isName_29 : decode cX3_isName 29 = .ok (.iload_n 1, 1) := by decide +kernel
theorem dX3_isName_30 : decode cX3_isName 30 = .ok (.bipush 10, 2) := by decide +kernel
theorem dX3_isName_32 : decode cX3_isName 32 = .ok (.idiv, 1) := by decide +kernel
theorem dX3_isName_33 : decode cX3_isName 33 = .ok (.istore_n 1, 1) := by decide +kernel
theorem dX3_isName_34 : decode cX3_isName 34 = .ok (.goto (-18), 3) := by decide +kernel
theorem dX3_isName_37 : decode cX3_isName 37 = .ok (.iconst 1, 1) := by decide +kernel
theorem dX3_isName_38 : decode cX3_isName 38 = .ok (.ireturn, 1) := by decide +kernel
set_option maxRecDepth 100000 in
set_option maxHeartbeats 4000000 in
theorem ggX3_isNameOrZero_X3_isName : GoodIn wsX3_isNameOrZero wsX3_isName := goodIn_r _ [4] rfl (by decide +kernel)
set_option maxRecDepth 20000 in
theorem gX3_isNameOrZero_X3_isName : GoodIn wsX3_isNameOrZero (va_wsS RX3 34 yX3_isName wsX3_isName) := goodIn_app (goodIn_of _ (by decide +kernel)) ggX3_isNameOrZero_X3_isName
theorem dX3_isNameOrZero_0 : decode cX3_isNameOrZero 0 = .ok (.iload_n 0, 1) := by decide +kernel
theorem dX3_isNameOrZero_1 : decode cX3_isNameOrZero 1 = .ok (.ifCond .eq 10, 3) := by decide +kernel
theorem dX3_isNameOrZero_4 : decode cX3_isNameOrZero 4 = .ok (.iload_n 0, 1) := by decide +kernel
theorem dX3_isNameOrZero_5 : decode cX3_isNameOrZero 5 = .ok (.invokestatic 34, 3) := by decide +kernel
theorem dX3_isNameOrZero_8 : decode cX3_isNameOrZero 8 = .ok (.ifCond .eq 7, 3) := by decide +kernel
theorem dX3_isNameOrZero_11 : decode cX3_isNameOrZero 11 = .ok (.iconst 1, 1) := by decide +kernel
theorem dX3_isNameOrZero_12 : decode cX3_isNameOrZero 12 = .ok (.goto 4, 3) := by decide +kernel
theorem dX3_isNameOrZero_15 : decode cX3_isNameOrZero 15 = .ok (.iconst 0, 1) := by decide +kernel
theorem dX3_isNameOrZero_16 : decode cX3_isNameOrZero 16 = .ok (.ireturn, 1) := by decide +kernel
theorem dX3_isBelow_0 : decode cX3_isBelow 0 = .ok (.iload_n 0, 1) := by decide +kernel
theorem dX3_isBelow_1 : decode cX3_isBelow 1 = .ok (.istore_n 2, 1) := by decide +kernel
theorem dX3_isBelow_2 : decode cX3_isBelow 2 = .ok (.iload_n 2, 1) := by decide +kernel
theorem dX3_isBelow_3 : decode cX3_isBelow 3 = .ok (.ifCond .le 18, 3) := by decide +kernel
theorem dX3_isBelow_6 : decode cX3_isBelow 6 = .ok (.iload_n 2, 1) := by decide +kernel
theorem dX3_isBelow_7 : decode cX3_isBelow 7 = .ok (.iload_n 1, 1) := by decide +kernel
theorem dX3_isBelow_8 : decode cX3_isBelow 8 = .ok (.if_icmp .ne 5, 3) := by decide +kernel
theorem dX3_isBelow_11 : decode cX3_isBelow 11 = .ok (.iconst 1, 1) := by decide +kernel
theorem dX3_isBelow_12 : decode cX3_isBelow 12 = .ok (.ireturn, 1) := by decide +kernel
theorem dX3_isBelow_13 : decode cX3_isBelow 13 = .ok (.iload_n 2, 1) := by decide +kernel
theorem dX3_isBelow_14 : decode cX3_isBelow 14 = .ok (.bipush 10, 2) := by decide +kernel
theorem dX3_isBelow_16 : decode cX3_isBelow 16 = .ok (.idiv, 1) := by decide +kernel
theorem dX3_isBelow_17 : decode cX3_isBelow 17 = .ok (.istore_n 2, 1) := by decide +kernel
theorem dX3_isBelow_18 : decode cX3_isBelow 18 = .ok (.goto (-16), 3) := by decide +kernel
theorem dX3_isBelow_21 : decode cX3_isBelow 21 = .ok (.iload_n 1, 1) := by decide +kernel
theorem dX3_isBelow_22 : decode cX3_isBelow 22 = .ok (.ifCond .ne 7, 3) := by decide +kernel
theorem dX3_isBelow_25 : decode cX3_isBelow 25 = .ok (.iconst 1, 1) := by decide +kernel
theorem dX3_isBelow_26 : decode cX3_isBelow 26 = .ok (.goto 4, 3) := by decide +kernel
theorem dX3_isBelow_29 : decode cX3_isBelow 29 = .ok (.iconst 0, 1) := by decide +kernel
theorem dX3_isBelow_30 : decode cX3_isBelow 30 = .ok (.ireturn, 1) := by decide +kernel
theorem dX3_sealFor_0 : decode cX3_sealFor 0 = .ok (.iload_n 0, 1) := by decide +kernel
theorem dX3_sealFor_1 : decode cX3_sealFor 1 = .ok (.iconst 2, 1) := by decide +kernel
theorem dX3_sealFor_2 : decode cX3_sealFor 2 = .ok (.iload_n 1, 1) := by decide +kernel
theorem dX3_sealFor_3 : decode cX3_sealFor 3 = .ok (.imul, 1) := by decide +kernel
theorem dX3_sealFor_4 : decode cX3_sealFor 4 = .ok (.iconst 3, 1) := by decide +kernel
theorem dX3_sealFor_5 : decode cX3_sealFor 5 = .ok (.iadd, 1) := by decide +kernel
theorem dX3_sealFor_6 : decode cX3_sealFor 6 = .ok (.imul, 1) := by decide +kernel
theorem dX3_sealFor_7 : decode cX3_sealFor 7 = .ok (.sipush 997, 3) := by decide +kernel
theorem dX3_sealFor_10 : decode cX3_sealFor 10 = .ok (.irem, 1) := by decide +kernel
theorem dX3_sealFor_11 : decode cX3_sealFor 11 = .ok (.ireturn, 1) := by decide +kernel
theorem dX3_mix_0 : decode cX3_mix 0 = .ok (.iload_n 0, 1) := by decide +kernel
theorem dX3_mix_1 : decode cX3_mix 1 = .ok (.bipush 31, 2) := by decide +kernel
theorem dX3_mix_3 : decode cX3_mix 3 = .ok (.imul, 1) := by decide +kernel
theorem dX3_mix_4 : decode cX3_mix 4 = .ok (.iload_n 1, 1) := by decide +kernel
theorem dX3_mix_5 : decode cX3_mix 5 = .ok (.iadd, 1) := by decide +kernel
theorem dX3_mix_6 : decode cX3_mix 6 = .ok (.sipush 997, 3) := by decide +kernel
theorem dX3_mix_9 : decode cX3_mix 9 = .ok (.irem, 1) := by decide +kernel
theorem dX3_mix_10 : decode cX3_mix 10 = .ok (.ireturn, 1) := by decide +kernel
set_option maxRecDepth 100000 in
set_option maxHeartbeats 4000000 in
theorem ggX3_isBacking_X2_isSealedBy : GoodIn wsX3_isBacking wsX2_isSealedBy := goodIn_r _ [4, 5, 6, 7, 8, 2, 9, 10, 11, 12, 13, 14, 15, 16, 17, 18, 19, 20, 21, 22, 23, 24, 25, 26, 27, 28, 29, 30, 31, 32, 33, 34, 35, 36] rfl (by decide +kernel)
set_option maxRecDepth 20000 in
theorem gX3_isBacking_X2_isSealedBy_n226 : GoodIn wsX3_isBacking (wsX2_isSealedBy) := ggX3_isBacking_X2_isSealedBy
theorem dX3_isBacking_0 : decode cX3_isBacking 0 = .ok (.aload_n 0, 1) := by decide +kernel
theorem dX3_isBacking_1 : decode cX3_isBacking 1 = .ok (.getfield 180, 3) := by decide +kernel
theorem dX3_isBacking_4 : decode cX3_isBacking 4 = .ok (.aload_n 1, 1) := by decide +kernel
theorem dX3_isBacking_5 : decode cX3_isBacking 5 = .ok (.getfield 223, 3) := by decide +kernel
theorem dX3_isBacking_8 : decode cX3_isBacking 8 = .ok (.if_icmp .ne 18, 3) := by decide +kernel
theorem dX3_isBacking_11 : decode cX3_isBacking 11 = .ok (.aload_n 1, 1) := by decide +kernel
theorem dX3_isBacking_12 : decode cX3_isBacking 12 = .ok (.aload_n 0, 1) := by decide +kernel
theorem dX3_isBacking_13 : decode cX3_isBacking 13 = .ok (.getfield 183, 3) := by decide +kernel
theorem dX3_isBacking_16 : decode cX3_isBacking 16 = .ok (.invokevirtual 226, 3) := by decide +kernel
theorem dX3_isBacking_19 : decode cX3_isBacking 19 = .ok (.ifCond .eq 7, 3) := by decide +kernel
theorem dX3_isBacking_22 : decode cX3_isBacking 22 = .ok (.iconst 1, 1) := by decide +kernel
theorem dX3_isBacking_23 : decode cX3_isBacking 23 = .ok (.goto 4, 3) := by decide +kernel
theorem dX3_isBacking_26 : decode cX3_isBacking 26 = .ok (.iconst 0, 1) := by decide +kernel
theorem dX3_isBacking_27 : decode cX3_isBacking 27 = .ok (.ireturn, 1) := by decide +kernel
set_option maxRecDepth 100000 in
set_option maxHeartbeats 4000000 in
theorem ggX3_backersOf_X3_isBacking : GoodIn wsX3_backersOf wsX3_isBacking := goodIn_r _ [6, 7, 8, 9, 10, 11, 12, 13, 14, 15, 16, 17, 18, 19, 20, 21, 22, 23, 24, 25, 26, 5, 27, 28, 29, 37, 38, 39, 40, 41, 42, 43, 44, 45, 46, 47, 48] rfl (by decide +kernel)
set_option maxRecDepth 20000 in
theorem gX3_backersOf_X3_isBacking : GoodIn wsX3_backersOf (va_wsS RX3 154 yX3_isBacking wsX3_isBacking) := goodIn_app (goodIn_of _ (by decide +kernel)) ggX3_backersOf_X3_isBacking
theorem dX3_backersOf_0 : decode cX3_backersOf 0 = .ok (.iconst 0, 1) := by decide +kernel
theorem dX3_backersOf_1 : decode cX3_backersOf 1 = .ok (.istore_n 2, 1) := by decide +kernel
theorem dX3_backersOf_2 : decode cX3_backersOf 2 = .ok (.iconst 0, 1) := by decide +kernel
theorem dX3_backersOf_3 : decode cX3_backersOf 3 = .ok (.istore_n 3, 1) := by decide +kernel
theorem dX3_backersOf_4 : decode cX3_backersOf 4 = .ok (.iload_n 3, 1) := by decide +kernel
theorem dX3_backersOf_5 : decode cX3_backersOf 5 = .ok (.aload_n 0, 1) := by decide +kernel
theorem dX3_backersOf_6 : decode cX3_backersOf 6 = .ok (.getfield 48, 3) := by decide +kernel
theorem dX3_backersOf_9 : decode cX3_backersOf 9 = .ok (.if_icmp .ge 28, 3) := by decide +kernel
theorem dX3_backersOf_12 : decode cX3_backersOf 12 = .ok (.aload_n 0, 1) := by decide +kernel
theorem dX3_backersOf_13 : decode cX3_backersOf 13 = .ok (.getfield 11, 3) := by decide +kernel
theorem dX3_backersOf_16 : decode cX3_backersOf 16 = .ok (.iload_n 3, 1) := by decide +kernel
theorem dX3_backersOf_17 : decode cX3_backersOf 17 = .ok (.aaload, 1) := by decide +kernel
theorem dX3_backersOf_18 : decode cX3_backersOf 18 = .ok (.aload_n 1, 1) := by decide +kernel
theorem dX3_backersOf_19 : decode cX3_backersOf 19 = .ok (.invokestatic 154, 3) := by decide +kernel
theorem dX3_backersOf_22 : decode cX3_backersOf 22 = .ok (.ifCond .eq 9, 3) := by decide +kernel
theorem dX3_backersOf_25 : decode cX3_backersOf 25 = .ok (.iload_n 2, 1) := by decide +kernel
theorem dX3_backersOf_26 : decode cX3_backersOf 26 = .ok (.iconst 1, 1) := by decide +kernel
theorem dX3_backersOf_27 : decode cX3_backersOf 27 = .ok (.iload_n 3, 1) := by decide +kernel
theorem dX3_backersOf_28 : decode cX3_backersOf 28 = .ok (.ishl, 1) := by decide +kernel
theorem dX3_backersOf_29 : decode cX3_backersOf 29 = .ok (.ior, 1) := by decide +kernel
theorem dX3_backersOf_30 : decode cX3_backersOf 30 = .ok (.istore_n 2, 1) := by decide +kernel
theorem dX3_backersOf_31 : decode cX3_backersOf 31 = .ok (.iinc 3 1, 3) := by decide +kernel
theorem dX3_backersOf_34 : decode cX3_backersOf 34 = .ok (.goto (-30), 3) := by decide +kernel
theorem dX3_backersOf_37 : decode cX3_backersOf 37 = .ok (.iload_n 2, 1) := by decide +kernel
theorem dX3_backersOf_38 : decode cX3_backersOf 38 = .ok (.ireturn, 1) := by decide +kernel
theorem dX3_anchorSet_0 : decode cX3_anchorSet 0 = .ok (.iconst 0, 1) := by decide +kernel
theorem dX3_anchorSet_1 : decode cX3_anchorSet 1 = .ok (.istore_n 1, 1) := by decide +kernel
theorem dX3_anchorSet_2 : decode cX3_anchorSet 2 = .ok (.iconst 0, 1) := by decide +kernel
theorem dX3_anchorSet_3 : decode cX3_anchorSet 3 = .ok (.istore_n 2, 1) := by decide +kernel
theorem dX3_anchorSet_4 : decode cX3_anchorSet 4 = .ok (.iload_n 2, 1) := by decide +kernel
theorem dX3_anchorSet_5 : decode cX3_anchorSet 5 = .ok (.aload_n 0, 1) := by decide +kernel
theorem dX3_anchorSet_6 : decode cX3_anchorSet 6 = .ok (.getfield 48, 3) := by decide +kernel
theorem dX3_anchorSet_9 : decode cX3_anchorSet 9 = .ok (.if_icmp .ge 27, 3) := by decide +kernel
theorem dX3_anchorSet_12 : decode cX3_anchorSet 12 = .ok (.aload_n 0, 1) := by decide +kernel
theorem dX3_anchorSet_13 : decode cX3_anchorSet 13 = .ok (.getfield 11, 3) := by decide +kernel
theorem dX3_anchorSet_16 : decode cX3_anchorSet 16 = .ok (.iload_n 2, 1) := by decide +kernel
theorem dX3_anchorSet_17 : decode cX3_anchorSet 17 = .ok (.aaload, 1) := by decide +kernel
theorem dX3_anchorSet_18 : decode cX3_anchorSet 18 = .ok (.getfield 107, 3) := by decide +kernel
theorem dX3_anchorSet_21 : decode cX3_anchorSet 21 = .ok (.ifCond .eq 9, 3) := by decide +kernel
theorem dX3_anchorSet_24 : decode cX3_anchorSet 24 = .ok (.iload_n 1, 1) := by decide +kernel
theorem dX3_anchorSet_25 : decode cX3_anchorSet 25 = .ok (.iconst 1, 1) := by decide +kernel
theorem dX3_anchorSet_26 : decode cX3_anchorSet 26 = .ok (.iload_n 2, 1) := by decide +kernel
theorem dX3_anchorSet_27 : decode cX3_anchorSet 27 = .ok (.ishl, 1) := by decide +kernel
theorem dX3_anchorSet_28 : decode cX3_anchorSet 28 = .ok (.ior, 1) := by decide +kernel
theorem dX3_anchorSet_29 : decode cX3_anchorSet 29 = .ok (.istore_n 1, 1) := by decide +kernel
theorem dX3_anchorSet_30 : decode cX3_anchorSet 30 = .ok (.iinc 2 1, 3) := by decide +kernel
theorem dX3_anchorSet_33 : decode cX3_anchorSet 33 = .ok (.goto (-29), 3) := by decide +kernel
theorem dX3_anchorSet_36 : decode cX3_anchorSet 36 = .ok (.iload_n 1, 1) := by decide +kernel
theorem dX3_anchorSet_37 : decode cX3_anchorSet 37 = .ok (.ireturn, 1) := by decide +kernel
set_option maxRecDepth 100000 in
set_option maxHeartbeats 4000000 in
theorem ggX3_countOf_X3_anchorSet : GoodIn wsX3_countOf wsX3_anchorSet := goodIn_r _ [7, 1, 8, 21, 22, 23, 24, 25, 26, 27, 28, 29, 30, 31, 32, 33, 34, 35, 36, 37, 38, 39] rfl (by decide +kernel)
set_option maxRecDepth 20000 in
theorem gX3_countOf_X3_anchorSet : GoodIn wsX3_countOf (wsV RX3 110 RX3 yX3_anchorSet wsX3_anchorSet) := goodIn_app (goodIn_of _ (by decide +kernel)) ggX3_countOf_X3_anchorSet
set_option maxRecDepth 100000 in
set_option maxHeartbeats 4000000 in
theorem ggX3_countOf_J6_bitCount_0f7a4 : GoodIn wsX3_countOf wsJ6_bitCount_0f7a4 := goodIn_r _ [12, 13, 14, 15] rfl (by decide +kernel)
set_option maxRecDepth 20000 in
theorem gX3_countOf_J6_bitCount_0f7a4 : GoodIn wsX3_countOf (va_wsS RX3 113 yJ6_bitCount_0f7a4 wsJ6_bitCount_0f7a4) := goodIn_app (goodIn_of _ (by decide +kernel)) ggX3_countOf_J6_bitCount_0f7a4
set_option maxRecDepth 100000 in
set_option maxHeartbeats 4000000 in
theorem ggX3_countOf_X3_pairCount : GoodIn wsX3_countOf wsX3_pairCount := goodIn_r _ [19, 1, 20, 9, 10, 11, 12, 13, 14, 15, 21, 22, 23, 24, 25, 26, 27, 40, 41, 42, 43, 44, 45, 46] rfl (by decide +kernel)
set_option maxRecDepth 20000 in
theorem gX3_countOf_X3_pairCount : GoodIn wsX3_countOf (wsV RX3 229 RX3 yX3_pairCount wsX3_pairCount) := goodIn_app (goodIn_of _ (by decide +kernel)) ggX3_countOf_X3_pairCount
theorem dX3_countOf_0 : decode cX3_countOf 0 = .ok (.iload_n 1, 1) := by decide +kernel
theorem dX3_countOf_1 : decode cX3_countOf 1 = .ok (.tableswitch 45 0 2 #[27, 32, 40], 27) := by decide +kernel
theorem dX3_countOf_28 : decode cX3_countOf 28 = .ok (.aload_n 0, 1) := by decide +kernel
theorem dX3_countOf_29 : decode cX3_countOf 29 = .ok (.getfield 48, 3) := by decide +kernel
theorem dX3_countOf_32 : decode cX3_countOf 32 = .ok (.ireturn, 1) := by decide +kernel
theorem dX3_countOf_33 : decode cX3_countOf 33 = .ok (.aload_n 0, 1) := by decide +kernel
theorem dX3_countOf_34 : decode cX3_countOf 34 = .ok (.invokevirtual 110, 3) := by decide +kernel
theorem dX3_countOf_37 : decode cX3_countOf 37 = .ok (.invokestatic 113, 3) := by decide +kernel
theorem dX3_countOf_40 : decode cX3_countOf 40 = .ok (.ireturn, 1) := by decide +kernel
theorem dX3_countOf_41 : decode cX3_countOf 41 = .ok (.aload_n 0, 1) := by decide +kernel
theorem dX3_countOf_42 : decode cX3_countOf 42 = .ok (.getfield 119, 3) := by decide +kernel
theorem dX3_countOf_45 : decode cX3_countOf 45 = .ok (.ireturn, 1) := by decide +kernel
theorem dX3_countOf_46 : decode cX3_countOf 46 = .ok (.aload_n 0, 1) := by decide +kernel
theorem dX3_countOf_47 : decode cX3_countOf 47 = .ok (.invokevirtual 229, 3) := by decide +kernel
theorem dX3_countOf_50 : decode cX3_countOf 50 = .ok (.ireturn, 1) := by decide +kernel
set_option maxRecDepth 100000 in
set_option maxHeartbeats 4000000 in
theorem ggX3_pairCount_J6_bitCount_0f7a4 : GoodIn wsX3_pairCount wsJ6_bitCount_0f7a4 := goodIn_r _ [6, 7, 8, 9] rfl (by decide +kernel)
set_option maxRecDepth 20000 in
theorem gX3_pairCount_J6_bitCount_0f7a4 : GoodIn wsX3_pairCount (va_wsS RX3 113 yJ6_bitCount_0f7a4 wsJ6_bitCount_0f7a4) := goodIn_app (goodIn_of _ (by decide +kernel)) ggX3_pairCount_J6_bitCount_0f7a4
theorem dX3_pairCount_0 : decode cX3_pairCount 0 = .ok (.iconst 0, 1) := by decide +kernel
theorem dX3_pairCount_1 : decode cX3_pairCount 1 = .ok (.istore_n 1, 1) := by decide +kernel
theorem dX3_pairCount_2 : decode cX3_pairCount 2 = .ok (.iconst 0, 1) := by decide +kernel
theorem dX3_pairCount_3 : decode cX3_pairCount 3 = .ok (.istore_n 2, 1) := by decide +kernel
theorem dX3_pairCount_4 : decode cX3_pairCount 4 = .ok (.iload_n 2, 1) := by decide +kernel
theorem dX3_pairCount_5 : decode cX3_pairCount 5 = .ok (.aload_n 0, 1) := by decide +kernel
theorem dX3_pairCount_6 : decode cX3_pairCount 6 = .ok (.getfield 48, 3) := by decide +kernel
theorem dX3_pairCount_9 : decode cX3_pairCount 9 = .ok (.if_icmp .ge 24, 3) := by decide +kernel
theorem dX3_pairCount_12 : decode cX3_pairCount 12 = .ok (.iload_n 1, 1) := by decide +kernel
theorem dX3_pairCount_13 : decode cX3_pairCount 13 = .ok (.aload_n 0, 1) := by decide +kernel
theorem dX3_pairCount_14 : decode cX3_pairCount 14 = .ok (.getfield 24, 3) := by decide +kernel
theorem dX3_pairCount_17 : decode cX3_pairCount 17 = .ok (.getfield 232, 3) := by decide +kernel
theorem dX3_pairCount_20 : decode cX3_pairCount 20 = .ok (.iload_n 2, 1) := by decide +kernel
theorem dX3_pairCount_21 : decode cX3_pairCount 21 = .ok (.iaload, 1) := by decide +kernel
theorem dX3_pairCount_22 : decode cX3_pairCount 22 = .ok (.invokestatic 113, 3) := by decide +kernel
theorem dX3_pairCount_25 : decode cX3_pairCount 25 = .ok (.iadd, 1) := by decide +kernel
theorem dX3_pairCount_26 : decode cX3_pairCount 26 = .ok (.istore_n 1, 1) := by decide +kernel
theorem dX3_pairCount_27 : decode cX3_pairCount 27 = .ok (.iinc 2 1, 3) := by decide +kernel
theorem dX3_pairCount_30 : decode cX3_pairCount 30 = .ok (.goto (-26), 3) := by decide +kernel
theorem dX3_pairCount_33 : decode cX3_pairCount 33 = .ok (.iload_n 1, 1) := by decide +kernel
theorem dX3_pairCount_34 : decode cX3_pairCount 34 = .ok (.ireturn, 1) := by decide +kernel
set_option maxRecDepth 100000 in
set_option maxHeartbeats 4000000 in
theorem ggX3_survey_X3_backersOf : GoodIn wsX3_survey wsX3_backersOf := goodIn_r _ [10, 1, 3, 11, 12, 9, 13, 14, 15, 16, 17, 18, 19, 20, 21, 22, 23, 24, 25, 26, 27, 28, 29, 30, 31, 32, 33, 34, 35, 36, 62, 63, 64, 65, 66, 67, 68, 76, 77, 78, 79, 80, 81, 82, 83, 84, 85, 86, 87] rfl (by decide +kernel)
set_option maxRecDepth 20000 in
theorem gX3_survey_X3_backersOf : GoodIn wsX3_survey (wsV RX3 235 RX3 yX3_backersOf wsX3_backersOf) := goodIn_app (goodIn_of _ (by decide +kernel)) ggX3_survey_X3_backersOf
set_option maxRecDepth 100000 in
set_option maxHeartbeats 4000000 in
theorem ggX3_survey_X3_anchorSet : GoodIn wsX3_survey wsX3_anchorSet := goodIn_r _ [40, 1, 3, 62, 63, 64, 65, 66, 67, 68, 76, 77, 78, 79, 80, 81, 82, 83, 84, 85, 86, 87] rfl (by decide +kernel)
set_option maxRecDepth 20000 in
theorem gX3_survey_X3_anchorSet : GoodIn wsX3_survey (wsV RX3 110 RX3 yX3_anchorSet wsX3_anchorSet) := goodIn_app (goodIn_of _ (by decide +kernel)) ggX3_survey_X3_anchorSet
set_option maxRecDepth 100000 in
set_option maxHeartbeats 4000000 in
theorem ggX3_survey_X1_markWays : GoodIn wsX3_survey wsX1_markWays := goodIn_r _ [44, 45, 46, 47, 69, 70, 71, 72, 73, 74, 75] rfl (by decide +kernel)
set_option maxRecDepth 20000 in
theorem gX3_survey_X1_markWays_n239 : GoodIn wsX3_survey (wsX1_markWays) := ggX3_survey_X1_markWays
set_option maxRecDepth 100000 in
set_option maxHeartbeats 4000000 in
theorem ggX3_survey_X0_markSigners : GoodIn wsX3_survey wsX0_markSigners := goodIn_r _ [51, 52, 53, 54, 55, 56, 49, 57, 58, 59, 60, 61, 33, 9, 34, 35, 36, 88, 89, 90, 91, 92, 93] rfl (by decide +kernel)
set_option maxRecDepth 20000 in
theorem gX3_survey_X0_markSigners_n242 : GoodIn wsX3_survey (wsX0_markSigners) := ggX3_survey_X0_markSigners
theorem dX3_survey_0 : decode cX3_survey 0 = .ok (.iconst 0, 1) := by decide +kernel
theorem dX3_survey_1 : decode cX3_survey 1 = .ok (.istore_n 1, 1) := by decide +kernel
theorem dX3_survey_2 : decode cX3_survey 2 = .ok (.iload_n 1, 1) := by decide +kernel
theorem dX3_survey_3 : decode cX3_survey 3 = .ok (.aload_n 0, 1) := by decide +kernel
theorem dX3_survey_4 : decode cX3_survey 4 = .ok (.getfield 48, 3) := by decide +kernel
theorem dX3_survey_7 : decode cX3_survey 7 = .ok (.if_icmp .ge 28, 3) := by decide +kernel
theorem dX3_survey_10 : decode cX3_survey 10 = .ok (.aload_n 0, 1) := by decide +kernel
theorem dX3_survey_11 : decode cX3_survey 11 = .ok (.getfield 24, 3) := by decide +kernel
theorem dX3_survey_14 : decode cX3_survey 14 = .ok (.getfield 232, 3) := by decide +kernel
theorem dX3_survey_17 : decode cX3_survey 17 = .ok (.iload_n 1, 1) := by decide +kernel
theorem dX3_survey_18 : decode cX3_survey 18 = .ok (.aload_n 0, 1) := by decide +kernel
theorem dX3_survey_19 : decode cX3_survey 19 = .ok (.aload_n 0, 1) := by decide +kernel
theorem dX3_survey_20 : decode cX3_survey 20 = .ok (.getfield 11, 3) := by decide +kernel
theorem dX3_survey_23 : decode cX3_survey 23 = .ok (.iload_n 1, 1) := by decide +kernel
theorem dX3_survey_24 : decode cX3_survey 24 = .ok (.aaload, 1) := by decide +kernel
theorem dX3_survey_25 : decode cX3_survey 25 = .ok (.invokevirtual 235, 3) := by decide +kernel
theorem dX3_survey_28 : decode cX3_survey 28 = .ok (.iastore, 1) := by decide +kernel
theorem dX3_survey_29 : decode cX3_survey 29 = .ok (.iinc 1 1, 3) := by decide +kernel
theorem dX3_survey_32 : decode cX3_survey 32 = .ok (.goto (-30), 3) := by decide +kernel
theorem dX3_survey_35 : decode cX3_survey 35 = .ok (.aload_n 0, 1) := by decide +kernel
theorem dX3_survey_36 : decode cX3_survey 36 = .ok (.getfield 24, 3) := by decide +kernel
theorem dX3_survey_39 : decode cX3_survey 39 = .ok (.aload_n 0, 1) := by decide +kernel
theorem dX3_survey_40 : decode cX3_survey 40 = .ok (.getfield 48, 3) := by decide +kernel
theorem dX3_survey_43 : decode cX3_survey 43 = .ok (.aload_n 0, 1) := by decide +kernel
theorem dX3_survey_44 : decode cX3_survey 44 = .ok (.invokevirtual 110, 3) := by decide +kernel
theorem dX3_survey_47 : decode cX3_survey 47 = .ok (.invokevirtual 239, 3) := by decide +kernel
theorem dX3_survey_50 : decode cX3_survey 50 = .ok (.iconst 0, 1) := by decide +kernel
theorem dX3_survey_51 : decode cX3_survey 51 = .ok (.istore_n 1, 1) := by decide +kernel
theorem dX3_survey_52 : decode cX3_survey 52 = .ok (.iload_n 1, 1) := by decide +kernel
theorem dX3_survey_53 : decode cX3_survey 53 = .ok (.aload_n 0, 1) := by decide +kernel
theorem dX3_survey_54 : decode cX3_survey 54 = .ok (.getfield 119, 3) := by decide +kernel
theorem dX3_survey_57 : decode cX3_survey 57 = .ok (.if_icmp .ge 18, 3) := by decide +kernel
theorem dX3_survey_60 : decode cX3_survey 60 = .ok (.aload_n 0, 1) := by decide +kernel
theorem dX3_survey_61 : decode cX3_survey 61 = .ok (.getfield 17, 3) := by decide +kernel
theorem dX3_survey_64 : decode cX3_survey 64 = .ok (.iload_n 1, 1) := by decide +kernel
theorem dX3_survey_65 : decode cX3_survey 65 = .ok (.aaload, 1) := by decide +kernel
theorem dX3_survey_66 : decode cX3_survey 66 = .ok (.invokevirtual 242, 3) := by decide +kernel
theorem dX3_survey_69 : decode cX3_survey 69 = .ok (.iinc 1 1, 3) := by decide +kernel
theorem dX3_survey_72 : decode cX3_survey 72 = .ok (.goto (-20), 3) := by decide +kernel
theorem dX3_survey_75 : decode cX3_survey 75 = .ok (.return_, 1) := by decide +kernel
set_option maxRecDepth 100000 in
set_option maxHeartbeats 4000000 in
theorem ggX3_decision_X3_firstHolding : GoodIn wsX3_decision wsX3_firstHolding := goodIn_r _ [6, 1, 7, 8, 9, 5, 10, 11, 12, 13, 14, 15, 16, 17, 18, 19, 20, 21, 22, 23, 24, 25, 26, 27, 28, 29, 30, 31, 32, 33, 34, 35, 36, 37, 38, 39, 40, 41, 42, 43, 44, 45, 46, 47, 48, 49, 50, 51, 52, 53, 54, 55, 56, 57, 58, 59, 60, 61, 62, 63, 64, 65, 66, 67, 68, 69, 70, 71, 72, 73, 74, 75, 76, 77, 78, 79, 80, 81, 82, 83, 84, 85, 86, 87, 88, 89, 90, 91, 92] rfl (by decide +kernel)
set_option maxRecDepth 20000 in
theorem gX3_decision_X3_firstHolding : GoodIn wsX3_decision (wsV RX3 171 RX3 yX3_firstHolding wsX3_firstHolding) := goodIn_app (goodIn_of _ (by decide +kernel)) ggX3_decision_X3_firstHolding
set_option maxRecDepth 100000 in
set_option maxHeartbeats 4000000 in
theorem ggX3_decision_X3_firstFlawedPlace : GoodIn wsX3_decision wsX3_firstFlawedPlace := goodIn_r _ [10, 1, 11, 12, 13, 14, 15, 16, 17, 18, 19, 5, 20, 21, 22, 23, 24, 25, 26, 27, 28, 29, 30, 31, 32, 33, 34, 35, 36, 37, 38, 39, 40, 41, 42, 43, 44, 45, 46, 47, 48, 49, 50, 51, 52, 53, 54, 55, 56, 57, 58, 59, 60, 61, 62, 63, 64, 65, 66, 67, 68, 69, 70, 71, 72, 73, 74, 75, 76, 77, 78, 79, 80, 81, 82, 83, 84, 85, 86, 87, 88, 89, 90, 91, 92] rfl (by decide +kernel)
set_option maxRecDepth 20000 in
theorem gX3_decision_X3_firstFlawedPlace : GoodIn wsX3_decision (wsV RX3 189 RX3 yX3_firstFlawedPlace wsX3_firstFlawedPlace) := goodIn_app (goodIn_of _ (by decide +kernel)) ggX3_decision_X3_firstFlawedPlace
set_option maxRecDepth 100000 in
set_option maxHeartbeats 4000000 in
theorem ggX3_decision_X3_flawOf : GoodIn wsX3_decision wsX3_flawOf := goodIn_r _ [20, 1, 21, 22, 12, 23, 24, 15, 16, 25, 26, 27, 28, 5, 29, 30, 31, 32, 33, 34, 35, 36, 37, 38, 39, 40, 41, 42, 43, 44, 45, 46, 47, 48, 49, 50, 51, 52, 53, 54, 55, 56, 57, 58, 59, 60, 61, 62, 63, 64, 65, 66, 67, 68, 69, 70, 71, 72, 73, 74, 75, 76, 77, 78, 79, 80, 81, 82, 83, 84, 85, 86, 87, 88, 89, 90, 91, 92] rfl (by decide +kernel)
set_option maxRecDepth 20000 in
theorem gX3_decision_X3_flawOf : GoodIn wsX3_decision (wsV RX3 245 RX3 yX3_flawOf wsX3_flawOf) := goodIn_app (goodIn_of _ (by decide +kernel)) ggX3_decision_X3_flawOf
theorem dX3_decision_0 : decode cX3_decision 0 = .ok (.aload_n 0, 1) := by decide +kernel
theorem dX3_decision_1 : decode cX3_decision 1 = .ok (.getfield 24, 3) := by decide +kernel
theorem dX3_decision_4 : decode cX3_decision 4 = .ok (.getfield 161, 3) := by decide +kernel
theorem dX3_decision_7 : decode cX3_decision 7 = .ok (.ifCond .ne 6, 3) := by decide +kernel
theorem dX3_decision_10 : decode cX3_decision 10 = .ok (.bipush 10, 2) := by decide +kernel
theorem dX3_decision_12 : decode cX3_decision 12 = .ok (.ireturn, 1) := by decide +kernel
theorem dX3_decision_13 : decode cX3_decision 13 = .ok (.aload_n 0, 1) := by decide +kernel
theorem dX3_decision_14 : decode cX3_decision 14 = .ok (.iload_n 1, 1) := by decide +kernel
theorem dX3_decision_15 : decode cX3_decision 15 = .ok (.iload_n 2, 1) := by decide +kernel
theorem dX3_decision_16 : decode cX3_decision 16 = .ok (.invokevirtual 171, 3) := by decide +kernel
theorem dX3_decision_19 : decode cX3_decision 19 = .ok (.iconst (-1), 1) := by decide +kernel
theorem dX3_decision_20 : decode cX3_decision 20 = .ok (.if_icmp .eq 5, 3) := by decide +kernel
theorem dX3_decision_23 : decode cX3_decision 23 = .ok (.iconst 0, 1) := by decide +kernel
theorem dX3_decision_24 : decode cX3_decision 24 = .ok (.ireturn, 1) := by decide +kernel
theorem dX3_decision_25 : decode cX3_decision 25 = .ok (.aload_n 0, 1) := by decide +kernel
theorem dX3_decision_26 : decode cX3_decision 26 = .ok (.iconst 0, 1) := by decide +kernel
theorem dX3_decision_27 : decode cX3_decision 27 = .ok (.aload_n 0, 1) := by decide +kernel
theorem dX3_decision_28 : decode cX3_decision 28 = .ok (.iconst 0, 1) := by decide +kernel
theorem dX3_decision_29 : decode cX3_decision 29 = .ok (.iload_n 1, 1) := by decide +kernel
theorem dX3_decision_30 : decode cX3_decision 30 = .ok (.iload_n 2, 1) := by decide +kernel
theorem dX3_decision_31 : decode cX3_decision 31 = .ok (.invokevirtual 189, 3) := by decide +kernel
theorem dX3_decision_34 : decode cX3_decision 34 = .ok (.iload_n 1, 1) := by decide +kernel
theorem dX3_decision_35 : decode cX3_decision 35 = .ok (.iload_n 2, 1) := by decide +kernel
theorem dX3_decision_36 : decode cX3_decision 36 = .ok (.invokevirtual 245, 3) := by decide +kernel
theorem dX3_decision_39 : decode cX3_decision 39 = .ok (.ireturn, 1) := by decide +kernel
set_option maxRecDepth 100000 in
set_option maxHeartbeats 4000000 in
theorem ggX3_decidingPlace_X3_firstHolding : GoodIn wsX3_decidingPlace wsX3_firstHolding := goodIn_r _ [5, 6, 7, 8, 9, 4, 10, 11, 12, 13, 14, 15, 16, 17, 18, 19, 20, 21, 22, 23, 24, 25, 26, 27, 28, 29, 30, 31, 32, 33, 34, 35, 36, 37, 38, 39, 40, 41, 42, 43, 44, 45, 46, 47, 48, 49, 50, 51, 52, 53, 54, 55, 56, 57, 58, 59, 60, 61, 62, 63, 64, 65, 66, 67, 68, 69, 70, 71, 72, 73, 74, 75, 76, 77, 78, 79, 80, 81, 82, 83, 84, 85, 86, 87, 88, 89, 90, 91, 92] rfl (by decide +kernel)
set_option maxRecDepth 20000 in
theorem gX3_decidingPlace_X3_firstHolding : GoodIn wsX3_decidingPlace (wsV RX3 171 RX3 yX3_firstHolding wsX3_firstHolding) := goodIn_app (goodIn_of _ (by decide +kernel)) ggX3_decidingPlace_X3_firstHolding
set_option maxRecDepth 100000 in
set_option maxHeartbeats 4000000 in
theorem ggX3_decidingPlace_X3_firstFlawedPlace : GoodIn wsX3_decidingPlace wsX3_firstFlawedPlace := goodIn_r _ [10, 6, 11, 12, 13, 14, 15, 16, 17, 18, 19, 4, 20, 21, 22, 23, 24, 25, 26, 27, 28, 29, 30, 31, 32, 33, 34, 35, 36, 37, 38, 39, 40, 41, 42, 43, 44, 45, 46, 47, 48, 49, 50, 51, 52, 53, 54, 55, 56, 57, 58, 59, 60, 61, 62, 63, 64, 65, 66, 67, 68, 69, 70, 71, 72, 73, 74, 75, 76, 77, 78, 79, 80, 81, 82, 83, 84, 85, 86, 87, 88, 89, 90, 91, 92] rfl (by decide +kernel)
set_option maxRecDepth 20000 in
theorem gX3_decidingPlace_X3_firstFlawedPlace : GoodIn wsX3_decidingPlace (wsV RX3 189 RX3 yX3_firstFlawedPlace wsX3_firstFlawedPlace) := goodIn_app (goodIn_of _ (by decide +kernel)) ggX3_decidingPlace_X3_firstFlawedPlace
theorem dX3_decidingPlace_0 : decode cX3_decidingPlace 0 = .ok (.aload_n 0, 1) := by decide +kernel
theorem dX3_decidingPlace_1 : decode cX3_decidingPlace 1 = .ok (.iload_n 1, 1) := by decide +kernel
theorem dX3_decidingPlace_2 : decode cX3_decidingPlace 2 = .ok (.iload_n 2, 1) := by decide +kernel
theorem dX3_decidingPlace_3 : decode cX3_decidingPlace 3 = .ok (.invokevirtual 171, 3) := by decide +kernel
theorem dX3_decidingPlace_6 : decode cX3_decidingPlace 6 = .ok (.iconst (-1), 1) := by decide +kernel
theorem dX3_decidingPlace_7 : decode cX3_decidingPlace 7 = .ok (.if_icmp .ne 13, 3) := by decide +kernel
theorem dX3_decidingPlace_10 : decode cX3_decidingPlace 10 = .ok (.aload_n 0, 1) := by decide +kernel
theorem dX3_decidingPlace_11 : decode cX3_decidingPlace 11 = .ok (.iconst 0, 1) := by decide +kernel
theorem dX3_decidingPlace_12 : decode cX3_decidingPlace 12 = .ok (.iload_n 1, 1) := by decide +kernel
theorem dX3_decidingPlace_13 : decode cX3_decidingPlace 13 = .ok (.iload_n 2, 1) := by decide +kernel
theorem dX3_decidingPlace_14 : decode cX3_decidingPlace 14 = .ok (.invokevirtual 189, 3) := by decide +kernel
theorem dX3_decidingPlace_17 : decode cX3_decidingPlace 17 = .ok (.goto 4, 3) := by decide +kernel
theorem dX3_decidingPlace_20 : decode cX3_decidingPlace 20 = .ok (.iconst (-1), 1) := by decide +kernel
theorem dX3_decidingPlace_21 : decode cX3_decidingPlace 21 = .ok (.ireturn, 1) := by decide +kernel
set_option maxRecDepth 100000 in
set_option maxHeartbeats 4000000 in
theorem ggX3_firstHolding_X3_firstFlawedPlace : GoodIn wsX3_firstHolding wsX3_firstFlawedPlace := goodIn_r _ [6, 1, 7, 8, 9, 10, 11, 12, 13, 14, 15, 5, 16, 17, 18, 19, 20, 21, 22, 23, 24, 25, 26, 27, 28, 29, 30, 31, 32, 33, 34, 35, 36, 37, 38, 39, 40, 41, 42, 43, 44, 45, 46, 47, 48, 49, 50, 51, 52, 53, 54, 55, 56, 57, 58, 59, 60, 61, 62, 63, 64, 65, 66, 67, 68, 69, 70, 71, 72, 73, 74, 75, 76, 77, 78, 79, 80, 81, 82, 83, 84, 85, 86, 87, 88] rfl (by decide +kernel)
set_option maxRecDepth 20000 in
theorem gX3_firstHolding_X3_firstFlawedPlace : GoodIn wsX3_firstHolding (wsV RX3 189 RX3 yX3_firstFlawedPlace wsX3_firstFlawedPlace) := goodIn_app (goodIn_of _ (by decide +kernel)) ggX3_firstHolding_X3_firstFlawedPlace
theorem dX3_firstHolding_0 : decode cX3_firstHolding 0 = .ok (.iconst 0, 1) := by decide +kernel
theorem dX3_firstHolding_1 : decode cX3_firstHolding 1 = .ok (.istore_n 3, 1) := by decide +kernel
theorem dX3_firstHolding_2 : decode cX3_firstHolding 2 = .ok (.iload_n 3, 1) := by decide +kernel
theorem dX3_firstHolding_3 : decode cX3_firstHolding 3 = .ok (.aload_n 0, 1) := by decide +kernel
theorem dX3_firstHolding_4 : decode cX3_firstHolding 4 = .ok (.getfield 24, 3) := by decide +kernel
theorem dX3_firstHolding_7 : decode cX3_firstHolding 7 = .ok (.getfield 161, 3) := by decide +kernel
theorem dX3_firstHolding_10 : decode cX3_firstHolding 10 = .ok (.if_icmp .ge 22, 3) := by decide +kernel
theorem dX3_firstHolding_13 : decode cX3_firstHolding 13 = .ok (.aload_n 0, 1) := by decide +kernel
theorem dX3_firstHolding_14 : decode cX3_firstHolding 14 = .ok (.iload_n 3, 1) := by decide +kernel
theorem dX3_firstHolding_15 : decode cX3_firstHolding 15 = .ok (.iload_n 1, 1) := by decide +kernel
theorem dX3_firstHolding_16 : decode cX3_firstHolding 16 = .ok (.iload_n 2, 1) := by decide +kernel
theorem dX3_firstHolding_17 : decode cX3_firstHolding 17 = .ok (.invokevirtual 189, 3) := by decide +kernel
theorem dX3_firstHolding_20 : decode cX3_firstHolding 20 = .ok (.iconst (-1), 1) := by decide +kernel
theorem dX3_firstHolding_21 : decode cX3_firstHolding 21 = .ok (.if_icmp .ne 5, 3) := by decide +kernel
theorem dX3_firstHolding_24 : decode cX3_firstHolding 24 = .ok (.iload_n 3, 1) := by decide +kernel
theorem dX3_firstHolding_25 : decode cX3_firstHolding 25 = .ok (.ireturn, 1) := by decide +kernel
theorem dX3_firstHolding_26 : decode cX3_firstHolding 26 = .ok (.iinc 3 1, 3) := by decide +kernel
theorem dX3_firstHolding_29 : decode cX3_firstHolding 29 = .ok (.goto (-27), 3) := by decide +kernel
theorem dX3_firstHolding_32 : decode cX3_firstHolding 32 = .ok (.iconst (-1), 1) := by decide +kernel
theorem dX3_firstHolding_33 : decode cX3_firstHolding 33 = .ok (.ireturn, 1) := by decide +kernel
set_option maxRecDepth 100000 in
set_option maxHeartbeats 4000000 in
theorem ggX3_firstFlawedPlace_X1_lengthOf : GoodIn wsX3_firstFlawedPlace wsX1_lengthOf := goodIn_r _ [5, 6, 7, 60, 61, 62, 63, 64, 65, 66] rfl (by decide +kernel)
set_option maxRecDepth 20000 in
theorem gX3_firstFlawedPlace_X1_lengthOf_n186 : GoodIn wsX3_firstFlawedPlace (wsX1_lengthOf) := ggX3_firstFlawedPlace_X1_lengthOf
set_option maxRecDepth 100000 in
set_option maxHeartbeats 4000000 in
theorem ggX3_firstFlawedPlace_X3_flawOf : GoodIn wsX3_firstFlawedPlace wsX3_flawOf := goodIn_r _ [12, 1, 13, 14, 3, 15, 16, 6, 7, 17, 18, 19, 20, 11, 21, 22, 23, 24, 25, 26, 27, 28, 29, 30, 31, 32, 33, 34, 35, 36, 37, 38, 39, 40, 41, 42, 43, 44, 45, 46, 47, 48, 49, 50, 51, 52, 53, 54, 55, 56, 57, 58, 59, 60, 61, 62, 63, 64, 65, 66, 67, 68, 69, 70, 71, 72, 73, 74, 75, 76, 77, 78, 79, 80, 81, 82, 83, 84] rfl (by decide +kernel)
set_option maxRecDepth 20000 in
theorem gX3_firstFlawedPlace_X3_flawOf : GoodIn wsX3_firstFlawedPlace (wsV RX3 245 RX3 yX3_flawOf wsX3_flawOf) := goodIn_app (goodIn_of _ (by decide +kernel)) ggX3_firstFlawedPlace_X3_flawOf
theorem dX3_firstFlawedPlace_0 : decode cX3_firstFlawedPlace 0 = .ok (.aload_n 0, 1) := by decide +kernel
theorem dX3_firstFlawedPlace_1 : decode cX3_firstFlawedPlace 1 = .ok (.getfield 24, 3) := by decide +kernel
theorem dX3_firstFlawedPlace_4 : decode cX3_firstFlawedPlace 4 = .ok (.iload_n 1, 1) := by decide +kernel
theorem dX3_firstFlawedPlace_5 : decode cX3_firstFlawedPlace 5 = .ok (.invokevirtual 186, 3) := by decide +kernel
theorem dX3_firstFlawedPlace_8 : decode cX3_firstFlawedPlace 8 = .ok (.istore 4, 2) := by decide +kernel
theorem dX3_firstFlawedPlace_10 : decode cX3_firstFlawedPlace 10 = .ok (.iconst 0, 1) := by decide +kernel
theorem dX3_firstFlawedPlace_11 : decode cX3_firstFlawedPlace 11 = .ok (.istore 5, 2) := by decide +kernel
theorem dX3_firstFlawedPlace_13 : decode cX3_firstFlawedPlace 13 = .ok (.iload 5, 2) := by decide +kernel
theorem dX3_firstFlawedPlace_15 : decode cX3_firstFlawedPlace 15 = .ok (.iload 4, 2) := by decide +kernel
theorem dX3_firstFlawedPlace_17 : decode cX3_firstFlawedPlace 17 = .ok (.if_icmp .ge 24, 3) := by decide +kernel
theorem dX3_firstFlawedPlace_20 : decode cX3_firstFlawedPlace 20 = .ok (.aload_n 0, 1) := by decide +kernel
theorem dX3_firstFlawedPlace_21 : decode cX3_firstFlawedPlace 21 = .ok (.iload_n 1, 1) := by decide +kernel
theorem dX3_firstFlawedPlace_22 : decode cX3_firstFlawedPlace 22 = .ok (.iload 5, 2) := by decide +kernel
theorem dX3_firstFlawedPlace_24 : decode cX3_firstFlawedPlace 24 = .ok (.iload_n 2, 1) := by decide +kernel
theorem dX3_firstFlawedPlace_25 : decode cX3_firstFlawedPlace 25 = .ok (.iload_n 3, 1) := by decide +kernel
theorem dX3_firstFlawedPlace_26 : decode cX3_firstFlawedPlace 26 = .ok (.invokevirtual 245, 3) := by decide +kernel
theorem dX3_firstFlawedPlace_29 : decode cX3_firstFlawedPlace 29 = .ok (.ifCond .eq 6, 3) := by decide +kernel
theorem dX3_firstFlawedPlace_32 : decode cX3_firstFlawedPlace 32 = .ok (.iload 5, 2) := by decide +kernel
theorem dX3_firstFlawedPlace_34 : decode cX3_firstFlawedPlace 34 = .ok (.ireturn, 1) := by decide +kernel
theorem dX3_firstFlawedPlace_35 : decode cX3_firstFlawedPlace 35 = .ok (.iinc 5 1, 3) := by decide +kernel
theorem dX3_firstFlawedPlace_38 : decode cX3_firstFlawedPlace 38 = .ok (.goto (-25), 3) := by decide +kernel
theorem dX3_firstFlawedPlace_41 : decode cX3_firstFlawedPlace 41 = .ok (.iconst (-1), 1) := by decide +kernel
theorem dX3_firstFlawedPlace_42 : decode cX3_firstFlawedPlace 42 = .ok (.ireturn, 1) := by decide +kernel
set_option maxRecDepth 100000 in
set_option maxHeartbeats 4000000 in
theorem ggX3_flawOf_X1_member : GoodIn wsX3_flawOf wsX1_member := goodIn_r _ [6, 7, 8, 9, 53, 54, 55, 56, 57, 58, 59] rfl (by decide +kernel)
set_option maxRecDepth 20000 in
theorem gX3_flawOf_X1_member_n174 : GoodIn wsX3_flawOf (wsX1_member) := ggX3_flawOf_X1_member
set_option maxRecDepth 100000 in
set_option maxHeartbeats 4000000 in
theorem ggX3_flawOf_X3_isLetter : GoodIn wsX3_flawOf wsX3_isLetter := goodIn_r _ [14, 15, 46, 47, 48, 49, 50, 51, 52] rfl (by decide +kernel)
set_option maxRecDepth 20000 in
theorem gX3_flawOf_X3_isLetter : GoodIn wsX3_flawOf (wsV RX3 213 RX3 yX3_isLetter wsX3_isLetter) := goodIn_app (goodIn_of _ (by decide +kernel)) ggX3_flawOf_X3_isLetter
set_option maxRecDepth 100000 in
set_option maxHeartbeats 4000000 in
theorem ggX3_flawOf_X2_flawAlone : GoodIn wsX3_flawOf wsX2_flawAlone := goodIn_r _ [19, 20, 21, 22, 60, 61, 62, 63, 64, 65, 66, 67, 68, 69, 70, 71] rfl (by decide +kernel)
set_option maxRecDepth 20000 in
theorem gX3_flawOf_X2_flawAlone_n249 : GoodIn wsX3_flawOf (wsX2_flawAlone) := ggX3_flawOf_X2_flawAlone
set_option maxRecDepth 100000 in
set_option maxHeartbeats 4000000 in
theorem ggX3_flawOf_X3_flawAsBacker : GoodIn wsX3_flawOf wsX3_flawAsBacker := goodIn_r _ [26, 1, 2, 3, 4, 5, 6, 7, 8, 9, 10, 11, 12, 13, 14, 15, 27, 28, 29, 60, 61, 62, 63, 64, 65, 66, 67, 68, 69, 70, 71, 46, 47, 48, 49, 50, 51, 52, 53, 54, 55, 56, 57, 58, 59] rfl (by decide +kernel)
set_option maxRecDepth 20000 in
theorem gX3_flawOf_X3_flawAsBacker : GoodIn wsX3_flawOf (wsV RX3 252 RX3 yX3_flawAsBacker wsX3_flawAsBacker) := goodIn_app (goodIn_of _ (by decide +kernel)) ggX3_flawOf_X3_flawAsBacker
set_option maxRecDepth 100000 in
set_option maxHeartbeats 4000000 in
theorem ggX3_flawOf_X3_isCalledBack : GoodIn wsX3_flawOf wsX3_isCalledBack := goodIn_r _ [33, 2, 34, 35, 10, 11, 12, 13, 14, 15, 36, 37, 38, 39, 40, 41, 42, 43, 44, 45, 60, 61, 62, 63, 64, 65, 66, 67, 68, 69, 70, 71, 46, 47, 48, 49, 50, 51, 52, 72, 73, 74, 75, 76, 77] rfl (by decide +kernel)
set_option maxRecDepth 20000 in
theorem gX3_flawOf_X3_isCalledBack : GoodIn wsX3_flawOf (wsV RX3 256 RX3 yX3_isCalledBack wsX3_isCalledBack) := goodIn_app (goodIn_of _ (by decide +kernel)) ggX3_flawOf_X3_isCalledBack
theorem dX3_flawOf_0 : decode cX3_flawOf 0 = .ok (.aload_n 0, 1) := by decide +kernel
theorem dX3_flawOf_1 : decode cX3_flawOf 1 = .ok (.getfield 24, 3) := by decide +kernel
theorem dX3_flawOf_4 : decode cX3_flawOf 4 = .ok (.iload_n 1, 1) := by decide +kernel
theorem dX3_flawOf_5 : decode cX3_flawOf 5 = .ok (.iload_n 2, 1) := by decide +kernel
theorem dX3_flawOf_6 : decode cX3_flawOf 6 = .ok (.invokevirtual 174, 3) := by decide +kernel
theorem dX3_flawOf_9 : decode cX3_flawOf 9 = .ok (.istore 5, 2) := by decide +kernel
theorem dX3_flawOf_11 : decode cX3_flawOf 11 = .ok (.aload_n 0, 1) := by decide +kernel
theorem dX3_flawOf_12 : decode cX3_flawOf 12 = .ok (.iload 5, 2) := by decide +kernel
theorem dX3_flawOf_14 : decode cX3_flawOf 14 = .ok (.invokevirtual 213, 3) := by decide +kernel
theorem dX3_flawOf_17 : decode cX3_flawOf 17 = .ok (.ifCond .ne 5, 3) := by decide +kernel
theorem dX3_flawOf_20 : decode cX3_flawOf 20 = .ok (.iconst 0, 1) := by decide +kernel
theorem dX3_flawOf_21 : decode cX3_flawOf 21 = .ok (.ireturn, 1) := by decide +kernel
theorem dX3_flawOf_22 : decode cX3_flawOf 22 = .ok (.aload_n 0, 1) := by decide +kernel
theorem dX3_flawOf_23 : decode cX3_flawOf 23 = .ok (.getfield 11, 3) := by decide +kernel
theorem dX3_flawOf_26 : decode cX3_flawOf 26 = .ok (.iload 5, 2) := by decide +kernel
theorem dX3_flawOf_28 : decode cX3_flawOf 28 = .ok (.aaload, 1) := by decide +kernel
theorem dX3_flawOf_29 : decode cX3_flawOf 29 = .ok (.astore 6, 2) := by decide +kernel
theorem dX3_flawOf_31 : decode cX3_flawOf 31 = .ok (.aload 6, 2) := by decide +kernel
theorem dX3_flawOf_33 : decode cX3_flawOf 33 = .ok (.iload_n 3, 1) := by decide +kernel
theorem dX3_flawOf_34 : decode cX3_flawOf 34 = .ok (.iload 4, 2) := by decide +kernel
theorem dX3_flawOf_36 : decode cX3_flawOf 36 = .ok (.invokevirtual 249, 3) := by decide +kernel
theorem dX3_flawOf_39 : decode cX3_flawOf 39 = .ok (.istore 7, 2) := by decide +kernel
theorem dX3_flawOf_41 : decode cX3_flawOf 41 = .ok (.iload 7, 2) := by decide +kernel
theorem dX3_flawOf_43 : decode cX3_flawOf 43 = .ok (.ifCond .ne 17, 3) := by decide +kernel
theorem dX3_flawOf_46 : decode cX3_flawOf 46 = .ok (.iload_n 2, 1) := by decide +kernel
theorem dX3_flawOf_47 : decode cX3_flawOf 47 = .ok (.ifCond .le 13, 3) := by decide +kernel
theorem dX3_flawOf_50 : decode cX3_flawOf 50 = .ok (.aload_n 0, 1) := by decide +kernel
theorem dX3_flawOf_51 : decode cX3_flawOf 51 = .ok (.aload 6, 2) := by decide +kernel
theorem dX3_flawOf_53 : decode cX3_flawOf 53 = .ok (.iload_n 1, 1) := by decide +kernel
theorem dX3_flawOf_54 : decode cX3_flawOf 54 = .ok (.iload_n 2, 1) := by decide +kernel
theorem dX3_flawOf_55 : decode cX3_flawOf 55 = .ok (.invokevirtual 252, 3) := by decide +kernel
theorem dX3_flawOf_58 : decode cX3_flawOf 58 = .ok (.istore 7, 2) := by decide +kernel
theorem dX3_flawOf_60 : decode cX3_flawOf 60 = .ok (.iload 7, 2) := by decide +kernel
theorem dX3_flawOf_62 : decode cX3_flawOf 62 = .ok (.ifCond .ne 28, 3) := by decide +kernel
theorem dX3_flawOf_65 : decode cX3_flawOf 65 = .ok (.aload_n 0, 1) := by decide +kernel
theorem dX3_flawOf_66 : decode cX3_flawOf 66 = .ok (.aload 6, 2) := by decide +kernel
theorem dX3_flawOf_68 : decode cX3_flawOf 68 = .ok (.aload_n 0, 1) := by decide +kernel
theorem dX3_flawOf_69 : decode cX3_flawOf 69 = .ok (.getfield 24, 3) := by decide +kernel
theorem dX3_flawOf_72 : decode cX3_flawOf 72 = .ok (.iload_n 1, 1) := by decide +kernel
theorem dX3_flawOf_73 : decode cX3_flawOf 73 = .ok (.iload_n 2, 1) := by decide +kernel
theorem dX3_flawOf_74 : decode cX3_flawOf 74 = .ok (.iconst 1, 1) := by decide +kernel
theorem dX3_flawOf_75 : decode cX3_flawOf 75 = .ok (.iadd, 1) := by decide +kernel
theorem dX3_flawOf_76 : decode cX3_flawOf 76 = .ok (.invokevirtual 174, 3) := by decide +kernel
theorem dX3_flawOf_79 : decode cX3_flawOf 79 = .ok (.iload_n 3, 1) := by decide +kernel
theorem dX3_flawOf_80 : decode cX3_flawOf 80 = .ok (.invokevirtual 256, 3) := by decide +kernel
theorem dX3_flawOf_83 : decode cX3_flawOf 83 = .ok (.ifCond .eq 7, 3) := by decide +kernel
theorem dX3_flawOf_86 : decode cX3_flawOf 86 = .ok (.bipush 7, 2) := by decide +kernel
theorem dX3_flawOf_88 : decode cX3_flawOf 88 = .ok (.istore 7, 2) := by decide +kernel
theorem dX3_flawOf_90 : decode cX3_flawOf 90 = .ok (.iload 7, 2) := by decide +kernel
theorem dX3_flawOf_92 : decode cX3_flawOf 92 = .ok (.ireturn, 1) := by decide +kernel
set_option maxRecDepth 100000 in
set_option maxHeartbeats 4000000 in
theorem ggX3_flawAsBacker_X1_member : GoodIn wsX3_flawAsBacker wsX1_member := goodIn_r _ [6, 7, 8, 9, 38, 39, 40, 41, 42, 43, 44] rfl (by decide +kernel)
set_option maxRecDepth 20000 in
theorem gX3_flawAsBacker_X1_member_n174 : GoodIn wsX3_flawAsBacker (wsX1_member) := ggX3_flawAsBacker_X1_member
set_option maxRecDepth 100000 in
set_option maxHeartbeats 4000000 in
theorem ggX3_flawAsBacker_X3_isLetter : GoodIn wsX3_flawAsBacker wsX3_isLetter := goodIn_r _ [14, 15, 31, 32, 33, 34, 35, 36, 37] rfl (by decide +kernel)
set_option maxRecDepth 20000 in
theorem gX3_flawAsBacker_X3_isLetter : GoodIn wsX3_flawAsBacker (wsV RX3 213 RX3 yX3_isLetter wsX3_isLetter) := goodIn_app (goodIn_of _ (by decide +kernel)) ggX3_flawAsBacker_X3_isLetter
set_option maxRecDepth 100000 in
set_option maxHeartbeats 4000000 in
theorem ggX3_flawAsBacker_X3_isBelow : GoodIn wsX3_flawAsBacker wsX3_isBelow := goodIn_r _ [18] rfl (by decide +kernel)
set_option maxRecDepth 20000 in
theorem gX3_flawAsBacker_X3_isBelow : GoodIn wsX3_flawAsBacker (va_wsS RX3 151 yX3_isBelow wsX3_isBelow) := goodIn_app (goodIn_of _ (by decide +kernel)) ggX3_flawAsBacker_X3_isBelow
theorem dX3_flawAsBacker_0 : decode cX3_flawAsBacker 0 = .ok (.aload_n 1, 1) := by decide +kernel
theorem dX3_flawAsBacker_1 : decode cX3_flawAsBacker 1 = .ok (.getfield 84, 3) := by decide +kernel
theorem dX3_flawAsBacker_4 : decode cX3_flawAsBacker 4 = .ok (.ifCond .ne 5, 3) := by decide +kernel
theorem dX3_flawAsBacker_7 : decode cX3_flawAsBacker 7 = .ok (.iconst 4, 1) := by decide +kernel
theorem dX3_flawAsBacker_8 : decode cX3_flawAsBacker 8 = .ok (.ireturn, 1) := by decide +kernel
theorem dX3_flawAsBacker_9 : decode cX3_flawAsBacker 9 = .ok (.aload_n 1, 1) := by decide +kernel
theorem dX3_flawAsBacker_10 : decode cX3_flawAsBacker 10 = .ok (.getfield 88, 3) := by decide +kernel
theorem dX3_flawAsBacker_13 : decode cX3_flawAsBacker 13 = .ok (.iload_n 3, 1) := by decide +kernel
theorem dX3_flawAsBacker_14 : decode cX3_flawAsBacker 14 = .ok (.iconst 1, 1) := by decide +kernel
theorem dX3_flawAsBacker_15 : decode cX3_flawAsBacker 15 = .ok (.isub, 1) := by decide +kernel
theorem dX3_flawAsBacker_16 : decode cX3_flawAsBacker 16 = .ok (.if_icmp .ge 5, 3) := by decide +kernel
theorem dX3_flawAsBacker_19 : decode cX3_flawAsBacker 19 = .ok (.iconst 5, 1) := by decide +kernel
theorem dX3_flawAsBacker_20 : decode cX3_flawAsBacker 20 = .ok (.ireturn, 1) := by decide +kernel
theorem dX3_flawAsBacker_21 : decode cX3_flawAsBacker 21 = .ok (.iconst 0, 1) := by decide +kernel
theorem dX3_flawAsBacker_22 : decode cX3_flawAsBacker 22 = .ok (.istore 4, 2) := by decide +kernel
theorem dX3_flawAsBacker_24 : decode cX3_flawAsBacker 24 = .ok (.iload 4, 2) := by decide +kernel
theorem dX3_flawAsBacker_26 : decode cX3_flawAsBacker 26 = .ok (.iload_n 3, 1) := by decide +kernel
theorem dX3_flawAsBacker_27 : decode cX3_flawAsBacker 27 = .ok (.if_icmp .ge 53, 3) := by decide +kernel
theorem dX3_flawAsBacker_30 : decode cX3_flawAsBacker 30 = .ok (.aload_n 0, 1) := by decide +kernel
theorem dX3_flawAsBacker_31 : decode cX3_flawAsBacker 31 = .ok (.getfield 24, 3) := by decide +kernel
theorem dX3_flawAsBacker_34 : decode cX3_flawAsBacker 34 = .ok (.iload_n 2, 1) := by decide +kernel
theorem dX3_flawAsBacker_35 : decode cX3_flawAsBacker 35 = .ok (.iload 4, 2) := by decide +kernel
theorem dX3_flawAsBacker_37 : decode cX3_flawAsBacker 37 = .ok (.invokevirtual 174, 3) := by decide +kernel
theorem dX3_flawAsBacker_40 : decode cX3_flawAsBacker 40 = .ok (.istore 5, 2) := by decide +kernel
theorem dX3_flawAsBacker_42 : decode cX3_flawAsBacker 42 = .ok (.aload_n 0, 1) := by decide +kernel
theorem dX3_flawAsBacker_43 : decode cX3_flawAsBacker 43 = .ok (.iload 5, 2) := by decide +kernel
theorem dX3_flawAsBacker_45 : decode cX3_flawAsBacker 45 = .ok (.invokevirtual 213, 3) := by decide +kernel
theorem dX3_flawAsBacker_48 : decode cX3_flawAsBacker 48 = .ok (.ifCond .eq 26, 3) := by decide +kernel
theorem dX3_flawAsBacker_51 : decode cX3_flawAsBacker 51 = .ok (.aload_n 0, 1) := by decide +kernel
theorem dX3_flawAsBacker_52 : decode cX3_flawAsBacker 52 = .ok (.getfield 11, 3) := by decide +kernel
theorem dX3_flawAsBacker_55 : decode cX3_flawAsBacker 55 = .ok (.iload 5, 2) := by decide +kernel
theorem dX3_flawAsBacker_57 : decode cX3_flawAsBacker 57 = .ok (.aaload, 1) := by decide +kernel
theorem dX3_flawAsBacker_58 : decode cX3_flawAsBacker 58 = .ok (.getfield 180, 3) := by decide +kernel
theorem dX3_flawAsBacker_61 : decode cX3_flawAsBacker 61 = .ok (.aload_n 1, 1) := by decide +kernel
theorem dX3_flawAsBacker_62 : decode cX3_flawAsBacker 62 = .ok (.getfield 97, 3) := by decide +kernel
theorem dX3_flawAsBacker_65 : decode cX3_flawAsBacker 65 = .ok (.invokestatic 151, 3) := by decide +kernel
theorem dX3_flawAsBacker_68 : decode cX3_flawAsBacker 68 = .ok (.ifCond .ne 6, 3) := by decide +kernel
theorem dX3_flawAsBacker_71 : decode cX3_flawAsBacker 71 = .ok (.bipush 6, 2) := by decide +kernel
theorem dX3_flawAsBacker_73 : decode cX3_flawAsBacker 73 = .ok (.ireturn, 1) := by decide +kernel
theorem dX3_flawAsBacker_74 : decode cX3_flawAsBacker 74 = .ok (.iinc 4 1, 3) := by decide +kernel
theorem dX3_flawAsBacker_77 : decode cX3_flawAsBacker 77 = .ok (.goto (-53), 3) := by decide +kernel
theorem dX3_flawAsBacker_80 : decode cX3_flawAsBacker 80 = .ok (.iconst 0, 1) := by decide +kernel
theorem dX3_flawAsBacker_81 : decode cX3_flawAsBacker 81 = .ok (.ireturn, 1) := by decide +kernel
set_option maxRecDepth 100000 in
set_option maxHeartbeats 4000000 in
theorem ggX3_isCalledBack_X3_isLetter : GoodIn wsX3_isCalledBack wsX3_isLetter := goodIn_r _ [8, 9, 32, 33, 34, 35, 36, 37, 38] rfl (by decide +kernel)
set_option maxRecDepth 20000 in
theorem gX3_isCalledBack_X3_isLetter : GoodIn wsX3_isCalledBack (wsV RX3 213 RX3 yX3_isLetter wsX3_isLetter) := goodIn_app (goodIn_of _ (by decide +kernel)) ggX3_isCalledBack_X3_isLetter
set_option maxRecDepth 100000 in
set_option maxHeartbeats 4000000 in
theorem ggX3_isCalledBack_X3_latestList : GoodIn wsX3_isCalledBack wsX3_latestList := goodIn_r _ [13, 14, 3, 32, 33, 34, 35, 36, 37, 38, 39, 40, 41, 42, 43, 44] rfl (by decide +kernel)
set_option maxRecDepth 20000 in
theorem gX3_isCalledBack_X3_latestList : GoodIn wsX3_isCalledBack (wsV RX3 260 RX3 yX3_latestList wsX3_latestList) := goodIn_app (goodIn_of _ (by decide +kernel)) ggX3_isCalledBack_X3_latestList
set_option maxRecDepth 100000 in
set_option maxHeartbeats 4000000 in
theorem ggX3_isCalledBack_X0_hasSerial : GoodIn wsX3_isCalledBack wsX0_hasSerial := goodIn_r _ [18, 19, 39, 40, 41, 42, 43, 44] rfl (by decide +kernel)
set_option maxRecDepth 20000 in
theorem gX3_isCalledBack_X0_hasSerial_n266 : GoodIn wsX3_isCalledBack (wsX0_hasSerial) := ggX3_isCalledBack_X0_hasSerial
theorem dX3_isCalledBack_0 : decode cX3_isCalledBack 0 = .ok (.aload_n 1, 1) := by decide +kernel
theorem dX3_isCalledBack_1 : decode cX3_isCalledBack 1 = .ok (.getfield 107, 3) := by decide +kernel
theorem dX3_isCalledBack_4 : decode cX3_isCalledBack 4 = .ok (.ifCond .ne 11, 3) := by decide +kernel
theorem dX3_isCalledBack_7 : decode cX3_isCalledBack 7 = .ok (.aload_n 0, 1) := by decide +kernel
theorem dX3_isCalledBack_8 : decode cX3_isCalledBack 8 = .ok (.iload_n 2, 1) := by decide +kernel
theorem dX3_isCalledBack_9 : decode cX3_isCalledBack 9 = .ok (.invokevirtual 213, 3) := by decide +kernel
theorem dX3_isCalledBack_12 : decode cX3_isCalledBack 12 = .ok (.ifCond .ne 5, 3) := by decide +kernel
theorem dX3_isCalledBack_15 : decode cX3_isCalledBack 15 = .ok (.iconst 0, 1) := by decide +kernel
theorem dX3_isCalledBack_16 : decode cX3_isCalledBack 16 = .ok (.ireturn, 1) := by decide +kernel
theorem dX3_isCalledBack_17 : decode cX3_isCalledBack 17 = .ok (.aload_n 0, 1) := by decide +kernel
theorem dX3_isCalledBack_18 : decode cX3_isCalledBack 18 = .ok (.aload_n 1, 1) := by decide +kernel
theorem dX3_isCalledBack_19 : decode cX3_isCalledBack 19 = .ok (.getfield 223, 3) := by decide +kernel
theorem dX3_isCalledBack_22 : decode cX3_isCalledBack 22 = .ok (.aload_n 0, 1) := by decide +kernel
theorem dX3_isCalledBack_23 : decode cX3_isCalledBack 23 = .ok (.getfield 11, 3) := by decide +kernel
theorem dX3_isCalledBack_26 : decode cX3_isCalledBack 26 = .ok (.iload_n 2, 1) := by decide +kernel
theorem dX3_isCalledBack_27 : decode cX3_isCalledBack 27 = .ok (.aaload, 1) := by decide +kernel
theorem dX3_isCalledBack_28 : decode cX3_isCalledBack 28 = .ok (.getfield 183, 3) := by decide +kernel
theorem dX3_isCalledBack_31 : decode cX3_isCalledBack 31 = .ok (.iload_n 3, 1) := by decide +kernel
theorem dX3_isCalledBack_32 : decode cX3_isCalledBack 32 = .ok (.invokevirtual 260, 3) := by decide +kernel
theorem dX3_isCalledBack_35 : decode cX3_isCalledBack 35 = .ok (.istore 4, 2) := by decide +kernel
theorem dX3_isCalledBack_37 : decode cX3_isCalledBack 37 = .ok (.iload 4, 2) := by decide +kernel
theorem dX3_isCalledBack_39 : decode cX3_isCalledBack 39 = .ok (.iconst (-1), 1) := by decide +kernel
theorem dX3_isCalledBack_40 : decode cX3_isCalledBack 40 = .ok (.if_icmp .ne 8, 3) := by decide +kernel
theorem dX3_isCalledBack_43 : decode cX3_isCalledBack 43 = .ok (.aload_n 0, 1) := by decide +kernel
theorem dX3_isCalledBack_44 : decode cX3_isCalledBack 44 = .ok (.getfield 135, 3) := by decide +kernel
theorem dX3_isCalledBack_47 : decode cX3_isCalledBack 47 = .ok (.ireturn, 1) := by decide +kernel
theorem dX3_isCalledBack_48 : decode cX3_isCalledBack 48 = .ok (.aload_n 0, 1) := by decide +kernel
theorem dX3_isCalledBack_49 : decode cX3_isCalledBack 49 = .ok (.getfield 17, 3) := by decide +kernel
theorem dX3_isCalledBack_52 : decode cX3_isCalledBack 52 = .ok (.iload 4, 2) := by decide +kernel
theorem dX3_isCalledBack_54 : decode cX3_isCalledBack 54 = .ok (.aaload, 1) := by decide +kernel
theorem dX3_isCalledBack_55 : decode cX3_isCalledBack 55 = .ok (.astore 5, 2) := by decide +kernel
theorem dX3_isCalledBack_57 : decode cX3_isCalledBack 57 = .ok (.aload 5, 2) := by decide +kernel
theorem dX3_isCalledBack_59 : decode cX3_isCalledBack 59 = .ok (.aload_n 1, 1) := by decide +kernel
theorem dX3_isCalledBack_60 : decode cX3_isCalledBack 60 = .ok (.getfield 263, 3) := by decide +kernel
theorem dX3_isCalledBack_63 : decode cX3_isCalledBack 63 = .ok (.invokevirtual 266, 3) := by decide +kernel
theorem dX3_isCalledBack_66 : decode cX3_isCalledBack 66 = .ok (.ifCond .ne 19, 3) := by decide +kernel
theorem dX3_isCalledBack_69 : decode cX3_isCalledBack 69 = .ok (.aload_n 0, 1) := by decide +kernel
theorem dX3_isCalledBack_70 : decode cX3_isCalledBack 70 = .ok (.getfield 135, 3) := by decide +kernel
theorem dX3_isCalledBack_73 : decode cX3_isCalledBack 73 = .ok (.ifCond .eq 16, 3) := by decide +kernel
theorem dX3_isCalledBack_76 : decode cX3_isCalledBack 76 = .ok (.iload_n 3, 1) := by decide +kernel
theorem dX3_isCalledBack_77 : decode cX3_isCalledBack 77 = .ok (.aload 5, 2) := by decide +kernel
theorem dX3_isCalledBack_79 : decode cX3_isCalledBack 79 = .ok (.getfield 269, 3) := by decide +kernel
theorem dX3_isCalledBack_82 : decode cX3_isCalledBack 82 = .ok (.if_icmp .le 7, 3) := by decide +kernel
theorem dX3_isCalledBack_85 : decode cX3_isCalledBack 85 = .ok (.iconst 1, 1) := by decide +kernel
theorem dX3_isCalledBack_86 : decode cX3_isCalledBack 86 = .ok (.goto 4, 3) := by decide +kernel
theorem dX3_isCalledBack_89 : decode cX3_isCalledBack 89 = .ok (.iconst 0, 1) := by decide +kernel
theorem dX3_isCalledBack_90 : decode cX3_isCalledBack 90 = .ok (.ireturn, 1) := by decide +kernel
theorem dX3_latestList_0 : decode cX3_latestList 0 = .ok (.iconst (-1), 1) := by decide +kernel
theorem dX3_latestList_1 : decode cX3_latestList 1 = .ok (.istore 4, 2) := by decide +kernel
theorem dX3_latestList_3 : decode cX3_latestList 3 = .ok (.iconst (-1), 1) := by decide +kernel
theorem dX3_latestList_4 : decode cX3_latestList 4 = .ok (.istore 5, 2) := by decide +kernel
theorem dX3_latestList_6 : decode cX3_latestList 6 = .ok (.iconst 0, 1) := by decide +kernel
theorem dX3_latestList_7 : decode cX3_latestList 7 = .ok (.istore 6, 2) := by decide +kernel
theorem dX3_latestList_9 : decode cX3_latestList 9 = .ok (.iload 6, 2) := by decide +kernel
theorem dX3_latestList_11 : decode cX3_latestList 11 = .ok (.aload_n 0, 1) := by decide +kernel
theorem dX3_latestList_12 : decode cX3_latestList 12 = .ok (.getfield 119, 3) := by decide +kernel
theorem dX3_latestList_15 : decode cX3_latestList 15 = .ok (.if_icmp .ge 81, 3) := by decide +kernel
theorem dX3_latestList_18 : decode cX3_latestList 18 = .ok (.aload_n 0, 1) := by decide +kernel
theorem dX3_latestList_19 : decode cX3_latestList 19 = .ok (.getfield 17, 3) := by decide +kernel
theorem dX3_latestList_22 : decode cX3_latestList 22 = .ok (.iload 6, 2) := by decide +kernel
theorem dX3_latestList_24 : decode cX3_latestList 24 = .ok (.aaload, 1) := by decide +kernel
theorem dX3_latestList_25 : decode cX3_latestList 25 = .ok (.astore 7, 2) := by decide +kernel
theorem dX3_latestList_27 : decode cX3_latestList 27 = .ok (.aload 7, 2) := by decide +kernel
theorem dX3_latestList_29 : decode cX3_latestList 29 = .ok (.getfield 272, 3) := by decide +kernel
theorem dX3_latestList_32 : decode cX3_latestList 32 = .ok (.iload_n 1, 1) := by decide +kernel
theorem dX3_latestList_33 : decode cX3_latestList 33 = .ok (.if_icmp .ne 19, 3) := by decide +kernel
theorem dX3_latestList_36 : decode cX3_latestList 36 = .ok (.aload 7, 2) := by decide +kernel
theorem dX3_latestList_38 : decode cX3_latestList 38 = .ok (.getfield 273, 3) := by decide +kernel
theorem dX3_latestList_41 : decode cX3_latestList 41 = .ok (.iload_n 2, 1) := by decide +kernel
theorem dX3_latestList_42 : decode cX3_latestList 42 = .ok (.ishr, 1) := by decide +kernel
theorem dX3_latestList_43 : decode cX3_latestList 43 = .ok (.iconst 1, 1) := by decide +kernel
theorem dX3_latestList_44 : decode cX3_latestList 44 = .ok (.iand, 1) := by decide +kernel
theorem dX3_latestList_45 : decode cX3_latestList 45 = .ok (.ifCond .eq 7, 3) := by decide +kernel
theorem dX3_latestList_48 : decode cX3_latestList 48 = .ok (.iconst 1, 1) := by decide +kernel
theorem dX3_latestList_49 : decode cX3_latestList 49 = .ok (.goto 4, 3) := by decide +kernel
theorem dX3_latestList_52 : decode cX3_latestList 52 = .ok (.iconst 0, 1) := by decide +kernel
theorem dX3_latestList_53 : decode cX3_latestList 53 = .ok (.istore 8, 2) := by decide +kernel
theorem dX3_latestList_55 : decode cX3_latestList 55 = .ok (.iload 8, 2) := by decide +kernel
theorem dX3_latestList_57 : decode cX3_latestList 57 = .ok (.ifCond .eq 33, 3) := by decide +kernel
theorem dX3_latestList_60 : decode cX3_latestList 60 = .ok (.aload 7, 2) := by decide +kernel
theorem dX3_latestList_62 : decode cX3_latestList 62 = .ok (.getfield 276, 3) := by decide +kernel
theorem dX3_latestList_65 : decode cX3_latestList 65 = .ok (.iload_n 3, 1) := by decide +kernel
theorem dX3_latestList_66 : decode cX3_latestList 66 = .ok (.if_icmp .gt 24, 3) := by decide +kernel
theorem dX3_latestList_69 : decode cX3_latestList 69 = .ok (.aload 7, 2) := by decide +kernel
theorem dX3_latestList_71 : decode cX3_latestList 71 = .ok (.getfield 276, 3) := by decide +kernel
theorem dX3_latestList_74 : decode cX3_latestList 74 = .ok (.iload 5, 2) := by decide +kernel
theorem dX3_latestList_76 : decode cX3_latestList 76 = .ok (.if_icmp .lt 14, 3) := by decide +kernel
theorem dX3_latestList_79 : decode cX3_latestList 79 = .ok (.iload 6, 2) := by decide +kernel
theorem dX3_latestList_81 : decode cX3_latestList 81 = .ok (.istore 4, 2) := by decide +kernel
theorem dX3_latestList_83 : decode cX3_latestList 83 = .ok (.aload 7, 2) := by decide +kernel
theorem dX3_latestList_85 : decode cX3_latestList 85 = .ok (.getfield 276, 3) := by decide +kernel
theorem dX3_latestList_88 : decode cX3_latestList 88 = .ok (.istore 5, 2) := by decide +kernel
theorem dX3_latestList_90 : decode cX3_latestList 90 = .ok (.iinc 6 1, 3) := by decide +kernel
theorem dX3_latestList_93 : decode cX3_latestList 93 = .ok (.goto (-84), 3) := by decide +kernel
theorem dX3_latestList_96 : decode cX3_latestList 96 = .ok (.iload 4, 2) := by decide +kernel
theorem dX3_latestList_98 : decode cX3_latestList 98 = .ok (.ireturn, 1) := by decide +kernel
set_option maxRecDepth 100000 in
set_option maxHeartbeats 4000000 in
theorem ggX3_hasKey_X1_lengthOf : GoodIn wsX3_hasKey wsX1_lengthOf := goodIn_r _ [6, 7, 8, 38, 39, 40, 41, 42, 43, 44] rfl (by decide +kernel)
set_option maxRecDepth 20000 in
theorem gX3_hasKey_X1_lengthOf_n186 : GoodIn wsX3_hasKey (wsX1_lengthOf) := ggX3_hasKey_X1_lengthOf
set_option maxRecDepth 100000 in
set_option maxHeartbeats 4000000 in
theorem ggX3_hasKey_X1_member : GoodIn wsX3_hasKey wsX1_member := goodIn_r _ [11, 7, 8, 12, 38, 39, 40, 41, 42, 43, 44] rfl (by decide +kernel)
set_option maxRecDepth 20000 in
theorem gX3_hasKey_X1_member_n174 : GoodIn wsX3_hasKey (wsX1_member) := ggX3_hasKey_X1_member
set_option maxRecDepth 100000 in
set_option maxHeartbeats 4000000 in
theorem ggX3_hasKey_X3_isLetter : GoodIn wsX3_hasKey wsX3_isLetter := goodIn_r _ [17, 18, 19, 20, 21, 22, 23, 24, 25] rfl (by decide +kernel)
set_option maxRecDepth 20000 in
theorem gX3_hasKey_X3_isLetter : GoodIn wsX3_hasKey (wsV RX3 213 RX3 yX3_isLetter wsX3_isLetter) := goodIn_app (goodIn_of _ (by decide +kernel)) ggX3_hasKey_X3_isLetter
theorem dX3_hasKey_0 : decode cX3_hasKey 0 = .ok (.aload_n 0, 1) := by decide +kernel
theorem dX3_hasKey_1 : decode cX3_hasKey 1 = .ok (.getfield 24, 3) := by decide +kernel
theorem dX3_hasKey_4 : decode cX3_hasKey 4 = .ok (.iload_n 1, 1) := by decide +kernel
theorem dX3_hasKey_5 : decode cX3_hasKey 5 = .ok (.invokevirtual 186, 3) := by decide +kernel
theorem dX3_hasKey_8 : decode cX3_hasKey 8 = .ok (.istore_n 3, 1) := by decide +kernel
theorem dX3_hasKey_9 : decode cX3_hasKey 9 = .ok (.iconst 0, 1) := by decide +kernel
theorem dX3_hasKey_10 : decode cX3_hasKey 10 = .ok (.istore 4, 2) := by decide +kernel
theorem dX3_hasKey_12 : decode cX3_hasKey 12 = .ok (.iload 4, 2) := by decide +kernel
theorem dX3_hasKey_14 : decode cX3_hasKey 14 = .ok (.iload_n 3, 1) := by decide +kernel
theorem dX3_hasKey_15 : decode cX3_hasKey 15 = .ok (.if_icmp .ge 46, 3) := by decide +kernel
theorem dX3_hasKey_18 : decode cX3_hasKey 18 = .ok (.aload_n 0, 1) := by decide +kernel
theorem dX3_hasKey_19 : decode cX3_hasKey 19 = .ok (.getfield 24, 3) := by decide +kernel
theorem dX3_hasKey_22 : decode cX3_hasKey 22 = .ok (.iload_n 1, 1) := by decide +kernel
theorem dX3_hasKey_23 : decode cX3_hasKey 23 = .ok (.iload 4, 2) := by decide +kernel
theorem dX3_hasKey_25 : decode cX3_hasKey 25 = .ok (.invokevirtual 174, 3) := by decide +kernel
theorem dX3_hasKey_28 : decode cX3_hasKey 28 = .ok (.istore 5, 2) := by decide +kernel
theorem dX3_hasKey_30 : decode cX3_hasKey 30 = .ok (.aload_n 0, 1) := by decide +kernel
theorem dX3_hasKey_31 : decode cX3_hasKey 31 = .ok (.iload 5, 2) := by decide +kernel
theorem dX3_hasKey_33 : decode cX3_hasKey 33 = .ok (.invokevirtual 213, 3) := by decide +kernel
theorem dX3_hasKey_36 : decode cX3_hasKey 36 = .ok (.ifCond .eq 19, 3) := by decide +kernel
theorem dX3_hasKey_39 : decode cX3_hasKey 39 = .ok (.aload_n 0, 1) := by decide +kernel
theorem dX3_hasKey_40 : decode cX3_hasKey 40 = .ok (.getfield 11, 3) := by decide +kernel
theorem dX3_hasKey_43 : decode cX3_hasKey 43 = .ok (.iload 5, 2) := by decide +kernel
theorem dX3_hasKey_45 : decode cX3_hasKey 45 = .ok (.aaload, 1) := by decide +kernel
theorem dX3_hasKey_46 : decode cX3_hasKey 46 = .ok (.getfield 183, 3) := by decide +kernel
theorem dX3_hasKey_49 : decode cX3_hasKey 49 = .ok (.iload_n 2, 1) := by decide +kernel
theorem dX3_hasKey_50 : decode cX3_hasKey 50 = .ok (.if_icmp .ne 5, 3) := by decide +kernel
theorem dX3_hasKey_53 : decode cX3_hasKey 53 = .ok (.iconst 1, 1) := by decide +kernel
theorem dX3_hasKey_54 : decode cX3_hasKey 54 = .ok (.ireturn, 1) := by decide +kernel
theorem dX3_hasKey_55 : decode cX3_hasKey 55 = .ok (.iinc 4 1, 3) := by decide +kernel
theorem dX3_hasKey_58 : decode cX3_hasKey 58 = .ok (.goto (-46), 3) := by decide +kernel
theorem dX3_hasKey_61 : decode cX3_hasKey 61 = .ok (.iconst 0, 1) := by decide +kernel
theorem dX3_hasKey_62 : decode cX3_hasKey 62 = .ok (.ireturn, 1) := by decide +kernel
theorem dX3_turnAnchor_0 : decode cX3_turnAnchor 0 = .ok (.aload_n 0, 1) := by decide +kernel
theorem dX3_turnAnchor_1 : decode cX3_turnAnchor 1 = .ok (.aload_n 0, 1) := by decide +kernel
theorem dX3_turnAnchor_2 : decode cX3_turnAnchor 2 = .ok (.getfield 107, 3) := by decide +kernel
theorem dX3_turnAnchor_5 : decode cX3_turnAnchor 5 = .ok (.ifCond .ne 7, 3) := by decide +kernel
theorem dX3_turnAnchor_8 : decode cX3_turnAnchor 8 = .ok (.iconst 1, 1) := by decide +kernel
theorem dX3_turnAnchor_9 : decode cX3_turnAnchor 9 = .ok (.goto 4, 3) := by decide +kernel
theorem dX3_turnAnchor_12 : decode cX3_turnAnchor 12 = .ok (.iconst 0, 1) := by decide +kernel
theorem dX3_turnAnchor_13 : decode cX3_turnAnchor 13 = .ok (.putfield 107, 3) := by decide +kernel
theorem dX3_turnAnchor_16 : decode cX3_turnAnchor 16 = .ok (.return_, 1) := by decide +kernel
def nfX : List (String × Nat × String × String × String) := [("SignetRoom", 70, "SignetRoom$Letter", "from", "I"), ("SignetRoom", 73, "SignetRoom$Letter", "to", "I"), ("SignetRoom", 84, "SignetRoom$Letter", "isMaster", "Z"), ("SignetRoom", 88, "SignetRoom$Letter", "reach", "I"), ("SignetRoom", 94, "SignetRoom$Letter", "uses", "I"), ("SignetRoom", 97, "SignetRoom$Letter", "bound", "I"), ("SignetRoom", 104, "SignetRoom$Letter", "seal", "I"), ("SignetRoom", 107, "SignetRoom$Letter", "isAnchor", "Z"), ("SignetRoom", 130, "SignetRoom$CallList", "serials", "I"), ("SignetRoom", 134, "SignetRoom$CallList", "seal", "I"), ("SignetRoom", 161, "SignetRoom$ChainBook", "chainCount", "I"), ("SignetRoom", 180, "SignetRoom$Letter", "subject", "I"), ("SignetRoom", 183, "SignetRoom$Letter", "key", "I"), ("SignetRoom", 223, "SignetRoom$Letter", "issuer", "I"), ("SignetRoom", 232, "SignetRoom$ChainBook", "backers", "[I"), ("SignetRoom", 263, "SignetRoom$Letter", "serial", "I"), ("SignetRoom", 269, "SignetRoom$CallList", "next", "I"), ("SignetRoom", 272, "SignetRoom$CallList", "issuer", "I"), ("SignetRoom", 273, "SignetRoom$CallList", "signers", "I"), ("SignetRoom", 276, "SignetRoom$CallList", "at", "I")]
def nmX : List (String × Nat × MethodName) := [("SignetRoom", 23, ⟨"SignetRoom$ChainBook", "<init>", "()V"⟩), ("SignetRoom", 32, ⟨"SignetRoom$Letter", "<init>", "()V"⟩), ("SignetRoom", 33, ⟨"SignetRoom$CallList", "<init>", "()V"⟩), ("SignetRoom", 59, ⟨"SignetRoom$Letter", "write", "(IIII)V"⟩), ("SignetRoom", 76, ⟨"SignetRoom$Letter", "print", "()I"⟩), ("SignetRoom", 124, ⟨"SignetRoom$CallList", "write", "(III)V"⟩), ("SignetRoom", 133, ⟨"SignetRoom$CallList", "print", "()I"⟩), ("SignetRoom", 144, ⟨"SignetRoom$Letter", "property", "(I)I"⟩), ("SignetRoom", 147, ⟨"SignetRoom$CallList", "property", "(I)I"⟩), ("SignetRoom", 158, ⟨"SignetRoom$ChainBook", "findChainsOf", "(I)V"⟩), ("SignetRoom", 174, ⟨"SignetRoom$ChainBook", "member", "(II)I"⟩), ("SignetRoom", 186, ⟨"SignetRoom$ChainBook", "lengthOf", "(I)I"⟩), ("SignetRoom", 226, ⟨"SignetRoom$Letter", "isSealedBy", "(I)Z"⟩), ("SignetRoom", 239, ⟨"SignetRoom$ChainBook", "markWays", "(II)V"⟩), ("SignetRoom", 242, ⟨"SignetRoom$CallList", "markSigners", "()V"⟩), ("SignetRoom", 249, ⟨"SignetRoom$Letter", "flawAlone", "(II)I"⟩), ("SignetRoom", 266, ⟨"SignetRoom$CallList", "hasSerial", "(I)Z"⟩), ("SignetRoom$CallList", 21, ⟨"SignetRoom", "mix", "(II)I"⟩), ("SignetRoom$CallList", 35, ⟨"SignetRoom", "sealFor", "(II)I"⟩), ("SignetRoom$Letter", 30, ⟨"SignetRoom", "mix", "(II)I"⟩), ("SignetRoom$Letter", 54, ⟨"SignetRoom", "sealFor", "(II)I"⟩)]
