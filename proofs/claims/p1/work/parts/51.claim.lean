/-! THE CLAIM OUT OF ONE WALK OF THE LAW'S BODY. Your part is whole_start (and what it stands on); all else here is the same for every law, but numbers. -/
def R_law : String := "SignetRoomLaw"
def lw_P (b : Addr) (xs : List Int32) (args : Array Value) (s : State) : Prop := args = #[.ref b] ∧ s.IntsAt b xs ∧ xs.length ≤ 5 ∧ (Jvm.Cond.and given_1 narrow_1).before args s = true
/-- what a walk over the start with the record d0 says of its end, said of the start itself -/
theorem lw_closed {s t : State} {o : Outcome} {d0 : Drawn} {L : List Loc} {k n : Nat} (hd0 : s.drawn.sameBut d0 lw_cs) (hv : ∃ v, o = .returned v) (hW : (s.setDrawn d0).WarmedH t.vm) (hs : (s.setDrawn d0).sameButNew ({ t with vm := s.vm } : State) L k n) : State.butDraws s t lw_cs (fun t1 => Framed s o t1 L k n) := by
  have h2 : t.drawn = d0 := congrArg State.drawn hs.1
  refine ⟨⟨hv, hW, State.sameButNew.setDrawn hs s.drawn⟩, ?_, by decide⟩
  rw [h2]
  exact hd0
def lw_Q (_ : Array Value) (s : State) (o : Outcome) (t : State) : Prop := o = .returned (some (.int 1)) ∧ State.butDraws s t lw_cs (fun t1 => Framed s o t1 [] 600002 7302231)
def lw_Z (below : List Frame) (a : Array Value) (s : State) : State → Prop := fun t => ∃ o, t.status = .running ∧ Ended t below o ∧ lw_Q a s o t
/-- the law's own end, with 1 on the stack, nothing written that was there before, its room as the claim has it; d0: the record of draws at this point (at the entry s.drawn: begin with 'refine W.base ?_' and 'have hd0 := Drawn.sameBut.refl s.drawn lw_cs') -/
theorem lw_ret {p : Program} {l : Launch} {e : Env} {s : State} {m : MethodId} {below : List Frame} {meth : Method} {c : Code} {b : Nat} {d0 : Drawn} (hd0 : s.drawn.sameBut d0 lw_cs) (hx : p.tables.exec = Jvm.exec) (hb : c.code = code) (hr : meth.sig.returnType = ret) (hlocks : meth.locks = false) {pc : Nat} {H : Heap} {ls : Array Slot} (hdg : decode code pc = .ok (.ireturn, 1)) : W p l e room_1 (s.setDrawn d0) m #[Value.ref b] below meth c H [] 600002 7302231 (lw_Z below #[Value.ref b] s) (F0 m pc ls [.int 1]) := by
  intro T hT X
  obtain ⟨fs, hret, hrun, hended, hW, hframe⟩ := X.leave (v := some (.int 1)) (hlocks := hlocks) (fun h => by rw [hr] at h; cases h)
  have hmeth' : T.vm.method? m = some meth := X.method'
  refine ⟨T.setFrames fs, ?_, .returned (some (.int 1)), hrun, hended, rfl, lw_closed hd0 ⟨_, rfl⟩ hW hframe⟩
  jvm_step X.here [X.here.top, hx, hb, hdg, hmeth', hr, ret, narrow_b1]
  (try refine ⟨rfl, ?_⟩); (try refine ⟨rfl, ?_⟩)
  first | (intro acts; rw [hret _ acts rfl rfl rfl]) | rw [hret _ _ rfl rfl rfl]
  exact Steps.refl _
/-- what holds at the law's entry: the machine, the code, the tables' words (any of lw_tbl by 'hts w (by decide +kernel)'), the script of L ints xs at the cell b, what the Statement gives of the start (any of its parts by flat_of_before) -/
def lw_At (p : Program) (s : State) (m : MethodId) (meth : Method) (c : Code) (b L : Nat) (xs : Nat → Int32) : Prop :=
  p.tables.exec = Jvm.exec ∧ c.code = code ∧ meth.sig.returnType = ret ∧ c.maxLocals = 9 ∧ s.vm.findClass R_law = some m.cls ∧ (∀ w ∈ lw_tbl, w.before #[Value.ref b] s = true) ∧ va_X b L xs s s.heap ∧ b < s.heap.size ∧ meth.locks = false ∧ (Jvm.Cond.and given_1 narrow_1).before #[Value.ref b] s = true
-- ===== YOUR PART BEGINS =====
theorem exs_at {s : State} {A : Array Value} (hgv : (Jvm.Cond.and given_1 narrow_1).before A s = true) : ∀ q ∈ txS, (Cond.exactly (.string RX3 q.1) "java/lang/String").before A s = true := by
  have hs := flat_of_before _ hgv
  exact List.forall_mem_cons.mpr ⟨hs _ (by decide +kernel), List.forall_mem_cons.mpr ⟨hs _ (by decide +kernel), List.forall_mem_cons.mpr ⟨hs _ (by decide +kernel), List.forall_mem_cons.mpr ⟨hs _ (by decide +kernel), List.forall_mem_cons.mpr ⟨hs _ (by decide +kernel), fun _ h => absurd h List.not_mem_nil⟩⟩⟩⟩⟩
theorem tx_at {s : State} {A : Array Value} (hts : ∀ w ∈ lw_tbl, w.before A s = true) (hgv : (Jvm.Cond.and given_1 narrow_1).before A s = true) : TX (AL s) s := by
  obtain ⟨t1, t2, t3, t4, t5, t6, t7, t8⟩ := tx_in
  have hs := flat_of_before _ hgv
  have hz : ∀ a : Nat, a < s.heap.size → ¬ AL s a := fun a h => Nat.not_le.mpr h
  exact ⟨⟨va_Nw.of rfl (hts _ t1), va_Nw.of rfl (hts _ t2), va_Nw.of rfl (hts _ t3), fun q hq => va_Nw.of rfl (hts _ (t4 q hq))⟩, ⟨vx_Zqof (hts _ t5) (hts _ t7) (hs _ (by decide +kernel)) hz, vx_Zqof (hts _ t6) (hts _ t7) (hs _ (by decide +kernel)) hz⟩, fun q hq => vk_at (hts _ (t8 q hq)) (exs_at hgv q hq)⟩
theorem zl_at {s : State} {A : Array Value} (hts : ∀ w ∈ lw_tbl, w.before A s = true) (hgv : (Jvm.Cond.and given_1 narrow_1).before A s = true) : ∃ e0 : Nat, ZL e0 (AL s) s := by
  have hs := flat_of_before _ hgv
  have hz : ∀ a : Nat, a < s.heap.size → ¬ AL s a := fun a h => Nat.not_le.mpr h
  obtain ⟨t, ht, hT⟩ := va_Tof (args := A) (s := s) (tm := .static "java/util/ArrayList" "DEFAULTCAPACITY_EMPTY_ELEMENTDATA" "[Ljava/lang/Object;") (ty := .object "java/lang/Object") (N := 0) (f := fun _ => .null) (A := AL s) (by decide) (hs _ (by decide +kernel)) (va_eqt (hs (.eq (.length (.static "java/util/ArrayList" "DEFAULTCAPACITY_EMPTY_ELEMENTDATA" "[Ljava/lang/Object;")) (.int 0)) (by decide +kernel))) (fun j hj => absurd hj (Nat.not_lt_zero _)) hz
  exact ⟨t, va_Zof (hts _ zl_in.1) (hts _ zl_in.2.1) ht hz, hT⟩
set_option maxHeartbeats 8000000 in
set_option maxRecDepth 100000 in
/-- THE LAW, from its entry -/
theorem whole_start {p : Program} {e : Env} {s : State} {m : MethodId} {below : List Frame} {meth : Method} {c : Code} (l : Launch) (hflags : l.flags = flags0) {b L : Nat} {xs : Nat → Int32} (hL : L ≤ 5) (C0 : lw_At p s m meth c b L xs) : W p l e room_1 s m #[Value.ref b] below meth c s.heap [] 0 0 (lw_Z below #[Value.ref b] s) (entryFrame m ([Value.ref b] : List Value).toArray 9) := by
  obtain ⟨hx, hb, hr, hml, hown, hts0, hX, hbl, hlocks, hgv⟩ := id C0
  have hf : l.stackTraces = false := by
    unfold Launch.stackTraces
    rw [hflags]
    decide
  have hts : ∀ w ∈ wsL_law, w.before #[Value.ref b] s = true := fun w h => hts0 w (wsL_law_in w h)
  have hown : s.vm.findClass RL = some m.cls := hown
  have hA : ∀ q : Nat, s.heap.size ≤ q → (fun q : Nat => s.heap.size ≤ q) q := fun _ h => h
  have hbA : ¬ AL s b := Nat.not_le.mpr hbl
  have hTb : Tb s := tb_at hts0
  have hAo : Ao s := ao_at hts0
  have hTX := tx_at hts0 hgv
  obtain ⟨e0, hZ0⟩ := zl_at hts0 hgv
  obtain ⟨c0, iS0, hKn0⟩ := u_known (C := RX0) (T := TX0) (N := 6) (n := 6) hts0 inX0 (hts0 (.instantiable RX0 6) (by decide +kernel))
  obtain ⟨c1, iS1, hKn1⟩ := u_known (C := RX1) (T := TX1) (N := 7) (n := 7) hts0 inX1 (hts0 (.instantiable RX1 7) (by decide +kernel))
  obtain ⟨c2, iS2, hKn2⟩ := u_known (C := RX2) (T := TX2) (N := 12) (n := 12) hts0 inX2 (hts0 (.instantiable RX2 12) (by decide +kernel))
  obtain ⟨c3, iS3, hKn3⟩ := u_known (C := RX3) (T := TX3) (N := 7) (n := 7) hts0 inX3 (hts0 (.instantiable RX3 7) (by decide +kernel))
  obtain ⟨c4, iS4, hKn4⟩ := u_known (C := RX4) (T := TX4) (N := 8) (n := 8) hts0 inX4 (hts0 (.instantiable RX4 8) (by decide +kernel))
  obtain ⟨c5, iS5, hKn5⟩ := u_known (C := RJx4a65c) (T := TJx4a65c) (N := 3) (n := 3) hts0 inJx4a65c (hts0 (.instantiable RJx4a65c 3) (by decide +kernel))
  obtain ⟨c6, iS6, hKn6⟩ := u_known (C := RJx35411) (T := TJx35411) (N := 4) (n := 4) hts0 inJx35411 (hts0 (.instantiable RJx35411 4) (by decide +kernel))
  obtain ⟨dC, dI, hKc⟩ : ∃ (dC : Nat → ClassId) (dI : Nat → Nat → Nat), ∀ (k : Nat) (q : vw_C), clX[k]? = some q → u_Kn s q.1 q.2.1 q.2.2 (dC k) (dI k) := by
    refine ⟨fun k => if k = 0 then c0 else if k = 1 then c1 else if k = 2 then c2 else c3, fun k => if k = 0 then iS0 else if k = 1 then iS1 else if k = 2 then iS2 else iS3, ?_⟩
    intro k q hq
    match k, hq with
    | 0, hq => cases hq; exact hKn0
    | 1, hq => cases hq; exact hKn1
    | 2, hq => cases hq; exact hKn2
    | 3, hq => cases hq; exact hKn3
    | k + 4, hq => simp [clX] at hq
  obtain ⟨D2, hK2⟩ : ∃ D2 : va_G, va_K D2 clM [] s := by
    refine ⟨(fun k => if k = 0 then c4 else if k = 1 then c5 else c6, fun k => if k = 0 then iS4 else if k = 1 then iS5 else iS6), ?_, fun k q h => by simp at h⟩
    intro k q hq
    match k, hq with
    | 0, hq => cases hq; exact hKn4
    | 1, hq => cases hq; exact hKn5
    | 2, hq => cases hq; exact hKn6
    | k + 3, hq => simp [clM] at hq
  have hS : va_S (fun q : Nat => s.heap.size ≤ q) s.heap s.heap [] := va_S.rf
  have hK : va_K (dC, dI) clX [] s := ⟨hKc, fun k q h => by simp at h⟩
  have hP : va_P (dC, dI) clX [] s.heap := fun k q h => by simp at h
  have hD : va_D (fun q : Nat => s.heap.size ≤ q) [] := ⟨fun i j p q h => by simp at h, fun k q h => by simp at h⟩
  have hl := lv_entry ([.ref b]) (n := 9) (Nat.le_of_ble_eq_true rfl)
  rw [lg_entry_eq]
  generalize (lg_sl ([.ref b]) ++ List.replicate (9 - (lg_sl ([.ref b])).length) Slot.unset).toArray = ls at hl ⊢
  have hl : lv_has ls 9 [(0, .ref b)] := hl
  have hfin : ∀ (H : Heap) (locs : List Loc) (ls : Array Slot) (cells slots : Nat), va_S (AL s) s.heap H locs → cells ≤ 300 → slots ≤ 3000 → W p l e room_1 s m #[Value.ref b] below meth c H locs cells slots (lw_Z below #[Value.ref b] s) (F0 m 2159 ls []) := by
    intro H locs ls cells slots hS h1 h2
    refine va_forget (fun q hq => hS.2.2 q hq) ?_
    refine W.widen (k := 600002) (n := 7302231) (by omega) (by omega) ?_
    refine lv_iconst (v := 1) hx hb dL_law_2159 (by decide) ?_
    refine W.base ?_
    exact lw_ret (Drawn.sameBut.refl s.drawn lw_cs) hx hb hr hlocks dL_law_2160
  refine va_new (ci := 3) (fs := [.null, .null, .null, .null, .int 0, .int 0, .int 0]) (C := RX3) (T := TX3) (N := 7) hx hb hts inlX3 tyX3 tyX3_ok hown (hts (.classLink RL 8 RX3) (by decide +kernel)) (hts (.instantiable RX3 7) (by decide +kernel)) (hts (.initialized RX3) (by decide +kernel)) hK hP hD hS hA rfl (fun j hj => by rcases (show j = 0 ∨ j = 1 ∨ j = 2 ∨ j = 3 ∨ j = 4 ∨ j = 5 ∨ j = 6 by omega) with rfl | rfl | rfl | rfl | rfl | rfl | rfl <;> rfl) (Nat.le_of_ble_eq_true rfl) (Nat.le_of_ble_eq_true rfl) dL_law_0 (fun h0 H hP hD hS => ?_)
  have hP : va_P (dC, dI) clX [(h0, .inr (3, [.null, .null, .null, .null, .int 0, .int 0, .int 0]))] H := hP
  have hD : va_D (fun q : Nat => s.heap.size ≤ q) [(h0, .inr (3, [.null, .null, .null, .null, .int 0, .int 0, .int 0]))] := hD
  refine lv_dup hx hb dL_law_3 rfl ?_
  have hPc := hP.sub (ws' := [(h0, .inr (3, [.null, .null, .null, .null, .int 0, .int 0, .int 0]))]) [0] rfl
  have hDc := hD.sub (ws' := [(h0, .inr (3, [.null, .null, .null, .null, .int 0, .int 0, .int 0]))]) [0] (by decide) rfl
  have hFc := va_free (wc := [(h0, .inr (3, [.null, .null, .null, .null, .int 0, .int 0, .int 0]))]) hD hS hA [0] rfl
  refine va_callv (va_runI (As := []) (rest := [.ref h0]) ⟨hx, hb, hml, hown, hts⟩ (ct_X3_init l (dC, dI) H.size h0) (cwI 0 hts gL_law_X3_init rfl rfl rfl (hts (.initialized RX3) (by decide +kernel)) (hts (.methodLink RL 99 yX3_init) (by decide +kernel)) (hts (.instanceMethod yX3_init) (by decide +kernel)) rfl (by decide +kernel) ⟨Nat.le_of_ble_eq_true rfl, Nat.le_of_ble_eq_true rfl⟩) ⟨pcI_blind _ _ _ _, fun U hU hW => ⟨rfl, by rw [hU], by rw [hU]; exact hPc, va_K.moved hW.alike hK, hDc.weaken (fun _ _ _ _ => trivial), Tb.warm hW hTb, hAo.moved hW.alike⟩⟩ rfl rfl hl.1 rfl (lv_room (Nat.le_of_ble_eq_true rfl)) dL_law_4 ⟨Nat.le_of_ble_eq_true rfl, Nat.le_of_ble_eq_true rfl⟩) hS (fun q _ h => hFc q h) hFc (fun u t Hr locs ht hvm hw hB hz1 hk1 hS => ?_)
  obtain ⟨a1, a2, a3, a4, a5, a6, a7, a8, a9, r9, lt9, cl9, d1, d2, dI9, dR, hP1, hK1, hD1⟩ := hB
  obtain ⟨k, -, hk0, hJ, hPk, hKk, hAk⟩ := room0_of hP1 hK1 hD1
  rw [ht] at hPk
  have hKk := va_K.moved hvm.symm hKk
  have hAk : ∀ n, n < 98 → s.heap.size ≤ k.2.1 n := fun n hn => hFc _ (hAk n hn)
  have hkr : ∀ n, n < 98 → k.2.1 n < Hr.size := fun n hn => (hPk n _ (wd_at k I0 hn)).lt
  refine W.widen (k := 98) (n := 862) (Nat.le_of_ble_eq_true rfl) (Nat.le_of_ble_eq_true rfl) ?_
  rw [← hk0]
  refine lv_astore_n hx hb dL_law_7 rfl hl (by decide) rfl (fun ls hl => ?_)
  have hl : lv_has ls 9 [(1, .ref (k.2.1 0)), (0, .ref b)] := hl
  refine va_forget (fun q hq => hS.2.2 q hq) ?_
  have hSr : va_S (AL s) s.heap Hr [] := hS.nil
  -- the reference
  have hAr : ∀ q : Nat, Hr.size ≤ q → AL s q := fun q z => Nat.le_trans hSr.1 z
  refine va_new (ci := 0) (fs := [.int 0, .null, .null, .int 0, .null, .null, .null, .long 0]) (C := RX4) (T := TX4) (N := 8) (A := fun q : Nat => Hr.size ≤ q) (H0 := Hr) hx hb hts inlX4 tyX4 tyX4_ok hown (hts (.classLink RL 100 RX4) (by decide +kernel)) (hts (.instantiable RX4 8) (by decide +kernel)) (hts (.initialized RX4) (by decide +kernel)) hK2 P0 D0 va_S.rf (fun _ h => h) rfl (fun j hj => by rcases (show j = 0 ∨ j = 1 ∨ j = 2 ∨ j = 3 ∨ j = 4 ∨ j = 5 ∨ j = 6 ∨ j = 7 by omega) with rfl | rfl | rfl | rfl | rfl | rfl | rfl | rfl <;> rfl) (Nat.le_of_ble_eq_true rfl) (Nat.le_of_ble_eq_true rfl) dL_law_8 (fun o H hP hD hS => ?_)
  have hP : va_P D2 clM [(o, .inr (0, [.int 0, .null, .null, .int 0, .null, .null, .null, .long 0]))] H := hP
  have hD : va_D (fun q : Nat => Hr.size ≤ q) [(o, .inr (0, [.int 0, .null, .null, .int 0, .null, .null, .null, .long 0]))] := hD
  refine lv_dup hx hb dL_law_11 rfl ?_
  have hSs := hSr.tr hS hAr
  refine va_callv (va_runI (As := []) (rest := [.ref o]) ⟨hx, hb, hml, hown, hts⟩ (je_X4_init l D2 o e0 H.size (fun q : Nat => Hr.size ≤ q) (fun q z => Nat.le_trans hS.1 z) hD) (cwI 0 hts gL_law_X4_init rfl rfl rfl (hts (.initialized RX4) (by decide +kernel)) (hts (.methodLink RL 102 yX4_init) (by decide +kernel)) (hts (.instanceMethod yX4_init) (by decide +kernel)) rfl (by decide +kernel) ⟨Nat.le_of_ble_eq_true rfl, Nat.le_of_ble_eq_true rfl⟩) ⟨fun a9 U g mk q => ⟨q.1, q.2.1, q.2.2.1, va_K.moved (u := U) (U := U.calling g mk a9) (Vm.Alike.refl U.vm) q.2.2.2.1, ZL.same (u := U) (U := U.calling g mk a9) rfl rfl q.2.2.2.2⟩, fun U hU hW => ⟨rfl, by rw [hU], by rw [hU]; exact hP, va_K.moved hW.alike hK2, hZ0.go hW (fun z h1 h2 => by rw [hU]; exact hSs.2.1 z h1 h2) hAr⟩⟩ rfl rfl hl.1 rfl (lv_room (Nat.le_of_ble_eq_true rfl)) dL_law_12 ⟨Nat.le_of_ble_eq_true rfl, Nat.le_of_ble_eq_true rfl⟩) hS (fun q _ h => h) (fun q h => h) (fun u t Hm locs ht hvm hw hB hz1 hk1 hS => ?_)
  obtain ⟨a10, a11, a12, hPm, hDm⟩ := hB
  rw [ht] at hPm
  obtain ⟨k2, hk2, hk24, hPm, hDm⟩ : ∃ k2 : Sk, k2.2.1 0 = o ∧ (k2.1 = D2 ∧ k2.2.1 4 = e0) ∧ va_P k2.1 clM (Wm k2 4 IZ) Hm ∧ va_D (fun q : Nat => Hr.size ≤ q) (Wm k2 4 IZ) :=
    ⟨(D2, fun n => if n = 0 then o else if n = 1 then a10 else if n = 2 then a11 else if n = 3 then a12 else e0, k.2.2), rfl, ⟨rfl, rfl⟩, hPm, hDm⟩
  have hK2 : va_K k2.1 clM [] s := by rw [hk24.1]; exact hK2
  have hJ2 : IjM k2 4 := ⟨Nat.le_refl _, fun i j hi hj e => hDm.1 i j _ _ (wm_at k2 IZ hi) (wm_at k2 IZ hj) e⟩
  have hA2 : ∀ n, n < 4 → Hr.size ≤ k2.2.1 n := fun n hn => hDm.2 n _ (wm_at k2 IZ hn)
  have hm2 : ∀ n, n < 4 → k2.2.1 n < Hm.size := fun n hn => (hPm n _ (wm_at k2 IZ hn)).lt
  rw [← hk2]
  refine lv_astore_n hx hb dL_law_15 rfl hl (by decide) rfl (fun ls hl => ?_)
  have hl : lv_has ls 9 [(2, .ref (k2.2.1 0)), (1, .ref (k.2.1 0)), (0, .ref b)] := hl
  have hPk := P_old hPk hS
  have hSm := (hSr.tr hS hAr).nil
  refine va_forget (fun q hq => hAr _ (hS.2.2 q hq)) ?_
  have hrm : Hr.size ≤ Hm.size := hS.1
  -- the rows of one
  have hAm : ∀ q : Nat, Hm.size ≤ q → AL s q := fun q z => Nat.le_trans hSm.1 z
  refine lv_iconst (v := nI 1) hx hb dL_law_16 (by decide) ?_
  refine va_newa (A := fun q : Nat => Hm.size ≤ q) (H0 := Hm) (atype := .long) (a0 := (1, .inr (.inl (fun _ => 0)))) (ty := .long) hx hb (hts (.arrayClass .long) (by decide +kernel)) rfl (K0 hKk) P0 D0 va_S.rf (fun _ h => h) (fun _ => rfl) (by decide) (N' := 1) (by decide +kernel) (by decide) (Nat.le_of_ble_eq_true rfl) (Nat.le_of_ble_eq_true rfl) dL_law_17 (fun ob cL Ho hKo hPo hDo hS => ?_)
  have hKo : va_K k.1 clX [(cL, .long)] s := hKo
  have hPo : va_P k.1 clX (oL ob cL (fun _ => 0)) Ho := hPo
  have hob : Hm.size ≤ ob := hDo.2 0 (ob, _) rfl
  have hob2 : ob < Ho.size := va_P_lt hPo
  refine lv_astore_n hx hb dL_law_19 rfl hl (by decide) rfl (fun ls hl => ?_)
  have hl : lv_has ls 9 [(3, .ref ob), (2, .ref (k2.2.1 0)), (1, .ref (k.2.1 0)), (0, .ref b)] := hl
  have hPk := P_old hPk hS
  have hPm := P_old hPm hS
  have hSo := hSm.tr hS hAm
  have hmo : Hm.size ≤ Ho.size := hS.1
  have hAo9 : ∀ q : Nat, Ho.size ≤ q → AL s q := fun q z => Nat.le_trans hSo.1 z
  refine lv_iconst (v := nI 1) hx hb dL_law_20 (by decide) ?_
  refine va_newa (A := fun q : Nat => Ho.size ≤ q) (H0 := Ho) (atype := .double) (a0 := (1, .inr (.inr (.inr (.inl (fun _ => 0)))))) (ty := .double) hx hb (hts (.arrayClass .double) (by decide +kernel)) rfl (K0 hKk) P0 D0 va_S.rf (fun _ h => h) (fun _ => rfl) (by decide) (N' := 1) (by decide +kernel) (by decide) (Nat.le_of_ble_eq_true rfl) (Nat.le_of_ble_eq_true rfl) dL_law_21 (fun od cD Hd hKd hPd hDd hS => ?_)
  have hKd : va_K k.1 clX [(cD, .double)] s := hKd
  have hPd : va_P k.1 clX (oD od cD (fun _ => 0)) Hd := hPd
  have hod : Ho.size ≤ od := hDd.2 0 (od, _) rfl
  refine lv_astore hx hb dL_law_23 hl (by decide) rfl (fun ls hl => ?_)
  have hl : lv_has ls 9 [(4, .ref od), (3, .ref ob), (2, .ref (k2.2.1 0)), (1, .ref (k.2.1 0)), (0, .ref b)] := hl
  have hPk := P_old hPk hS
  have hPm := P_old hPm hS
  have hPo := P_old hPo hS
  have hS := hSo.tr hS hAo9
  have X : CallFix p m c cL_law 9 s #[Value.ref b] wsL_law RL := ⟨hx, hb, hml, hown, hts⟩
  have F : LF s k k2 ob od cL cD := ⟨⟨hTb, hTX, hKk, hJ, hKo, hKd, hK2, hJ2⟩, ⟨⟨by rw [hk24.2]; exact hZ0, va_AO.of (hts0 _ zl_in.2.2.1), as_at hts0⟩, hn_at hts0⟩, ⟨hAk, fun n hn => hAr _ (hA2 n hn), hAm _ hob, hAo9 _ hod⟩, ⟨fun n j hn hj => Nat.ne_of_lt (Nat.lt_of_lt_of_le (hkr n hn) (hA2 j hj)), fun n hn => Nat.ne_of_lt (Nat.lt_of_lt_of_le (hkr n hn) (Nat.le_trans hrm hob)), fun n hn => Nat.ne_of_lt (Nat.lt_of_lt_of_le (hkr n hn) (Nat.le_trans (Nat.le_trans hrm hmo) hod)), fun j hj => Nat.ne_of_lt (Nat.lt_of_lt_of_le (hm2 j hj) hob), fun j hj => Nat.ne_of_lt (Nat.lt_of_lt_of_le (hm2 j hj) (Nat.le_trans hmo hod))⟩⟩
  have h : LH Hd k k2 ob od cL cD := ⟨hPk, hPm, ⟨_, hPo⟩, ⟨_, hPd⟩⟩
  refine W.widen (k := 200) (n := 2000) (Nat.le_of_ble_eq_true rfl) (Nat.le_of_ble_eq_true rfl) ?_
  refine lv_iconst (v := nI 0) hx hb dL_law_25 (by decide) ?_
  refine lv_istore hx hb dL_law_26 hl (by decide) rfl (fun ls hl => ?_)
  have hl : lv_has ls 9 [(5, .int (nI 0)), (4, .ref od), (3, .ref ob), (2, .ref (k2.2.1 0)), (1, .ref (k.2.1 0)), (0, .ref b)] := hl
  -- the loop
  refine lv_iload hx hb dL_law_28 (lv_at hl 0 rfl) ?_
  refine lv_aload_n hx hb dL_law_30 rfl (lv_at hl 5 rfl) ?_
  refine va_slen hx hb hX hbl hbA hS dL_law_31 ?_
  refine lv_iconst (v := nI 5) hx hb dL_law_32 (by decide) ?_
  refine lv_isub hx hb dL_law_33 ?_
  by_cases hL5 : L = 5
  · subst hL5
    have hend : LEnd p l e s m b below meth c (lw_Z below #[Value.ref b] s) := by
      intro H locs ls cells slots hS hl h1 h2
      refine lv_iinc (v := nI 5) hx hb dL_law_2153 hl (k := 1) rfl rfl (by decide) rfl (fun ls hl => ?_)
      have hl : lv_has ls 9 [(5, .int (nI 5)), (0, .ref b)] := hl
      refine lv_goto (tgt := 28) hx hb dL_law_2156 (by decide) ?_
      refine lv_iload hx hb dL_law_28 (lv_at hl 0 rfl) ?_
      refine lv_aload_n hx hb dL_law_30 rfl (lv_at hl 1 rfl) ?_
      refine va_slen hx hb hX hbl hbA hS dL_law_31 ?_
      refine lv_iconst (v := nI 5) hx hb dL_law_32 (by decide) ?_
      refine lv_isub hx hb dL_law_33 ?_
      refine lv_icmp_gt (tgt := 2159) hx hb dL_law_34 (by decide) (fun _ => ?_) (fun c1 => absurd (by decide) c1)
      exact hfin _ _ _ _ _ hS h1 h2
    refine lv_icmp_gt (tgt := 2159) hx hb dL_law_34 (by decide) (fun c1 => absurd c1 (by decide)) (fun _ => ?_)
    refine lv_aload_n hx hb dL_law_37 rfl (lv_at hl 5 rfl) ?_
    refine lv_iload hx hb dL_law_38 (lv_at hl 0 rfl) ?_
    refine va_sld hx hb hX hbl hbA hS (vp_in_nI (by omega) (by omega)) dL_law_40 ?_
    refine lv_bipush (v := nI 31) hx hb dL_law_41 (by decide) ?_
    refine lv_iand hx hb dL_law_43 ?_
    obtain ⟨t, ht, e9⟩ := and31 (xs (nI 0).toNatClampNeg)
    rw [e9]
    rcases (show t = 0 ∨ t = 1 ∨ t = 2 ∨ t = 3 ∨ t = 4 ∨ t = 5 ∨ t = 6 ∨ t = 7 ∨ t = 8 ∨ t = 9 ∨ t = 10 ∨ t = 11 ∨ t = 12 ∨ t = 13 ∨ t = 14 ∨ t = 15 ∨ t = 16 ∨ t = 17 ∨ t = 18 ∨ t = 19 ∨ t = 20 ∨ t = 21 ∨ t = 22 ∨ t = 23 ∨ t = 24 ∨ t = 25 ∨ t = 26 ∨ t = 27 ∨ t = 28 ∨ t = 29 ∨ t = 30 ∨ t = 31 by omega) with rfl | rfl | rfl | rfl | rfl | rfl | rfl | rfl | rfl | rfl | rfl | rfl | rfl | rfl | rfl | rfl | rfl | rfl | rfl | rfl | rfl | rfl | rfl | rfl | rfl | rfl | rfl | rfl | rfl | rfl | rfl | rfl
    · refine lv_tableIn (tgt := 168) hx hb dL_law_44 (by decide) (by decide) rfl (by decide) ?_
      exact cs_letter l hf X F hX hbl ⟨hr, hlocks⟩ h hS hl hend
    · refine lv_tableIn (tgt := 260) hx hb dL_law_44 (by decide) (by decide) rfl (by decide) ?_
      exact cs_times l hf X F hX hbl ⟨hr, hlocks⟩ h hS hl hend
    · refine lv_tableIn (tgt := 340) hx hb dL_law_44 (by decide) (by decide) rfl (by decide) ?_
      exact cs_master l hf X F hX hbl ⟨hr, hlocks⟩ h hS hl hend
    · refine lv_tableIn (tgt := 436) hx hb dL_law_44 (by decide) (by decide) rfl (by decide) ?_
      exact cs_good l hf X F hX hbl ⟨hr, hlocks⟩ h hS hl hend
    · refine lv_tableIn (tgt := 516) hx hb dL_law_44 (by decide) (by decide) rfl (by decide) ?_
      exact cs_sign l hf X F hX hbl ⟨hr, hlocks⟩ h hS hl hend
    · refine lv_tableIn (tgt := 584) hx hb dL_law_44 (by decide) (by decide) rfl (by decide) ?_
      exact cs_anchor l hf X F hX hbl ⟨hr, hlocks⟩ h hS hl hend
    · refine lv_tableIn (tgt := 668) hx hb dL_law_44 (by decide) (by decide) rfl (by decide) ?_
      exact cs_list l hf X F hX hbl ⟨hr, hlocks⟩ h hS hl hend
    · refine lv_tableIn (tgt := 748) hx hb dL_law_44 (by decide) (by decide) rfl (by decide) ?_
      exact cs_call l hf X F hX hbl ⟨hr, hlocks⟩ h hS hl hend
    · refine lv_tableIn (tgt := 816) hx hb dL_law_44 (by decide) (by decide) rfl (by decide) ?_
      exact cs_signList l hf X F hX hbl ⟨hr, hlocks⟩ h hS hl hend
    · refine lv_tableIn (tgt := 884) hx hb dL_law_44 (by decide) (by decide) rfl (by decide) ?_
      exact cs_strict l hf X F hX hbl ⟨hr, hlocks⟩ h hS hl hend
    · refine lv_tableIn (tgt := 925) hx hb dL_law_44 (by decide) (by decide) rfl (by decide) ?_
      exact cs_many l hf X F hX hbl ⟨hr, hlocks⟩ h hS hl hend
    · refine lv_tableIn (tgt := 981) hx hb dL_law_44 (by decide) (by decide) rfl (by decide) ?_
      exact cs_ofLetter l hf X F hX hbl ⟨hr, hlocks⟩ h hS hl hend
    · refine lv_tableIn (tgt := 1049) hx hb dL_law_44 (by decide) (by decide) rfl (by decide) ?_
      exact cs_ofList l hf X F hX hbl ⟨hr, hlocks⟩ h hS hl hend
    · refine lv_tableIn (tgt := 1117) hx hb dL_law_44 (by decide) (by decide) rfl (by decide) ?_
      exact cs_signed l hf X F hX hbl ⟨hr, hlocks⟩ h hS hl hend
    · refine lv_tableIn (tgt := 1185) hx hb dL_law_44 (by decide) (by decide) rfl (by decide) ?_
      exact cs_signer l hf X F hX hbl ⟨hr, hlocks⟩ h hS hl hend
    · refine lv_tableIn (tgt := 1253) hx hb dL_law_44 (by decide) (by decide) rfl (by decide) ?_
      exact cs_isUnder l hf X F hX hbl ⟨hr, hlocks⟩ h hS hl hend
    · refine lv_tableIn (tgt := 1328) hx hb dL_law_44 (by decide) (by decide) rfl (by decide) ?_
      exact cs_backs l hf X F hX hbl ⟨hr, hlocks⟩ h hS hl hend
    · refine lv_tableIn (tgt := 1403) hx hb dL_law_44 (by decide) (by decide) rfl (by decide) ?_
      exact cs_chains l hf X F hX hbl ⟨hr, hlocks⟩ h hS hl hend
    · refine lv_tableIn (tgt := 1459) hx hb dL_law_44 (by decide) (by decide) rfl (by decide) ?_
      exact cs_verdict l hf X F hX hbl ⟨hr, hlocks⟩ h hS hl hend
    · refine lv_tableIn (tgt := 1539) hx hb dL_law_44 (by decide) (by decide) rfl (by decide) ?_
      exact cs_chain l hf X F hX hbl ⟨hr, hlocks⟩ h hS hl hend
    · refine lv_tableIn (tgt := 1631) hx hb dL_law_44 (by decide) (by decide) rfl (by decide) ?_
      exact cs_flawAt l hf X F hX hbl ⟨hr, hlocks⟩ h hS hl hend
    · refine lv_tableIn (tgt := 1711) hx hb dL_law_44 (by decide) (by decide) rfl (by decide) ?_
      exact cs_isOf l hf X F hX hbl ⟨hr, hlocks⟩ h hS hl hend
    · refine lv_tableIn (tgt := 1810) hx hb dL_law_44 (by decide) (by decide) rfl (by decide) ?_
      exact cs_meanChain l hf X F hX hbl ⟨hr, hlocks⟩ h hS hl hend
    · refine lv_tableIn (tgt := 1899) hx hb dL_law_44 (by decide) (by decide) rfl (by decide) ?_
      exact cs_holdsTo l hf X F hX hbl ⟨hr, hlocks⟩ h hS hl hend
    · refine lv_tableIn (tgt := 1979) hx hb dL_law_44 (by decide) (by decide) rfl (by decide) ?_
      exact cs_otherwise l hf X F hX hbl ⟨hr, hlocks⟩ h hS hl hend
    · refine lv_tableIn (tgt := 2059) hx hb dL_law_44 (by decide) (by decide) rfl (by decide) ?_
      exact cs_stolen l hf X F hX hbl ⟨hr, hlocks⟩ h hS hl hend
    · refine lv_tableIn (tgt := 2139) hx hb dL_law_44 (by decide) (by decide) rfl (by decide) ?_
      exact cs_digest l hf X F hX hbl ⟨hr, hlocks⟩ h hS hl hend
    · refine lv_tableOut (tgt := 2153) hx hb dL_law_44 (Or.inr (by decide)) (by decide) ?_
      exact hend _ _ _ _ _ hS (lv_sub hl [5, 0] rfl) (Nat.le_of_ble_eq_true rfl) (Nat.le_of_ble_eq_true rfl)
    · refine lv_tableOut (tgt := 2153) hx hb dL_law_44 (Or.inr (by decide)) (by decide) ?_
      exact hend _ _ _ _ _ hS (lv_sub hl [5, 0] rfl) (Nat.le_of_ble_eq_true rfl) (Nat.le_of_ble_eq_true rfl)
    · refine lv_tableOut (tgt := 2153) hx hb dL_law_44 (Or.inr (by decide)) (by decide) ?_
      exact hend _ _ _ _ _ hS (lv_sub hl [5, 0] rfl) (Nat.le_of_ble_eq_true rfl) (Nat.le_of_ble_eq_true rfl)
    · refine lv_tableOut (tgt := 2153) hx hb dL_law_44 (Or.inr (by decide)) (by decide) ?_
      exact hend _ _ _ _ _ hS (lv_sub hl [5, 0] rfl) (Nat.le_of_ble_eq_true rfl) (Nat.le_of_ble_eq_true rfl)
    · refine lv_tableOut (tgt := 2153) hx hb dL_law_44 (Or.inr (by decide)) (by decide) ?_
      exact hend _ _ _ _ _ hS (lv_sub hl [5, 0] rfl) (Nat.le_of_ble_eq_true rfl) (Nat.le_of_ble_eq_true rfl)
  · rcases (show L = 0 ∨ L = 1 ∨ L = 2 ∨ L = 3 ∨ L = 4 by omega) with rfl | rfl | rfl | rfl | rfl <;> exact lv_icmp_gt (tgt := 2159) hx hb dL_law_34 (by decide) (fun _ => hfin _ _ _ _ _ hS (Nat.le_of_ble_eq_true rfl) (Nat.le_of_ble_eq_true rfl)) (fun c1 => absurd (by decide) c1)
-- ===== YOUR PART ENDS =====
set_option maxHeartbeats 4000000 in
theorem lw_walk (l : Launch) (hflags : l.flags = flags0) (b : Addr) (xs : List Int32) : MetFree l x (headSpec (Jvm.Cond.code x code maxLocals ret :: tables_1) room_1) (lw_P b xs) (fun _ _ _ _ _ => True) lw_Q := by
  refine MetFree.of_bodyS (code := code) (maxLocals := maxLocals) (ret := ret) (by decide) ?_ ?_
  · intro args s m h hn
    obtain ⟨meth, c, h1, h2, h3, h4, h5, h6, -, -⟩ := Cond.code_spec hn (atoms_spec (ws := Jvm.Cond.code x code maxLocals ret :: tables_1) h _ List.mem_cons_self)
    exact ⟨meth, c, h1, h2, h3, h4, h5, h6⟩
  · intro p e s m args below meth c s₁ B hml0 hP _
    obtain ⟨rfl, hx, hbd, hgv⟩ := hP
    obtain ⟨scr, harrAt, hlist, hof, hsmall⟩ := hx
    obtain ⟨hcb, hkn, -, -⟩ := State.arrayAt?_spec harrAt
    have hown : s.vm.findClass R_law = some m.cls := findClass_of_methodNamed B.named
    have hts0 : ∀ c ∈ (Jvm.Cond.code x code maxLocals ret :: tables_1), c.before #[Value.ref b] s = true := atoms_spec (ws := Jvm.Cond.code x code maxLocals ret :: tables_1) B.pre
    have hts : ∀ w ∈ lw_tbl, w.before #[Value.ref b] s = true := k2_hts_sels lw_privs (fun w hw => hts0 w (List.mem_cons_of_mem _ hw)) lw_privs_ok
    have hml : c.maxLocals = 9 := B.maxLocals_eq (hts0 _ List.mem_cons_self)
    have X₀ : Stand p l e room_1 s m #[Value.ref b] below meth c s₁ [] 0 0 := Stand.of_body B
    have hh0 : s₁.heap = s.heap := by rw [B.state]; rfl
    have hsz : scr.slots.size = xs.length := by rw [← Array.length_toList, hlist, List.length_map]
    have hval : ∀ j : Nat, j < xs.length → scr.slots[j]? = some (.int (xs.getD j 0)) := fun j hj => by
      rw [← Array.getElem?_toList, hlist]
      simp [hj]
    have hbl : b < s.heap.size := (Array.getElem?_eq_some_iff.mp hcb).1
    have hX : va_X b xs.length (fun j => xs.getD j 0) s s.heap := ⟨scr, hcb, hof, hkn, hsz, hval⟩
    have K : W p l e room_1 s m #[Value.ref b] below meth c s₁.heap [] 0 0 (lw_Z below #[Value.ref b] s) (entryFrame m ([Value.ref b] : List Value).toArray 9) := by
      rw [hh0]
      exact whole_start l hflags hbd ⟨B.exec, B.bytes, B.returns, hml, hown, hts, hX, hbl, B.notSynchronized, hgv⟩
    obtain ⟨t, a1, o, b1, b2, b3⟩ := K s₁ rfl X₀
    exact ⟨t, o, a1, b1, b2, b3⟩
theorem lw_pre_spec {args : Array Value} {s : State} (h : (Jvm.Cond.and given_1 narrow_1).before args s = true) (hr : rest_1_c.before args s = true) : ∃ (b : Addr) (xs : List Int32), lw_P b xs args s := by
  have hs := flat_of_before _ h
  have hq := flat_of_before _ hr
  have hc : (Cond.count 1).before args s = true := hs _ (by decide +kernel)
  have harr : (Cond.arrayOf (.arg 0) .int).before args s = true := hs _ (by decide +kernel)
  have hle : (Cond.le (.length (.arg 0)) (.int 5)).before args s = true := hs _ (by decide +kernel)
  have hlen : (Cond.isInt (.length (.arg 0))).before args s = true := hq _ (by decide +kernel)
  have hall : (Cond.all (.arg 0) (.isInt (.elem (.arg 0) (.index 0)))).before args s = true := hq _ (by decide +kernel)
  obtain ⟨b, xs, hb, hx⟩ := State.ints_of_pre rfl harr hlen hall
  have hsm : xs.length < 2 ^ 31 := hx.choose_spec.2.2.2
  have hev : (Term.length (.arg 0)).eval args s none [] s = some (.int xs.length.toInt32) := hx.length_eval hb
  have hv := Cond.le_ints hev (show (Term.int 5).eval args s none [] s = some (.int 5) from rfl)
  have hd : xs.length.toInt32 ≤ 5 := by
    simpa [Cond.before, Cond.holds, hv] using hle
  have hN : xs.length ≤ 5 := (Int32.ofNat_le_ofNat hsm (by decide)).mp (show Int32.ofNat xs.length ≤ Int32.ofNat 5 from hd)
  exact ⟨b, xs, Cond.one_arg hc (show args[0]? = some (.ref b) from hb), hx, hN, h⟩
theorem lw_comes (l : Launch) (hflags : l.flags = flags0) : Comes l x (Jvm.Cond.code x code maxLocals ret :: tables_1) room_1 (fun tb e args s => Calls_1 tb e args s ∧ rest_1 tb e args s ∧ Pre_1 tb e args s)
    (fun _ _ args s o t => lw_Q args s o t) := by
  intro p e ha hc hk s m args below hf hfit hheap happ hpre
  obtain ⟨b, xs, hP⟩ := lw_pre_spec hpre.2.2 hpre.2.1
  obtain ⟨k, o, h1, h2, h3, hQ⟩ := lw_walk l hflags b xs p e ha hc hk s m args below hf ((Spec.applies_iff_loose hf).mp happ).1 hP trivial
  exact ⟨k, o, h1, h2, h3, hQ⟩
theorem lw_frame {s t : State} {o : Outcome} {args : Array Value} (h : State.butDraws s t lw_cs (fun t1 => Framed s o t1 [] 600002 7302231)) :
    State.butDraws s t [Jvm.Choice.named "NaN.bits"] (fun t1 => Framed s o t1 (fieldLocs frame_1_writes args s ++ arrayLocs frame_1_arrays args s ++ staticLocs frame_1_statics s) 600002 7302231) := h
theorem lw_limb (L : Cond) (hL : ∀ (args : Array Value) (s t : State), L.after args s (.returned (some (.int 1))) t = true) :
    ArmFor flags0 classFile x code maxLocals ret World_1 tables_1 room_1 Calls_1 rest_1 Pre_1
      (fun tb e a s o t => postC L tb e a s o t ∧ State.butDraws s t [Jvm.Choice.named "NaN.bits"] (fun t1 => Framed s o t1 (fieldLocs frame_1_writes a s ++ arrayLocs frame_1_arrays a s ++ staticLocs frame_1_statics s) 600002 7302231)) := by
  intro l hflags _ _ p e ha hc hk s m args below hf hfit hheap happ hpre
  obtain ⟨k, o, h1, h2, h3, rfl, hF⟩ := lw_comes l hflags p e ha hc hk s m args below hf hfit hheap happ hpre
  exact ⟨k, _, h1, h2, h3, hL args s _, lw_frame hF⟩
theorem i_vc : Claimed_1_1 ∧ Claimed_1_2 := ⟨lw_limb limb_1_1 (fun args s t => by simp [limb_1_1, Cond.after, Cond.holds, Cond.value]), lw_limb limb_1_2 (fun args s t => Cond.after_iff.mpr (by
  first | (rw [show limb_1_2 = Cond.eq .result (.int 1) from rfl, Cond.eq_ints (x := 1) (y := 1) rfl rfl]; simp; done) | (simp [limb_1_2, Cond.value, Term.eval]; done)))⟩
