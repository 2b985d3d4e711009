/-! 46: the law's rows: the room, the reference and the two rows of one lie apart -/
abbrev AL (s : State) : Nat → Prop := fun q => s.heap.size ≤ q
/-- what the law's start gives of the tables and of the addresses -/
def LF (s : State) (k1 k2 : Sk) (ob od : Nat) (cL cD : ClassId) : Prop :=
  (Tb s ∧ TX (AL s) s ∧ va_K k1.1 clX (tyK k1) s ∧ Ij k1 98 ∧ va_K k1.1 clX [(cL, .long)] s ∧ va_K k1.1 clX [(cD, .double)] s ∧ va_K k2.1 clM [] s ∧ IjM k2 4) ∧
  ((ZL (k2.2.1 4) (AL s) s ∧ va_AO "java/lang/Object" s ∧ AS s) ∧ HN s) ∧
  ((∀ n, n < 98 → AL s (k1.2.1 n)) ∧ (∀ n, n < 4 → AL s (k2.2.1 n)) ∧ AL s ob ∧ AL s od) ∧
  ((∀ n j, n < 98 → j < 4 → k1.2.1 n ≠ k2.2.1 j) ∧ (∀ n, n < 98 → k1.2.1 n ≠ ob) ∧ (∀ n, n < 98 → k1.2.1 n ≠ od) ∧ (∀ j, j < 4 → k2.2.1 j ≠ ob) ∧ (∀ j, j < 4 → k2.2.1 j ≠ od))
def LH (H : Heap) (k1 k2 : Sk) (ob od : Nat) (cL cD : ClassId) : Prop := va_P k1.1 clX (Wd k1 98 I0) H ∧ va_P k2.1 clM (Wm k2 4 IZ) H ∧ (∃ f, va_P k1.1 clX (oL ob cL f) H) ∧ ∃ f, va_P k1.1 clX (oD od cD f) H
theorem P_keep {D : va_G} {cl : List vw_C} {ws : va_W} {A : Nat → Prop} {H H1 : Heap} (hP : va_P D cl ws H) (hk : ∀ q : Nat, q < H.size → ¬ A q → H1[q]? = H[q]?) (hn : ∀ (j : Nat) (x : Nat × va_E), ws[j]? = some x → ¬ A x.1) : va_P D cl ws H1 := hP.kept (fun j x hx => hk x.1 (hP j x hx).lt (hn j x hx))
theorem P_keep1 {D : va_G} {cl : List vw_C} {a : Nat} {e : va_E} {A : Nat → Prop} {H H1 : Heap} (hP : va_P D cl [(a, e)] H) (hk : ∀ q : Nat, q < H.size → ¬ A q → H1[q]? = H[q]?) (hn : ¬ A a) : va_P D cl [(a, e)] H1 := P_keep hP hk (fun j x hx => by
  cases j with
  | zero => cases hx; exact hn
  | succ j => simp at hx)
/-- the reference's cells are not the room's, and not the row's -/
theorem m_notAO {s : State} {k1 k2 : Sk} {ob od : Nat} {cL cD : ClassId} {H : Heap} (F : LF s k1 k2 ob od cL cD) (hP : va_P k2.1 clM (Wm k2 4 IZ) H) : ∀ (j : Nat) (x : Nat × va_E), (Wm k2 4 IZ)[j]? = some x → ¬ AO k1 ob H.size x.1 := by
  intro j x hx z
  obtain ⟨hj, rfl⟩ := wm_in k2 IZ hx
  rcases z with (⟨n, h1, h2⟩ | z) | z
  · exact F.2.2.2.1 n j h1 hj h2.symm
  · exact absurd (hP j _ hx).lt (Nat.not_lt.mpr z)
  · exact F.2.2.2.2.2.2.1 j hj z
theorem m_notAD {s : State} {k1 k2 : Sk} {ob od : Nat} {cL cD : ClassId} {H : Heap} (F : LF s k1 k2 ob od cL cD) (hP : va_P k2.1 clM (Wm k2 4 IZ) H) : ∀ (j : Nat) (x : Nat × va_E), (Wm k2 4 IZ)[j]? = some x → ¬ AO k1 od H.size x.1 := by
  intro j x hx z
  obtain ⟨hj, rfl⟩ := wm_in k2 IZ hx
  rcases z with (⟨n, h1, h2⟩ | z) | z
  · exact F.2.2.2.1 n j h1 hj h2.symm
  · exact absurd (hP j _ hx).lt (Nat.not_lt.mpr z)
  · exact F.2.2.2.2.2.2.2 j hj z
theorem o_notAM {k2 : Sk} {D : va_G} {cl : List vw_C} {oq : Nat} {eo : va_E} {H : Heap} (hO : va_P D cl [(oq, eo)] H) (hq : ∀ j, j < 4 → k2.2.1 j ≠ oq) : ¬ AXm k2 4 H.size oq := fun z => z.elim (fun ⟨j, h1, h2⟩ => hq j h1 h2.symm) (fun z => absurd (va_P_lt hO) (Nat.not_lt.mpr z))
theorem AL_go {s : State} {H : Heap} {locs : List Loc} (hS : va_S (AL s) s.heap H locs) : ∀ q, H.size ≤ q → AL s q := fun q z => Nat.le_trans hS.1 z
theorem and31 (x : Int32) : ∃ t, t < 32 ∧ x &&& nI 31 = nI t := by
  refine ⟨x.toBitVec.toNat % 32, Nat.mod_lt _ (by decide), ?_⟩
  apply Int32.toBitVec_inj.1
  apply BitVec.eq_of_toNat_eq
  show (x.toBitVec &&& BitVec.ofNat 32 31).toNat = (BitVec.ofNat 32 (x.toBitVec.toNat % 32)).toNat
  rw [BitVec.toNat_and, BitVec.toNat_ofNat, BitVec.toNat_ofNat]
  show x.toBitVec.toNat &&& 31 = _
  rw [show (31 : Nat) = 2 ^ 5 - 1 from rfl, Nat.and_two_pow_sub_one_eq_mod]
  omega
theorem cmp_s (x : Int64) : lg_cmp x x = 0 := by
  unfold lg_cmp
  rw [if_neg (show ¬ x > x from Int64.lt_irrefl), if_pos rfl]
section RLw
variable {p : Program} {l : Launch} {e : Env} {R : Room} {s : State} {m : MethodId} {args : Array Value} {below : List Frame} {meth : Method} {c : Code} {H : Heap} {locs : List Loc} {cells slots : Nat} {Q : State → Prop}
variable {pc : Nat} {ls : Array Slot} {rest st0 As : List Value} {k1 k2 : Sk} {ob od oq : Nat} {cL cD : ClassId} {eo : va_E}
variable {y : MethodName} {bytes : ByteArray} {maxL index n d : Nat} {ret : Option FieldType} {ws ws' : List Cond} {hh : List (Nat × Nat × Nat × Nat)}
theorem TX_at (F : LF s k1 k2 ob od cL cD) (hS : va_S (AL s) s.heap H locs) {U : State} (hU : U.heap = H) (hW : s.WarmedH U.vm) : TX (AX k1 98 H.size) U := F.1.2.1.go hW (fun a h1 h2 => by rw [hU]; exact hS.2.1 a h1 h2) (fun q z => z.elim (fun ⟨j, h1, h2⟩ => h2 ▸ F.2.2.1.1 j h1) (AL_go hS q))
theorem law_w {post : Int32 → Int64 → Prop} (X : CallFix p m c cL_law 9 s args wsL_law RL) (F : LF s k1 k2 ob od cL cD) (h : LH H k1 k2 ob od cL cD) (hS : va_S (AL s) s.heap H locs) (hM : ∀ (f : Nat → Int64) (sz : Nat), vx_Met l y ws (RmA 14 1 6) (PcW k1 ob cL .long (.inl (cL, 1, .inr (.inl f))) sz As) (va_Qi post (BL k1 ob cL) (AO k1 ob sz)) (XW (AO k1 ob sz)) 1 6 (AO k1 ob sz)) (hls : ls.size = 9) (hG : GoodIn wsL_law (va_wsS RL index y ws)) (hw : ws = Cond.codeWith y bytes maxL ret hh :: ws') (hd : y.cls ≠ "java/lang/invoke/MethodHandle" ∧ y.cls ≠ "java/lang/invoke/VarHandle" ∧ (parseMethodDescriptor y.desc).map (fun d => d.parameters.length) = some n)
    (hR : 15 ≤ R.frames ∧ 8 + (maxL + 11) + 896 ≤ R.locals) (hc9 : cells + 1 ≤ R.cells ∧ slots + 6 ≤ R.slots) (hrest : (rest.map fun v => v.category).sum ≤ 8) (hn : As.length = n) (hst : st0 = As.reverse ++ rest) (hdg : decode cL_law pc = .ok (.invokestatic index, 3))
    (kk : ∀ (r : Int32) (x : Int64) (f1 : Nat → Int64) (H1 : Heap) (locs1 : List Loc), post r x → f1 0 = x → va_P k1.1 clX (oL ob cL f1) H1 → va_P k2.1 clM (Wm k2 4 IZ) H1 → va_S (AL s) s.heap H1 locs1 → W p l e R s m args below meth c H1 locs1 (cells + 1) (slots + 6) Q (F0 m (pc + 3) ls (.int r :: rest))) : W p l e R s m args below meth c H locs cells slots Q (F0 m pc ls st0) := by
  obtain ⟨f, hO⟩ := h.2.2.1
  have hA : ∀ q, AO k1 ob H.size q → AL s q := fun q z => z.elim (fun z => z.elim (fun ⟨j, h1, h2⟩ => h2 ▸ F.2.2.1.1 j h1) (AL_go hS q)) (fun z => z ▸ F.2.2.1.2.2.1)
  refine vx_calli (vx_runSX (hh := hh) (As := As) (rest := rest) X (hM f H.size) (vx_cwSW n X.2.2.2.2 hG hw rfl rfl hd hR) ⟨pcW_blind k1 ob cL .long _ H.size As, fun U hU hW => ⟨rfl, by rw [hU], by rw [hU]; exact h.1, va_K.moved hW.alike F.1.2.2.1, Tb.warm hW F.1.1, TX_at F hS hU hW, by rw [hU]; exact hO, va_K.moved hW.alike F.1.2.2.2.2.1⟩⟩ rfl hn hls hst (lv_room hrest) hdg hc9) hS (fun q _ hq => hA q hq) hA (fun q _ hq => hA q hq) (fun E9 ce q9 u t H1 locs1 ht hvm hpx hb hz hkp hS hc1 hc2 hc3 => hpx.elim) (fun r x t H1 locs1 ht hvm hp hb hz hkp hS => ?_)
  obtain ⟨f1, hf1, hO1⟩ := hb
  exact kk r x f1 H1 locs1 hp hf1 (by rw [← ht]; exact hO1) (P_keep h.2.1 hkp (m_notAO F h.2.1)) hS
theorem law_wD {post : Int32 → UInt64 → Prop} (X : CallFix p m c cL_law 9 s args wsL_law RL) (F : LF s k1 k2 ob od cL cD) (h : LH H k1 k2 ob od cL cD) (hS : va_S (AL s) s.heap H locs) (hM : ∀ (f : Nat → UInt64) (sz : Nat), vx_Met l y ws (RmA 14 1 6) (PcW k1 od cD .double (.inl (cD, 1, .inr (.inr (.inr (.inl f))))) sz As) (va_Qi post (BD k1 od cD) (AO k1 od sz)) (XW (AO k1 od sz)) 1 6 (AO k1 od sz)) (hls : ls.size = 9) (hG : GoodIn wsL_law (va_wsS RL index y ws)) (hw : ws = Cond.codeWith y bytes maxL ret hh :: ws') (hd : y.cls ≠ "java/lang/invoke/MethodHandle" ∧ y.cls ≠ "java/lang/invoke/VarHandle" ∧ (parseMethodDescriptor y.desc).map (fun d => d.parameters.length) = some n)
    (hR : 15 ≤ R.frames ∧ 8 + (maxL + 11) + 896 ≤ R.locals) (hc9 : cells + 1 ≤ R.cells ∧ slots + 6 ≤ R.slots) (hrest : (rest.map fun v => v.category).sum ≤ 8) (hn : As.length = n) (hst : st0 = As.reverse ++ rest) (hdg : decode cL_law pc = .ok (.invokestatic index, 3))
    (kk : ∀ (r : Int32) (x : UInt64) (f1 : Nat → UInt64) (H1 : Heap) (locs1 : List Loc), post r x → f1 0 = x → va_P k1.1 clX (oD od cD f1) H1 → va_P k2.1 clM (Wm k2 4 IZ) H1 → va_S (AL s) s.heap H1 locs1 → W p l e R s m args below meth c H1 locs1 (cells + 1) (slots + 6) Q (F0 m (pc + 3) ls (.int r :: rest))) : W p l e R s m args below meth c H locs cells slots Q (F0 m pc ls st0) := by
  obtain ⟨f, hO⟩ := h.2.2.2
  have hA : ∀ q, AO k1 od H.size q → AL s q := fun q z => z.elim (fun z => z.elim (fun ⟨j, h1, h2⟩ => h2 ▸ F.2.2.1.1 j h1) (AL_go hS q)) (fun z => z ▸ F.2.2.1.2.2.2)
  refine vx_calli (vx_runSX (hh := hh) (As := As) (rest := rest) X (hM f H.size) (vx_cwSW n X.2.2.2.2 hG hw rfl rfl hd hR) ⟨pcW_blind k1 od cD .double _ H.size As, fun U hU hW => ⟨rfl, by rw [hU], by rw [hU]; exact h.1, va_K.moved hW.alike F.1.2.2.1, Tb.warm hW F.1.1, TX_at F hS hU hW, by rw [hU]; exact hO, va_K.moved hW.alike F.1.2.2.2.2.2.1⟩⟩ rfl hn hls hst (lv_room hrest) hdg hc9) hS (fun q _ hq => hA q hq) hA (fun q _ hq => hA q hq) (fun E9 ce q9 u t H1 locs1 ht hvm hpx hb hz hkp hS hc1 hc2 hc3 => hpx.elim) (fun r x t H1 locs1 ht hvm hp hb hz hkp hS => ?_)
  obtain ⟨f1, hf1, hO1⟩ := hb
  exact kk r x f1 H1 locs1 hp hf1 (by rw [← ht]; exact hO1) (P_keep h.2.1 hkp (m_notAD F h.2.1)) hS
theorem law_m {post : Int32 → IS → Prop} (X : CallFix p m c cL_law 9 s args wsL_law RL) (F : LF s k1 k2 ob od cL cD) (hP : va_P k2.1 clM (Wm k2 4 IZ) H) (hO : va_P k1.1 clX [(oq, eo)] H) (hq : ∀ j, j < 4 → k2.2.1 j ≠ oq) (hS : va_S (AL s) s.heap H locs) (hM : MmI l y ws d (.ref (k2.2.1 0) :: As) k2 4 IZ post) (hls : ls.size = 9) (hG : GoodIn wsL_law (wsV RL index RX4 y ws)) (hw : ws = Cond.code y bytes maxL ret :: ws') (hd : y.cls = RX4 ∧ y.cls ≠ "java/lang/invoke/MethodHandle" ∧ y.cls ≠ "java/lang/invoke/VarHandle" ∧ (parseMethodDescriptor y.desc).map (fun d => d.parameters.length) = some n)
    (hR : d + 1 ≤ R.frames ∧ 8 + (maxL + 11) + 64 * d ≤ R.locals) (hc9 : cells + 0 ≤ R.cells ∧ slots + 0 ≤ R.slots) (hrest : (rest.map fun v => v.category).sum ≤ 8) (hn : As.length = n) (hst : st0 = As.reverse ++ .ref (k2.2.1 0) :: rest) (hdg : decode cL_law pc = .ok (.invokevirtual index, 3))
    (kk : ∀ (r : Int32) (v : Int32) (fs : List Value) (H1 : Heap) (locs1 : List Loc), (∃ I' : IS, post r I' ∧ I' 0 0 = v) → va_P k2.1 clM [(k2.2.1 0, .inr (0, .int v :: fs))] H1 → va_P k1.1 clX [(oq, eo)] H1 → va_S (AL s) s.heap H1 locs1 → W p l e R s m args below meth c H1 locs1 cells slots Q (F0 m (pc + 3) ls (.int r :: rest))) : W p l e R s m args below meth c H locs cells slots Q (F0 m pc ls st0) := by
  have hA : ∀ q, AXm k2 4 H.size q → AL s q := fun q z => z.elim (fun ⟨j, h1, h2⟩ => h2 ▸ F.2.2.1.2.1 j h1) (AL_go hS q)
  have hK := F.1.2.2.2.2.2.2.1
  refine va_calli (va_runV (As := As) (rest := rest) X (hM H.size) (cwV n X.2.2.2.2 hG hw rfl rfl hd hR) ⟨pcM_blind k2 4 IZ H.size _, va_recv hK hP (ci := 0) (q0 := 0) rfl rfl, fun U hU hW => ⟨rfl, by rw [hU], by rw [hU]; exact hP, va_K.moved hW.alike hK, trivial⟩⟩ rfl hn hls hst (lv_room hrest) hdg hc9) hS (fun q _ hq => hA q hq) hA (fun r I' t H1 locs1 ht hvm hp hb hz hkp hS => ?_)
  exact kk r (I' 0 0) [.ref (k2.2.1 1), .ref (k2.2.1 2), .int (I' 0 3), .null, .null, .ref (k2.2.1 3), .long 0] H1 locs1 ⟨I', hp, rfl⟩ (by rw [← ht]; exact hb.sub [0] rfl) (P_keep1 hO hkp (o_notAM hO hq)) hS
theorem law_mD {post : UInt64 → IS → Prop} (X : CallFix p m c cL_law 9 s args wsL_law RL) (F : LF s k1 k2 ob od cL cD) (hP : va_P k2.1 clM (Wm k2 4 IZ) H) (hO : va_P k1.1 clX [(oq, eo)] H) (hq : ∀ j, j < 4 → k2.2.1 j ≠ oq) (hS : va_S (AL s) s.heap H locs) (hM : MmD l y ws d (.ref (k2.2.1 0) :: As) k2 4 IZ post) (hls : ls.size = 9) (hG : GoodIn wsL_law (wsV RL index RX4 y ws)) (hw : ws = Cond.code y bytes maxL ret :: ws') (hd : y.cls = RX4 ∧ y.cls ≠ "java/lang/invoke/MethodHandle" ∧ y.cls ≠ "java/lang/invoke/VarHandle" ∧ (parseMethodDescriptor y.desc).map (fun d => d.parameters.length) = some n)
    (hR : d + 1 ≤ R.frames ∧ 8 + (maxL + 11) + 64 * d ≤ R.locals) (hc9 : cells + 0 ≤ R.cells ∧ slots + 0 ≤ R.slots) (hrest : (rest.map fun v => v.category).sum ≤ 8) (hn : As.length = n) (hst : st0 = As.reverse ++ .ref (k2.2.1 0) :: rest) (hdg : decode cL_law pc = .ok (.invokevirtual index, 3))
    (kk : ∀ (r : UInt64) (v : Int32) (fs : List Value) (H1 : Heap) (locs1 : List Loc), (∃ I' : IS, post r I' ∧ I' 0 0 = v) → va_P k2.1 clM [(k2.2.1 0, .inr (0, .int v :: fs))] H1 → va_P k1.1 clX [(oq, eo)] H1 → va_S (AL s) s.heap H1 locs1 → W p l e R s m args below meth c H1 locs1 cells slots Q (F0 m (pc + 3) ls (.double r :: rest))) : W p l e R s m args below meth c H locs cells slots Q (F0 m pc ls st0) := by
  have hA : ∀ q, AXm k2 4 H.size q → AL s q := fun q z => z.elim (fun ⟨j, h1, h2⟩ => h2 ▸ F.2.2.1.2.1 j h1) (AL_go hS q)
  have hK := F.1.2.2.2.2.2.2.1
  refine va_calld (va_runV (As := As) (rest := rest) X (hM H.size) (cwV n X.2.2.2.2 hG hw rfl rfl hd hR) ⟨pcM_blind k2 4 IZ H.size _, va_recv hK hP (ci := 0) (q0 := 0) rfl rfl, fun U hU hW => ⟨rfl, by rw [hU], by rw [hU]; exact hP, va_K.moved hW.alike hK, trivial⟩⟩ rfl hn hls hst (lv_room hrest) hdg hc9) hS (fun q _ hq => hA q hq) hA (fun r I' t H1 locs1 ht hvm hp hb hz hkp hS => ?_)
  exact kk r (I' 0 0) [.ref (k2.2.1 1), .ref (k2.2.1 2), .int (I' 0 3), .null, .null, .ref (k2.2.1 3), .long 0] H1 locs1 ⟨I', hp, rfl⟩ (by rw [← ht]; exact hb.sub [0] rfl) (P_keep1 hO hkp (o_notAM hO hq)) hS
theorem law_b {XX : Nat → State → Prop} {mc ms : Nat} {post : Int32 → Int32 → Prop} (X : CallFix p m c cL_law 9 s args wsL_law RL) (F : LF s k1 k2 ob od cL cD) (hP : va_P k2.1 clM (Wm k2 4 IZ) H) (hO : va_P k1.1 clX [(oq, eo)] H) (hq : ∀ j, j < 4 → k2.2.1 j ≠ oq) (hS : va_S (AL s) s.heap H locs) (hM : ∀ sz : Nat, Met l y ws (RmA d mc ms) (PcZ k2 sz (.ref (k2.2.1 0) :: As) (XX sz)) (va_Qi post (BX k2) (AXm k2 4 sz)) mc ms (AXm k2 4 sz)) (hXb : ∀ (a : Array Value) (U : State) (g : JFrame) (mk : MethodId), XX H.size U → XX H.size (U.calling g mk a)) (hXp : ∀ U : State, U.heap = H → s.WarmedH U.vm → XX H.size U) (hls : ls.size = 9) (hG : GoodIn wsL_law (wsV RL index RX4 y ws)) (hw : ws = Cond.code y bytes maxL ret :: ws') (hd : y.cls = RX4 ∧ y.cls ≠ "java/lang/invoke/MethodHandle" ∧ y.cls ≠ "java/lang/invoke/VarHandle" ∧ (parseMethodDescriptor y.desc).map (fun d => d.parameters.length) = some n)
    (hR : d + 1 ≤ R.frames ∧ 8 + (maxL + 11) + 64 * d ≤ R.locals) (hc9 : cells + mc ≤ R.cells ∧ slots + ms ≤ R.slots) (hrest : (rest.map fun v => v.category).sum ≤ 8) (hn : As.length = n) (hst : st0 = As.reverse ++ .ref (k2.2.1 0) :: rest) (hdg : decode cL_law pc = .ok (.invokevirtual index, 3))
    (kk : ∀ (r : Int32) (v : Int32) (fs : List Value) (H1 : Heap) (locs1 : List Loc), post r v → va_P k2.1 clM [(k2.2.1 0, .inr (0, .int v :: fs))] H1 → va_P k1.1 clX [(oq, eo)] H1 → va_S (AL s) s.heap H1 locs1 → W p l e R s m args below meth c H1 locs1 (cells + mc) (slots + ms) Q (F0 m (pc + 3) ls (.int r :: rest))) : W p l e R s m args below meth c H locs cells slots Q (F0 m pc ls st0) := by
  have hA : ∀ q, AXm k2 4 H.size q → AL s q := fun q z => z.elim (fun ⟨j, h1, h2⟩ => h2 ▸ F.2.2.1.2.1 j h1) (AL_go hS q)
  have hK := F.1.2.2.2.2.2.2.1
  refine va_calli (va_runV (As := As) (rest := rest) X (hM H.size) (cwV n X.2.2.2.2 hG hw rfl rfl hd hR) ⟨fun a U g mk q => ⟨q.1, q.2.1, q.2.2.1, va_K.moved (u := U) (U := U.calling g mk a) (Vm.Alike.refl U.vm) q.2.2.2.1, hXb a U g mk q.2.2.2.2⟩, va_recv hK hP (ci := 0) (q0 := 0) rfl rfl, fun U hU hW => ⟨rfl, by rw [hU], by rw [hU]; exact hP, va_K.moved hW.alike hK, hXp U hU hW⟩⟩ rfl hn hls hst (lv_room hrest) hdg hc9) hS (fun q _ hq => hA q hq) hA (fun r v t H1 locs1 ht hvm hp hb hz hkp hS => ?_)
  obtain ⟨fs, hb⟩ := hb
  exact kk r v fs H1 locs1 hp (by rw [← ht]; exact hb) (P_keep1 hO hkp (o_notAM hO hq)) hS
theorem law_bL {XX : Nat → State → Prop} {mc ms : Nat} {post : Int64 → Int32 → Prop} (X : CallFix p m c cL_law 9 s args wsL_law RL) (F : LF s k1 k2 ob od cL cD) (hP : va_P k2.1 clM (Wm k2 4 IZ) H) (hO : va_P k1.1 clX [(oq, eo)] H) (hq : ∀ j, j < 4 → k2.2.1 j ≠ oq) (hS : va_S (AL s) s.heap H locs) (hM : ∀ sz : Nat, Met l y ws (RmA d mc ms) (PcZ k2 sz (.ref (k2.2.1 0) :: As) (XX sz)) (va_Ql post (BX k2) (AXm k2 4 sz)) mc ms (AXm k2 4 sz)) (hXb : ∀ (a : Array Value) (U : State) (g : JFrame) (mk : MethodId), XX H.size U → XX H.size (U.calling g mk a)) (hXp : ∀ U : State, U.heap = H → s.WarmedH U.vm → XX H.size U) (hls : ls.size = 9) (hG : GoodIn wsL_law (wsV RL index RX4 y ws)) (hw : ws = Cond.code y bytes maxL ret :: ws') (hd : y.cls = RX4 ∧ y.cls ≠ "java/lang/invoke/MethodHandle" ∧ y.cls ≠ "java/lang/invoke/VarHandle" ∧ (parseMethodDescriptor y.desc).map (fun d => d.parameters.length) = some n)
    (hR : d + 1 ≤ R.frames ∧ 8 + (maxL + 11) + 64 * d ≤ R.locals) (hc9 : cells + mc ≤ R.cells ∧ slots + ms ≤ R.slots) (hrest : (rest.map fun v => v.category).sum ≤ 8) (hn : As.length = n) (hst : st0 = As.reverse ++ .ref (k2.2.1 0) :: rest) (hdg : decode cL_law pc = .ok (.invokevirtual index, 3))
    (kk : ∀ (r : Int64) (v : Int32) (fs : List Value) (H1 : Heap) (locs1 : List Loc), post r v → va_P k2.1 clM [(k2.2.1 0, .inr (0, .int v :: fs))] H1 → va_P k1.1 clX [(oq, eo)] H1 → va_S (AL s) s.heap H1 locs1 → W p l e R s m args below meth c H1 locs1 (cells + mc) (slots + ms) Q (F0 m (pc + 3) ls (.long r :: rest))) : W p l e R s m args below meth c H locs cells slots Q (F0 m pc ls st0) := by
  have hA : ∀ q, AXm k2 4 H.size q → AL s q := fun q z => z.elim (fun ⟨j, h1, h2⟩ => h2 ▸ F.2.2.1.2.1 j h1) (AL_go hS q)
  have hK := F.1.2.2.2.2.2.2.1
  refine va_calll (va_runV (As := As) (rest := rest) X (hM H.size) (cwV n X.2.2.2.2 hG hw rfl rfl hd hR) ⟨fun a U g mk q => ⟨q.1, q.2.1, q.2.2.1, va_K.moved (u := U) (U := U.calling g mk a) (Vm.Alike.refl U.vm) q.2.2.2.1, hXb a U g mk q.2.2.2.2⟩, va_recv hK hP (ci := 0) (q0 := 0) rfl rfl, fun U hU hW => ⟨rfl, by rw [hU], by rw [hU]; exact hP, va_K.moved hW.alike hK, hXp U hU hW⟩⟩ rfl hn hls hst (lv_room hrest) hdg hc9) hS (fun q _ hq => hA q hq) hA (fun r v t H1 locs1 ht hvm hp hb hz hkp hS => ?_)
  obtain ⟨fs, hb⟩ := hb
  exact kk r v fs H1 locs1 hp (by rw [← ht]; exact hb) (P_keep1 hO hkp (o_notAM hO hq)) hS
theorem law_x {post : Int32 → IS → Prop} (X : CallFix p m c cL_law 9 s args wsL_law RL) (F : LF s k1 k2 ob od cL cD) (h : LH H k1 k2 ob od cL cD) (hS : va_S (AL s) s.heap H locs) (hM : MtI l y ws d (.ref (k1.2.1 0) :: As) k1 98 I0 post) (hls : ls.size = 9) (hG : GoodIn wsL_law (wsV RL index RX3 y ws)) (hw : ws = Cond.code y bytes maxL ret :: ws') (hd : y.cls = RX3 ∧ y.cls ≠ "java/lang/invoke/MethodHandle" ∧ y.cls ≠ "java/lang/invoke/VarHandle" ∧ (parseMethodDescriptor y.desc).map (fun d => d.parameters.length) = some n)
    (hR : d + 1 ≤ R.frames ∧ 8 + (maxL + 11) + 64 * d ≤ R.locals) (hc9 : cells + 0 ≤ R.cells ∧ slots + 0 ≤ R.slots) (hrest : (rest.map fun v => v.category).sum ≤ 8) (hn : As.length = n) (hst : st0 = As.reverse ++ .ref (k1.2.1 0) :: rest) (hdg : decode cL_law pc = .ok (.invokevirtual index, 3))
    (kk : ∀ (r : Int32) (f1 : Nat → Int64) (H1 : Heap) (locs1 : List Loc), (∃ I' : IS, post r I') → va_P k1.1 clX (oL ob cL f1) H1 → va_P k2.1 clM (Wm k2 4 IZ) H1 → va_S (AL s) s.heap H1 locs1 → W p l e R s m args below meth c H1 locs1 cells slots Q (F0 m (pc + 3) ls (.int r :: rest))) : W p l e R s m args below meth c H locs cells slots Q (F0 m pc ls st0) := by
  obtain ⟨f, hO⟩ := h.2.2.1
  have hA : ∀ q, AX k1 98 H.size q → AL s q := fun q z => z.elim (fun ⟨j, h1, h2⟩ => h2 ▸ F.2.2.1.1 j h1) (AL_go hS q)
  have hK := F.1.2.2.1
  refine va_calli (va_runV (As := As) (rest := rest) X (hM H.size) (cwV n X.2.2.2.2 hG hw rfl rfl hd hR) ⟨pcX_blind k1 98 I0 H.size _, hx_recv (own := RL) (A := AL s) ⟨X, F.1.1, hK, F.1.2.2.2.1, F.2.2.1.1, fun q z => z⟩ ⟨h.1, hS⟩ (n := 0) (by omega) (ce0 k1 _) rfl, fun U hU hW => ⟨rfl, by rw [hU], by rw [hU]; exact h.1, va_K.moved hW.alike hK, Tb.warm hW F.1.1⟩⟩ rfl hn hls hst (lv_room hrest) hdg hc9) hS (fun q _ hq => hA q hq) hA (fun r I' t H1 locs1 ht hvm hp hb hz hkp hS => ?_)
  exact kk r f H1 locs1 ⟨I', hp⟩ (P_keep1 hO hkp (fun z => z.elim (fun ⟨j, h1, h2⟩ => F.2.2.2.2.1 j h1 h2.symm) (fun z => absurd (va_P_lt hO) (Nat.not_lt.mpr z)))) (P_keep h.2.1 hkp (fun j x hx z => m_notAO F h.2.1 j x hx (Or.inl z))) hS
theorem law_xL {post : Int64 → IS → Prop} (X : CallFix p m c cL_law 9 s args wsL_law RL) (F : LF s k1 k2 ob od cL cD) (h : LH H k1 k2 ob od cL cD) (hS : va_S (AL s) s.heap H locs) (hM : MtL l y ws d (.ref (k1.2.1 0) :: As) k1 98 I0 post) (hls : ls.size = 9) (hG : GoodIn wsL_law (wsV RL index RX3 y ws)) (hw : ws = Cond.code y bytes maxL ret :: ws') (hd : y.cls = RX3 ∧ y.cls ≠ "java/lang/invoke/MethodHandle" ∧ y.cls ≠ "java/lang/invoke/VarHandle" ∧ (parseMethodDescriptor y.desc).map (fun d => d.parameters.length) = some n)
    (hR : d + 1 ≤ R.frames ∧ 8 + (maxL + 11) + 64 * d ≤ R.locals) (hc9 : cells + 0 ≤ R.cells ∧ slots + 0 ≤ R.slots) (hrest : (rest.map fun v => v.category).sum ≤ 8) (hn : As.length = n) (hst : st0 = As.reverse ++ .ref (k1.2.1 0) :: rest) (hdg : decode cL_law pc = .ok (.invokevirtual index, 3))
    (kk : ∀ (r : Int64) (f1 : Nat → Int64) (H1 : Heap) (locs1 : List Loc), (∃ I' : IS, post r I') → va_P k1.1 clX (oL ob cL f1) H1 → va_P k2.1 clM (Wm k2 4 IZ) H1 → va_S (AL s) s.heap H1 locs1 → W p l e R s m args below meth c H1 locs1 cells slots Q (F0 m (pc + 3) ls (.long r :: rest))) : W p l e R s m args below meth c H locs cells slots Q (F0 m pc ls st0) := by
  obtain ⟨f, hO⟩ := h.2.2.1
  have hA : ∀ q, AX k1 98 H.size q → AL s q := fun q z => z.elim (fun ⟨j, h1, h2⟩ => h2 ▸ F.2.2.1.1 j h1) (AL_go hS q)
  have hK := F.1.2.2.1
  refine va_calll (va_runV (As := As) (rest := rest) X (hM H.size) (cwV n X.2.2.2.2 hG hw rfl rfl hd hR) ⟨pcX_blind k1 98 I0 H.size _, hx_recv (own := RL) (A := AL s) ⟨X, F.1.1, hK, F.1.2.2.2.1, F.2.2.1.1, fun q z => z⟩ ⟨h.1, hS⟩ (n := 0) (by omega) (ce0 k1 _) rfl, fun U hU hW => ⟨rfl, by rw [hU], by rw [hU]; exact h.1, va_K.moved hW.alike hK, Tb.warm hW F.1.1⟩⟩ rfl hn hls hst (lv_room hrest) hdg hc9) hS (fun q _ hq => hA q hq) hA (fun r I' t H1 locs1 ht hvm hp hb hz hkp hS => ?_)
  exact kk r f H1 locs1 ⟨I', hp⟩ (P_keep1 hO hkp (fun z => z.elim (fun ⟨j, h1, h2⟩ => F.2.2.2.2.1 j h1 h2.symm) (fun z => absurd (va_P_lt hO) (Nat.not_lt.mpr z)))) (P_keep h.2.1 hkp (fun j x hx z => m_notAO F h.2.1 j x hx (Or.inl z))) hS
theorem law_t {v : Int32} {fs : List Value} (X : CallFix p m c cL_law 9 s args wsL_law RL) (F : LF s k1 k2 ob od cL cD) (hP : va_P k2.1 clM [(k2.2.1 0, .inr (0, .int v :: fs))] H) (hO : va_P k1.1 clX [(oq, eo)] H) (hS : va_S (AL s) s.heap H locs) (hls : ls.size = 9) (hR : 2 ≤ R.frames ∧ 84 ≤ R.locals) (hc9 : cells ≤ R.cells ∧ slots ≤ R.slots) (hrest : (rest.map fun v => v.category).sum ≤ 8) (hdg : decode cL_law pc = .ok (.invokevirtual 109, 3))
    (kk : ∀ (H1 : Heap) (locs1 : List Loc), va_P k1.1 clX [(oq, eo)] H1 → va_S (AL s) s.heap H1 locs1 → W p l e R s m args below meth c H1 locs1 cells slots Q (F0 m (pc + 3) ls (.int v :: rest))) : W p l e R s m args below meth c H locs cells slots Q (F0 m pc ls (.ref (k2.2.1 0) :: rest)) := by
  have hA := AL_go hS
  have hK := F.1.2.2.2.2.2.2.1
  refine va_calli (va_runV (As := []) (rest := rest) X (je_thrown l k2.1 (k2.2.1 0) v fs H.size) (cwV 0 X.2.2.2.2 gL_law_X4_thrown rfl rfl rfl (by decide +kernel) hR) ⟨fun a U g mk q => ⟨q.1, q.2.1, q.2.2.1, va_K.moved (u := U) (U := U.calling g mk a) (Vm.Alike.refl U.vm) q.2.2.2⟩, va_recv hK hP (ci := 0) (q0 := 0) rfl rfl, fun U hU hW => ⟨rfl, by rw [hU], by rw [hU]; exact hP, va_K.moved hW.alike hK⟩⟩ rfl rfl hls rfl (lv_room hrest) hdg hc9) hS (fun q _ hq => hA q hq) hA (fun r u t H1 locs1 ht hvm hp hb hz hkp hS => ?_)
  rw [hp]
  exact kk H1 locs1 (P_keep1 hO hkp (Nat.not_le.mpr (va_P_lt hO))) hS
/-- the end of a pass: the loop's next test, and true -/
abbrev LEnd (p : Program) (l : Launch) (e : Env) (s : State) (m : MethodId) (b : Nat) (below : List Frame) (meth : Method) (c : Code) (Q : State → Prop) : Prop := ∀ (H : Heap) (locs : List Loc) (ls : Array Slot) (cells slots : Nat), va_S (AL s) s.heap H locs → lv_has ls 9 [(0, .ref b), (5, .int (nI 0))] → cells ≤ 300 → slots ≤ 3000 → W p l e room_1 s m #[Value.ref b] below meth c H locs cells slots Q (F0 m 2153 ls [])
end RLw
