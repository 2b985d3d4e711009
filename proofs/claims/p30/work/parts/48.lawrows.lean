/-! 48: cell, the law's calls, the names' cell, what the law's start gives -/
set_option maxHeartbeats 4000000 in
set_option maxRecDepth 100000 in
/-- cell(s, k): some int; nothing is written -/
theorem ct_L_cell (l : Launch) (b L : Nat) (xs : Nat → Int32) (hL : L ≤ 260) (j : Nat) (hj : j ≤ 260) (sz : Nat) (hbz : b < sz) : Met l yL_cell wsL_cell (Rm 1) (va_Pc [.ref b, .int (nI j)] (fun U => U.heap.size = sz ∧ va_X b L xs U U.heap)) (va_Qi (fun (_ : Int32) (_ : Unit) => True) (fun _ _ => True) (fun q => sz ≤ q)) 0 0 (fun q => sz ≤ q) := by
  refine Met.ofW (cc := cL_cell) (maxL := 2) (ret := some .int) (by decide) rfl ?_
  intro p e s m args below meth c s₁ B hml hv
  obtain ⟨rfl, rfl, hX⟩ := hv
  have hts := atoms_spec (ws := wsL_cell) B.pre
  have hown : s.vm.findClass RL = some m.cls := findClass_of_methodNamed B.named
  have hx := B.exec
  have hb := B.bytes
  have hr := B.returns
  have hS : va_S (fun q => s.heap.size ≤ q) s.heap s.heap [] := va_S.rf
  have hbA : ¬ (fun q : Nat => s.heap.size ≤ q) b := Nat.not_le.mpr hbz
  have hl := lv_entry ([.ref b, .int (nI j)]) (n := 2) (Nat.le_of_ble_eq_true rfl)
  rw [lg_entry_eq]
  generalize (lg_sl ([.ref b, .int (nI j)]) ++ List.replicate (2 - (lg_sl ([.ref b, .int (nI j)])).length) Slot.unset).toArray = ls at hl ⊢
  have hl : lv_has ls 2 [(0, .ref b), (1, .int (nI j))] := hl
  refine lv_iload_n hx hb dL_cell_0 rfl (lv_at hl 1 rfl) ?_
  refine lv_aload_n hx hb dL_cell_1 rfl (lv_at hl 0 rfl) ?_
  refine va_slen hx hb hX hbz hbA hS dL_cell_2 ?_
  refine lv_icmp_ge (tgt := 12) hx hb dL_cell_3 (by decide) (fun c1 => ?_) (fun c1 => ?_)
  · refine lv_ldc (v := 790386105) hx hb hown (hts (.constant RL 8 790386105) (by decide +kernel)) dL_cell_12 ?_
    refine lv_iload_n hx hb dL_cell_14 rfl (lv_at hl 1 rfl) ?_
    refine lv_iconst (v := nI 3) hx hb dL_cell_15 (by decide) ?_
    refine lv_iadd hx hb dL_cell_16 ?_
    refine lv_imul hx hb dL_cell_17 ?_
    exact W.iret hx hb hr (fun t ht hW => ⟨⟨_, (), rfl, trivial, trivial⟩, hS.F ht⟩) hS.2.2 dL_cell_18 B.notSynchronized
  · have hlt : j < L := Nat.lt_of_not_le (fun q => c1 (nI_le q (by omega)))
    refine lv_aload_n hx hb dL_cell_6 rfl (lv_at hl 0 rfl) ?_
    refine lv_iload_n hx hb dL_cell_7 rfl (lv_at hl 1 rfl) ?_
    refine va_sld hx hb hX hbz hbA hS (vp_in_nI hlt (by omega)) dL_cell_8 ?_
    refine lv_goto (tgt := 18) hx hb dL_cell_9 (by decide) ?_
    exact W.iret hx hb hr (fun t ht hW => ⟨⟨_, (), rfl, trivial, trivial⟩, hS.F ht⟩) hS.2.2 dL_cell_18 B.notSynchronized
section RLc
variable {p : Program} {l : Launch} {e : Env} {R : Room} {s : State} {m : MethodId} {args : Array Value} {below : List Frame} {meth : Method} {c : Code} {H : Heap} {locs : List Loc} {cells slots : Nat}
variable {cc : ByteArray} {nL : Nat} {k : Sk} {M : Nat} {A : Nat → Prop} {I : IS} {pc : Nat} {ls : Array Slot} {rest : List Value} {Q : State → Prop}
theorem r_cCell {b L : Nat} {xs : Nat → Int32} {j : Nat} (C0 : CX p s m args c cc nL wsL_law RL k M A) (h : HX k M A s I H locs) (hX : va_X b L xs s s.heap) (hbl : b < s.heap.size) (hbA : ¬ A b) (hL : L ≤ 260) (hj : j ≤ 260) (hls : ls.size = nL) (hR : 2 ≤ R.frames ∧ 85 ≤ R.locals) (hc9 : cells ≤ R.cells ∧ slots ≤ R.slots) (hrest : (rest.map fun v => v.category).sum ≤ 8) (hdg : decode cc pc = .ok (.invokestatic 12, 3))
    (kk : ∀ (r : Int32) (H1 : Heap) (locs1 : List Loc), HX k M A s I H1 locs1 → W p l e R s m args below meth c H1 locs1 cells slots Q (F0 m (pc + 3) ls (.int r :: rest))) : W p l e R s m args below meth c H locs cells slots Q (F0 m pc ls (.int (nI j) :: .ref b :: rest)) := by
  have hA : ∀ q, H.size ≤ q → A q := fun q hq => C0.2.2.2.2.2 q (Nat.le_trans h.2.1 hq)
  have hbH : b < H.size := Nat.lt_of_lt_of_le hbl h.2.1
  refine va_calli (va_runS (As := [.ref b, .int (nI j)]) (rest := rest) C0.1 (ct_L_cell l b L xs hL j hj H.size hbH) (va_cwS 2 C0.1.2.2.2.2 gL_law_L_cell rfl rfl rfl (by decide +kernel) hR) ⟨?_, fun U hU hW => ⟨rfl, by rw [hU], by rw [hU]; exact (hX.kept (h.2.2.1 b hbl hbA)).moved hW.alike⟩⟩ rfl rfl hls rfl (lv_room hrest) hdg hc9) h.2 (fun q _ hq => hA q hq) hA (fun r u t H1 locs1 ht hvm hp hb hz hkp hS => ?_)
  · rintro a U g mk ⟨q0, q1, qX⟩
    exact ⟨q0, q1, va_X.moved (u := U) (U := U.calling g mk a) (Vm.Alike.refl U.vm) qX⟩
  · exact kk r H1 locs1 ⟨fun n q hq => (h.1 n q hq).kept (hkp _ (h.1 n q hq).lt (Nat.not_le.mpr (h.1 n q hq).lt)), hS⟩
theorem r_cAct {post : Int32 → IS → Prop} {As st0 : List Value} (C0 : CX p s m args c cc nL wsL_law RL k M A) (h : HX k M A s I H locs) (hT : TL A s) (hls : ls.size = nL) (hM : ∀ sz, vx_Met l yL_act wsL_act (RmA 13 1 6) (PcTL k M I sz As) (va_Qi post (EnX k M) (AX k M sz)) (XN (AX k M sz)) 1 6 (AX k M sz)) (hR : 14 ≤ R.frames ∧ 861 ≤ R.locals) (hc9 : cells + 1 ≤ R.cells ∧ slots + 6 ≤ R.slots) (hrest : (rest.map fun v => v.category).sum ≤ 8) (hn : As.length = 4) (hst : st0 = As.reverse ++ rest) (hdg : decode cc pc = .ok (.invokestatic 44, 3))
    (kk : ∀ (r : Int32) (I' : IS) (H1 : Heap) (locs1 : List Loc), post r I' → HX k M A s I' H1 locs1 → W p l e R s m args below meth c H1 locs1 (cells + 1) (slots + 6) Q (F0 m (pc + 3) ls (.int r :: rest))) : W p l e R s m args below meth c H locs cells slots Q (F0 m pc ls st0) := by
  have hA := hx_free C0 h
  refine vx_calli (vx_runSX (hh := hhA) (As := As) (rest := rest) C0.1 (hM H.size) (vx_cwSW 4 C0.1.2.2.2.2 gL_law_L_act rfl rfl rfl (by decide +kernel) hR) ⟨pcTL_blind k M I H.size As, fun U hU hW => ⟨rfl, by rw [hU], by rw [hU]; exact h.1, va_K.moved hW.alike C0.2.2.1, Tb.warm hW C0.2.1, hT.go hW (fun a h1 h2 => by rw [hU]; exact h.2.2.1 a h1 h2) hA⟩⟩ rfl hn hls hst (lv_room hrest) hdg hc9) h.2 (fun q _ hq => hA q hq) hA (fun q _ hq => hA q hq) (fun E9 ce q9 u t H1 locs1 ht hvm hpx hb hz hkp hS hc1 hc2 hc3 => hpx.elim) (fun r I' t H1 locs1 ht hvm hp hb hz hkp hS => ?_)
  exact kk r I' H1 locs1 hp ⟨by rw [← ht]; exact hb, hS⟩
end RLc
theorem lcmp_0 (x : Int64) : lg_cmp x x = 0 := by
  unfold lg_cmp
  simp
/-- one cell more: the names, at a -/
def kx (k : Sk) (a : Nat) : Sk := (k.1, fun n => if n = 98 then a else k.2.1 n, k.2.2)
theorem kx_n (k : Sk) (a : Nat) {n : Nat} (h : n < 98) : (kx k a).2.1 n = k.2.1 n := if_neg (by omega)
theorem kx_98 (k : Sk) (a : Nat) : (kx k a).2.1 98 = a := by
  show (if (98 : Nat) = 98 then a else k.2.1 98) = a
  exact if_pos rfl
theorem ceX_x (k : Sk) (a : Nat) {n : Nat} (h : n < 98) (f : Nat → Int32) : ceX (kx k a) n f = ceX k n f := by
  have h1 : (fun i => if i < 20 then some ((kx k a).2.1 (10 + i)) else none) = (fun i => if i < 20 then some (k.2.1 (10 + i)) else none) := by
    funext i
    by_cases hi : i < 20
    · rw [if_pos hi, if_pos hi, kx_n k a (by omega)]
    · rw [if_neg hi, if_neg hi]
  have h2 : (fun i => if i < 8 then some ((kx k a).2.1 (30 + i)) else none) = (fun i => if i < 8 then some (k.2.1 (30 + i)) else none) := by
    funext i
    by_cases hi : i < 8
    · rw [if_pos hi, if_pos hi, kx_n k a (by omega)]
    · rw [if_neg hi, if_neg hi]
  have h3 : (fun i => if i < 60 then some ((kx k a).2.1 (38 + i)) else none) = (fun i => if i < 60 then some (k.2.1 (38 + i)) else none) := by
    funext i
    by_cases hi : i < 60
    · rw [if_pos hi, if_pos hi, kx_n k a (by omega)]
    · rw [if_neg hi, if_neg hi]
  have h4 : fO (kx k a) f = fO k f := by
    unfold fO
    rw [kx_n k a (by omega), kx_n k a (by omega), kx_n k a (by omega), kx_n k a (by omega)]
  have h5 : fB (kx k a) f = fB k f := by
    unfold fB
    rw [kx_n k a (by omega), kx_n k a (by omega), kx_n k a (by omega), kx_n k a (by omega), kx_n k a (by omega)]
  have h6 : (kx k a).2.2 = k.2.2 := rfl
  unfold ceX
  rw [h1, h2, h3, h4, h5, h6]
theorem wd_x (k : Sk) (a : Nat) (I : IS) : Wd (kx k a) 99 I = Wd k 98 I ++ [(a, .inl (k.2.2 0, 6, .inl (I 98)))] := by
  unfold Wd
  rw [show List.range 99 = List.range 98 ++ [98] from List.range_succ, List.map_append]
  congr 1
  apply List.map_congr_left
  intro n hn
  have h := List.mem_range.mp hn
  rw [kx_n k a h, ceX_x k a h]
theorem ij_x {k : Sk} {a : Nat} {I : IS} {A : Nat → Prop} (h : va_D A (Wd (kx k a) 99 I)) : Ij (kx k a) 99 ∧ ∀ n, n < 99 → A ((kx k a).2.1 n) :=
  ⟨⟨by omega, fun i j hi hj e => h.1 i j _ _ (wd_at (kx k a) I hi) (wd_at (kx k a) I hj) e⟩, fun n hn => h.2 n _ (wd_at (kx k a) I hn)⟩
theorem I0_98 : I0 98 = zI := if_neg (by omega)
/-- the law's start: links of nest mates, arrays of objects -/
theorem nf_in : ∀ q ∈ nfX, Cond.fieldLinkNest q.1 q.2.1 q.2.2.1 q.2.2.2.1 q.2.2.2.2 RX3 ∈ lw_tbl := by decide +kernel
theorem nm_in : ∀ q ∈ nmX, Cond.methodLinkNest q.1 q.2.1 q.2.2 RX3 ∈ lw_tbl := by decide +kernel
theorem tb_at {s : State} {args : Array Value} (hts : ∀ w ∈ lw_tbl, w.before args s = true) : Tb s := ⟨fun q hq => va_Nw.of rfl (hts _ (nf_in q hq)), fun q hq => va_Nw.of rfl (hts _ (nm_in q hq))⟩
theorem ao_in : Cond.arrayOver (.object "SignetRoom$Letter") ∈ lw_tbl ∧ Cond.arrayOver (.object "SignetRoom$CallList") ∈ lw_tbl ∧ Cond.arrayOver (.array .int) ∈ lw_tbl := by decide +kernel
theorem ao_at {s : State} {args : Array Value} (hts : ∀ w ∈ lw_tbl, w.before args s = true) : Ao s := ⟨va_AO.of (hts _ ao_in.1), va_AO.of (hts _ ao_in.2.1), hts _ ao_in.2.2⟩
theorem vk_at {s : State} {A : Array Value} {tx : String} {n : Nat} (h1 : (Cond.stringRef RX3 n tx).before A s = true) (h2 : (Cond.exactly (.string RX3 n) "java/lang/String").before A s = true) : ∃ a, vk_R RX3 n tx a s := by
  obtain ⟨a, -, -, -, ha, -⟩ := Cond.exactly_spec h2
  exact ⟨a, vk_R.of h1 ha⟩
theorem tx_in : Cond.declares (exI "java/lang/RuntimeException") ∈ lw_tbl ∧ Cond.declares (exI "java/lang/Exception") ∈ lw_tbl ∧ Cond.declares (exI "java/lang/Throwable") ∈ lw_tbl ∧ (∀ q ∈ exQ, Cond.castable q.2.2 q.2.2 ∈ lw_tbl) ∧ Cond.laysStatic Bundle.tN "UNASSIGNED_STACK" Bundle.steD ∈ lw_tbl ∧ Cond.laysStatic Bundle.tN "SUPPRESSED_SENTINEL" Bundle.listD ∈ lw_tbl ∧ Cond.initialized Bundle.tN ∈ lw_tbl ∧ ∀ q ∈ txS, Cond.stringRef RX3 q.1 q.2 ∈ lw_tbl := by decide +kernel
