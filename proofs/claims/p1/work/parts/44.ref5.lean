/-! 44: the reference's public methods that make something, on the empty state -/
def IZ : IS := fun _ _ => nI 0
abbrev BX (k : Sk) : Int32 → State → Prop := fun v t => ∃ fs : List Value, va_P k.1 clM [(k.2.1 0, .inr (0, .int v :: fs))] t.heap
/-- an array of ints may lie in a row of objects -/
def AS (U : State) : Prop := ∀ comp c0 : ClassId, U.vm.findClass "java/lang/Object" = some comp → U.vm.findClass "[I" = some c0 → U.vm.assignable c0 comp = true
theorem AS.moved {u U : State} (hv : u.vm.Alike U.vm) (h : AS u) : AS U := fun comp c0 h1 h2 => by rw [hv.assignable]; exact h comp c0 (by rw [← hv.findClass]; exact h1) (by rw [← hv.findClass]; exact h2)
theorem any_arr {D : va_G} {cl : List vw_C} {tys : List (ClassId × FieldType)} {ws : va_W} {s : State} {H : Heap} {a n : Nat} {cA : ClassId} {f : Nat → Int32} (hK : va_K D cl tys s) (hP : va_P D cl ws H) (q0 t0 : Nat) (ha : ws[q0]? = some (a, .inl (cA, n, .inl f))) (ht : tys[t0]? = some (cA, .int)) (hN : AS s) : va_Any "java/lang/Object" s H a := by
  have h1 : s.vm.findClass ("[" ++ FieldType.int.toString) = some cA := (hK.2 t0 _ ht).2
  rw [show "[" ++ FieldType.int.toString = "[I" from by first | rfl | decide +kernel] at h1
  have h2 : H[a]? = some (vp_cell cA (n, .inl f)) := hP q0 _ ha
  obtain ⟨kC, hkC, -⟩ := Vm.findClass_spec h1
  exact ⟨_, h2, rfl, ⟨kC, hkC⟩, fun comp hc => hN comp cA hc h1⟩
/-- what letter() and list() ask beside the cells -/
abbrev XA (k : Sk) (sz : Nat) (U : State) : Prop := ZL (k.2.1 4) (AXm k 4 sz) U ∧ va_AO "java/lang/Object" U ∧ AS U
abbrev PcZ (k : Sk) (sz : Nat) (av : List Value) (X : State → Prop) : Array Value → State → Prop := va_Pc av (fun U => U.heap.size = sz ∧ va_P k.1 clM (Wm k 4 IZ) U.heap ∧ va_K k.1 clM (tyM k) U ∧ X U)
theorem IZ_up (n j : Nat) (h : ¬ (n = 0 ∧ j = 0)) (v : Int32) : up2 IZ 0 0 v n j = nI 0 := by
  by_cases hn : n = 0
  · subst hn
    have hj : j ≠ 0 := fun q => h ⟨rfl, q⟩
    simp [up2, upd, hj, IZ]
  · simp [up2, hn, IZ]
set_option maxHeartbeats 4000000 in
set_option maxRecDepth 100000 in
/-- letter() on the empty state -/
theorem je_letter (l : Launch) (k : Sk) (hJ : IjM k 4) (a b y n : Int32) (sz : Nat) : Met l yX4_letter wsX4_letter (RmA 6 2 23) (PcZ k sz [.ref (k.2.1 0), .int a, .int b, .int y, .int n] (fun U => XA k sz U)) ((va_Qi (fun r v => if (isNm a = true ∧ isNm b = true ∧ isW y (nI 15) = true ∧ isB n (nI 0) (nI 30) = true) then v = nI 0 ∧ r = nI 0 else v = nI 1) (BX k) (AXm k 4 sz))) 2 23 (AXm k 4 sz) := by
  refine Met.ofW (cc := cX4_letter) (maxL := 6) (ret := some .int) (by decide) rfl ?_
  intro p e s m args below meth c s₁ B hml hv
  obtain ⟨rfl, rfl, hP, hK, hZ, hO⟩ := hv
  have hts := atoms_spec (ws := wsX4_letter) B.pre
  have hx := B.exec
  have hb := B.bytes
  have hr := B.returns
  have hlk := B.notSynchronized
  have hown : s.vm.findClass RX4 = some m.cls := findClass_of_methodNamed B.named
  have hl := lv_entry ([.ref (k.2.1 0), .int a, .int b, .int y, .int n]) (n := 6) (Nat.le_of_ble_eq_true rfl)
  rw [lg_entry_eq]
  generalize (lg_sl ([.ref (k.2.1 0), .int a, .int b, .int y, .int n]) ++ List.replicate (6 - (lg_sl ([.ref (k.2.1 0), .int a, .int b, .int y, .int n])).length) Slot.unset).toArray = ls at hl ⊢
  have hl : lv_has ls 6 [(0, .ref (k.2.1 0)), (1, .int a), (2, .int b), (3, .int y), (4, .int n)] := hl
  have hin : ∀ w ∈ u_ws RX4 TX4 8, w ∈ wsX4_letter := by decide +kernel
  have hA : ∀ q : Nat, s.heap.size ≤ q → AXm k 4 s.heap.size q := fun q h => Or.inr h
  have hAn : ∀ n, n < 4 → AXm k 4 s.heap.size (k.2.1 n) := fun n h => Or.inl ⟨n, h, rfl⟩
  have C0 : CXm p s m ([.ref (k.2.1 0), .int a, .int b, .int y, .int n]).toArray c cX4_letter 6 wsX4_letter RX4 k 4 (AXm k 4 s.heap.size) := ⟨⟨hx, hb, hml, hown, hts⟩, trivial, hK, hJ, hAn, hA⟩
  have h : HXm k 4 (AXm k 4 s.heap.size) s IZ s.heap [] := ⟨hP, va_S.rf⟩
  refine lv_aload_n hx hb dX4_letter_0 rfl (lv_at hl 0 rfl) ?_
  refine lv_iconst (v := nI 0) hx hb dX4_letter_1 (by decide) ?_
  refine m_put (T := TX4) (N := 8) (ty0 := tyX4) C0 h 0 (by omega) (cm0 k 4 _) hin tyX4_ok nmX4 rfl 0 (by decide) (by decide +kernel) rfl rfl rfl rfl (Nat.le_of_ble_eq_true rfl) (cm0 k 4 _) dX4_letter_2 (fun H locs h => ?_)
  refine lv_iload_n hx hb dX4_letter_5 rfl (lv_at hl 1 rfl) ?_
  refine m_cSI C0 h hl.1 (ct_X4_isName l k 4 _ hJ _) gX4_letter_X4_isName rfl (by decide +kernel) (n := 1) ⟨Nat.le_of_ble_eq_true rfl, Nat.le_of_ble_eq_true rfl⟩ ⟨Nat.le_of_ble_eq_true rfl, Nat.le_of_ble_eq_true rfl⟩ (Nat.le_of_ble_eq_true rfl) rfl rfl dX4_letter_6 (fun r6 I6 H locs hp h => ?_)
  obtain ⟨rfl, hI6⟩ := hp
  rw [hI6] at h
  refine lv_if_eq (tgt := 37) hx hb dX4_letter_9 (by decide) (fun c_9 => ?_) (fun c_9 => ?_)
  · refine lv_aload_n hx hb dX4_letter_37 rfl (lv_at hl 0 rfl) ?_
    refine lv_iconst (v := nI 1) hx hb dX4_letter_38 (by decide) ?_
    refine m_cVI C0 h hl.1 0 (by omega) (cm0 k 4 _) rfl (ct_X4_refuse l k 4 _ hJ (nI 1)) gX4_letter_X4_refuse rfl (by decide +kernel) (n := 1) ⟨Nat.le_of_ble_eq_true rfl, Nat.le_of_ble_eq_true rfl⟩ ⟨Nat.le_of_ble_eq_true rfl, Nat.le_of_ble_eq_true rfl⟩ (Nat.le_of_ble_eq_true rfl) rfl rfl dX4_letter_39 (fun r99 I99 H locs hp h => ?_)
    obtain ⟨rfl, hI99⟩ := hp
    rw [hI99] at h
    refine W.widen (k := 2) (n := 23) (Nat.le_of_ble_eq_true rfl) (Nat.le_of_ble_eq_true rfl) ?_
    exact W.iret hx hb hr (fun t ht hW => ⟨⟨_, nI 1, rfl, by dsimp only; rw [if_neg (fun z => by rw [bI_z c_9] at z; exact absurd z.1 (by decide))], ⟨_, by rw [ht]; exact h.1.sub [0] rfl⟩⟩, h.2.F ht⟩) h.2.2.2 dX4_letter_42 hlk
  refine lv_iload_n hx hb dX4_letter_12 rfl (lv_at hl 2 rfl) ?_
  refine m_cSI C0 h hl.1 (ct_X4_isName l k 4 _ hJ _) gX4_letter_X4_isName rfl (by decide +kernel) (n := 1) ⟨Nat.le_of_ble_eq_true rfl, Nat.le_of_ble_eq_true rfl⟩ ⟨Nat.le_of_ble_eq_true rfl, Nat.le_of_ble_eq_true rfl⟩ (Nat.le_of_ble_eq_true rfl) rfl rfl dX4_letter_13 (fun r13 I13 H locs hp h => ?_)
  obtain ⟨rfl, hI13⟩ := hp
  rw [hI13] at h
  refine lv_if_eq (tgt := 37) hx hb dX4_letter_16 (by decide) (fun c_16 => ?_) (fun c_16 => ?_)
  · refine lv_aload_n hx hb dX4_letter_37 rfl (lv_at hl 0 rfl) ?_
    refine lv_iconst (v := nI 1) hx hb dX4_letter_38 (by decide) ?_
    refine m_cVI C0 h hl.1 0 (by omega) (cm0 k 4 _) rfl (ct_X4_refuse l k 4 _ hJ (nI 1)) gX4_letter_X4_refuse rfl (by decide +kernel) (n := 1) ⟨Nat.le_of_ble_eq_true rfl, Nat.le_of_ble_eq_true rfl⟩ ⟨Nat.le_of_ble_eq_true rfl, Nat.le_of_ble_eq_true rfl⟩ (Nat.le_of_ble_eq_true rfl) rfl rfl dX4_letter_39 (fun r99 I99 H locs hp h => ?_)
    obtain ⟨rfl, hI99⟩ := hp
    rw [hI99] at h
    refine W.widen (k := 2) (n := 23) (Nat.le_of_ble_eq_true rfl) (Nat.le_of_ble_eq_true rfl) ?_
    exact W.iret hx hb hr (fun t ht hW => ⟨⟨_, nI 1, rfl, by dsimp only; rw [if_neg (fun z => by rw [bI_z c_16] at z; exact absurd z.2.1 (by decide))], ⟨_, by rw [ht]; exact h.1.sub [0] rfl⟩⟩, h.2.F ht⟩) h.2.2.2 dX4_letter_42 hlk
  refine lv_iload_n hx hb dX4_letter_19 rfl (lv_at hl 3 rfl) ?_
  refine m_cSI C0 h hl.1 (ct_X4_isKey l k 4 _ hJ _) gX4_letter_X4_isKey rfl (by decide +kernel) (n := 1) ⟨Nat.le_of_ble_eq_true rfl, Nat.le_of_ble_eq_true rfl⟩ ⟨Nat.le_of_ble_eq_true rfl, Nat.le_of_ble_eq_true rfl⟩ (Nat.le_of_ble_eq_true rfl) rfl rfl dX4_letter_20 (fun r20 I20 H locs hp h => ?_)
  obtain ⟨rfl, hI20⟩ := hp
  rw [hI20] at h
  refine lv_if_eq (tgt := 37) hx hb dX4_letter_23 (by decide) (fun c_23 => ?_) (fun c_23 => ?_)
  · refine lv_aload_n hx hb dX4_letter_37 rfl (lv_at hl 0 rfl) ?_
    refine lv_iconst (v := nI 1) hx hb dX4_letter_38 (by decide) ?_
    refine m_cVI C0 h hl.1 0 (by omega) (cm0 k 4 _) rfl (ct_X4_refuse l k 4 _ hJ (nI 1)) gX4_letter_X4_refuse rfl (by decide +kernel) (n := 1) ⟨Nat.le_of_ble_eq_true rfl, Nat.le_of_ble_eq_true rfl⟩ ⟨Nat.le_of_ble_eq_true rfl, Nat.le_of_ble_eq_true rfl⟩ (Nat.le_of_ble_eq_true rfl) rfl rfl dX4_letter_39 (fun r99 I99 H locs hp h => ?_)
    obtain ⟨rfl, hI99⟩ := hp
    rw [hI99] at h
    refine W.widen (k := 2) (n := 23) (Nat.le_of_ble_eq_true rfl) (Nat.le_of_ble_eq_true rfl) ?_
    exact W.iret hx hb hr (fun t ht hW => ⟨⟨_, nI 1, rfl, by dsimp only; rw [if_neg (fun z => by rw [bI_z c_23] at z; exact absurd z.2.2.1 (by decide))], ⟨_, by rw [ht]; exact h.1.sub [0] rfl⟩⟩, h.2.F ht⟩) h.2.2.2 dX4_letter_42 hlk
  refine lv_iload hx hb dX4_letter_26 (lv_at hl 4 rfl) ?_
  refine lv_iconst (v := nI 0) hx hb dX4_letter_28 (by decide) ?_
  refine lv_bipush (v := nI 30) hx hb dX4_letter_29 (by decide) ?_
  refine m_cSI C0 h hl.1 (ct_X4_is l k 4 _ hJ _ _ _) gX4_letter_X4_is rfl (by decide +kernel) (n := 3) ⟨Nat.le_of_ble_eq_true rfl, Nat.le_of_ble_eq_true rfl⟩ ⟨Nat.le_of_ble_eq_true rfl, Nat.le_of_ble_eq_true rfl⟩ (Nat.le_of_ble_eq_true rfl) rfl rfl dX4_letter_31 (fun r31 I31 H locs hp h => ?_)
  obtain ⟨rfl, hI31⟩ := hp
  rw [hI31] at h
  refine lv_if_ne (tgt := 43) hx hb dX4_letter_34 (by decide) (fun c_34 => ?_) (fun c_34 => ?_)
  · refine lv_aload_n hx hb dX4_letter_43 rfl (lv_at hl 0 rfl) ?_
    refine m_get (T := TX4) (N := 8) C0 h 0 (by omega) (cm0 k 4 _) hin rfl 1 (by decide) (by decide +kernel) rfl rfl dX4_letter_44 ?_
    have hin1 : ∀ w ∈ u_ws RJx4a65c TJx4a65c 3, w ∈ wsX4_letter := by decide +kernel
    refine m_cVI C0 h hl.1 1 (by omega) (cm1 k 4 _ (by decide)) rfl (ct_Jx4a65c_size_8abf5 l k 4 _ hJ 1 (by decide) (by decide)) gX4_letter_Jx4a65c_size_8abf5 rfl (by decide +kernel) (n := 0) ⟨Nat.le_of_ble_eq_true rfl, Nat.le_of_ble_eq_true rfl⟩ ⟨Nat.le_of_ble_eq_true rfl, Nat.le_of_ble_eq_true rfl⟩ (Nat.le_of_ble_eq_true rfl) rfl rfl dX4_letter_47 (fun r47 I47 H locs hp h => ?_)
    obtain ⟨rfl, hI47⟩ := hp
    rw [hI47] at h
    rw [IZ_up 1 2 (by decide)]
    refine lv_bipush (v := nI 20) hx hb dX4_letter_50 (by decide) ?_
    refine lv_icmp_ne (tgt := 61) hx hb dX4_letter_52 (by decide) (fun _ => ?_) (fun c1 => absurd c1 (by decide))
    have hP : va_P k.1 clM (w4 (k.2.1 0) (k.2.1 1) (k.2.1 2) (k.2.1 3) (k.2.1 4) (nI 0) .null .null 0 0) H := h.1
    have hS := h.2
    have hD : va_D (AXm k 4 s.heap.size) (w4 (k.2.1 0) (k.2.1 1) (k.2.1 2) (k.2.1 3) (k.2.1 4) (nI 0) .null .null 0 0) := wm_D (I := (up2 IZ 0 0 (nI 0))) hJ hAn
    have hK : va_K k.1 clM [] s := hK
    refine lv_bipush (v := nI 13) hx hb dX4_letter_61 (by decide) ?_
    refine va_newa (atype := .int) (a0 := (13, .inl zI)) (ty := .int) hx hb (hts (.arrayClass .int) (by decide +kernel)) rfl hK hP hD hS hA (fun _ => rfl) (by decide) (N' := 13) (by decide +kernel) (by decide) (Nat.le_of_ble_eq_true rfl) (Nat.le_of_ble_eq_true rfl) dX4_letter_63 (fun q cA H hK1 hP hD hS => ?_)
    refine lv_dup hx hb dX4_letter_65 rfl ?_
    refine lv_iconst (v := nI 0) hx hb dX4_letter_66 (by decide) ?_
    refine lv_iload_n hx hb dX4_letter_67 rfl (lv_at hl 1 rfl) ?_
    refine va_iast hx hb hK1 hP hD hS 4 0 rfl rfl (vp_in_nI (by omega) (by omega)) dX4_letter_68 (fun H locs hP hD hS => ?_)
    obtain ⟨f0, hP, hD⟩ : ∃ f9 : Nat → Int32, va_P k.1 clM ((w4 (k.2.1 0) (k.2.1 1) (k.2.1 2) (k.2.1 3) (k.2.1 4) (nI 0) .null .null 0 0) ++ [(q, .inl (cA, 13, .inl f9))]) H ∧ va_D (AXm k 4 s.heap.size) ((w4 (k.2.1 0) (k.2.1 1) (k.2.1 2) (k.2.1 3) (k.2.1 4) (nI 0) .null .null 0 0) ++ [(q, .inl (cA, 13, .inl f9))]) := ⟨_, hP, hD⟩
    refine lv_dup hx hb dX4_letter_69 rfl ?_
    refine lv_iconst (v := nI 1) hx hb dX4_letter_70 (by decide) ?_
    refine lv_iload_n hx hb dX4_letter_71 rfl (lv_at hl 2 rfl) ?_
    refine va_iast hx hb hK1 hP hD hS 4 0 rfl rfl (vp_in_nI (by omega) (by omega)) dX4_letter_72 (fun H locs hP hD hS => ?_)
    obtain ⟨f1, hP, hD⟩ : ∃ f9 : Nat → Int32, va_P k.1 clM ((w4 (k.2.1 0) (k.2.1 1) (k.2.1 2) (k.2.1 3) (k.2.1 4) (nI 0) .null .null 0 0) ++ [(q, .inl (cA, 13, .inl f9))]) H ∧ va_D (AXm k 4 s.heap.size) ((w4 (k.2.1 0) (k.2.1 1) (k.2.1 2) (k.2.1 3) (k.2.1 4) (nI 0) .null .null 0 0) ++ [(q, .inl (cA, 13, .inl f9))]) := ⟨_, hP, hD⟩
    refine lv_dup hx hb dX4_letter_73 rfl ?_
    refine lv_iconst (v := nI 2) hx hb dX4_letter_74 (by decide) ?_
    refine lv_iload_n hx hb dX4_letter_75 rfl (lv_at hl 3 rfl) ?_
    refine va_iast hx hb hK1 hP hD hS 4 0 rfl rfl (vp_in_nI (by omega) (by omega)) dX4_letter_76 (fun H locs hP hD hS => ?_)
    obtain ⟨f2, hP, hD⟩ : ∃ f9 : Nat → Int32, va_P k.1 clM ((w4 (k.2.1 0) (k.2.1 1) (k.2.1 2) (k.2.1 3) (k.2.1 4) (nI 0) .null .null 0 0) ++ [(q, .inl (cA, 13, .inl f9))]) H ∧ va_D (AXm k 4 s.heap.size) ((w4 (k.2.1 0) (k.2.1 1) (k.2.1 2) (k.2.1 3) (k.2.1 4) (nI 0) .null .null 0 0) ++ [(q, .inl (cA, 13, .inl f9))]) := ⟨_, hP, hD⟩
    refine lv_dup hx hb dX4_letter_77 rfl ?_
    refine lv_iconst (v := nI 3) hx hb dX4_letter_78 (by decide) ?_
    refine lv_iload hx hb dX4_letter_79 (lv_at hl 4 rfl) ?_
    refine va_iast hx hb hK1 hP hD hS 4 0 rfl rfl (vp_in_nI (by omega) (by omega)) dX4_letter_81 (fun H locs hP hD hS => ?_)
    obtain ⟨f3, hP, hD⟩ : ∃ f9 : Nat → Int32, va_P k.1 clM ((w4 (k.2.1 0) (k.2.1 1) (k.2.1 2) (k.2.1 3) (k.2.1 4) (nI 0) .null .null 0 0) ++ [(q, .inl (cA, 13, .inl f9))]) H ∧ va_D (AXm k 4 s.heap.size) ((w4 (k.2.1 0) (k.2.1 1) (k.2.1 2) (k.2.1 3) (k.2.1 4) (nI 0) .null .null 0 0) ++ [(q, .inl (cA, 13, .inl f9))]) := ⟨_, hP, hD⟩
    refine lv_dup hx hb dX4_letter_82 rfl ?_
    refine lv_iconst (v := nI 4) hx hb dX4_letter_83 (by decide) ?_
    refine lv_iconst (v := nI 0) hx hb dX4_letter_84 (by decide) ?_
    refine va_iast hx hb hK1 hP hD hS 4 0 rfl rfl (vp_in_nI (by omega) (by omega)) dX4_letter_85 (fun H locs hP hD hS => ?_)
    obtain ⟨f4, hP, hD⟩ : ∃ f9 : Nat → Int32, va_P k.1 clM ((w4 (k.2.1 0) (k.2.1 1) (k.2.1 2) (k.2.1 3) (k.2.1 4) (nI 0) .null .null 0 0) ++ [(q, .inl (cA, 13, .inl f9))]) H ∧ va_D (AXm k 4 s.heap.size) ((w4 (k.2.1 0) (k.2.1 1) (k.2.1 2) (k.2.1 3) (k.2.1 4) (nI 0) .null .null 0 0) ++ [(q, .inl (cA, 13, .inl f9))]) := ⟨_, hP, hD⟩
    refine lv_dup hx hb dX4_letter_86 rfl ?_
    refine lv_iconst (v := nI 5) hx hb dX4_letter_87 (by decide) ?_
    refine lv_sipush (v := nI 999) hx hb dX4_letter_88 (by decide) ?_
    refine va_iast hx hb hK1 hP hD hS 4 0 rfl rfl (vp_in_nI (by omega) (by omega)) dX4_letter_91 (fun H locs hP hD hS => ?_)
    obtain ⟨f5, hP, hD⟩ : ∃ f9 : Nat → Int32, va_P k.1 clM ((w4 (k.2.1 0) (k.2.1 1) (k.2.1 2) (k.2.1 3) (k.2.1 4) (nI 0) .null .null 0 0) ++ [(q, .inl (cA, 13, .inl f9))]) H ∧ va_D (AXm k 4 s.heap.size) ((w4 (k.2.1 0) (k.2.1 1) (k.2.1 2) (k.2.1 3) (k.2.1 4) (nI 0) .null .null 0 0) ++ [(q, .inl (cA, 13, .inl f9))]) := ⟨_, hP, hD⟩
    refine lv_dup hx hb dX4_letter_92 rfl ?_
    refine lv_bipush (v := nI 6) hx hb dX4_letter_93 (by decide) ?_
    refine lv_iconst (v := nI 0) hx hb dX4_letter_95 (by decide) ?_
    refine va_iast hx hb hK1 hP hD hS 4 0 rfl rfl (vp_in_nI (by omega) (by omega)) dX4_letter_96 (fun H locs hP hD hS => ?_)
    obtain ⟨f6, hP, hD⟩ : ∃ f9 : Nat → Int32, va_P k.1 clM ((w4 (k.2.1 0) (k.2.1 1) (k.2.1 2) (k.2.1 3) (k.2.1 4) (nI 0) .null .null 0 0) ++ [(q, .inl (cA, 13, .inl f9))]) H ∧ va_D (AXm k 4 s.heap.size) ((w4 (k.2.1 0) (k.2.1 1) (k.2.1 2) (k.2.1 3) (k.2.1 4) (nI 0) .null .null 0 0) ++ [(q, .inl (cA, 13, .inl f9))]) := ⟨_, hP, hD⟩
    refine lv_dup hx hb dX4_letter_97 rfl ?_
    refine lv_bipush (v := nI 7) hx hb dX4_letter_98 (by decide) ?_
    refine lv_iconst (v := nI 0) hx hb dX4_letter_100 (by decide) ?_
    refine va_iast hx hb hK1 hP hD hS 4 0 rfl rfl (vp_in_nI (by omega) (by omega)) dX4_letter_101 (fun H locs hP hD hS => ?_)
    obtain ⟨f7, hP, hD⟩ : ∃ f9 : Nat → Int32, va_P k.1 clM ((w4 (k.2.1 0) (k.2.1 1) (k.2.1 2) (k.2.1 3) (k.2.1 4) (nI 0) .null .null 0 0) ++ [(q, .inl (cA, 13, .inl f9))]) H ∧ va_D (AXm k 4 s.heap.size) ((w4 (k.2.1 0) (k.2.1 1) (k.2.1 2) (k.2.1 3) (k.2.1 4) (nI 0) .null .null 0 0) ++ [(q, .inl (cA, 13, .inl f9))]) := ⟨_, hP, hD⟩
    refine lv_dup hx hb dX4_letter_102 rfl ?_
    refine lv_bipush (v := nI 8) hx hb dX4_letter_103 (by decide) ?_
    refine lv_bipush (v := nI 15) hx hb dX4_letter_105 (by decide) ?_
    refine va_iast hx hb hK1 hP hD hS 4 0 rfl rfl (vp_in_nI (by omega) (by omega)) dX4_letter_107 (fun H locs hP hD hS => ?_)
    obtain ⟨f8, hP, hD⟩ : ∃ f9 : Nat → Int32, va_P k.1 clM ((w4 (k.2.1 0) (k.2.1 1) (k.2.1 2) (k.2.1 3) (k.2.1 4) (nI 0) .null .null 0 0) ++ [(q, .inl (cA, 13, .inl f9))]) H ∧ va_D (AXm k 4 s.heap.size) ((w4 (k.2.1 0) (k.2.1 1) (k.2.1 2) (k.2.1 3) (k.2.1 4) (nI 0) .null .null 0 0) ++ [(q, .inl (cA, 13, .inl f9))]) := ⟨_, hP, hD⟩
    refine lv_dup hx hb dX4_letter_108 rfl ?_
    refine lv_bipush (v := nI 9) hx hb dX4_letter_109 (by decide) ?_
    refine lv_iconst (v := nI 0) hx hb dX4_letter_111 (by decide) ?_
    refine va_iast hx hb hK1 hP hD hS 4 0 rfl rfl (vp_in_nI (by omega) (by omega)) dX4_letter_112 (fun H locs hP hD hS => ?_)
    obtain ⟨f9, hP, hD⟩ : ∃ f9 : Nat → Int32, va_P k.1 clM ((w4 (k.2.1 0) (k.2.1 1) (k.2.1 2) (k.2.1 3) (k.2.1 4) (nI 0) .null .null 0 0) ++ [(q, .inl (cA, 13, .inl f9))]) H ∧ va_D (AXm k 4 s.heap.size) ((w4 (k.2.1 0) (k.2.1 1) (k.2.1 2) (k.2.1 3) (k.2.1 4) (nI 0) .null .null 0 0) ++ [(q, .inl (cA, 13, .inl f9))]) := ⟨_, hP, hD⟩
    refine lv_dup hx hb dX4_letter_113 rfl ?_
    refine lv_bipush (v := nI 10) hx hb dX4_letter_114 (by decide) ?_
    refine lv_iconst (v := nI 0) hx hb dX4_letter_116 (by decide) ?_
    refine va_iast hx hb hK1 hP hD hS 4 0 rfl rfl (vp_in_nI (by omega) (by omega)) dX4_letter_117 (fun H locs hP hD hS => ?_)
    obtain ⟨f10, hP, hD⟩ : ∃ f9 : Nat → Int32, va_P k.1 clM ((w4 (k.2.1 0) (k.2.1 1) (k.2.1 2) (k.2.1 3) (k.2.1 4) (nI 0) .null .null 0 0) ++ [(q, .inl (cA, 13, .inl f9))]) H ∧ va_D (AXm k 4 s.heap.size) ((w4 (k.2.1 0) (k.2.1 1) (k.2.1 2) (k.2.1 3) (k.2.1 4) (nI 0) .null .null 0 0) ++ [(q, .inl (cA, 13, .inl f9))]) := ⟨_, hP, hD⟩
    refine lv_dup hx hb dX4_letter_118 rfl ?_
    refine lv_bipush (v := nI 11) hx hb dX4_letter_119 (by decide) ?_
    refine lv_iconst (v := nI 0) hx hb dX4_letter_121 (by decide) ?_
    refine va_iast hx hb hK1 hP hD hS 4 0 rfl rfl (vp_in_nI (by omega) (by omega)) dX4_letter_122 (fun H locs hP hD hS => ?_)
    obtain ⟨f11, hP, hD⟩ : ∃ f9 : Nat → Int32, va_P k.1 clM ((w4 (k.2.1 0) (k.2.1 1) (k.2.1 2) (k.2.1 3) (k.2.1 4) (nI 0) .null .null 0 0) ++ [(q, .inl (cA, 13, .inl f9))]) H ∧ va_D (AXm k 4 s.heap.size) ((w4 (k.2.1 0) (k.2.1 1) (k.2.1 2) (k.2.1 3) (k.2.1 4) (nI 0) .null .null 0 0) ++ [(q, .inl (cA, 13, .inl f9))]) := ⟨_, hP, hD⟩
    refine lv_dup hx hb dX4_letter_123 rfl ?_
    refine lv_bipush (v := nI 12) hx hb dX4_letter_124 (by decide) ?_
    refine lv_iconst (v := nI 0) hx hb dX4_letter_126 (by decide) ?_
    refine va_iast hx hb hK1 hP hD hS 4 0 rfl rfl (vp_in_nI (by omega) (by omega)) dX4_letter_127 (fun H locs hP hD hS => ?_)
    obtain ⟨f12, hP, hD⟩ : ∃ f9 : Nat → Int32, va_P k.1 clM ((w4 (k.2.1 0) (k.2.1 1) (k.2.1 2) (k.2.1 3) (k.2.1 4) (nI 0) .null .null 0 0) ++ [(q, .inl (cA, 13, .inl f9))]) H ∧ va_D (AXm k 4 s.heap.size) ((w4 (k.2.1 0) (k.2.1 1) (k.2.1 2) (k.2.1 3) (k.2.1 4) (nI 0) .null .null 0 0) ++ [(q, .inl (cA, 13, .inl f9))]) := ⟨_, hP, hD⟩
    refine lv_astore hx hb dX4_letter_128 hl (by decide) rfl (fun ls hl => ?_)
    have hl : lv_has ls 6 [(5, .ref q), (0, .ref (k.2.1 0)), (1, .int a), (2, .int b), (3, .int y), (4, .int n)] := hl
    refine lv_aload_n hx hb dX4_letter_130 rfl (lv_at hl 1 rfl) ?_
    refine va_get (ci := 0) (C := RX4) (T := TX4) (N := 8) (v := .ref (k.2.1 1)) hx hb hts hin hown hK hP 0 rfl rfl 1 (by decide) (hts (.fieldLink RX4 10 "SignetRoomModel" "letters" "Ljava/util/ArrayList;") (by decide +kernel)) (fun _ h9 => h9) rfl dX4_letter_131 ?_
    refine lv_aload hx hb dX4_letter_134 (lv_at hl 0 rfl) ?_
    have hV := any_arr hK1 hP 4 0 rfl rfl hO.2
    have hO1 := hO.1
    have hrc := va_recv hK hP (ci := 1) (q0 := 1) rfl rfl
    refine va_calli (va_runV (As := [.ref q]) (rest := []) ⟨hx, hb, hml, hown, hts⟩ (je_add l k.1 (k.2.1 1) 0 (k.2.1 4) q (fun e9 => absurd (hD.1 4 1 (q, _) (k.2.1 1, _) rfl rfl e9) (by decide)) H.size) (cwV 1 hts gX4_letter_Jx4a65c_add_9ea2d rfl rfl rfl (by decide +kernel) ⟨Nat.le_of_ble_eq_true rfl, Nat.le_of_ble_eq_true rfl⟩) ⟨fun a9 U g mk q => ⟨q.1, q.2.1, q.2.2.1, va_K.moved (u := U) (U := U.calling g mk a9) (Vm.Alike.refl U.vm) q.2.2.2.1, ZL.same (u := U) (U := U.calling g mk a9) rfl rfl q.2.2.2.2.1, va_AO.moved (u := U) (U := U.calling g mk a9) (Vm.Alike.refl U.vm) q.2.2.2.2.2.1, any_go (s := U) (U := U.calling g mk a9) q.2.2.2.2.2.2 (Vm.Alike.refl U.vm)⟩, hrc, fun U hU hW => ⟨rfl, by rw [hU], by rw [hU]; exact hP.sub [1] rfl, va_K.moved hW.alike hK, hZ.go hW (fun z h1 h2 => by rw [hU] <;> exact hS.2.1 z h1 h2) (free1 hD (j := 1) rfl hA hS.1), va_AO.moved hW.alike hO1, by rw [hU]; exact any_go (hV) hW.alike⟩⟩ rfl rfl hl.1 rfl (lv_room (Nat.le_of_ble_eq_true rfl)) dX4_letter_136 ⟨Nat.le_of_ble_eq_true rfl, Nat.le_of_ble_eq_true rfl⟩) hS (fun z _ h => (free1 hD (j := 1) rfl hA hS.1) z h) (free1 hD (j := 1) rfl hA hS.1) (fun rv u t H1 locs ht hvm hw hB hz1 hk1 hS => ?_)
    subst hw
    obtain ⟨q9, hB⟩ := hB
    rw [ht] at hB
    refine lv_pop hx hb dX4_letter_139 rfl ?_
    have hP : va_P k.1 clM [(k.2.1 0, eX (nI 0) (k.2.1 1) (k.2.1 2) .null .null (k.2.1 3) 0), (k.2.1 1, .inr (1, [.int (nI (0 + 1)), .ref q9, .int (nI 1)])), (k.2.1 2, eA 0 (k.2.1 4) 0), (k.2.1 3, eA 0 (k.2.1 4) 0), (q, .inl (cA, 13, .inl f12))] H1 := P_call1 hP hD (j := 1) rfl hB hk1
    have hD : va_D (AXm k 4 s.heap.size) [(k.2.1 0, eX (nI 0) (k.2.1 1) (k.2.1 2) .null .null (k.2.1 3) 0), (k.2.1 1, .inr (1, [.int (nI (0 + 1)), .ref q9, .int (nI 1)])), (k.2.1 2, eA 0 (k.2.1 4) 0), (k.2.1 3, eA 0 (k.2.1 4) 0), (q, .inl (cA, 13, .inl f12))] := D_set hD (j := 1) rfl
    refine lv_aload_n hx hb dX4_letter_140 rfl (lv_at hl 1 rfl) ?_
    have hrc := va_recv hK hP (ci := 0) (q0 := 0) rfl rfl
    refine va_callv (va_runV (As := []) (rest := []) ⟨hx, hb, hml, hown, hts⟩ (je_forget l k.1 (k.2.1 0) (k.2.1 1) (k.2.1 2) (k.2.1 3) (nI 0) .null .null 0 H1.size) (cwV 0 hts gX4_letter_X4_forget rfl rfl rfl (by decide +kernel) ⟨Nat.le_of_ble_eq_true rfl, Nat.le_of_ble_eq_true rfl⟩) ⟨fun a9 U g mk q => ⟨q.1, q.2.1, q.2.2.1, va_K.moved (u := U) (U := U.calling g mk a9) (Vm.Alike.refl U.vm) q.2.2.2⟩, hrc, fun U hU hW => ⟨rfl, by rw [hU], by rw [hU]; exact hP.sub [0] rfl, va_K.moved hW.alike hK⟩⟩ rfl rfl hl.1 rfl (lv_room (Nat.le_of_ble_eq_true rfl)) dX4_letter_141 ⟨Nat.le_of_ble_eq_true rfl, Nat.le_of_ble_eq_true rfl⟩) hS (fun z _ h => (free1 hD (j := 0) rfl hA hS.1) z h) (free1 hD (j := 0) rfl hA hS.1) (fun u t H1 locs ht hvm hw hB hz1 hk1 hS => ?_)
    rw [ht] at hB
    have hP : va_P k.1 clM [(k.2.1 0, eX (nI 0) (k.2.1 1) (k.2.1 2) .null .null (k.2.1 3) 0), (k.2.1 1, .inr (1, [.int (nI (0 + 1)), .ref q9, .int (nI 1)])), (k.2.1 2, eA 0 (k.2.1 4) 0), (k.2.1 3, eA 0 (k.2.1 4) 0), (q, .inl (cA, 13, .inl f12))] H1 := P_call1 hP hD (j := 0) rfl hB hk1
    refine lv_aload_n hx hb dX4_letter_144 rfl (lv_at hl 1 rfl) ?_
    refine va_get (ci := 0) (C := RX4) (T := TX4) (N := 8) (v := .ref (k.2.1 1)) hx hb hts hin hown hK hP 0 rfl rfl 1 (by decide) (hts (.fieldLink RX4 10 "SignetRoomModel" "letters" "Ljava/util/ArrayList;") (by decide +kernel)) (fun _ h9 => h9) rfl dX4_letter_145 ?_
    have hrc := va_recv hK hP (ci := 1) (q0 := 1) rfl rfl
    refine va_calli (va_runV (As := []) (rest := []) ⟨hx, hb, hml, hown, hts⟩ (je_size l k.1 (k.2.1 1) 1 q9 1 H1.size) (cwV 0 hts gX4_letter_Jx4a65c_size_8abf5 rfl rfl rfl (by decide +kernel) ⟨Nat.le_of_ble_eq_true rfl, Nat.le_of_ble_eq_true rfl⟩) ⟨fun a9 U g mk q => ⟨q.1, q.2.1, q.2.2.1, va_K.moved (u := U) (U := U.calling g mk a9) (Vm.Alike.refl U.vm) q.2.2.2⟩, hrc, fun U hU hW => ⟨rfl, by rw [hU], by rw [hU]; exact hP.sub [1] rfl, va_K.moved hW.alike hK⟩⟩ rfl rfl hl.1 rfl (lv_room (Nat.le_of_ble_eq_true rfl)) dX4_letter_148 ⟨Nat.le_of_ble_eq_true rfl, Nat.le_of_ble_eq_true rfl⟩) hS (fun z _ h => (freeN hA hS.1) z h) (freeN hA hS.1) (fun rv u t H1 locs ht hvm hw hB hz1 hk1 hS => ?_)
    subst hw
    have hP := P_new hP hk1
    refine lv_iconst (v := nI 1) hx hb dX4_letter_151 (by decide) ?_
    refine lv_isub hx hb dX4_letter_152 ?_
    refine W.widen (k := 2) (n := 23) (Nat.le_of_ble_eq_true rfl) (Nat.le_of_ble_eq_true rfl) ?_
    exact W.iret hx hb hr (fun t ht hW => ⟨⟨_, nI 0, rfl, by dsimp only; rw [if_pos ⟨bI_nz c_9, bI_nz c_16, bI_nz c_23, bI_nz c_34⟩]; exact ⟨rfl, by decide⟩, ⟨_, by rw [ht]; exact hP.sub [0] rfl⟩⟩, hS.F ht⟩) hS.2.2 dX4_letter_153 hlk
  · refine lv_aload_n hx hb dX4_letter_37 rfl (lv_at hl 0 rfl) ?_
    refine lv_iconst (v := nI 1) hx hb dX4_letter_38 (by decide) ?_
    refine m_cVI C0 h hl.1 0 (by omega) (cm0 k 4 _) rfl (ct_X4_refuse l k 4 _ hJ (nI 1)) gX4_letter_X4_refuse rfl (by decide +kernel) (n := 1) ⟨Nat.le_of_ble_eq_true rfl, Nat.le_of_ble_eq_true rfl⟩ ⟨Nat.le_of_ble_eq_true rfl, Nat.le_of_ble_eq_true rfl⟩ (Nat.le_of_ble_eq_true rfl) rfl rfl dX4_letter_39 (fun r99 I99 H locs hp h => ?_)
    obtain ⟨rfl, hI99⟩ := hp
    rw [hI99] at h
    refine W.widen (k := 2) (n := 23) (Nat.le_of_ble_eq_true rfl) (Nat.le_of_ble_eq_true rfl) ?_
    exact W.iret hx hb hr (fun t ht hW => ⟨⟨_, nI 1, rfl, by dsimp only; rw [if_neg (fun z => by rw [bI_z c_34] at z; exact absurd z.2.2.2 (by decide))], ⟨_, by rw [ht]; exact h.1.sub [0] rfl⟩⟩, h.2.F ht⟩) h.2.2.2 dX4_letter_42 hlk
set_option maxHeartbeats 4000000 in
set_option maxRecDepth 100000 in
/-- list() on the empty state -/
theorem je_list (l : Launch) (k : Sk) (hJ : IjM k 4) (a b y : Int32) (sz : Nat) : Met l yX4_list wsX4_list (RmA 6 2 15) (PcZ k sz [.ref (k.2.1 0), .int a, .int b, .int y] (fun U => XA k sz U)) ((va_Qi (fun r v => if (isNm a = true ∧ isW b (nI 999) = true ∧ isW y (nI 999) = true ∧ ¬ y < b) then v = nI 0 ∧ r = nI 0 else v = nI 1) (BX k) (AXm k 4 sz))) 2 15 (AXm k 4 sz) := by
  refine Met.ofW (cc := cX4_list) (maxL := 5) (ret := some .int) (by decide) rfl ?_
  intro p e s m args below meth c s₁ B hml hv
  obtain ⟨rfl, rfl, hP, hK, hZ, hO⟩ := hv
  have hts := atoms_spec (ws := wsX4_list) B.pre
  have hx := B.exec
  have hb := B.bytes
  have hr := B.returns
  have hlk := B.notSynchronized
  have hown : s.vm.findClass RX4 = some m.cls := findClass_of_methodNamed B.named
  have hl := lv_entry ([.ref (k.2.1 0), .int a, .int b, .int y]) (n := 5) (Nat.le_of_ble_eq_true rfl)
  rw [lg_entry_eq]
  generalize (lg_sl ([.ref (k.2.1 0), .int a, .int b, .int y]) ++ List.replicate (5 - (lg_sl ([.ref (k.2.1 0), .int a, .int b, .int y])).length) Slot.unset).toArray = ls at hl ⊢
  have hl : lv_has ls 5 [(0, .ref (k.2.1 0)), (1, .int a), (2, .int b), (3, .int y)] := hl
  have hin : ∀ w ∈ u_ws RX4 TX4 8, w ∈ wsX4_list := by decide +kernel
  have hA : ∀ q : Nat, s.heap.size ≤ q → AXm k 4 s.heap.size q := fun q h => Or.inr h
  have hAn : ∀ n, n < 4 → AXm k 4 s.heap.size (k.2.1 n) := fun n h => Or.inl ⟨n, h, rfl⟩
  have C0 : CXm p s m ([.ref (k.2.1 0), .int a, .int b, .int y]).toArray c cX4_list 5 wsX4_list RX4 k 4 (AXm k 4 s.heap.size) := ⟨⟨hx, hb, hml, hown, hts⟩, trivial, hK, hJ, hAn, hA⟩
  have h : HXm k 4 (AXm k 4 s.heap.size) s IZ s.heap [] := ⟨hP, va_S.rf⟩
  refine lv_aload_n hx hb dX4_list_0 rfl (lv_at hl 0 rfl) ?_
  refine lv_iconst (v := nI 0) hx hb dX4_list_1 (by decide) ?_
  refine m_put (T := TX4) (N := 8) (ty0 := tyX4) C0 h 0 (by omega) (cm0 k 4 _) hin tyX4_ok nmX4 rfl 0 (by decide) (by decide +kernel) rfl rfl rfl rfl (Nat.le_of_ble_eq_true rfl) (cm0 k 4 _) dX4_list_2 (fun H locs h => ?_)
  refine lv_iload_n hx hb dX4_list_5 rfl (lv_at hl 1 rfl) ?_
  refine m_cSI C0 h hl.1 (ct_X4_isName l k 4 _ hJ _) gX4_list_X4_isName rfl (by decide +kernel) (n := 1) ⟨Nat.le_of_ble_eq_true rfl, Nat.le_of_ble_eq_true rfl⟩ ⟨Nat.le_of_ble_eq_true rfl, Nat.le_of_ble_eq_true rfl⟩ (Nat.le_of_ble_eq_true rfl) rfl rfl dX4_list_6 (fun r6 I6 H locs hp h => ?_)
  obtain ⟨rfl, hI6⟩ := hp
  rw [hI6] at h
  refine lv_if_eq (tgt := 31) hx hb dX4_list_9 (by decide) (fun c_9 => ?_) (fun c_9 => ?_)
  · refine lv_aload_n hx hb dX4_list_31 rfl (lv_at hl 0 rfl) ?_
    refine lv_iconst (v := nI 1) hx hb dX4_list_32 (by decide) ?_
    refine m_cVI C0 h hl.1 0 (by omega) (cm0 k 4 _) rfl (ct_X4_refuse l k 4 _ hJ (nI 1)) gX4_list_X4_refuse rfl (by decide +kernel) (n := 1) ⟨Nat.le_of_ble_eq_true rfl, Nat.le_of_ble_eq_true rfl⟩ ⟨Nat.le_of_ble_eq_true rfl, Nat.le_of_ble_eq_true rfl⟩ (Nat.le_of_ble_eq_true rfl) rfl rfl dX4_list_33 (fun r99 I99 H locs hp h => ?_)
    obtain ⟨rfl, hI99⟩ := hp
    rw [hI99] at h
    refine W.widen (k := 2) (n := 15) (Nat.le_of_ble_eq_true rfl) (Nat.le_of_ble_eq_true rfl) ?_
    exact W.iret hx hb hr (fun t ht hW => ⟨⟨_, nI 1, rfl, by dsimp only; rw [if_neg (fun z => by rw [bI_z c_9] at z; exact absurd z.1 (by decide))], ⟨_, by rw [ht]; exact h.1.sub [0] rfl⟩⟩, h.2.F ht⟩) h.2.2.2 dX4_list_36 hlk
  refine lv_iload_n hx hb dX4_list_12 rfl (lv_at hl 2 rfl) ?_
  refine m_cSI C0 h hl.1 (ct_X4_isTime l k 4 _ hJ _) gX4_list_X4_isTime rfl (by decide +kernel) (n := 1) ⟨Nat.le_of_ble_eq_true rfl, Nat.le_of_ble_eq_true rfl⟩ ⟨Nat.le_of_ble_eq_true rfl, Nat.le_of_ble_eq_true rfl⟩ (Nat.le_of_ble_eq_true rfl) rfl rfl dX4_list_13 (fun r13 I13 H locs hp h => ?_)
  obtain ⟨rfl, hI13⟩ := hp
  rw [hI13] at h
  refine lv_if_eq (tgt := 31) hx hb dX4_list_16 (by decide) (fun c_16 => ?_) (fun c_16 => ?_)
  · refine lv_aload_n hx hb dX4_list_31 rfl (lv_at hl 0 rfl) ?_
    refine lv_iconst (v := nI 1) hx hb dX4_list_32 (by decide) ?_
    refine m_cVI C0 h hl.1 0 (by omega) (cm0 k 4 _) rfl (ct_X4_refuse l k 4 _ hJ (nI 1)) gX4_list_X4_refuse rfl (by decide +kernel) (n := 1) ⟨Nat.le_of_ble_eq_true rfl, Nat.le_of_ble_eq_true rfl⟩ ⟨Nat.le_of_ble_eq_true rfl, Nat.le_of_ble_eq_true rfl⟩ (Nat.le_of_ble_eq_true rfl) rfl rfl dX4_list_33 (fun r99 I99 H locs hp h => ?_)
    obtain ⟨rfl, hI99⟩ := hp
    rw [hI99] at h
    refine W.widen (k := 2) (n := 15) (Nat.le_of_ble_eq_true rfl) (Nat.le_of_ble_eq_true rfl) ?_
    exact W.iret hx hb hr (fun t ht hW => ⟨⟨_, nI 1, rfl, by dsimp only; rw [if_neg (fun z => by rw [bI_z c_16] at z; exact absurd z.2.1 (by decide))], ⟨_, by rw [ht]; exact h.1.sub [0] rfl⟩⟩, h.2.F ht⟩) h.2.2.2 dX4_list_36 hlk
  refine lv_iload_n hx hb dX4_list_19 rfl (lv_at hl 3 rfl) ?_
  refine m_cSI C0 h hl.1 (ct_X4_isTime l k 4 _ hJ _) gX4_list_X4_isTime rfl (by decide +kernel) (n := 1) ⟨Nat.le_of_ble_eq_true rfl, Nat.le_of_ble_eq_true rfl⟩ ⟨Nat.le_of_ble_eq_true rfl, Nat.le_of_ble_eq_true rfl⟩ (Nat.le_of_ble_eq_true rfl) rfl rfl dX4_list_20 (fun r20 I20 H locs hp h => ?_)
  obtain ⟨rfl, hI20⟩ := hp
  rw [hI20] at h
  refine lv_if_eq (tgt := 31) hx hb dX4_list_23 (by decide) (fun c_23 => ?_) (fun c_23 => ?_)
  · refine lv_aload_n hx hb dX4_list_31 rfl (lv_at hl 0 rfl) ?_
    refine lv_iconst (v := nI 1) hx hb dX4_list_32 (by decide) ?_
    refine m_cVI C0 h hl.1 0 (by omega) (cm0 k 4 _) rfl (ct_X4_refuse l k 4 _ hJ (nI 1)) gX4_list_X4_refuse rfl (by decide +kernel) (n := 1) ⟨Nat.le_of_ble_eq_true rfl, Nat.le_of_ble_eq_true rfl⟩ ⟨Nat.le_of_ble_eq_true rfl, Nat.le_of_ble_eq_true rfl⟩ (Nat.le_of_ble_eq_true rfl) rfl rfl dX4_list_33 (fun r99 I99 H locs hp h => ?_)
    obtain ⟨rfl, hI99⟩ := hp
    rw [hI99] at h
    refine W.widen (k := 2) (n := 15) (Nat.le_of_ble_eq_true rfl) (Nat.le_of_ble_eq_true rfl) ?_
    exact W.iret hx hb hr (fun t ht hW => ⟨⟨_, nI 1, rfl, by dsimp only; rw [if_neg (fun z => by rw [bI_z c_23] at z; exact absurd z.2.2.1 (by decide))], ⟨_, by rw [ht]; exact h.1.sub [0] rfl⟩⟩, h.2.F ht⟩) h.2.2.2 dX4_list_36 hlk
  refine lv_iload_n hx hb dX4_list_26 rfl (lv_at hl 3 rfl) ?_
  refine lv_iload_n hx hb dX4_list_27 rfl (lv_at hl 2 rfl) ?_
  refine lv_icmp_ge (tgt := 37) hx hb dX4_list_28 (by decide) (fun c_28 => ?_) (fun c_28 => ?_)
  · refine lv_aload_n hx hb dX4_list_37 rfl (lv_at hl 0 rfl) ?_
    refine m_get (T := TX4) (N := 8) C0 h 0 (by omega) (cm0 k 4 _) hin rfl 2 (by decide) (by decide +kernel) rfl rfl dX4_list_38 ?_
    refine m_cVI C0 h hl.1 2 (by omega) (cm1 k 4 _ (by decide)) rfl (ct_Jx4a65c_size_8abf5 l k 4 _ hJ 2 (by decide) (by decide)) gX4_list_Jx4a65c_size_8abf5 rfl (by decide +kernel) (n := 0) ⟨Nat.le_of_ble_eq_true rfl, Nat.le_of_ble_eq_true rfl⟩ ⟨Nat.le_of_ble_eq_true rfl, Nat.le_of_ble_eq_true rfl⟩ (Nat.le_of_ble_eq_true rfl) rfl rfl dX4_list_41 (fun r41 I41 H locs hp h => ?_)
    obtain ⟨rfl, hI41⟩ := hp
    rw [hI41] at h
    rw [IZ_up 2 2 (by decide)]
    refine lv_bipush (v := nI 8) hx hb dX4_list_44 (by decide) ?_
    refine lv_icmp_ne (tgt := 55) hx hb dX4_list_46 (by decide) (fun _ => ?_) (fun c1 => absurd c1 (by decide))
    have hP : va_P k.1 clM (w4 (k.2.1 0) (k.2.1 1) (k.2.1 2) (k.2.1 3) (k.2.1 4) (nI 0) .null .null 0 0) H := h.1
    have hS := h.2
    have hD : va_D (AXm k 4 s.heap.size) (w4 (k.2.1 0) (k.2.1 1) (k.2.1 2) (k.2.1 3) (k.2.1 4) (nI 0) .null .null 0 0) := wm_D (I := (up2 IZ 0 0 (nI 0))) hJ hAn
    have hK : va_K k.1 clM [] s := hK
    refine lv_iconst (v := nI 5) hx hb dX4_list_55 (by decide) ?_
    refine va_newa (atype := .int) (a0 := (5, .inl zI)) (ty := .int) hx hb (hts (.arrayClass .int) (by decide +kernel)) rfl hK hP hD hS hA (fun _ => rfl) (by decide) (N' := 5) (by decide +kernel) (by decide) (Nat.le_of_ble_eq_true rfl) (Nat.le_of_ble_eq_true rfl) dX4_list_56 (fun q cA H hK1 hP hD hS => ?_)
    refine lv_dup hx hb dX4_list_58 rfl ?_
    refine lv_iconst (v := nI 0) hx hb dX4_list_59 (by decide) ?_
    refine lv_iload_n hx hb dX4_list_60 rfl (lv_at hl 1 rfl) ?_
    refine va_iast hx hb hK1 hP hD hS 4 0 rfl rfl (vp_in_nI (by omega) (by omega)) dX4_list_61 (fun H locs hP hD hS => ?_)
    obtain ⟨f0, hP, hD⟩ : ∃ f9 : Nat → Int32, va_P k.1 clM ((w4 (k.2.1 0) (k.2.1 1) (k.2.1 2) (k.2.1 3) (k.2.1 4) (nI 0) .null .null 0 0) ++ [(q, .inl (cA, 5, .inl f9))]) H ∧ va_D (AXm k 4 s.heap.size) ((w4 (k.2.1 0) (k.2.1 1) (k.2.1 2) (k.2.1 3) (k.2.1 4) (nI 0) .null .null 0 0) ++ [(q, .inl (cA, 5, .inl f9))]) := ⟨_, hP, hD⟩
    refine lv_dup hx hb dX4_list_62 rfl ?_
    refine lv_iconst (v := nI 1) hx hb dX4_list_63 (by decide) ?_
    refine lv_iload_n hx hb dX4_list_64 rfl (lv_at hl 2 rfl) ?_
    refine va_iast hx hb hK1 hP hD hS 4 0 rfl rfl (vp_in_nI (by omega) (by omega)) dX4_list_65 (fun H locs hP hD hS => ?_)
    obtain ⟨f1, hP, hD⟩ : ∃ f9 : Nat → Int32, va_P k.1 clM ((w4 (k.2.1 0) (k.2.1 1) (k.2.1 2) (k.2.1 3) (k.2.1 4) (nI 0) .null .null 0 0) ++ [(q, .inl (cA, 5, .inl f9))]) H ∧ va_D (AXm k 4 s.heap.size) ((w4 (k.2.1 0) (k.2.1 1) (k.2.1 2) (k.2.1 3) (k.2.1 4) (nI 0) .null .null 0 0) ++ [(q, .inl (cA, 5, .inl f9))]) := ⟨_, hP, hD⟩
    refine lv_dup hx hb dX4_list_66 rfl ?_
    refine lv_iconst (v := nI 2) hx hb dX4_list_67 (by decide) ?_
    refine lv_iload_n hx hb dX4_list_68 rfl (lv_at hl 3 rfl) ?_
    refine va_iast hx hb hK1 hP hD hS 4 0 rfl rfl (vp_in_nI (by omega) (by omega)) dX4_list_69 (fun H locs hP hD hS => ?_)
    obtain ⟨f2, hP, hD⟩ : ∃ f9 : Nat → Int32, va_P k.1 clM ((w4 (k.2.1 0) (k.2.1 1) (k.2.1 2) (k.2.1 3) (k.2.1 4) (nI 0) .null .null 0 0) ++ [(q, .inl (cA, 5, .inl f9))]) H ∧ va_D (AXm k 4 s.heap.size) ((w4 (k.2.1 0) (k.2.1 1) (k.2.1 2) (k.2.1 3) (k.2.1 4) (nI 0) .null .null 0 0) ++ [(q, .inl (cA, 5, .inl f9))]) := ⟨_, hP, hD⟩
    refine lv_dup hx hb dX4_list_70 rfl ?_
    refine lv_iconst (v := nI 3) hx hb dX4_list_71 (by decide) ?_
    refine lv_iconst (v := nI 0) hx hb dX4_list_72 (by decide) ?_
    refine va_iast hx hb hK1 hP hD hS 4 0 rfl rfl (vp_in_nI (by omega) (by omega)) dX4_list_73 (fun H locs hP hD hS => ?_)
    obtain ⟨f3, hP, hD⟩ : ∃ f9 : Nat → Int32, va_P k.1 clM ((w4 (k.2.1 0) (k.2.1 1) (k.2.1 2) (k.2.1 3) (k.2.1 4) (nI 0) .null .null 0 0) ++ [(q, .inl (cA, 5, .inl f9))]) H ∧ va_D (AXm k 4 s.heap.size) ((w4 (k.2.1 0) (k.2.1 1) (k.2.1 2) (k.2.1 3) (k.2.1 4) (nI 0) .null .null 0 0) ++ [(q, .inl (cA, 5, .inl f9))]) := ⟨_, hP, hD⟩
    refine lv_dup hx hb dX4_list_74 rfl ?_
    refine lv_iconst (v := nI 4) hx hb dX4_list_75 (by decide) ?_
    refine lv_iconst (v := nI 0) hx hb dX4_list_76 (by decide) ?_
    refine va_iast hx hb hK1 hP hD hS 4 0 rfl rfl (vp_in_nI (by omega) (by omega)) dX4_list_77 (fun H locs hP hD hS => ?_)
    obtain ⟨f4, hP, hD⟩ : ∃ f9 : Nat → Int32, va_P k.1 clM ((w4 (k.2.1 0) (k.2.1 1) (k.2.1 2) (k.2.1 3) (k.2.1 4) (nI 0) .null .null 0 0) ++ [(q, .inl (cA, 5, .inl f9))]) H ∧ va_D (AXm k 4 s.heap.size) ((w4 (k.2.1 0) (k.2.1 1) (k.2.1 2) (k.2.1 3) (k.2.1 4) (nI 0) .null .null 0 0) ++ [(q, .inl (cA, 5, .inl f9))]) := ⟨_, hP, hD⟩
    refine lv_astore hx hb dX4_list_78 hl (by decide) rfl (fun ls hl => ?_)
    have hl : lv_has ls 5 [(4, .ref q), (0, .ref (k.2.1 0)), (1, .int a), (2, .int b), (3, .int y)] := hl
    refine lv_aload_n hx hb dX4_list_80 rfl (lv_at hl 1 rfl) ?_
    refine va_get (ci := 0) (C := RX4) (T := TX4) (N := 8) (v := .ref (k.2.1 2)) hx hb hts hin hown hK hP 0 rfl rfl 2 (by decide) (hts (.fieldLink RX4 16 "SignetRoomModel" "lists" "Ljava/util/ArrayList;") (by decide +kernel)) (fun _ h9 => h9) rfl dX4_list_81 ?_
    refine lv_aload hx hb dX4_list_84 (lv_at hl 0 rfl) ?_
    have hV := any_arr hK1 hP 4 0 rfl rfl hO.2
    have hO1 := hO.1
    have hrc := va_recv hK hP (ci := 1) (q0 := 2) rfl rfl
    refine va_calli (va_runV (As := [.ref q]) (rest := []) ⟨hx, hb, hml, hown, hts⟩ (je_add l k.1 (k.2.1 2) 0 (k.2.1 4) q (fun e9 => absurd (hD.1 4 2 (q, _) (k.2.1 2, _) rfl rfl e9) (by decide)) H.size) (cwV 1 hts gX4_list_Jx4a65c_add_9ea2d rfl rfl rfl (by decide +kernel) ⟨Nat.le_of_ble_eq_true rfl, Nat.le_of_ble_eq_true rfl⟩) ⟨fun a9 U g mk q => ⟨q.1, q.2.1, q.2.2.1, va_K.moved (u := U) (U := U.calling g mk a9) (Vm.Alike.refl U.vm) q.2.2.2.1, ZL.same (u := U) (U := U.calling g mk a9) rfl rfl q.2.2.2.2.1, va_AO.moved (u := U) (U := U.calling g mk a9) (Vm.Alike.refl U.vm) q.2.2.2.2.2.1, any_go (s := U) (U := U.calling g mk a9) q.2.2.2.2.2.2 (Vm.Alike.refl U.vm)⟩, hrc, fun U hU hW => ⟨rfl, by rw [hU], by rw [hU]; exact hP.sub [2] rfl, va_K.moved hW.alike hK, hZ.go hW (fun z h1 h2 => by rw [hU] <;> exact hS.2.1 z h1 h2) (free1 hD (j := 2) rfl hA hS.1), va_AO.moved hW.alike hO1, by rw [hU]; exact any_go (hV) hW.alike⟩⟩ rfl rfl hl.1 rfl (lv_room (Nat.le_of_ble_eq_true rfl)) dX4_list_86 ⟨Nat.le_of_ble_eq_true rfl, Nat.le_of_ble_eq_true rfl⟩) hS (fun z _ h => (free1 hD (j := 2) rfl hA hS.1) z h) (free1 hD (j := 2) rfl hA hS.1) (fun rv u t H1 locs ht hvm hw hB hz1 hk1 hS => ?_)
    subst hw
    obtain ⟨q9, hB⟩ := hB
    rw [ht] at hB
    refine lv_pop hx hb dX4_list_89 rfl ?_
    have hP : va_P k.1 clM [(k.2.1 0, eX (nI 0) (k.2.1 1) (k.2.1 2) .null .null (k.2.1 3) 0), (k.2.1 1, eA 0 (k.2.1 4) 0), (k.2.1 2, .inr (1, [.int (nI (0 + 1)), .ref q9, .int (nI 1)])), (k.2.1 3, eA 0 (k.2.1 4) 0), (q, .inl (cA, 5, .inl f4))] H1 := P_call1 hP hD (j := 2) rfl hB hk1
    refine lv_aload_n hx hb dX4_list_90 rfl (lv_at hl 1 rfl) ?_
    refine va_get (ci := 0) (C := RX4) (T := TX4) (N := 8) (v := .ref (k.2.1 2)) hx hb hts hin hown hK hP 0 rfl rfl 2 (by decide) (hts (.fieldLink RX4 16 "SignetRoomModel" "lists" "Ljava/util/ArrayList;") (by decide +kernel)) (fun _ h9 => h9) rfl dX4_list_91 ?_
    have hrc := va_recv hK hP (ci := 1) (q0 := 2) rfl rfl
    refine va_calli (va_runV (As := []) (rest := []) ⟨hx, hb, hml, hown, hts⟩ (je_size l k.1 (k.2.1 2) 1 q9 1 H1.size) (cwV 0 hts gX4_list_Jx4a65c_size_8abf5 rfl rfl rfl (by decide +kernel) ⟨Nat.le_of_ble_eq_true rfl, Nat.le_of_ble_eq_true rfl⟩) ⟨fun a9 U g mk q => ⟨q.1, q.2.1, q.2.2.1, va_K.moved (u := U) (U := U.calling g mk a9) (Vm.Alike.refl U.vm) q.2.2.2⟩, hrc, fun U hU hW => ⟨rfl, by rw [hU], by rw [hU]; exact hP.sub [2] rfl, va_K.moved hW.alike hK⟩⟩ rfl rfl hl.1 rfl (lv_room (Nat.le_of_ble_eq_true rfl)) dX4_list_94 ⟨Nat.le_of_ble_eq_true rfl, Nat.le_of_ble_eq_true rfl⟩) hS (fun z _ h => (freeN hA hS.1) z h) (freeN hA hS.1) (fun rv u t H1 locs ht hvm hw hB hz1 hk1 hS => ?_)
    subst hw
    have hP := P_new hP hk1
    refine lv_iconst (v := nI 1) hx hb dX4_list_97 (by decide) ?_
    refine lv_isub hx hb dX4_list_98 ?_
    refine W.widen (k := 2) (n := 15) (Nat.le_of_ble_eq_true rfl) (Nat.le_of_ble_eq_true rfl) ?_
    exact W.iret hx hb hr (fun t ht hW => ⟨⟨_, nI 0, rfl, by dsimp only; rw [if_pos ⟨bI_nz c_9, bI_nz c_16, bI_nz c_23, Int32.not_lt.mpr c_28⟩]; exact ⟨rfl, by decide⟩, ⟨_, by rw [ht]; exact hP.sub [0] rfl⟩⟩, hS.F ht⟩) hS.2.2 dX4_list_99 hlk
  · refine lv_aload_n hx hb dX4_list_31 rfl (lv_at hl 0 rfl) ?_
    refine lv_iconst (v := nI 1) hx hb dX4_list_32 (by decide) ?_
    refine m_cVI C0 h hl.1 0 (by omega) (cm0 k 4 _) rfl (ct_X4_refuse l k 4 _ hJ (nI 1)) gX4_list_X4_refuse rfl (by decide +kernel) (n := 1) ⟨Nat.le_of_ble_eq_true rfl, Nat.le_of_ble_eq_true rfl⟩ ⟨Nat.le_of_ble_eq_true rfl, Nat.le_of_ble_eq_true rfl⟩ (Nat.le_of_ble_eq_true rfl) rfl rfl dX4_list_33 (fun r99 I99 H locs hp h => ?_)
    obtain ⟨rfl, hI99⟩ := hp
    rw [hI99] at h
    refine W.widen (k := 2) (n := 15) (Nat.le_of_ble_eq_true rfl) (Nat.le_of_ble_eq_true rfl) ?_
    exact W.iret hx hb hr (fun t ht hW => ⟨⟨_, nI 1, rfl, by dsimp only; rw [if_neg (fun z => z.2.2.2 (Int32.not_le.mp c_28))], ⟨_, by rw [ht]; exact h.1.sub [0] rfl⟩⟩, h.2.F ht⟩) h.2.2.2 dX4_list_36 hlk
set_option maxHeartbeats 4000000 in
set_option maxRecDepth 100000 in
/-- many() on the empty state -/
theorem je_many (l : Launch) (k : Sk) (hJ : IjM k 4) (a : Int32) (sz : Nat) : Met l yX4_many wsX4_many (RmA 5 2 6) (PcZ k sz [.ref (k.2.1 0), .int a] (fun U => HN U)) ((va_Qi (fun r v => if isW a (nI 3) = true then v = nI 0 ∧ r = nI 0 else v = nI 1) (BX k) (AXm k 4 sz))) 2 6 (AXm k 4 sz) := by
  refine Met.ofW (cc := cX4_many) (maxL := 2) (ret := some .int) (by decide) rfl ?_
  intro p e s m args below meth c s₁ B hml hv
  obtain ⟨rfl, rfl, hP, hK, hN⟩ := hv
  have hts := atoms_spec (ws := wsX4_many) B.pre
  have hx := B.exec
  have hb := B.bytes
  have hr := B.returns
  have hlk := B.notSynchronized
  have hown : s.vm.findClass RX4 = some m.cls := findClass_of_methodNamed B.named
  have hl := lv_entry ([.ref (k.2.1 0), .int a]) (n := 2) (Nat.le_of_ble_eq_true rfl)
  rw [lg_entry_eq]
  generalize (lg_sl ([.ref (k.2.1 0), .int a]) ++ List.replicate (2 - (lg_sl ([.ref (k.2.1 0), .int a])).length) Slot.unset).toArray = ls at hl ⊢
  have hl : lv_has ls 2 [(0, .ref (k.2.1 0)), (1, .int a)] := hl
  have hin : ∀ w ∈ u_ws RX4 TX4 8, w ∈ wsX4_many := by decide +kernel
  have hA : ∀ q : Nat, s.heap.size ≤ q → AXm k 4 s.heap.size q := fun q h => Or.inr h
  have hAn : ∀ n, n < 4 → AXm k 4 s.heap.size (k.2.1 n) := fun n h => Or.inl ⟨n, h, rfl⟩
  have C0 : CXm p s m ([.ref (k.2.1 0), .int a]).toArray c cX4_many 2 wsX4_many RX4 k 4 (AXm k 4 s.heap.size) := ⟨⟨hx, hb, hml, hown, hts⟩, trivial, hK, hJ, hAn, hA⟩
  have h : HXm k 4 (AXm k 4 s.heap.size) s IZ s.heap [] := ⟨hP, va_S.rf⟩
  refine lv_aload_n hx hb dX4_many_0 rfl (lv_at hl 0 rfl) ?_
  refine lv_iconst (v := nI 0) hx hb dX4_many_1 (by decide) ?_
  refine m_put (T := TX4) (N := 8) (ty0 := tyX4) C0 h 0 (by omega) (cm0 k 4 _) hin tyX4_ok nmX4 rfl 0 (by decide) (by decide +kernel) rfl rfl rfl rfl (Nat.le_of_ble_eq_true rfl) (cm0 k 4 _) dX4_many_2 (fun H locs h => ?_)
  refine lv_iload_n hx hb dX4_many_5 rfl (lv_at hl 1 rfl) ?_
  refine lv_iconst (v := nI 0) hx hb dX4_many_6 (by decide) ?_
  refine lv_iconst (v := nI 3) hx hb dX4_many_7 (by decide) ?_
  refine m_cSI C0 h hl.1 (ct_X4_is l k 4 _ hJ _ _ _) gX4_many_X4_is rfl (by decide +kernel) (n := 3) ⟨Nat.le_of_ble_eq_true rfl, Nat.le_of_ble_eq_true rfl⟩ ⟨Nat.le_of_ble_eq_true rfl, Nat.le_of_ble_eq_true rfl⟩ (Nat.le_of_ble_eq_true rfl) rfl rfl dX4_many_8 (fun r8 I8 H locs hp h => ?_)
  obtain ⟨rfl, hI8⟩ := hp
  rw [hI8] at h
  refine lv_if_eq (tgt := 22) hx hb dX4_many_11 (by decide) (fun c_11 => ?_) (fun c_11 => ?_)
  · refine lv_aload_n hx hb dX4_many_22 rfl (lv_at hl 0 rfl) ?_
    refine lv_iconst (v := nI 1) hx hb dX4_many_23 (by decide) ?_
    refine m_cVI C0 h hl.1 0 (by omega) (cm0 k 4 _) rfl (ct_X4_refuse l k 4 _ hJ (nI 1)) gX4_many_X4_refuse rfl (by decide +kernel) (n := 1) ⟨Nat.le_of_ble_eq_true rfl, Nat.le_of_ble_eq_true rfl⟩ ⟨Nat.le_of_ble_eq_true rfl, Nat.le_of_ble_eq_true rfl⟩ (Nat.le_of_ble_eq_true rfl) rfl rfl dX4_many_24 (fun r99 I99 H locs hp h => ?_)
    obtain ⟨rfl, hI99⟩ := hp
    rw [hI99] at h
    refine W.widen (k := 2) (n := 6) (Nat.le_of_ble_eq_true rfl) (Nat.le_of_ble_eq_true rfl) ?_
    exact W.iret hx hb hr (fun t ht hW => ⟨⟨_, nI 1, rfl, by dsimp only; rw [if_neg (fun z => by rw [show isW a (nI 3) = false from bI_z c_11] at z; exact absurd z (by decide))], ⟨_, by rw [ht]; exact h.1.sub [0] rfl⟩⟩, h.2.F ht⟩) h.2.2.2 dX4_many_27 hlk
  have hP : va_P k.1 clM (w4 (k.2.1 0) (k.2.1 1) (k.2.1 2) (k.2.1 3) (k.2.1 4) (nI 0) .null .null 0 0) H := h.1
  have hS := h.2
  have hD : va_D (AXm k 4 s.heap.size) (w4 (k.2.1 0) (k.2.1 1) (k.2.1 2) (k.2.1 3) (k.2.1 4) (nI 0) .null .null 0 0) := wm_D (I := (up2 IZ 0 0 (nI 0))) hJ hAn
  have hK : va_K k.1 clM [] s := hK
  have ha := isB_y (bI_nz c_11)
  obtain ⟨j, hj, rfl⟩ := nI_of2 (n := 3) (M := nI 3) (by decide) (show ¬ a < 0 from ha.1) (fa_nlt ha.2)
  refine lv_aload_n hx hb dX4_many_14 rfl (lv_at hl 0 rfl) ?_
  refine lv_iload_n hx hb dX4_many_15 rfl (lv_at hl 1 rfl) ?_
  rcases (show j = 0 ∨ j = 1 ∨ j = 2 ∨ j = 3 by omega) with rfl | rfl | rfl | rfl
  · have hrc := va_recv hK hP (ci := 0) (q0 := 0) rfl rfl
    refine va_calli (va_runV (As := [.int (nI 0)]) (rest := []) ⟨hx, hb, hml, hown, hts⟩ (je_many0 l k.1 (k.2.1 0) (k.2.1 1) (k.2.1 2) (k.2.1 3) (k.2.1 4) (nI 0) .null .null 0 0 H.size) (cwV 1 hts gX4_many_X4_manyNow rfl rfl rfl (by decide +kernel) ⟨Nat.le_of_ble_eq_true rfl, Nat.le_of_ble_eq_true rfl⟩) ⟨fun a9 U g mk q => ⟨q.1, q.2.1, q.2.2.1, va_K.moved (u := U) (U := U.calling g mk a9) (Vm.Alike.refl U.vm) q.2.2.2.1, HN.same (u := U) (U := U.calling g mk a9) rfl q.2.2.2.2⟩, hrc, fun U hU hW => ⟨rfl, by rw [hU], by rw [hU]; exact hP, va_K.moved hW.alike hK, HN.go hW hN⟩⟩ rfl rfl hl.1 rfl (lv_room (Nat.le_of_ble_eq_true rfl)) dX4_many_16 ⟨Nat.le_of_ble_eq_true rfl, Nat.le_of_ble_eq_true rfl⟩) hS (fun z _ h => (freeN hA hS.1) z h) (freeN hA hS.1) (fun rv u t H1 locs ht hvm hw hB hz1 hk1 hS => ?_)
    subst hw
    refine lv_goto (tgt := 27) hx hb dX4_many_19 (by decide) ?_
    have hP := P_new hP hk1
    refine W.widen (k := 2) (n := 6) (Nat.le_of_ble_eq_true rfl) (Nat.le_of_ble_eq_true rfl) ?_
    exact W.iret hx hb hr (fun t ht hW => ⟨⟨_, nI 0, rfl, by dsimp only; rw [if_pos (show isW (nI 0) (nI 3) = true by decide)]; exact ⟨rfl, rfl⟩, ⟨_, by rw [ht]; exact hP.sub [0] rfl⟩⟩, hS.F ht⟩) hS.2.2 dX4_many_27 hlk
  · have hrc := va_recv hK hP (ci := 0) (q0 := 0) rfl rfl
    refine va_calli (va_runV (As := [.int (nI 1)]) (rest := []) ⟨hx, hb, hml, hown, hts⟩ (je_many1 l k.1 (k.2.1 0) (k.2.1 1) (k.2.1 2) (k.2.1 3) (k.2.1 4) (nI 0) .null .null 0 0 H.size) (cwV 1 hts gX4_many_X4_manyNow rfl rfl rfl (by decide +kernel) ⟨Nat.le_of_ble_eq_true rfl, Nat.le_of_ble_eq_true rfl⟩) ⟨fun a9 U g mk q => ⟨q.1, q.2.1, q.2.2.1, va_K.moved (u := U) (U := U.calling g mk a9) (Vm.Alike.refl U.vm) q.2.2.2.1, HN.same (u := U) (U := U.calling g mk a9) rfl q.2.2.2.2⟩, hrc, fun U hU hW => ⟨rfl, by rw [hU], by rw [hU]; exact hP, va_K.moved hW.alike hK, HN.go hW hN⟩⟩ rfl rfl hl.1 rfl (lv_room (Nat.le_of_ble_eq_true rfl)) dX4_many_16 ⟨Nat.le_of_ble_eq_true rfl, Nat.le_of_ble_eq_true rfl⟩) hS (fun z _ h => (freeN hA hS.1) z h) (freeN hA hS.1) (fun rv u t H1 locs ht hvm hw hB hz1 hk1 hS => ?_)
    subst hw
    refine lv_goto (tgt := 27) hx hb dX4_many_19 (by decide) ?_
    have hP := P_new hP hk1
    refine W.widen (k := 2) (n := 6) (Nat.le_of_ble_eq_true rfl) (Nat.le_of_ble_eq_true rfl) ?_
    exact W.iret hx hb hr (fun t ht hW => ⟨⟨_, nI 0, rfl, by dsimp only; rw [if_pos (show isW (nI 1) (nI 3) = true by decide)]; exact ⟨rfl, rfl⟩, ⟨_, by rw [ht]; exact hP.sub [0] rfl⟩⟩, hS.F ht⟩) hS.2.2 dX4_many_27 hlk
  · have hrc := va_recv hK hP (ci := 0) (q0 := 0) rfl rfl
    refine va_calli (va_runV (As := [.int (nI 2)]) (rest := []) ⟨hx, hb, hml, hown, hts⟩ (je_many2 l k.1 (k.2.1 0) (k.2.1 1) (k.2.1 2) (k.2.1 3) (k.2.1 4) (nI 0) .null .null 0 0 H.size) (cwV 1 hts gX4_many_X4_manyNow rfl rfl rfl (by decide +kernel) ⟨Nat.le_of_ble_eq_true rfl, Nat.le_of_ble_eq_true rfl⟩) ⟨fun a9 U g mk q => ⟨q.1, q.2.1, q.2.2.1, va_K.moved (u := U) (U := U.calling g mk a9) (Vm.Alike.refl U.vm) q.2.2.2.1, HN.same (u := U) (U := U.calling g mk a9) rfl q.2.2.2.2⟩, hrc, fun U hU hW => ⟨rfl, by rw [hU], by rw [hU]; exact hP, va_K.moved hW.alike hK, HN.go hW hN⟩⟩ rfl rfl hl.1 rfl (lv_room (Nat.le_of_ble_eq_true rfl)) dX4_many_16 ⟨Nat.le_of_ble_eq_true rfl, Nat.le_of_ble_eq_true rfl⟩) hS (fun z _ h => (freeN hA hS.1) z h) (freeN hA hS.1) (fun rv u t H1 locs ht hvm hw hB hz1 hk1 hS => ?_)
    subst hw
    refine lv_goto (tgt := 27) hx hb dX4_many_19 (by decide) ?_
    have hP := P_new hP hk1
    refine W.widen (k := 2) (n := 6) (Nat.le_of_ble_eq_true rfl) (Nat.le_of_ble_eq_true rfl) ?_
    exact W.iret hx hb hr (fun t ht hW => ⟨⟨_, nI 0, rfl, by dsimp only; rw [if_pos (show isW (nI 2) (nI 3) = true by decide)]; exact ⟨rfl, rfl⟩, ⟨_, by rw [ht]; exact hP.sub [0] rfl⟩⟩, hS.F ht⟩) hS.2.2 dX4_many_27 hlk
  · have hrc := va_recv hK hP (ci := 0) (q0 := 0) rfl rfl
    refine va_calli (va_runV (As := [.int (nI 3)]) (rest := []) ⟨hx, hb, hml, hown, hts⟩ (je_many3 l k.1 (k.2.1 0) (k.2.1 1) (k.2.1 2) (k.2.1 3) (k.2.1 4) (nI 0) .null 0 0 H.size (AXm k 4 s.heap.size) (freeN hA hS.1) hD) (cwV 1 hts gX4_many_X4_manyNow rfl rfl rfl (by decide +kernel) ⟨Nat.le_of_ble_eq_true rfl, Nat.le_of_ble_eq_true rfl⟩) ⟨fun a9 U g mk q => ⟨q.1, q.2.1, q.2.2.1, va_K.moved (u := U) (U := U.calling g mk a9) (Vm.Alike.refl U.vm) q.2.2.2⟩, hrc, fun U hU hW => ⟨rfl, by rw [hU], by rw [hU]; exact hP, va_K.moved hW.alike hK⟩⟩ rfl rfl hl.1 rfl (lv_room (Nat.le_of_ble_eq_true rfl)) dX4_many_16 ⟨Nat.le_of_ble_eq_true rfl, Nat.le_of_ble_eq_true rfl⟩) hS (fun z _ h => (fun _ h => h) z h) (fun _ h => h) (fun rv u t H1 locs ht hvm hw hB hz1 hk1 hS => ?_)
    subst hw
    refine lv_goto (tgt := 27) hx hb dX4_many_19 (by decide) ?_
    obtain ⟨b9, e9, m9, hP, hD⟩ := hB
    rw [ht] at hP
    refine W.widen (k := 2) (n := 6) (Nat.le_of_ble_eq_true rfl) (Nat.le_of_ble_eq_true rfl) ?_
    exact W.iret hx hb hr (fun t ht hW => ⟨⟨_, nI 0, rfl, by dsimp only; rw [if_pos (show isW (nI 3) (nI 3) = true by decide)]; exact ⟨rfl, rfl⟩, ⟨_, by rw [ht]; exact hP.sub [0] rfl⟩⟩, hS.F ht⟩) hS.2.2 dX4_many_27 hlk
set_option maxHeartbeats 4000000 in
set_option maxRecDepth 100000 in
/-- digest() on the empty state -/
theorem je_digest (l : Launch) (k : Sk) (hJ : IjM k 4) (sz : Nat) : Met l yX4_digest wsX4_digest (RmA 5 4 14) (PcZ k sz [.ref (k.2.1 0)] (fun U => HN U)) ((va_Ql (fun (r : Int64) (v : Int32) => v = nI 0 ∧ r = ((((58102 * 31 + 0) * 31 + 0) * 31 + 0) * 31 + 0)) (BX k) (AXm k 4 sz))) 4 14 (AXm k 4 sz) := by
  refine Met.ofW (cc := cX4_digest) (maxL := 4) (ret := some .long) (by decide) rfl ?_
  intro p e s m args below meth c s₁ B hml hv
  obtain ⟨rfl, rfl, hP, hK, hN⟩ := hv
  have hts := atoms_spec (ws := wsX4_digest) B.pre
  have hx := B.exec
  have hb := B.bytes
  have hr := B.returns
  have hlk := B.notSynchronized
  have hown : s.vm.findClass RX4 = some m.cls := findClass_of_methodNamed B.named
  have hl := lv_entry ([.ref (k.2.1 0)]) (n := 4) (Nat.le_of_ble_eq_true rfl)
  rw [lg_entry_eq]
  generalize (lg_sl ([.ref (k.2.1 0)]) ++ List.replicate (4 - (lg_sl ([.ref (k.2.1 0)])).length) Slot.unset).toArray = ls at hl ⊢
  have hl : lv_has ls 4 [(0, .ref (k.2.1 0))] := hl
  have hin : ∀ w ∈ u_ws RX4 TX4 8, w ∈ wsX4_digest := by decide +kernel
  have hA : ∀ q : Nat, s.heap.size ≤ q → AXm k 4 s.heap.size q := fun q h => Or.inr h
  have hAn : ∀ n, n < 4 → AXm k 4 s.heap.size (k.2.1 n) := fun n h => Or.inl ⟨n, h, rfl⟩
  have C0 : CXm p s m ([.ref (k.2.1 0)]).toArray c cX4_digest 4 wsX4_digest RX4 k 4 (AXm k 4 s.heap.size) := ⟨⟨hx, hb, hml, hown, hts⟩, trivial, hK, hJ, hAn, hA⟩
  have h : HXm k 4 (AXm k 4 s.heap.size) s IZ s.heap [] := ⟨hP, va_S.rf⟩
  refine lv_aload_n hx hb dX4_digest_0 rfl (lv_at hl 0 rfl) ?_
  refine lv_iconst (v := nI 0) hx hb dX4_digest_1 (by decide) ?_
  refine m_put (T := TX4) (N := 8) (ty0 := tyX4) C0 h 0 (by omega) (cm0 k 4 _) hin tyX4_ok nmX4 rfl 0 (by decide) (by decide +kernel) rfl rfl rfl rfl (Nat.le_of_ble_eq_true rfl) (cm0 k 4 _) dX4_digest_2 (fun H locs h => ?_)
  have hP : va_P k.1 clM (w4 (k.2.1 0) (k.2.1 1) (k.2.1 2) (k.2.1 3) (k.2.1 4) (nI 0) .null .null 0 0) H := h.1
  have hS := h.2
  have hD : va_D (AXm k 4 s.heap.size) (w4 (k.2.1 0) (k.2.1 1) (k.2.1 2) (k.2.1 3) (k.2.1 4) (nI 0) .null .null 0 0) := wm_D (I := (up2 IZ 0 0 (nI 0))) hJ hAn
  have hK : va_K k.1 clM [] s := hK
  refine lv_aload_n hx hb dX4_digest_5 rfl (lv_at hl 0 rfl) ?_
  refine lv_ldc2 (v := 58102) hx hb hown (hts (.constantLong RX4 206 58102) (by decide +kernel)) dX4_digest_6 ?_
  refine va_put (ci := 0) (v := .long 58102) (ty := .long) (C := RX4) (T := TX4) (N := 8) hx hb hts hin tyX4 tyX4_ok nmX4 hown hK hP hD hS 0 rfl rfl 7 (by decide) (hts (.fieldLink RX4 200 "SignetRoomModel" "sum" "J") (by decide +kernel)) (fun _ h9 => h9) rfl (tyX4_ok 7 (by decide)) rfl rfl (Nat.le_of_ble_eq_true rfl) dX4_digest_9 (fun H locs hP hD hS => ?_)
  have hP : va_P k.1 clM (w4 (k.2.1 0) (k.2.1 1) (k.2.1 2) (k.2.1 3) (k.2.1 4) (nI 0) .null .null 58102 0) H := hP
  have hD : va_D (AXm k 4 s.heap.size) (w4 (k.2.1 0) (k.2.1 1) (k.2.1 2) (k.2.1 3) (k.2.1 4) (nI 0) .null .null 58102 0) := hD
  refine lv_iconst (v := nI 0) hx hb dX4_digest_12 (by decide) ?_
  refine lv_istore_n hx hb dX4_digest_13 rfl hl (by decide) rfl (fun ls hl => ?_)
  have hl : lv_has ls 4 [(1, .int (nI 0)), (0, .ref (k.2.1 0))] := hl
  refine lv_iload_n hx hb dX4_digest_14 rfl (lv_at hl 0 rfl) ?_
  refine lv_iconst (v := nI 4) hx hb dX4_digest_15 (by decide) ?_
  refine lv_icmp_ge (tgt := 34) hx hb dX4_digest_16 (by decide) (fun c1 => absurd c1 (by decide)) (fun _ => ?_)
  refine lv_aload_n hx hb dX4_digest_19 rfl (lv_at hl 1 rfl) ?_
  refine lv_aload_n hx hb dX4_digest_20 rfl (lv_at hl 1 rfl) ?_
  refine lv_iload_n hx hb dX4_digest_21 rfl (lv_at hl 0 rfl) ?_
  have hrc := va_recv hK hP (ci := 0) (q0 := 0) rfl rfl
  refine va_calli (va_runV (As := [.int (nI 0)]) (rest := [.ref (k.2.1 0)]) ⟨hx, hb, hml, hown, hts⟩ (je_many0 l k.1 (k.2.1 0) (k.2.1 1) (k.2.1 2) (k.2.1 3) (k.2.1 4) (nI 0) .null .null 58102 0 H.size) (cwV 1 hts gX4_digest_X4_manyNow rfl rfl rfl (by decide +kernel) ⟨Nat.le_of_ble_eq_true rfl, Nat.le_of_ble_eq_true rfl⟩) ⟨fun a9 U g mk q => ⟨q.1, q.2.1, q.2.2.1, va_K.moved (u := U) (U := U.calling g mk a9) (Vm.Alike.refl U.vm) q.2.2.2.1, HN.same (u := U) (U := U.calling g mk a9) rfl q.2.2.2.2⟩, hrc, fun U hU hW => ⟨rfl, by rw [hU], by rw [hU]; exact hP, va_K.moved hW.alike hK, HN.go hW hN⟩⟩ rfl rfl hl.1 rfl (lv_room (Nat.le_of_ble_eq_true rfl)) dX4_digest_22 ⟨Nat.le_of_ble_eq_true rfl, Nat.le_of_ble_eq_true rfl⟩) hS (fun z _ h => (freeN hA hS.1) z h) (freeN hA hS.1) (fun rv u t H1 locs ht hvm hw hB hz1 hk1 hS => ?_)
  subst hw
  have hP := P_new hP hk1
  have hrc := va_recv hK hP (ci := 0) (q0 := 0) rfl rfl
  refine va_callv (va_runV (As := [.int (nI 0)]) (rest := []) ⟨hx, hb, hml, hown, hts⟩ (je_add4 l k.1 (k.2.1 0) (k.2.1 1) (k.2.1 2) (k.2.1 3) (nI 0) .null .null 58102 (nI 0) H1.size) (cwV 1 hts gX4_digest_X4_add rfl rfl rfl (by decide +kernel) ⟨Nat.le_of_ble_eq_true rfl, Nat.le_of_ble_eq_true rfl⟩) ⟨fun a9 U g mk q => ⟨q.1, q.2.1, q.2.2.1, va_K.moved (u := U) (U := U.calling g mk a9) (Vm.Alike.refl U.vm) q.2.2.2⟩, hrc, fun U hU hW => ⟨rfl, by rw [hU], by rw [hU]; exact hP.sub [0] rfl, va_K.moved hW.alike hK⟩⟩ rfl rfl hl.1 rfl (lv_room (Nat.le_of_ble_eq_true rfl)) dX4_digest_25 ⟨Nat.le_of_ble_eq_true rfl, Nat.le_of_ble_eq_true rfl⟩) hS (fun z _ h => (free1 hD (j := 0) rfl hA hS.1) z h) (free1 hD (j := 0) rfl hA hS.1) (fun u t H1 locs ht hvm hw hB hz1 hk1 hS => ?_)
  rw [ht] at hB
  have hP : va_P k.1 clM (w4 (k.2.1 0) (k.2.1 1) (k.2.1 2) (k.2.1 3) (k.2.1 4) (nI 0) .null .null (58102 * 31 + 0) 0) H1 := P_call1 hP hD (j := 0) rfl hB hk1
  have hD : va_D (AXm k 4 s.heap.size) (w4 (k.2.1 0) (k.2.1 1) (k.2.1 2) (k.2.1 3) (k.2.1 4) (nI 0) .null .null (58102 * 31 + 0) 0) := D_set hD (j := 0) rfl
  refine lv_iinc (v := nI 1) hx hb dX4_digest_28 hl (k := 0) rfl rfl (by decide) rfl (fun ls hl => ?_)
  have hl : lv_has ls 4 [(1, .int (nI 1)), (0, .ref (k.2.1 0))] := hl
  refine lv_goto (tgt := 14) hx hb dX4_digest_31 (by decide) ?_
  refine lv_iload_n hx hb dX4_digest_14 rfl (lv_at hl 0 rfl) ?_
  refine lv_iconst (v := nI 4) hx hb dX4_digest_15 (by decide) ?_
  refine lv_icmp_ge (tgt := 34) hx hb dX4_digest_16 (by decide) (fun c1 => absurd c1 (by decide)) (fun _ => ?_)
  refine lv_aload_n hx hb dX4_digest_19 rfl (lv_at hl 1 rfl) ?_
  refine lv_aload_n hx hb dX4_digest_20 rfl (lv_at hl 1 rfl) ?_
  refine lv_iload_n hx hb dX4_digest_21 rfl (lv_at hl 0 rfl) ?_
  have hrc := va_recv hK hP (ci := 0) (q0 := 0) rfl rfl
  refine va_calli (va_runV (As := [.int (nI 1)]) (rest := [.ref (k.2.1 0)]) ⟨hx, hb, hml, hown, hts⟩ (je_many1 l k.1 (k.2.1 0) (k.2.1 1) (k.2.1 2) (k.2.1 3) (k.2.1 4) (nI 0) .null .null (58102 * 31 + 0) 0 H1.size) (cwV 1 hts gX4_digest_X4_manyNow rfl rfl rfl (by decide +kernel) ⟨Nat.le_of_ble_eq_true rfl, Nat.le_of_ble_eq_true rfl⟩) ⟨fun a9 U g mk q => ⟨q.1, q.2.1, q.2.2.1, va_K.moved (u := U) (U := U.calling g mk a9) (Vm.Alike.refl U.vm) q.2.2.2.1, HN.same (u := U) (U := U.calling g mk a9) rfl q.2.2.2.2⟩, hrc, fun U hU hW => ⟨rfl, by rw [hU], by rw [hU]; exact hP, va_K.moved hW.alike hK, HN.go hW hN⟩⟩ rfl rfl hl.1 rfl (lv_room (Nat.le_of_ble_eq_true rfl)) dX4_digest_22 ⟨Nat.le_of_ble_eq_true rfl, Nat.le_of_ble_eq_true rfl⟩) hS (fun z _ h => (freeN hA hS.1) z h) (freeN hA hS.1) (fun rv u t H1 locs ht hvm hw hB hz1 hk1 hS => ?_)
  subst hw
  have hP := P_new hP hk1
  have hrc := va_recv hK hP (ci := 0) (q0 := 0) rfl rfl
  refine va_callv (va_runV (As := [.int (nI 0)]) (rest := []) ⟨hx, hb, hml, hown, hts⟩ (je_add4 l k.1 (k.2.1 0) (k.2.1 1) (k.2.1 2) (k.2.1 3) (nI 0) .null .null (58102 * 31 + 0) (nI 0) H1.size) (cwV 1 hts gX4_digest_X4_add rfl rfl rfl (by decide +kernel) ⟨Nat.le_of_ble_eq_true rfl, Nat.le_of_ble_eq_true rfl⟩) ⟨fun a9 U g mk q => ⟨q.1, q.2.1, q.2.2.1, va_K.moved (u := U) (U := U.calling g mk a9) (Vm.Alike.refl U.vm) q.2.2.2⟩, hrc, fun U hU hW => ⟨rfl, by rw [hU], by rw [hU]; exact hP.sub [0] rfl, va_K.moved hW.alike hK⟩⟩ rfl rfl hl.1 rfl (lv_room (Nat.le_of_ble_eq_true rfl)) dX4_digest_25 ⟨Nat.le_of_ble_eq_true rfl, Nat.le_of_ble_eq_true rfl⟩) hS (fun z _ h => (free1 hD (j := 0) rfl hA hS.1) z h) (free1 hD (j := 0) rfl hA hS.1) (fun u t H1 locs ht hvm hw hB hz1 hk1 hS => ?_)
  rw [ht] at hB
  have hP : va_P k.1 clM (w4 (k.2.1 0) (k.2.1 1) (k.2.1 2) (k.2.1 3) (k.2.1 4) (nI 0) .null .null ((58102 * 31 + 0) * 31 + 0) 0) H1 := P_call1 hP hD (j := 0) rfl hB hk1
  have hD : va_D (AXm k 4 s.heap.size) (w4 (k.2.1 0) (k.2.1 1) (k.2.1 2) (k.2.1 3) (k.2.1 4) (nI 0) .null .null ((58102 * 31 + 0) * 31 + 0) 0) := D_set hD (j := 0) rfl
  refine lv_iinc (v := nI 2) hx hb dX4_digest_28 hl (k := 0) rfl rfl (by decide) rfl (fun ls hl => ?_)
  have hl : lv_has ls 4 [(1, .int (nI 2)), (0, .ref (k.2.1 0))] := hl
  refine lv_goto (tgt := 14) hx hb dX4_digest_31 (by decide) ?_
  refine lv_iload_n hx hb dX4_digest_14 rfl (lv_at hl 0 rfl) ?_
  refine lv_iconst (v := nI 4) hx hb dX4_digest_15 (by decide) ?_
  refine lv_icmp_ge (tgt := 34) hx hb dX4_digest_16 (by decide) (fun c1 => absurd c1 (by decide)) (fun _ => ?_)
  refine lv_aload_n hx hb dX4_digest_19 rfl (lv_at hl 1 rfl) ?_
  refine lv_aload_n hx hb dX4_digest_20 rfl (lv_at hl 1 rfl) ?_
  refine lv_iload_n hx hb dX4_digest_21 rfl (lv_at hl 0 rfl) ?_
  have hrc := va_recv hK hP (ci := 0) (q0 := 0) rfl rfl
  refine va_calli (va_runV (As := [.int (nI 2)]) (rest := [.ref (k.2.1 0)]) ⟨hx, hb, hml, hown, hts⟩ (je_many2 l k.1 (k.2.1 0) (k.2.1 1) (k.2.1 2) (k.2.1 3) (k.2.1 4) (nI 0) .null .null ((58102 * 31 + 0) * 31 + 0) 0 H1.size) (cwV 1 hts gX4_digest_X4_manyNow rfl rfl rfl (by decide +kernel) ⟨Nat.le_of_ble_eq_true rfl, Nat.le_of_ble_eq_true rfl⟩) ⟨fun a9 U g mk q => ⟨q.1, q.2.1, q.2.2.1, va_K.moved (u := U) (U := U.calling g mk a9) (Vm.Alike.refl U.vm) q.2.2.2.1, HN.same (u := U) (U := U.calling g mk a9) rfl q.2.2.2.2⟩, hrc, fun U hU hW => ⟨rfl, by rw [hU], by rw [hU]; exact hP, va_K.moved hW.alike hK, HN.go hW hN⟩⟩ rfl rfl hl.1 rfl (lv_room (Nat.le_of_ble_eq_true rfl)) dX4_digest_22 ⟨Nat.le_of_ble_eq_true rfl, Nat.le_of_ble_eq_true rfl⟩) hS (fun z _ h => (freeN hA hS.1) z h) (freeN hA hS.1) (fun rv u t H1 locs ht hvm hw hB hz1 hk1 hS => ?_)
  subst hw
  have hP := P_new hP hk1
  have hrc := va_recv hK hP (ci := 0) (q0 := 0) rfl rfl
  refine va_callv (va_runV (As := [.int (nI 0)]) (rest := []) ⟨hx, hb, hml, hown, hts⟩ (je_add4 l k.1 (k.2.1 0) (k.2.1 1) (k.2.1 2) (k.2.1 3) (nI 0) .null .null ((58102 * 31 + 0) * 31 + 0) (nI 0) H1.size) (cwV 1 hts gX4_digest_X4_add rfl rfl rfl (by decide +kernel) ⟨Nat.le_of_ble_eq_true rfl, Nat.le_of_ble_eq_true rfl⟩) ⟨fun a9 U g mk q => ⟨q.1, q.2.1, q.2.2.1, va_K.moved (u := U) (U := U.calling g mk a9) (Vm.Alike.refl U.vm) q.2.2.2⟩, hrc, fun U hU hW => ⟨rfl, by rw [hU], by rw [hU]; exact hP.sub [0] rfl, va_K.moved hW.alike hK⟩⟩ rfl rfl hl.1 rfl (lv_room (Nat.le_of_ble_eq_true rfl)) dX4_digest_25 ⟨Nat.le_of_ble_eq_true rfl, Nat.le_of_ble_eq_true rfl⟩) hS (fun z _ h => (free1 hD (j := 0) rfl hA hS.1) z h) (free1 hD (j := 0) rfl hA hS.1) (fun u t H1 locs ht hvm hw hB hz1 hk1 hS => ?_)
  rw [ht] at hB
  have hP : va_P k.1 clM (w4 (k.2.1 0) (k.2.1 1) (k.2.1 2) (k.2.1 3) (k.2.1 4) (nI 0) .null .null (((58102 * 31 + 0) * 31 + 0) * 31 + 0) 0) H1 := P_call1 hP hD (j := 0) rfl hB hk1
  have hD : va_D (AXm k 4 s.heap.size) (w4 (k.2.1 0) (k.2.1 1) (k.2.1 2) (k.2.1 3) (k.2.1 4) (nI 0) .null .null (((58102 * 31 + 0) * 31 + 0) * 31 + 0) 0) := D_set hD (j := 0) rfl
  refine lv_iinc (v := nI 3) hx hb dX4_digest_28 hl (k := 0) rfl rfl (by decide) rfl (fun ls hl => ?_)
  have hl : lv_has ls 4 [(1, .int (nI 3)), (0, .ref (k.2.1 0))] := hl
  refine lv_goto (tgt := 14) hx hb dX4_digest_31 (by decide) ?_
  refine lv_iload_n hx hb dX4_digest_14 rfl (lv_at hl 0 rfl) ?_
  refine lv_iconst (v := nI 4) hx hb dX4_digest_15 (by decide) ?_
  refine lv_icmp_ge (tgt := 34) hx hb dX4_digest_16 (by decide) (fun c1 => absurd c1 (by decide)) (fun _ => ?_)
  refine lv_aload_n hx hb dX4_digest_19 rfl (lv_at hl 1 rfl) ?_
  refine lv_aload_n hx hb dX4_digest_20 rfl (lv_at hl 1 rfl) ?_
  refine lv_iload_n hx hb dX4_digest_21 rfl (lv_at hl 0 rfl) ?_
  have hrc := va_recv hK hP (ci := 0) (q0 := 0) rfl rfl
  refine va_calli (va_runV (As := [.int (nI 3)]) (rest := [.ref (k.2.1 0)]) ⟨hx, hb, hml, hown, hts⟩ (je_many3 l k.1 (k.2.1 0) (k.2.1 1) (k.2.1 2) (k.2.1 3) (k.2.1 4) (nI 0) .null (((58102 * 31 + 0) * 31 + 0) * 31 + 0) 0 H1.size (AXm k 4 s.heap.size) (freeN hA hS.1) hD) (cwV 1 hts gX4_digest_X4_manyNow rfl rfl rfl (by decide +kernel) ⟨Nat.le_of_ble_eq_true rfl, Nat.le_of_ble_eq_true rfl⟩) ⟨fun a9 U g mk q => ⟨q.1, q.2.1, q.2.2.1, va_K.moved (u := U) (U := U.calling g mk a9) (Vm.Alike.refl U.vm) q.2.2.2⟩, hrc, fun U hU hW => ⟨rfl, by rw [hU], by rw [hU]; exact hP, va_K.moved hW.alike hK⟩⟩ rfl rfl hl.1 rfl (lv_room (Nat.le_of_ble_eq_true rfl)) dX4_digest_22 ⟨Nat.le_of_ble_eq_true rfl, Nat.le_of_ble_eq_true rfl⟩) hS (fun z _ h => (fun _ h => h) z h) (fun _ h => h) (fun rv u t H1 locs ht hvm hw hB hz1 hk1 hS => ?_)
  subst hw
  obtain ⟨b9, e9, m9, hP, hD⟩ := hB
  rw [ht] at hP
  have hrc := va_recv hK hP (ci := 0) (q0 := 0) rfl rfl
  refine va_callv (va_runV (As := [.int (nI 0)]) (rest := []) ⟨hx, hb, hml, hown, hts⟩ (je_add4 l k.1 (k.2.1 0) (k.2.1 1) (k.2.1 2) (k.2.1 3) (nI 0) b9 e9 (((58102 * 31 + 0) * 31 + 0) * 31 + 0) (nI 0) H1.size) (cwV 1 hts gX4_digest_X4_add rfl rfl rfl (by decide +kernel) ⟨Nat.le_of_ble_eq_true rfl, Nat.le_of_ble_eq_true rfl⟩) ⟨fun a9 U g mk q => ⟨q.1, q.2.1, q.2.2.1, va_K.moved (u := U) (U := U.calling g mk a9) (Vm.Alike.refl U.vm) q.2.2.2⟩, hrc, fun U hU hW => ⟨rfl, by rw [hU], by rw [hU]; exact hP.sub [0] rfl, va_K.moved hW.alike hK⟩⟩ rfl rfl hl.1 rfl (lv_room (Nat.le_of_ble_eq_true rfl)) dX4_digest_25 ⟨Nat.le_of_ble_eq_true rfl, Nat.le_of_ble_eq_true rfl⟩) hS (fun z _ h => (free1 hD (j := 0) rfl hA hS.1) z h) (free1 hD (j := 0) rfl hA hS.1) (fun u t H1 locs ht hvm hw hB hz1 hk1 hS => ?_)
  rw [ht] at hB
  have hP : va_P k.1 clM (w4 (k.2.1 0) (k.2.1 1) (k.2.1 2) (k.2.1 3) (k.2.1 4) (nI 0) b9 e9 ((((58102 * 31 + 0) * 31 + 0) * 31 + 0) * 31 + 0) m9) H1 := P_call1 hP hD (j := 0) rfl hB hk1
  have hD : va_D (AXm k 4 s.heap.size) (w4 (k.2.1 0) (k.2.1 1) (k.2.1 2) (k.2.1 3) (k.2.1 4) (nI 0) b9 e9 ((((58102 * 31 + 0) * 31 + 0) * 31 + 0) * 31 + 0) m9) := D_set hD (j := 0) rfl
  refine lv_iinc (v := nI 4) hx hb dX4_digest_28 hl (k := 0) rfl rfl (by decide) rfl (fun ls hl => ?_)
  have hl : lv_has ls 4 [(1, .int (nI 4)), (0, .ref (k.2.1 0))] := hl
  refine lv_goto (tgt := 14) hx hb dX4_digest_31 (by decide) ?_
  refine lv_iload_n hx hb dX4_digest_14 rfl (lv_at hl 0 rfl) ?_
  refine lv_iconst (v := nI 4) hx hb dX4_digest_15 (by decide) ?_
  refine lv_icmp_ge (tgt := 34) hx hb dX4_digest_16 (by decide) (fun _ => ?_) (fun c1 => absurd (by decide) c1)
  refine lv_iconst (v := nI 0) hx hb dX4_digest_34 (by decide) ?_
  refine lv_istore_n hx hb dX4_digest_35 rfl hl (by decide) rfl (fun ls hl => ?_)
  have hl : lv_has ls 4 [(1, .int (nI 0)), (0, .ref (k.2.1 0))] := hl
  refine lv_iload_n hx hb dX4_digest_36 rfl (lv_at hl 0 rfl) ?_
  refine lv_aload_n hx hb dX4_digest_37 rfl (lv_at hl 1 rfl) ?_
  refine va_get (ci := 0) (C := RX4) (T := TX4) (N := 8) (v := .ref (k.2.1 1)) hx hb hts hin hown hK hP 0 rfl rfl 1 (by decide) (hts (.fieldLink RX4 10 "SignetRoomModel" "letters" "Ljava/util/ArrayList;") (by decide +kernel)) (fun _ h9 => h9) rfl dX4_digest_38 ?_
  have hrc := va_recv hK hP (ci := 1) (q0 := 1) rfl rfl
  refine va_calli (va_runV (As := []) (rest := [.int (nI 0)]) ⟨hx, hb, hml, hown, hts⟩ (je_size l k.1 (k.2.1 1) 0 (k.2.1 4) 0 H1.size) (cwV 0 hts gX4_digest_Jx4a65c_size_8abf5 rfl rfl rfl (by decide +kernel) ⟨Nat.le_of_ble_eq_true rfl, Nat.le_of_ble_eq_true rfl⟩) ⟨fun a9 U g mk q => ⟨q.1, q.2.1, q.2.2.1, va_K.moved (u := U) (U := U.calling g mk a9) (Vm.Alike.refl U.vm) q.2.2.2⟩, hrc, fun U hU hW => ⟨rfl, by rw [hU], by rw [hU]; exact hP.sub [1] rfl, va_K.moved hW.alike hK⟩⟩ rfl rfl hl.1 rfl (lv_room (Nat.le_of_ble_eq_true rfl)) dX4_digest_41 ⟨Nat.le_of_ble_eq_true rfl, Nat.le_of_ble_eq_true rfl⟩) hS (fun z _ h => (freeN hA hS.1) z h) (freeN hA hS.1) (fun rv u t H1 locs ht hvm hw hB hz1 hk1 hS => ?_)
  subst hw
  have hP := P_new hP hk1
  refine lv_icmp_ge (tgt := 165) hx hb dX4_digest_44 (by decide) (fun _ => ?_) (fun c1 => absurd (by decide) c1)
  refine lv_aload_n hx hb dX4_digest_165 rfl (lv_at hl 1 rfl) ?_
  refine va_get (ci := 0) (C := RX4) (T := TX4) (N := 8) (v := .ref (k.2.1 2)) hx hb hts hin hown hK hP 0 rfl rfl 2 (by decide) (hts (.fieldLink RX4 16 "SignetRoomModel" "lists" "Ljava/util/ArrayList;") (by decide +kernel)) (fun _ h9 => h9) rfl dX4_digest_166 ?_
  have hrc := va_recv hK hP (ci := 1) (q0 := 2) rfl rfl
  refine va_callr (va_runV (As := []) (rest := []) ⟨hx, hb, hml, hown, hts⟩ (je_iterator l k.1 (k.2.1 2) 0 (k.2.1 4) 0 H1.size) (cwV 0 hts gX4_digest_Jx4a65c_iterator_32c93 rfl rfl rfl (by decide +kernel) ⟨Nat.le_of_ble_eq_true rfl, Nat.le_of_ble_eq_true rfl⟩) ⟨fun a9 U g mk q => ⟨q.1, q.2.1, q.2.2.1, va_K.moved (u := U) (U := U.calling g mk a9) (Vm.Alike.refl U.vm) q.2.2.2⟩, hrc, fun U hU hW => ⟨rfl, by rw [hU], by rw [hU]; exact hP.sub [2] rfl, va_K.moved hW.alike hK⟩⟩ rfl rfl hl.1 rfl (lv_room (Nat.le_of_ble_eq_true rfl)) dX4_digest_169 ⟨Nat.le_of_ble_eq_true rfl, Nat.le_of_ble_eq_true rfl⟩) hS (fun z _ h => (freeN hA hS.1) z h) (freeN hA hS.1) (fun u q t H1 locs ht hvm hw hB hz1 hk1 hS => ?_)
  have hP := P_new hP hk1
  have hI := hB.2
  rw [ht] at hI
  refine lv_astore_n hx hb dX4_digest_172 rfl hl (by decide) rfl (fun ls hl => ?_)
  have hl : lv_has ls 4 [(1, .ref q), (0, .ref (k.2.1 0))] := hl
  refine lv_aload_n hx hb dX4_digest_173 rfl (lv_at hl 0 rfl) ?_
  have hrc := va_recv hK hI (ci := 2) (q0 := 0) rfl rfl
  refine va_callFi (va_runF (As := []) (rest := []) (hK.1 2 _ rfl).2 ⟨hx, hb, hml, hown, hts⟩ (je_hasNext l k.1 q 0 (k.2.1 2) 0 (k.2.1 4) 0 H1.size) (va_cwF 0 hts gX4_digest_Jx35411_hasNext_aae02_f93Jx35411 rfl rfl rfl hN.2 (by decide +kernel) ⟨Nat.le_of_ble_eq_true rfl, Nat.le_of_ble_eq_true rfl⟩) ⟨fun a9 U g mk q => ⟨q.1, q.2.1, q.2.2.1, q.2.2.2.1, va_K.moved (u := U) (U := U.calling g mk a9) (Vm.Alike.refl U.vm) q.2.2.2.2.1, va_Nw.same rfl (u := U) (U := U.calling g mk a9) rfl q.2.2.2.2.2⟩, hrc, fun U hU hW => ⟨rfl, by rw [hU], by rw [hU]; exact hI, by rw [hU]; exact hP.sub [2] rfl, va_K.moved hW.alike hK, va_Nw.warmF hW hN.1⟩⟩ rfl rfl hl.1 rfl (lv_room (Nat.le_of_ble_eq_true rfl)) dX4_digest_174 ⟨Nat.le_of_ble_eq_true rfl, Nat.le_of_ble_eq_true rfl⟩) hS (fun z _ h => (freeN hA hS.1) z h) (freeN hA hS.1) (fun rv u t H1 locs ht hvm hw hB hz1 hk1 hS => ?_)
  subst hw
  have hP := P_new hP hk1
  refine lv_if_eq (tgt := 218) hx hb dX4_digest_179 (by decide) (fun _ => ?_) (fun c1 => absurd rfl c1)
  refine lv_aload_n hx hb dX4_digest_218 rfl (lv_at hl 1 rfl) ?_
  refine va_get (ci := 0) (C := RX4) (T := TX4) (N := 8) (v := .long ((((58102 * 31 + 0) * 31 + 0) * 31 + 0) * 31 + 0)) hx hb hts hin hown hK hP 0 rfl rfl 7 (by decide) (hts (.fieldLink RX4 200 "SignetRoomModel" "sum" "J") (by decide +kernel)) (fun _ h9 => h9) rfl dX4_digest_219 ?_
  refine W.widen (k := 4) (n := 14) (Nat.le_of_ble_eq_true rfl) (Nat.le_of_ble_eq_true rfl) ?_
  exact W.lret hx hb hr (fun t ht hW => ⟨⟨_, nI 0, rfl, ⟨rfl, rfl⟩, ⟨_, by rw [ht]; exact hP.sub [0] rfl⟩⟩, hS.F ht⟩) hS.2.2 dX4_digest_222 hlk
