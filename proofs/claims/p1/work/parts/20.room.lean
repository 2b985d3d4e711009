/-! 20: SignetRoom(): the room, made -/
def L0 : Nat → Int32 := upd (upd zI 5 (nI 999)) 8 (nI 15)
def I0 : IS := fun n => if 10 ≤ n ∧ n < 30 then L0 else zI
def refsA (c : ClassId) (N j : Nat) (f : Nat → Nat) : va_E := .inl (c, N, .inr (.inr (.inr (.inr (fun i => if i < j then some (f i) else none)))))
def wA (h0 a1 a2 a3 a4 a5 a6 a7 a8 a9 : Nat) (r : Nat → Nat) (c1 c2 cI cR : ClassId) : va_W :=
  [(h0, .inr (3, [.ref a1, .ref a2, .ref a3, .ref a4, .int 0, .int 0, .int 0])), (a1, .inl (c1, 20, .inr (.inr (.inr (.inr (fun _ => none)))))), (a2, .inl (c2, 8, .inr (.inr (.inr (.inr (fun _ => none))))))] ++ wBook a3 a5 a6 a7 a8 a9 r cI cR ++ [(a4, .inl (cI, 20, .inl zI))]
theorem refs_0 (c : ClassId) (N : Nat) (f : Nat → Nat) : refsA c N 0 f = .inl (c, N, .inr (.inr (.inr (.inr (fun _ => none))))) := by
  unfold refsA
  simp
theorem refs_s (c : ClassId) (N j q : Nat) (f : Nat → Nat) : (.inl (c, N, .inr (.inr (.inr (.inr (va_up (fun i => if i < j then some (f i) else none) j (some q)))))) : va_E) = refsA c N (j + 1) (fun i => if i = j then q else f i) := by
  have hf : va_up (fun i => if i < j then some (f i) else none) j (some q) = (fun i => if i < j + 1 then some ((fun i => if i = j then q else f i) i) else none) := by
   funext i
   unfold va_up
   by_cases h : i = j
   · subst h; simp
   · by_cases h2 : i < j
     · simp [h, h2]; omega
     · simp [h, h2]; omega
  unfold refsA
  rw [hf]
theorem ap_l {α : Type} {X Y : List α} {i : Nat} (h : i < X.length) : (X ++ Y)[i]? = X[i]? := List.getElem?_append_left h
theorem ap_r {α : Type} {X Y : List α} {i : Nat} : (X ++ Y)[X.length + i]? = Y[i]? := by
  rw [List.getElem?_append_right (by omega)]
  congr 1
  omega
theorem set_l {α : Type} {X Y : List α} {i : Nat} {v : α} (h : i < X.length) : (X ++ Y).set i v = X.set i v ++ Y := by
  apply List.ext_getElem?
  intro q
  by_cases hq : q = i
  · subst hq
    rw [List.getElem?_set_self (by rw [List.length_append]; omega), List.getElem?_append_left (by rw [List.length_set]; exact h), List.getElem?_set_self h]
  · rw [List.getElem?_set_ne (Ne.symm hq)]
    by_cases h2 : q < X.length
    · rw [List.getElem?_append_left h2, List.getElem?_append_left (by rw [List.length_set]; exact h2), List.getElem?_set_ne (Ne.symm hq)]
    · rw [List.getElem?_append_right (by omega), List.getElem?_append_right (by rw [List.length_set]; omega), List.length_set]
theorem set_e {α : Type} {X : List α} {u v : α} : (X ++ [u]).set X.length v = X ++ [v] := by
  apply List.ext_getElem?
  intro q
  by_cases hq : q = X.length
  · subst hq
    rw [List.getElem?_set_self (by simp)]
    simp
  · rw [List.getElem?_set_ne (Ne.symm hq)]
    by_cases h2 : q < X.length
    · rw [List.getElem?_append_left h2, List.getElem?_append_left h2]
    · rw [List.getElem?_eq_none (by simp; omega), List.getElem?_eq_none (by simp; omega)]
theorem at_e {α : Type} {X : List α} {u : α} : (X ++ [u])[X.length]? = some u := by simp
theorem grow_list {X : va_W} {j q : Nat} {f : Nat → Nat} {e : va_E} : (X ++ (List.range j).map (fun i => (f i, e))) ++ [(q, e)] = X ++ (List.range (j + 1)).map (fun i => ((if i = j then q else f i), e)) := by
  rw [List.range_succ, List.map_append, List.append_assoc]
  congr 1
  congr 1
  · apply List.map_congr_left
    intro i hi
    rw [if_neg (by have := List.mem_range.mp hi; omega)]
  · simp
theorem set_same {α : Type} {X : List α} {i : Nat} {v : α} (h : X[i]? = some v) : X.set i v = X := by
  apply List.ext_getElem?
  intro q
  by_cases hq : q = i
  · subst hq
    rw [List.getElem?_set_self (List.getElem?_eq_some_iff.mp h).1, h]
  · rw [List.getElem?_set_ne (Ne.symm hq)]
theorem wA_len (h0 a1 a2 a3 a4 a5 a6 a7 a8 a9 : Nat) (r : Nat → Nat) (c1 c2 cI cR : ClassId) : (wA h0 a1 a2 a3 a4 a5 a6 a7 a8 a9 r c1 c2 cI cR).length = 70 := by
  simp [wA, wBook]

set_option maxHeartbeats 8000000 in
set_option maxRecDepth 100000 in
theorem ct_X3_init (l : Launch) (D : va_G) (sz h0 : Nat) : Met l yX3_init wsX3_init (RmA 2 97 855) (PcI D [(h0, .inr (3, [.null, .null, .null, .null, .int 0, .int 0, .int 0]))] sz [.ref h0]) (va_Qv (fun _ : Unit => True) (fun _ t => ∃ (a1 a2 a3 a4 a5 a6 a7 a8 a9 : Nat) (r lt cl : Nat → Nat) (c1 c2 cI cR : ClassId), va_P D clX (((wA h0 a1 a2 a3 a4 a5 a6 a7 a8 a9 r c1 c2 cI cR).set 1 (a1, refsA c1 20 20 lt) ++ (List.range 20).map (fun i => (lt i, (.inr (2, fL L0) : va_E)))).set 2 (a2, refsA c2 8 8 cl) ++ (List.range 8).map (fun i => (cl i, (.inr (0, fC zI) : va_E)))) t.heap ∧ va_K D clX [(cI, .int), (c1, .object "SignetRoom$Letter"), (c2, .object "SignetRoom$CallList"), (cR, .array .int)] t ∧ va_D (va_A [(h0, .inr (3, [.null, .null, .null, .null, .int 0, .int 0, .int 0]))] sz) (((wA h0 a1 a2 a3 a4 a5 a6 a7 a8 a9 r c1 c2 cI cR).set 1 (a1, refsA c1 20 20 lt) ++ (List.range 20).map (fun i => (lt i, (.inr (2, fL L0) : va_E)))).set 2 (a2, refsA c2 8 8 cl) ++ (List.range 8).map (fun i => (cl i, (.inr (0, fC zI) : va_E))))) (va_A [(h0, .inr (3, [.null, .null, .null, .null, .int 0, .int 0, .int 0]))] sz)) 97 855 (va_A [(h0, .inr (3, [.null, .null, .null, .null, .int 0, .int 0, .int 0]))] sz) := by
  refine mtN_of (cc := cX3_init) (maxL := 2) (by decide) rfl (Nat.le_of_ble_eq_true rfl) ?_ trivial
  intro p e s m args below meth c A ls S hin hT hO hK hP hD hS hA hr hsz0 hl
  obtain ⟨hsz, hAe⟩ := hsz0
  have hx := S.1
  have hb := S.2.1
  have hml := S.2.2.1
  have hown := S.2.2.2.1
  have hts := S.2.2.2.2
  have hinN : meth.name = "<init>" := hin
  have hl : lv_has ls 2 [(0, .ref h0)] := hl
  have hin0 : ∀ w ∈ u_ws RX0 TX0 6, w ∈ wsX3_init := by decide +kernel
  have hin1 : ∀ w ∈ u_ws RX1 TX1 7, w ∈ wsX3_init := by decide +kernel
  have hin2 : ∀ w ∈ u_ws RX2 TX2 12, w ∈ wsX3_init := by decide +kernel
  have hin3 : ∀ w ∈ u_ws RX3 TX3 7, w ∈ wsX3_init := by decide +kernel
  refine lv_aload_n hx hb dX3_init_0 rfl (lv_at hl 0 rfl) ?_
  refine W.objInit hx hb hown (hts (.methodLink RX3 1 objectInit) (by decide +kernel)) (hts (.instanceMethod objectInit) (by decide +kernel)) (hts (.code objectInit ⟨#[0xb1]⟩ 1 none) (by decide +kernel)) rfl (by rw [hml]; exact hl.1) rfl dX3_init_1 (Nat.le_of_ble_eq_true rfl) (Nat.le_of_ble_eq_true rfl) ?_
  refine W.eq (g2 := F0 m 4 ls []) rfl ?_
  refine lv_aload_n hx hb dX3_init_4 rfl (lv_at hl 0 rfl) ?_
  refine lv_bipush (v := nI 20) hx hb dX3_init_5 (by decide) ?_
  refine va_newq (C := "SignetRoom$Letter") hx hb hown (hts (.classLink RX3 9 RX2) (by decide +kernel)) hO.1 hK hP hD hS hA (by decide) (N' := 20) (by decide +kernel) (by decide) (Nat.le_of_ble_eq_true rfl) (Nat.le_of_ble_eq_true rfl) dX3_init_7 (fun a1 c1 H hK hP hD hS => ?_)
  refine va_putF (D := D) (ci := 3) (v := .ref a1) (ty := .array (.object "SignetRoom$Letter")) (C := RX3) (T := TX3) (N := 7) hx hb hts hin3 tyX3 tyX3_ok nmX3 hown hK hP hD hS 0 rfl rfl 0 (by decide) (hts (.fieldLink RX3 11 "SignetRoom" "letters" "[LSignetRoom$Letter;") (by decide +kernel)) (fun _ h9 => h9) rfl hinN rfl (by decide +kernel) rfl rfl (Nat.le_of_ble_eq_true rfl) dX3_init_10 (fun H locs hP hD hS => ?_)
  have hP : va_P D clX ([(h0, .inr (3, [.ref a1, .null, .null, .null, .int 0, .int 0, .int 0])), (a1, .inl (c1, 20, .inr (.inr (.inr (.inr (fun _ => none))))))]) H := hP
  have hD : va_D A ([(h0, .inr (3, [.ref a1, .null, .null, .null, .int 0, .int 0, .int 0])), (a1, .inl (c1, 20, .inr (.inr (.inr (.inr (fun _ => none))))))]) := hD
  refine lv_aload_n hx hb dX3_init_13 rfl (lv_at hl 0 rfl) ?_
  refine lv_bipush (v := nI 8) hx hb dX3_init_14 (by decide) ?_
  refine va_newq (C := "SignetRoom$CallList") hx hb hown (hts (.classLink RX3 15 RX0) (by decide +kernel)) hO.2.1 hK hP hD hS hA (by decide) (N' := 8) (by decide +kernel) (by decide) (Nat.le_of_ble_eq_true rfl) (Nat.le_of_ble_eq_true rfl) dX3_init_16 (fun a2 c2 H hK hP hD hS => ?_)
  refine va_putF (D := D) (ci := 3) (v := .ref a2) (ty := .array (.object "SignetRoom$CallList")) (C := RX3) (T := TX3) (N := 7) hx hb hts hin3 tyX3 tyX3_ok nmX3 hown hK hP hD hS 0 rfl rfl 1 (by decide) (hts (.fieldLink RX3 17 "SignetRoom" "lists" "[LSignetRoom$CallList;") (by decide +kernel)) (fun _ h9 => h9) rfl hinN rfl (by decide +kernel) rfl rfl (Nat.le_of_ble_eq_true rfl) dX3_init_19 (fun H locs hP hD hS => ?_)
  have hP : va_P D clX ([(h0, .inr (3, [.ref a1, .ref a2, .null, .null, .int 0, .int 0, .int 0])), (a1, .inl (c1, 20, .inr (.inr (.inr (.inr (fun _ => none)))))), (a2, .inl (c2, 8, .inr (.inr (.inr (.inr (fun _ => none))))))]) H := hP
  have hD : va_D A ([(h0, .inr (3, [.ref a1, .ref a2, .null, .null, .int 0, .int 0, .int 0])), (a1, .inl (c1, 20, .inr (.inr (.inr (.inr (fun _ => none)))))), (a2, .inl (c2, 8, .inr (.inr (.inr (.inr (fun _ => none))))))]) := hD
  refine lv_aload_n hx hb dX3_init_22 rfl (lv_at hl 0 rfl) ?_
  refine va_new (ci := 1) (fs := [.null, .null, .null, .null, .null, .int 0, .int 0]) (C := RX1) (T := TX1) (N := 7) hx hb hts hin1 tyX1 tyX1_ok hown (hts (.classLink RX3 21 RX1) (by decide +kernel)) (hts (.instantiable RX1 7) (by decide +kernel)) (hts (.initialized RX1) (by decide +kernel)) hK hP hD hS hA rfl (fun j hj => by rcases (show j = 0 ∨ j = 1 ∨ j = 2 ∨ j = 3 ∨ j = 4 ∨ j = 5 ∨ j = 6 by omega) with rfl | rfl | rfl | rfl | rfl | rfl | rfl <;> rfl) (Nat.le_of_ble_eq_true rfl) (Nat.le_of_ble_eq_true rfl) dX3_init_23 (fun a3 H hP hD hS => ?_)
  have hP : va_P D clX ([(h0, .inr (3, [.ref a1, .ref a2, .null, .null, .int 0, .int 0, .int 0])), (a1, .inl (c1, 20, .inr (.inr (.inr (.inr (fun _ => none)))))), (a2, .inl (c2, 8, .inr (.inr (.inr (.inr (fun _ => none)))))), (a3, .inr (1, [.null, .null, .null, .null, .null, .int 0, .int 0]))]) H := hP
  have hD : va_D A ([(h0, .inr (3, [.ref a1, .ref a2, .null, .null, .int 0, .int 0, .int 0])), (a1, .inl (c1, 20, .inr (.inr (.inr (.inr (fun _ => none)))))), (a2, .inl (c2, 8, .inr (.inr (.inr (.inr (fun _ => none)))))), (a3, .inr (1, [.null, .null, .null, .null, .null, .int 0, .int 0]))]) := hD
  refine lv_dup hx hb dX3_init_26 rfl ?_
  have hPc := hP.sub (ws' := [(a3, .inr (1, [.null, .null, .null, .null, .null, .int 0, .int 0]))]) [3] rfl
  have hDc := hD.sub (ws' := [(a3, .inr (1, [.null, .null, .null, .null, .null, .int 0, .int 0]))]) [3] (by decide) rfl
  have hKc := hK.sub (tys' := []) [] rfl
  have hFc := va_free (wc := [(a3, .inr (1, [.null, .null, .null, .null, .null, .int 0, .int 0]))]) hD hS hA [3] rfl
  refine va_callv (va_runIN (As := []) (rest := [.ref a3, .ref h0]) S (ct_X1_init l D H.size a3) ⟨va_cnB (host := RX3) 0 hts gX3_init_X1_init_n23 rfl rfl rfl (hT.2 (RX3, 23, yX1_init) (by decide +kernel)) (hts (.initialized RX1) (by decide +kernel)) (by decide +kernel) ⟨(Nat.le_of_ble_eq_true rfl), (Nat.le_of_ble_eq_true rfl)⟩, rfl, hts (.instanceMethod yX1_init) (by decide +kernel)⟩ ⟨pcI_blind _ _ _ _, fun U hU hW => ⟨rfl, by rw [hU], by rw [hU]; exact hPc, va_K.moved hW.alike hKc, hDc.weaken (fun _ _ _ _ => trivial), Tb.warm hW hT, hO.moved hW.alike⟩⟩ rfl rfl hl.1 rfl (lv_room (Nat.le_of_ble_eq_true rfl)) dX3_init_27 ⟨(Nat.le_of_ble_eq_true rfl), (Nat.le_of_ble_eq_true rfl)⟩) hS (fun q _ h => hFc q h) hFc (fun u t H1 locs ht hvm hw hB hz1 hk1 hS => ?_)
  obtain ⟨a5, a6, a7, a8, a9, r, cI, cR, hP1, hK1, hD1⟩ := hB
  rw [ht] at hP1
  have hK1 := va_K.moved hvm.symm hK1
  obtain ⟨hP, hD⟩ := va_join (wr := [(h0, .inr (3, [.ref a1, .ref a2, .null, .null, .int 0, .int 0, .int 0])), (a1, .inl (c1, 20, .inr (.inr (.inr (.inr (fun _ => none)))))), (a2, .inl (c2, 8, .inr (.inr (.inr (.inr (fun _ => none))))))]) (w1 := wBook a3 a5 a6 a7 a8 a9 r cI cR) hP hD [3] [0, 1, 2] rfl rfl (by decide) (by decide) hk1 hFc hP1 hD1
  have hK := (hK.sub (tys' := [(c1, .object "SignetRoom$Letter"), (c2, .object "SignetRoom$CallList")]) [0, 1] rfl).app hK1
  generalize H1 = H at hP hS ⊢
  refine va_putF (D := D) (ci := 3) (v := .ref a3) (ty := .object "SignetRoom$ChainBook") (C := RX3) (T := TX3) (N := 7) hx hb hts hin3 tyX3 tyX3_ok nmX3 hown hK hP hD hS 0 rfl rfl 2 (by decide) (hts (.fieldLink RX3 24 "SignetRoom" "book" "LSignetRoom$ChainBook;") (by decide +kernel)) (fun _ h9 => h9) rfl hinN rfl (by decide +kernel) rfl rfl (Nat.le_of_ble_eq_true rfl) dX3_init_30 (fun H locs hP hD hS => ?_)
  have hP : va_P D clX ([(h0, .inr (3, [.ref a1, .ref a2, .ref a3, .null, .int 0, .int 0, .int 0])), (a1, .inl (c1, 20, .inr (.inr (.inr (.inr (fun _ => none)))))), (a2, .inl (c2, 8, .inr (.inr (.inr (.inr (fun _ => none))))))] ++ wBook a3 a5 a6 a7 a8 a9 r cI cR) H := hP
  have hD : va_D A ([(h0, .inr (3, [.ref a1, .ref a2, .ref a3, .null, .int 0, .int 0, .int 0])), (a1, .inl (c1, 20, .inr (.inr (.inr (.inr (fun _ => none)))))), (a2, .inl (c2, 8, .inr (.inr (.inr (.inr (fun _ => none))))))] ++ wBook a3 a5 a6 a7 a8 a9 r cI cR) := hD
  refine lv_aload_n hx hb dX3_init_33 rfl (lv_at hl 0 rfl) ?_
  refine lv_bipush (v := nI 20) hx hb dX3_init_34 (by decide) ?_
  refine va_newa (atype := .int) (a0 := (20, .inl zI)) (ty := .int) hx hb (hts (.arrayClass .int) (by decide +kernel)) rfl hK hP hD hS hA (fun _ => rfl) (by decide) (N' := 20) (by decide +kernel) (by decide) (Nat.le_of_ble_eq_true rfl) (Nat.le_of_ble_eq_true rfl) dX3_init_36 (fun a4 c4 H hK hP hD hS => ?_)
  refine va_putF (D := D) (ci := 3) (v := .ref a4) (ty := .array .int) (C := RX3) (T := TX3) (N := 7) hx hb hts hin3 tyX3 tyX3_ok nmX3 hown hK hP hD hS 0 rfl rfl 3 (by decide) (hts (.fieldLink RX3 28 "SignetRoom" "verdictsBefore" "[I") (by decide +kernel)) (fun _ h9 => h9) rfl hinN rfl (by decide +kernel) rfl rfl (Nat.le_of_ble_eq_true rfl) dX3_init_38 (fun H locs hP hD hS => ?_)
  have hP : va_P D clX ([(h0, .inr (3, [.ref a1, .ref a2, .ref a3, .ref a4, .int 0, .int 0, .int 0])), (a1, .inl (c1, 20, .inr (.inr (.inr (.inr (fun _ => none)))))), (a2, .inl (c2, 8, .inr (.inr (.inr (.inr (fun _ => none))))))] ++ wBook a3 a5 a6 a7 a8 a9 r cI cR ++ [(a4, .inl (c4, 20, .inl zI))]) H := hP
  have hD : va_D A ([(h0, .inr (3, [.ref a1, .ref a2, .ref a3, .ref a4, .int 0, .int 0, .int 0])), (a1, .inl (c1, 20, .inr (.inr (.inr (.inr (fun _ => none)))))), (a2, .inl (c2, 8, .inr (.inr (.inr (.inr (fun _ => none))))))] ++ wBook a3 a5 a6 a7 a8 a9 r cI cR ++ [(a4, .inl (c4, 20, .inl zI))]) := hD
  have e4 : cI = c4 := Option.some.inj ((hK.2 2 _ rfl).2.symm.trans (hK.2 4 _ rfl).2)
  rw [← e4] at hP hD
  have hK : va_K D clX [(cI, .int), (c1, .object "SignetRoom$Letter"), (c2, .object "SignetRoom$CallList"), (cR, .array .int)] s := hK.sub [2, 0, 1, 3] rfl
  have hP : va_P D clX (wA h0 a1 a2 a3 a4 a5 a6 a7 a8 a9 r c1 c2 cI cR) H := hP
  have hD : va_D A (wA h0 a1 a2 a3 a4 a5 a6 a7 a8 a9 r c1 c2 cI cR) := hD
  have hlen := wA_len h0 a1 a2 a3 a4 a5 a6 a7 a8 a9 r c1 c2 cI cR
  have h_0 : (wA h0 a1 a2 a3 a4 a5 a6 a7 a8 a9 r c1 c2 cI cR)[0]? = some (h0, .inr (3, [.ref a1, .ref a2, .ref a3, .ref a4, .int 0, .int 0, .int 0])) := rfl
  have h_1 : (wA h0 a1 a2 a3 a4 a5 a6 a7 a8 a9 r c1 c2 cI cR)[1]? = some (a1, .inl (c1, 20, .inr (.inr (.inr (.inr (fun _ => none)))))) := rfl
  have h_2 : (wA h0 a1 a2 a3 a4 a5 a6 a7 a8 a9 r c1 c2 cI cR)[2]? = some (a2, .inl (c2, 8, .inr (.inr (.inr (.inr (fun _ => none)))))) := rfl
  suffices hgoal : ∀ (A7 : va_W), A7.length = 70 → A7[0]? = some (h0, .inr (3, [.ref a1, .ref a2, .ref a3, .ref a4, .int 0, .int 0, .int 0])) → A7[1]? = some (a1, .inl (c1, 20, .inr (.inr (.inr (.inr (fun _ => none)))))) → A7[2]? = some (a2, .inl (c2, 8, .inr (.inr (.inr (.inr (fun _ => none)))))) → wA h0 a1 a2 a3 a4 a5 a6 a7 a8 a9 r c1 c2 cI cR = A7 → va_P D clX A7 H → va_D A A7 → W p l e (RmA 2 97 855) s m args below meth c H locs (3 + 65 + 1) (35 + 512 + 20) (MQ below (va_Qv (fun _ : Unit => True) (fun _ t => ∃ (a1 a2 a3 a4 a5 a6 a7 a8 a9 : Nat) (r lt cl : Nat → Nat) (c1 c2 cI cR : ClassId), va_P D clX (((wA h0 a1 a2 a3 a4 a5 a6 a7 a8 a9 r c1 c2 cI cR).set 1 (a1, refsA c1 20 20 lt) ++ (List.range 20).map (fun i => (lt i, (.inr (2, fL L0) : va_E)))).set 2 (a2, refsA c2 8 8 cl) ++ (List.range 8).map (fun i => (cl i, (.inr (0, fC zI) : va_E)))) t.heap ∧ va_K D clX [(cI, .int), (c1, .object "SignetRoom$Letter"), (c2, .object "SignetRoom$CallList"), (cR, .array .int)] t ∧ va_D (va_A [(h0, .inr (3, [.null, .null, .null, .null, .int 0, .int 0, .int 0]))] sz) (((wA h0 a1 a2 a3 a4 a5 a6 a7 a8 a9 r c1 c2 cI cR).set 1 (a1, refsA c1 20 20 lt) ++ (List.range 20).map (fun i => (lt i, (.inr (2, fL L0) : va_E)))).set 2 (a2, refsA c2 8 8 cl) ++ (List.range 8).map (fun i => (cl i, (.inr (0, fC zI) : va_E))))) A) args s 97 855 A) (F0 m 41 ls []) from hgoal _ hlen h_0 h_1 h_2 rfl hP hD
  clear hP hD hlen h_0 h_1 h_2
  intro A7 hlen h_0 h_1 h_2 hA7 hP hD
  refine lv_iconst (v := nI 0) hx hb dX3_init_41 (by decide) ?_
  refine lv_istore_n hx hb dX3_init_42 rfl hl (by decide) rfl (fun ls hl => ?_)
  have hl : lv_has ls 2 [(1, .int (nI 0)), (0, .ref h0)] := hl
  have key43 : ∀ (n j : Nat) (lt : Nat → Nat), 21 - j < n → j ≤ 20 → ∀ (H : Heap) (locs : List Loc) (ls : Array Slot), va_P D clX (A7.set 1 (a1, refsA c1 20 j lt) ++ (List.range j).map (fun i => (lt i, (.inr (2, fL L0) : va_E)))) H → va_D A (A7.set 1 (a1, refsA c1 20 j lt) ++ (List.range j).map (fun i => (lt i, (.inr (2, fL L0) : va_E)))) → va_S A s.heap H locs → lv_has ls 2 [(1, .int (nI j)), (0, .ref h0)] → W p l e (RmA 2 97 855) s m args below meth c H locs (69 + j) (567 + 12 * j) (MQ below (va_Qv (fun _ : Unit => True) (fun _ t => ∃ (a1 a2 a3 a4 a5 a6 a7 a8 a9 : Nat) (r lt cl : Nat → Nat) (c1 c2 cI cR : ClassId), va_P D clX (((wA h0 a1 a2 a3 a4 a5 a6 a7 a8 a9 r c1 c2 cI cR).set 1 (a1, refsA c1 20 20 lt) ++ (List.range 20).map (fun i => (lt i, (.inr (2, fL L0) : va_E)))).set 2 (a2, refsA c2 8 8 cl) ++ (List.range 8).map (fun i => (cl i, (.inr (0, fC zI) : va_E)))) t.heap ∧ va_K D clX [(cI, .int), (c1, .object "SignetRoom$Letter"), (c2, .object "SignetRoom$CallList"), (cR, .array .int)] t ∧ va_D (va_A [(h0, .inr (3, [.null, .null, .null, .null, .int 0, .int 0, .int 0]))] sz) (((wA h0 a1 a2 a3 a4 a5 a6 a7 a8 a9 r c1 c2 cI cR).set 1 (a1, refsA c1 20 20 lt) ++ (List.range 20).map (fun i => (lt i, (.inr (2, fL L0) : va_E)))).set 2 (a2, refsA c2 8 8 cl) ++ (List.range 8).map (fun i => (cl i, (.inr (0, fC zI) : va_E))))) A) args s 97 855 A) (F0 m 43 ls []) := by
    intro n
    induction n with
    | zero =>
      intro j lt hn
      exact absurd hn (Nat.not_lt_zero _)
    | succ n ih =>
      intro j lt hn hj H locs ls hP hD hS hl
      refine lv_iload_n hx hb dX3_init_43 rfl (lv_at hl 0 rfl) ?_
      refine lv_bipush (v := nI 20) hx hb dX3_init_44 (by decide) ?_
      refine lv_icmp_ge (tgt := 68) hx hb dX3_init_46 (by decide) (fun cj => ?_) (fun cj => ?_)
      · have hje : j = 20 := by have := (nI_leI (by omega) (by omega)).mp cj; omega
        rw [hje] at hP hD ⊢
        refine lv_iconst (v := nI 0) hx hb dX3_init_68 (by decide) ?_
        refine lv_istore_n hx hb dX3_init_69 rfl hl (by decide) rfl (fun ls hl => ?_)
        have hl : lv_has ls 2 [(1, .int (nI 0)), (0, .ref h0)] := hl
        have key70 : ∀ (n j : Nat) (ct : Nat → Nat), 9 - j < n → j ≤ 8 → ∀ (H : Heap) (locs : List Loc) (ls : Array Slot), va_P D clX ((A7.set 1 (a1, refsA c1 20 20 lt) ++ (List.range 20).map (fun i => (lt i, (.inr (2, fL L0) : va_E)))).set 2 (a2, refsA c2 8 j ct) ++ (List.range j).map (fun i => (ct i, (.inr (0, fC zI) : va_E)))) H → va_D A ((A7.set 1 (a1, refsA c1 20 20 lt) ++ (List.range 20).map (fun i => (lt i, (.inr (2, fL L0) : va_E)))).set 2 (a2, refsA c2 8 j ct) ++ (List.range j).map (fun i => (ct i, (.inr (0, fC zI) : va_E)))) → va_S A s.heap H locs → lv_has ls 2 [(1, .int (nI j)), (0, .ref h0)] → W p l e (RmA 2 97 855) s m args below meth c H locs (89 + j) (807 + 6 * j) (MQ below (va_Qv (fun _ : Unit => True) (fun _ t => ∃ (a1 a2 a3 a4 a5 a6 a7 a8 a9 : Nat) (r lt cl : Nat → Nat) (c1 c2 cI cR : ClassId), va_P D clX (((wA h0 a1 a2 a3 a4 a5 a6 a7 a8 a9 r c1 c2 cI cR).set 1 (a1, refsA c1 20 20 lt) ++ (List.range 20).map (fun i => (lt i, (.inr (2, fL L0) : va_E)))).set 2 (a2, refsA c2 8 8 cl) ++ (List.range 8).map (fun i => (cl i, (.inr (0, fC zI) : va_E)))) t.heap ∧ va_K D clX [(cI, .int), (c1, .object "SignetRoom$Letter"), (c2, .object "SignetRoom$CallList"), (cR, .array .int)] t ∧ va_D (va_A [(h0, .inr (3, [.null, .null, .null, .null, .int 0, .int 0, .int 0]))] sz) (((wA h0 a1 a2 a3 a4 a5 a6 a7 a8 a9 r c1 c2 cI cR).set 1 (a1, refsA c1 20 20 lt) ++ (List.range 20).map (fun i => (lt i, (.inr (2, fL L0) : va_E)))).set 2 (a2, refsA c2 8 8 cl) ++ (List.range 8).map (fun i => (cl i, (.inr (0, fC zI) : va_E))))) A) args s 97 855 A) (F0 m 70 ls []) := by
          intro n
          induction n with
          | zero =>
            intro j ct hn
            exact absurd hn (Nat.not_lt_zero _)
          | succ n ih =>
            intro j ct hn hj H locs ls hP hD hS hl
            refine lv_iload_n hx hb dX3_init_70 rfl (lv_at hl 0 rfl) ?_
            refine lv_bipush (v := nI 8) hx hb dX3_init_71 (by decide) ?_
            refine lv_icmp_ge (tgt := 95) hx hb dX3_init_73 (by decide) (fun cj => ?_) (fun cj => ?_)
            · have hje : j = 8 := by have := (nI_leI (by omega) (by omega)).mp cj; omega
              rw [hje] at hP hD ⊢
              have hK9 := hK
              have hDA : va_D (va_A [(h0, .inr (3, [.null, .null, .null, .null, .int 0, .int 0, .int 0]))] sz) ((A7.set 1 (a1, refsA c1 20 20 lt) ++ (List.range 20).map (fun i => (lt i, (.inr (2, fL L0) : va_E)))).set 2 (a2, refsA c2 8 8 ct) ++ (List.range 8).map (fun i => (ct i, (.inr (0, fC zI) : va_E)))) := by rw [hAe]; exact hD
              rw [← hA7] at hP hDA
              exact W.vret hx hb hr.1 (fun t ht hW => ⟨⟨(), rfl, trivial, a1, a2, a3, a4, a5, a6, a7, a8, a9, r, lt, ct, c1, c2, cI, cR, by rw [ht]; exact hP, va_K.moved hW.alike hK9, hDA⟩, hS.F ht⟩) hS.2.2 dX3_init_95 hr.2
            · have hjl : j < 8 := Nat.lt_of_not_le (fun q => cj (nI_le q (by omega)))
              have hXl : ((A7.set 1 (a1, refsA c1 20 20 lt) ++ (List.range 20).map (fun i => (lt i, (.inr (2, fL L0) : va_E)))).set 2 (a2, refsA c2 8 j ct)).length = 90 := by simp [hlen]
              have hW0 : ((A7.set 1 (a1, refsA c1 20 20 lt) ++ (List.range 20).map (fun i => (lt i, (.inr (2, fL L0) : va_E)))).set 2 (a2, refsA c2 8 j ct) ++ (List.range j).map (fun i => (ct i, (.inr (0, fC zI) : va_E))))[0]? = some (h0, .inr (3, [.ref a1, .ref a2, .ref a3, .ref a4, .int 0, .int 0, .int 0])) := by
                rw [ap_l (by omega), List.getElem?_set_ne (by decide), ap_l (by rw [List.length_set]; omega), List.getElem?_set_ne (by decide)]; exact h_0
              have hWa : ((A7.set 1 (a1, refsA c1 20 20 lt) ++ (List.range 20).map (fun i => (lt i, (.inr (2, fL L0) : va_E)))).set 2 (a2, refsA c2 8 j ct) ++ (List.range j).map (fun i => (ct i, (.inr (0, fC zI) : va_E))))[2]? = some (a2, refsA c2 8 j ct) := by
                rw [ap_l (by omega), List.getElem?_set_self (by simp [hlen])]
              refine lv_aload_n hx hb dX3_init_76 rfl (lv_at hl 1 rfl) ?_
              refine va_get (D := D) (ci := 3) (v := .ref a2) (C := RX3) (T := TX3) (N := 7) hx hb hts hin3 hown hK hP 0 hW0 rfl 1 (by decide) (hts (.fieldLink RX3 17 "SignetRoom" "lists" "[LSignetRoom$CallList;") (by decide +kernel)) (fun _ h9 => h9) rfl dX3_init_77 ?_
              refine lv_iload_n hx hb dX3_init_80 rfl (lv_at hl 0 rfl) ?_
              refine va_new (ci := 0) (fs := fC zI) (C := RX0) (T := TX0) (N := 6) hx hb hts hin0 tyX0 tyX0_ok hown (hts (.classLink RX3 15 RX0) (by decide +kernel)) (hts (.instantiable RX0 6) (by decide +kernel)) (hts (.initialized RX0) (by decide +kernel)) hK hP hD hS hA rfl (fun q hq => by rcases (show q = 0 ∨ q = 1 ∨ q = 2 ∨ q = 3 ∨ q = 4 ∨ q = 5 by omega) with rfl | rfl | rfl | rfl | rfl | rfl <;> rfl) (by show _ ≤ 97; omega) (by show _ ≤ 855; omega) dX3_init_81 (fun an H hP hD hS => ?_)
              refine lv_dup hx hb dX3_init_84 rfl ?_
              have hlast : (((A7.set 1 (a1, refsA c1 20 20 lt) ++ (List.range 20).map (fun i => (lt i, (.inr (2, fL L0) : va_E)))).set 2 (a2, refsA c2 8 j ct) ++ (List.range j).map (fun i => (ct i, (.inr (0, fC zI) : va_E)))) ++ [(an, (.inr (0, fC zI) : va_E))])[((A7.set 1 (a1, refsA c1 20 20 lt) ++ (List.range 20).map (fun i => (lt i, (.inr (2, fL L0) : va_E)))).set 2 (a2, refsA c2 8 j ct) ++ (List.range j).map (fun i => (ct i, (.inr (0, fC zI) : va_E)))).length]? = some (an, .inr (0, fC zI)) := at_e
              have hKc := hK.sub (tys' := []) [] rfl
              have hFc : ∀ q, va_A (((A7.set 1 (a1, refsA c1 20 20 lt) ++ (List.range 20).map (fun i => (lt i, (.inr (2, fL L0) : va_E)))).set 2 (a2, refsA c2 8 j ct) ++ (List.range j).map (fun i => (ct i, (.inr (0, fC zI) : va_E)))) ++ [(an, (.inr (0, fC zI) : va_E))]) H.size q → A q := fun q hq => by
                rcases hq with ⟨k9, e9, h9⟩ | h9
                · exact hD.2 k9 _ h9
                · exact hA q (Nat.le_trans hS.1 h9)
              refine va_callv (va_runIN (As := []) (rest := [.ref an, .int (nI j), .ref a2]) S (ct_X0_init l D _ H.size an) ⟨va_cnB (host := RX3) 0 hts gX3_init_X0_init_n33 rfl rfl rfl (hT.2 (RX3, 33, yX0_init) (by decide +kernel)) (hts (.initialized RX0) (by decide +kernel)) (by decide +kernel) ⟨(Nat.le_of_ble_eq_true rfl), (Nat.le_of_ble_eq_true rfl)⟩, rfl, hts (.instanceMethod yX0_init) (by decide +kernel)⟩ ⟨pcI_blind _ _ _ _, fun U hU hW => ⟨rfl, by rw [hU], by rw [hU]; exact hP, va_K.moved hW.alike hKc, hD.weaken (fun _ _ _ _ => trivial), Tb.warm hW hT, hO.moved hW.alike⟩⟩ rfl rfl hl.1 rfl (lv_room (Nat.le_of_ble_eq_true rfl)) dX3_init_85 ⟨by show _ ≤ 97; omega, by show _ ≤ 855; omega⟩) hS (fun q _ h => hFc q h) hFc (fun u t H1 locs ht hvm hw hB hz1 hk1 hS => ?_)
              have hB : va_P D clX _ t.heap := hB
              rw [ht] at hB
              have hDn := hD
              have hP : va_P D clX (((A7.set 1 (a1, refsA c1 20 20 lt) ++ (List.range 20).map (fun i => (lt i, (.inr (2, fL L0) : va_E)))).set 2 (a2, refsA c2 8 j ct) ++ (List.range j).map (fun i => (ct i, (.inr (0, fC zI) : va_E)))) ++ [(an, (.inr (0, fC zI) : va_E))]) H1 := hB
              have hWa2 : (((A7.set 1 (a1, refsA c1 20 20 lt) ++ (List.range 20).map (fun i => (lt i, (.inr (2, fL L0) : va_E)))).set 2 (a2, refsA c2 8 j ct) ++ (List.range j).map (fun i => (ct i, (.inr (0, fC zI) : va_E)))) ++ [(an, (.inr (0, fC zI) : va_E))])[2]? = some (a2, refsA c2 8 j ct) := by rw [ap_l (by simp [hlen]; try omega)]; exact hWa
              refine va_astq (r := (RX0, TX0, 6)) (ci := 0) (vs := fC zI) hx hb hK hP hDn hS 2 2 ((A7.set 1 (a1, refsA c1 20 20 lt) ++ (List.range 20).map (fun i => (lt i, (.inr (2, fL L0) : va_E)))).set 2 (a2, refsA c2 8 j ct) ++ (List.range j).map (fun i => (ct i, (.inr (0, fC zI) : va_E)))).length hWa2 rfl at_e rfl (i := nI j) (vp_in_nI hjl (by omega)) dX3_init_88 (fun H locs hP hD hS => ?_)
              rw [nI_clamp (by omega), refs_s, set_l (by simp [hlen]; try omega), set_l (by simp [hlen]; try omega), List.set_set, grow_list] at hP hD
              refine lv_iinc (v := nI (j + 1)) hx hb dX3_init_89 hl (k := 0) rfl (nI_1 _) (by decide) rfl (fun ls hl => ?_)
              have hl : lv_has ls 2 [(1, .int (nI (j + 1))), (0, .ref h0)] := hl
              refine lv_goto (tgt := 70) hx hb dX3_init_92 (by decide) ?_
              exact ih (j + 1) (fun i => if i = j then an else ct i) (by omega) (by omega) _ _ _ hP hD hS hl
        have hP0 : va_P D clX ((A7.set 1 (a1, refsA c1 20 20 lt) ++ (List.range 20).map (fun i => (lt i, (.inr (2, fL L0) : va_E)))).set 2 (a2, refsA c2 8 0 lt) ++ (List.range 0).map (fun i => (lt i, (.inr (0, fC zI) : va_E)))) H := by
          have e9 : ((A7.set 1 (a1, refsA c1 20 20 lt) ++ (List.range 20).map (fun i => (lt i, (.inr (2, fL L0) : va_E)))).set 2 (a2, refsA c2 8 0 lt) ++ (List.range 0).map (fun i => (lt i, (.inr (0, fC zI) : va_E)))) = (A7.set 1 (a1, refsA c1 20 20 lt) ++ (List.range 20).map (fun i => (lt i, (.inr (2, fL L0) : va_E)))) := by
            rw [refs_0, List.range_zero, List.map_nil, List.append_nil]
            apply set_same
            rw [ap_l (by rw [List.length_set]; omega), List.getElem?_set_ne (by decide)]; exact h_2
          rw [e9]; exact hP
        have hD0 : va_D A ((A7.set 1 (a1, refsA c1 20 20 lt) ++ (List.range 20).map (fun i => (lt i, (.inr (2, fL L0) : va_E)))).set 2 (a2, refsA c2 8 0 lt) ++ (List.range 0).map (fun i => (lt i, (.inr (0, fC zI) : va_E)))) := by
          have e9 : ((A7.set 1 (a1, refsA c1 20 20 lt) ++ (List.range 20).map (fun i => (lt i, (.inr (2, fL L0) : va_E)))).set 2 (a2, refsA c2 8 0 lt) ++ (List.range 0).map (fun i => (lt i, (.inr (0, fC zI) : va_E)))) = (A7.set 1 (a1, refsA c1 20 20 lt) ++ (List.range 20).map (fun i => (lt i, (.inr (2, fL L0) : va_E)))) := by
            rw [refs_0, List.range_zero, List.map_nil, List.append_nil]
            apply set_same
            rw [ap_l (by rw [List.length_set]; omega), List.getElem?_set_ne (by decide)]; exact h_2
          rw [e9]; exact hD
        exact key70 100 0 lt (by omega) (by omega) _ _ _ hP0 hD0 hS hl
      · have hjl : j < 20 := Nat.lt_of_not_le (fun q => cj (nI_le q (by omega)))
        have hXl : (A7.set 1 (a1, refsA c1 20 j lt)).length = 70 := by rw [List.length_set]; exact hlen
        have hW0 : (A7.set 1 (a1, refsA c1 20 j lt) ++ (List.range j).map (fun i => (lt i, (.inr (2, fL L0) : va_E))))[0]? = some (h0, .inr (3, [.ref a1, .ref a2, .ref a3, .ref a4, .int 0, .int 0, .int 0])) := by
          rw [ap_l (by omega), List.getElem?_set_ne (by decide)]; exact h_0
        have hWa : (A7.set 1 (a1, refsA c1 20 j lt) ++ (List.range j).map (fun i => (lt i, (.inr (2, fL L0) : va_E))))[1]? = some (a1, refsA c1 20 j lt) := by
          rw [ap_l (by omega), List.getElem?_set_self (by omega)]
        refine lv_aload_n hx hb dX3_init_49 rfl (lv_at hl 1 rfl) ?_
        refine va_get (D := D) (ci := 3) (v := .ref a1) (C := RX3) (T := TX3) (N := 7) hx hb hts hin3 hown hK hP 0 hW0 rfl 0 (by decide) (hts (.fieldLink RX3 11 "SignetRoom" "letters" "[LSignetRoom$Letter;") (by decide +kernel)) (fun _ h9 => h9) rfl dX3_init_50 ?_
        refine lv_iload_n hx hb dX3_init_53 rfl (lv_at hl 0 rfl) ?_
        refine va_new (ci := 2) (fs := fL zI) (C := RX2) (T := TX2) (N := 12) hx hb hts hin2 tyX2 tyX2_ok hown (hts (.classLink RX3 9 RX2) (by decide +kernel)) (hts (.instantiable RX2 12) (by decide +kernel)) (hts (.initialized RX2) (by decide +kernel)) hK hP hD hS hA rfl (fun q hq => by rcases (show q = 0 ∨ q = 1 ∨ q = 2 ∨ q = 3 ∨ q = 4 ∨ q = 5 ∨ q = 6 ∨ q = 7 ∨ q = 8 ∨ q = 9 ∨ q = 10 ∨ q = 11 by omega) with rfl | rfl | rfl | rfl | rfl | rfl | rfl | rfl | rfl | rfl | rfl | rfl <;> rfl) (by show _ ≤ 97; omega) (by show _ ≤ 855; omega) dX3_init_54 (fun an H hP hD hS => ?_)
        refine lv_dup hx hb dX3_init_57 rfl ?_
        have hlast : ((A7.set 1 (a1, refsA c1 20 j lt) ++ (List.range j).map (fun i => (lt i, (.inr (2, fL L0) : va_E)))) ++ [(an, (.inr (2, fL zI) : va_E))])[(A7.set 1 (a1, refsA c1 20 j lt) ++ (List.range j).map (fun i => (lt i, (.inr (2, fL L0) : va_E)))).length]? = some (an, .inr (2, fL zI)) := at_e
        have hKc := hK.sub (tys' := []) [] rfl
        have hFc : ∀ q, va_A ((A7.set 1 (a1, refsA c1 20 j lt) ++ (List.range j).map (fun i => (lt i, (.inr (2, fL L0) : va_E)))) ++ [(an, (.inr (2, fL zI) : va_E))]) H.size q → A q := fun q hq => by
          rcases hq with ⟨k9, e9, h9⟩ | h9
          · exact hD.2 k9 _ h9
          · exact hA q (Nat.le_trans hS.1 h9)
        refine va_callv (va_runIN (As := []) (rest := [.ref an, .int (nI j), .ref a1]) S (ct_X2_init l D _ H.size _ an zI hlast) ⟨va_cnB (host := RX3) 0 hts gX3_init_X2_init_n32 rfl rfl rfl (hT.2 (RX3, 32, yX2_init) (by decide +kernel)) (hts (.initialized RX2) (by decide +kernel)) (by decide +kernel) ⟨(Nat.le_of_ble_eq_true rfl), (Nat.le_of_ble_eq_true rfl)⟩, rfl, hts (.instanceMethod yX2_init) (by decide +kernel)⟩ ⟨pcI_blind _ _ _ _, fun U hU hW => ⟨rfl, by rw [hU], by rw [hU]; exact hP, va_K.moved hW.alike hKc, hD.weaken (fun _ _ _ _ => trivial), Tb.warm hW hT, hO.moved hW.alike⟩⟩ rfl rfl hl.1 rfl (lv_room (Nat.le_of_ble_eq_true rfl)) dX3_init_58 ⟨by show _ ≤ 97; omega, by show _ ≤ 855; omega⟩) hS (fun q _ h => hFc q h) hFc (fun u t H1 locs ht hvm hw hB hz1 hk1 hS => ?_)
        have hB : va_P D clX _ t.heap := hB
        rw [ht] at hB
        rw [set_e] at hB
        have hDn := hD.set (e := .inr (2, fL L0)) hlast
        rw [set_e] at hDn
        have hP : va_P D clX ((A7.set 1 (a1, refsA c1 20 j lt) ++ (List.range j).map (fun i => (lt i, (.inr (2, fL L0) : va_E)))) ++ [(an, (.inr (2, fL L0) : va_E))]) H1 := hB
        have hWa2 : ((A7.set 1 (a1, refsA c1 20 j lt) ++ (List.range j).map (fun i => (lt i, (.inr (2, fL L0) : va_E)))) ++ [(an, (.inr (2, fL L0) : va_E))])[1]? = some (a1, refsA c1 20 j lt) := by rw [ap_l (by simp [hlen]; try omega)]; exact hWa
        refine va_astq (r := (RX2, TX2, 12)) (ci := 2) (vs := fL L0) hx hb hK hP hDn hS 1 1 (A7.set 1 (a1, refsA c1 20 j lt) ++ (List.range j).map (fun i => (lt i, (.inr (2, fL L0) : va_E)))).length hWa2 rfl at_e rfl (i := nI j) (vp_in_nI hjl (by omega)) dX3_init_61 (fun H locs hP hD hS => ?_)
        rw [nI_clamp (by omega), refs_s, set_l (by simp [hlen]; try omega), set_l (by simp [hlen]; try omega), List.set_set, grow_list] at hP hD
        refine lv_iinc (v := nI (j + 1)) hx hb dX3_init_62 hl (k := 0) rfl (nI_1 _) (by decide) rfl (fun ls hl => ?_)
        have hl : lv_has ls 2 [(1, .int (nI (j + 1))), (0, .ref h0)] := hl
        refine lv_goto (tgt := 43) hx hb dX3_init_65 (by decide) ?_
        exact ih (j + 1) (fun i => if i = j then an else lt i) (by omega) (by omega) _ _ _ hP hD hS hl
  have e9 : (A7.set 1 (a1, refsA c1 20 0 (fun _ => 0)) ++ (List.range 0).map (fun i => ((fun _ => 0) i, (.inr (2, fL L0) : va_E)))) = A7 := by
    rw [refs_0, List.range_zero, List.map_nil, List.append_nil]
    exact set_same h_1
  exact key43 100 0 (fun _ => 0) (by omega) (by omega) _ _ _ (by rw [e9]; exact hP) (by rw [e9]; exact hD) hS hl
