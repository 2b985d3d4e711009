/-! 21: the room that the constructor leaves, as numbered cells -/
def adR (h0 a1 a2 a3 a4 a5 a6 a7 a8 a9 : Nat) (r lt cl : Nat → Nat) (n : Nat) : Nat :=
  if n = 0 then h0 else if n = 1 then a1 else if n = 2 then a2 else if n = 3 then a3 else if n = 4 then a4 else if n = 5 then a5 else if n = 6 then a6 else if n = 7 then a7 else if n = 8 then a8 else if n = 9 then a9 else if n < 30 then lt (n - 10) else if n < 38 then cl (n - 30) else r (n - 38)
def caR (c1 c2 cI cR : ClassId) (n : Nat) : ClassId := if n = 0 then cI else if n = 1 then c1 else if n = 2 then c2 else cR
def poR (n : Nat) : Nat := if n ≤ 3 then n else if n = 4 then 69 else if n ≤ 7 then n - 1 else if n ≤ 9 then n + 59 else if n < 38 then n + 60 else n - 31
theorem poR_inj {i j : Nat} (hi : i < 98) (hj : j < 98) (h : poR i = poR j) : i = j := by
  unfold poR at h
  repeat' split at h
  all_goals omega
theorem poR_lt {i : Nat} (hi : i < 98) : poR i < 98 := by
  unfold poR
  repeat' split
  all_goals omega
theorem refs_c {c : ClassId} {N : Nat} {f g : Nat → Nat} (h : ∀ i, i < N → f i = g i) : refsA c N N f = refsA c N N g := by
  have e : (fun i => if i < N then some (f i) else none) = (fun i => if i < N then some (g i) else none) := by
    funext i
    by_cases hi : i < N
    · rw [if_pos hi, if_pos hi, h i hi]
    · rw [if_neg hi, if_neg hi]
  unfold refsA
  rw [e]
theorem adR_l {h0 a1 a2 a3 a4 a5 a6 a7 a8 a9 : Nat} {r lt cl : Nat → Nat} {i : Nat} (hi : i < 20) : adR h0 a1 a2 a3 a4 a5 a6 a7 a8 a9 r lt cl (10 + i) = lt i := by
  unfold adR
  rw [if_neg (by omega), if_neg (by omega), if_neg (by omega), if_neg (by omega), if_neg (by omega), if_neg (by omega), if_neg (by omega), if_neg (by omega), if_neg (by omega), if_neg (by omega), if_pos (by omega)]
  congr 1
  omega
theorem adR_c {h0 a1 a2 a3 a4 a5 a6 a7 a8 a9 : Nat} {r lt cl : Nat → Nat} {i : Nat} (hi : i < 8) : adR h0 a1 a2 a3 a4 a5 a6 a7 a8 a9 r lt cl (30 + i) = cl i := by
  unfold adR
  rw [if_neg (by omega), if_neg (by omega), if_neg (by omega), if_neg (by omega), if_neg (by omega), if_neg (by omega), if_neg (by omega), if_neg (by omega), if_neg (by omega), if_neg (by omega), if_neg (by omega), if_pos (by omega)]
  congr 1
  omega
theorem adR_r {h0 a1 a2 a3 a4 a5 a6 a7 a8 a9 : Nat} {r lt cl : Nat → Nat} {i : Nat} (hi : i < 60) : adR h0 a1 a2 a3 a4 a5 a6 a7 a8 a9 r lt cl (38 + i) = r i := by
  unfold adR
  rw [if_neg (by omega), if_neg (by omega), if_neg (by omega), if_neg (by omega), if_neg (by omega), if_neg (by omega), if_neg (by omega), if_neg (by omega), if_neg (by omega), if_neg (by omega), if_neg (by omega), if_neg (by omega)]
  congr 1
  omega
theorem wR_at (D : va_G) (h0 a1 a2 a3 a4 a5 a6 a7 a8 a9 : Nat) (r lt cl : Nat → Nat) (c1 c2 cI cR : ClassId) {n : Nat} (hn : n < 98) : (((wA h0 a1 a2 a3 a4 a5 a6 a7 a8 a9 r c1 c2 cI cR).set 1 (a1, refsA c1 20 20 lt) ++ (List.range 20).map (fun i => (lt i, (.inr (2, fL L0) : va_E)))).set 2 (a2, refsA c2 8 8 cl) ++ (List.range 8).map (fun i => (cl i, (.inr (0, fC zI) : va_E))))[poR n]? = some (adR h0 a1 a2 a3 a4 a5 a6 a7 a8 a9 r lt cl n, ceX (D, adR h0 a1 a2 a3 a4 a5 a6 a7 a8 a9 r lt cl, caR c1 c2 cI cR) n (I0 n)) := by
  have hlen := wA_len h0 a1 a2 a3 a4 a5 a6 a7 a8 a9 r c1 c2 cI cR
  by_cases h10 : n < 10
  · rcases (show n = 0 ∨ n = 1 ∨ n = 2 ∨ n = 3 ∨ n = 4 ∨ n = 5 ∨ n = 6 ∨ n = 7 ∨ n = 8 ∨ n = 9 by omega) with rfl | rfl | rfl | rfl | rfl | rfl | rfl | rfl | rfl | rfl
    · rfl
    · show some (a1, refsA c1 20 20 lt) = some (a1, refsA c1 20 20 (fun i => adR h0 a1 a2 a3 a4 a5 a6 a7 a8 a9 r lt cl (10 + i)))
      rw [refs_c (g := fun i => adR h0 a1 a2 a3 a4 a5 a6 a7 a8 a9 r lt cl (10 + i)) (fun i hi => (adR_l hi).symm)]
    · show some (a2, refsA c2 8 8 cl) = some (a2, refsA c2 8 8 (fun i => adR h0 a1 a2 a3 a4 a5 a6 a7 a8 a9 r lt cl (30 + i)))
      rw [refs_c (g := fun i => adR h0 a1 a2 a3 a4 a5 a6 a7 a8 a9 r lt cl (30 + i)) (fun i hi => (adR_c hi).symm)]
    · rfl
    · rfl
    · rfl
    · rfl
    · show some (a7, refsA cR 60 60 r) = some (a7, refsA cR 60 60 (fun i => adR h0 a1 a2 a3 a4 a5 a6 a7 a8 a9 r lt cl (38 + i)))
      rw [refs_c (g := fun i => adR h0 a1 a2 a3 a4 a5 a6 a7 a8 a9 r lt cl (38 + i)) (fun i hi => (adR_r hi).symm)]
    · rfl
    · rfl
  · by_cases h30 : n < 30
    · obtain ⟨i, rfl⟩ : ∃ i, n = 10 + i := ⟨n - 10, by omega⟩
      have hi : i < 20 := by omega
      have e1 : poR (10 + i) = 70 + i := by
        unfold poR
        rw [if_neg (by omega), if_neg (by omega), if_neg (by omega), if_neg (by omega), if_pos (by omega)]
        omega
      have e2 : adR h0 a1 a2 a3 a4 a5 a6 a7 a8 a9 r lt cl (10 + i) = lt i := by
        unfold adR
        rw [if_neg (by omega), if_neg (by omega), if_neg (by omega), if_neg (by omega), if_neg (by omega), if_neg (by omega), if_neg (by omega), if_neg (by omega), if_neg (by omega), if_neg (by omega), if_pos (by omega)]
        congr 1
        omega
      have e3 : I0 (10 + i) = L0 := by
        unfold I0
        rw [if_pos ⟨by omega, by omega⟩]
      rw [e1, e2, ceL _ _ hi, e3]
      rw [List.getElem?_append_left (by simp [hlen]; omega), List.getElem?_set_ne (by omega), List.getElem?_append_right (by simp [hlen])]
      simp [hlen, List.getElem?_range hi]
    · by_cases h38 : n < 38
      · obtain ⟨i, rfl⟩ : ∃ i, n = 30 + i := ⟨n - 30, by omega⟩
        have hi : i < 8 := by omega
        have e1 : poR (30 + i) = 90 + i := by
          unfold poR
          rw [if_neg (by omega), if_neg (by omega), if_neg (by omega), if_neg (by omega), if_pos (by omega)]
          omega
        have e2 : adR h0 a1 a2 a3 a4 a5 a6 a7 a8 a9 r lt cl (30 + i) = cl i := by
          unfold adR
          rw [if_neg (by omega), if_neg (by omega), if_neg (by omega), if_neg (by omega), if_neg (by omega), if_neg (by omega), if_neg (by omega), if_neg (by omega), if_neg (by omega), if_neg (by omega), if_neg (by omega), if_pos (by omega)]
          congr 1
          omega
        have e3 : I0 (30 + i) = zI := by
          unfold I0
          rw [if_neg (by omega)]
        rw [e1, e2, ceC _ _ hi, e3]
        rw [List.getElem?_append_right (by simp [hlen])]
        simp [hlen, List.getElem?_range hi]
      · obtain ⟨i, rfl⟩ : ∃ i, n = 38 + i := ⟨n - 38, by omega⟩
        have hi : i < 60 := by omega
        have e1 : poR (38 + i) = 7 + i := by
          unfold poR
          rw [if_neg (by omega), if_neg (by omega), if_neg (by omega), if_neg (by omega), if_neg (by omega)]
          omega
        have e2 : adR h0 a1 a2 a3 a4 a5 a6 a7 a8 a9 r lt cl (38 + i) = r i := by
          unfold adR
          rw [if_neg (by omega), if_neg (by omega), if_neg (by omega), if_neg (by omega), if_neg (by omega), if_neg (by omega), if_neg (by omega), if_neg (by omega), if_neg (by omega), if_neg (by omega), if_neg (by omega), if_neg (by omega)]
          congr 1
          omega
        have e3 : I0 (38 + i) = zI := by
          unfold I0
          rw [if_neg (by omega)]
        have e4 : lnX (38 + i) = 6 := by
          unfold lnX
          rw [if_neg (by omega), if_neg (by omega), if_neg (by omega)]
        rw [e1, e2, ceA _ _ (show isA (38 + i) from Or.inr (Or.inr (Or.inr (Or.inr (Or.inr (by omega)))))), e3, e4]
        rw [List.getElem?_append_left (by simp [hlen]; omega), List.getElem?_set_ne (by omega), List.getElem?_append_left (by simp [hlen]; omega), List.getElem?_set_ne (by omega)]
        unfold wA wBook
        rw [List.getElem?_append_left (by simp; omega), List.getElem?_append_right (by simp; omega), List.getElem?_append_left (by simp; omega), List.getElem?_append_left (by simp; omega), List.getElem?_append_right (by simp; omega)]
        have e5 : 7 + i - [(h0, (.inr (3, [.ref a1, .ref a2, .ref a3, .ref a4, .int 0, .int 0, .int 0]) : va_E)), (a1, .inl (c1, 20, .inr (.inr (.inr (.inr (fun _ => none)))))), (a2, .inl (c2, 8, .inr (.inr (.inr (.inr (fun _ => none))))))].length - [(a3, (.inr (1, [.ref a5, .ref a6, .ref a7, .ref a8, .ref a9, .int 0, .int 0]) : va_E)), (a5, .inl (cI, 20, .inl zI)), (a6, .inl (cI, 6, .inl zI)), (a7, .inl (cR, 60, .inr (.inr (.inr (.inr (fun i => if i < 60 then some (r i) else none))))))].length = i := by
          simp
          omega
        rw [e5, List.getElem?_map, List.getElem?_range hi]
        rfl
/-- the room is there: its addresses apart, its cells as a new one has them -/
def Room0 (D : va_G) (A : Nat → Prop) (h0 : Nat) (t : State) : Prop := ∃ k : Sk, k.1 = D ∧ k.2.1 0 = h0 ∧ Ij k 98 ∧ va_P k.1 clX (Wd k 98 I0) t.heap ∧ va_K k.1 clX (tyK k) t ∧ ∀ n, n < 98 → A (k.2.1 n)
theorem room0_of {D : va_G} {A : Nat → Prop} {h0 a1 a2 a3 a4 a5 a6 a7 a8 a9 : Nat} {r lt cl : Nat → Nat} {c1 c2 cI cR : ClassId} {t : State} (hP : va_P D clX (((wA h0 a1 a2 a3 a4 a5 a6 a7 a8 a9 r c1 c2 cI cR).set 1 (a1, refsA c1 20 20 lt) ++ (List.range 20).map (fun i => (lt i, (.inr (2, fL L0) : va_E)))).set 2 (a2, refsA c2 8 8 cl) ++ (List.range 8).map (fun i => (cl i, (.inr (0, fC zI) : va_E)))) t.heap) (hK : va_K D clX [(cI, .int), (c1, .object "SignetRoom$Letter"), (c2, .object "SignetRoom$CallList"), (cR, .array .int)] t) (hD : va_D A (((wA h0 a1 a2 a3 a4 a5 a6 a7 a8 a9 r c1 c2 cI cR).set 1 (a1, refsA c1 20 20 lt) ++ (List.range 20).map (fun i => (lt i, (.inr (2, fL L0) : va_E)))).set 2 (a2, refsA c2 8 8 cl) ++ (List.range 8).map (fun i => (cl i, (.inr (0, fC zI) : va_E))))) : Room0 D A h0 t := by
  refine ⟨(D, adR h0 a1 a2 a3 a4 a5 a6 a7 a8 a9 r lt cl, caR c1 c2 cI cR), rfl, rfl, ⟨Nat.le_refl _, fun i j hi hj e => ?_⟩, fun n q hq => ?_, hK, fun n hn => ?_⟩
  · exact poR_inj hi hj (hD.1 _ _ _ _ (wR_at D h0 a1 a2 a3 a4 a5 a6 a7 a8 a9 r lt cl c1 c2 cI cR hi) (wR_at D h0 a1 a2 a3 a4 a5 a6 a7 a8 a9 r lt cl c1 c2 cI cR hj) e)
  · obtain ⟨hn, rfl⟩ := wd_in _ _ hq
    exact hP _ _ (wR_at D h0 a1 a2 a3 a4 a5 a6 a7 a8 a9 r lt cl c1 c2 cI cR hn)
  · exact hD.2 _ _ (wR_at D h0 a1 a2 a3 a4 a5 a6 a7 a8 a9 r lt cl c1 c2 cI cR hn)
