/-! 46: what the law asks of a letter -/
set_option maxHeartbeats 4000000 in
set_option maxRecDepth 100000 in
theorem ct_L_isLetterRight (l : Launch) (k : Sk) (M : Nat) (I : IS) (hJ : Ij k M) (X : IS) (cn lcn : Nat) (hQ : RQ X cn lcn I) (i : Nat) (hi : i < cn) (t u : Nat) (ht : t ≤ 999) (hu : u ≤ 3) : MtI l yL_isLetterRight wsL_isLetterRight 13 [.ref (k.2.1 0), .int (nI i), .int (nI t), .int (nI u)] k M I (fun r I' => r = nI 1 ∧ RQ X cn lcn I') := by
  refine mtIz_of (cc := cL_isLetterRight) (maxL := 11) hJ (by decide) rfl (Nat.le_of_ble_eq_true rfl) ?_
  intro p e s m args below meth c A ls C0 h hr hl
  have hx := C0.1.1
  have hb := C0.1.2.1
  have hown := C0.1.2.2.2.1
  have hts := C0.1.2.2.2.2
  have hM := hJ.1
  have hl : lv_has ls 11 [(0, _), (1, _), (2, _), (3, _)] := hl
  obtain ⟨v, fl, hL⟩ := lfN X lcn (nI t) (nI u) hi
  have hn60 := hL.n60
  have hrng := hL.rng
  have hl6 := hL.l6
  have hc20 := hQ.c20
  have key407 : ∀ (I1 : IS), RQ X cn lcn I1 → ∀ (H : Heap) (locs : List Loc) (ls : Array Slot), HX k M A s I1 H locs → lv_has ls 11 [(4, .int (nI v)), (5, .int (nI (chs X cn i).length)), (6, .int fl), (0, .ref (k.2.1 0)), (1, .int (nI i)), (2, .int (nI t)), (3, .int (nI u))] → W p l e (Rm 13) s m args below meth c H locs 0 0 (MQ below (va_Qi (fun r I' => r = nI 1 ∧ RQ X cn lcn I') (EnX k M) A) args s 0 0 A) (F0 m 407 ls []) := by
    intro I1 hQ H locs ls h hl
    obtain ⟨hto0, hto1⟩ := htF_spec (X := X) (lcn := lcn) (t0 := t) (u := nI u) (acc := chs X cn i) ht
    refine lv_aload_n hx hb dL_isLetterRight_407 rfl (lv_at hl 3 rfl) ?_
    refine lv_iload_n hx hb dL_isLetterRight_408 rfl (lv_at hl 4 rfl) ?_
    refine lv_iload_n hx hb dL_isLetterRight_409 rfl (lv_at hl 5 rfl) ?_
    refine lv_iload_n hx hb dL_isLetterRight_410 rfl (lv_at hl 6 rfl) ?_
    refine r_cVI C0 h hl.1 _ (by omega) (ce0 k _) rfl (ct_X3_holdsTo l k M _ hJ cn hQ.c20 hQ.n4 lcn hQ.l8 hQ.n5 hQ.st i hi t ht (nI u) (isW_n hu (by omega))) gL_isLetterRight_X3_holdsTo rfl (by decide +kernel) (n := 3) ⟨Nat.le_of_ble_eq_true rfl, Nat.le_of_ble_eq_true rfl⟩ ⟨Nat.zero_le _, Nat.zero_le _⟩ (Nat.le_of_ble_eq_true rfl) rfl rfl dL_isLetterRight_411 (fun r411 I411 H locs hp h => ?_)
    obtain ⟨rfl, hq9⟩ := hp
    rw [hQ.1] at hq9 ⊢
    have hQ := hQ.ask (hq9.trans hQ.1.symm)
    refine lv_istore hx hb dL_isLetterRight_414 hl (by decide) rfl (fun ls hl => ?_)
    have hl : lv_has ls 11 [(10, _), (4, _), (5, _), (6, _), (0, _), (1, _), (2, _), (3, _)] := hl
    refine lv_iload hx hb dL_isLetterRight_416 (lv_at hl 1 rfl) ?_
    refine lv_if_ne (tgt := 475) hx hb dL_isLetterRight_418 (by decide) (fun c_418 => ?_) (fun c_418 => ?_)
    · have d_418 := (not_congr (nI_eq0 (by omega))).mp c_418
      rw [hto0 (hL.no d_418)] at hl
      refine lv_iload hx hb dL_isLetterRight_475 (lv_at hl 0 rfl) ?_
      refine lv_iconst (v := (-1)) hx hb dL_isLetterRight_477 (by decide) ?_
      refine lv_icmp_ne (tgt := 485) hx hb dL_isLetterRight_478 (by decide) (fun c_478 => ?_) (fun c_478 => ?_)
      · exact absurd rfl c_478
      · refine lv_iconst (v := nI 1) hx hb dL_isLetterRight_481 (by decide) ?_
        refine lv_goto (tgt := 486) hx hb dL_isLetterRight_482 (by decide) ?_
        exact r_zret C0 h hr dL_isLetterRight_486 zb1 ⟨rfl, hQ⟩
    · have d_418 := (nI_eq0 (by omega)).mp c_418
      obtain ⟨to, h1, h2, h3, h4, h5⟩ := hto1 (hL.yes d_418)
      rw [h3] at hl
      refine lv_iload hx hb dL_isLetterRight_421 (lv_at hl 0 rfl) ?_
      refine lv_iload_n hx hb dL_isLetterRight_423 rfl (lv_at hl 6 rfl) ?_
      refine lv_icmp_lt (tgt := 471) hx hb dL_isLetterRight_424 (by decide) (fun c_424 => ?_) (fun c_424 => ?_)
      · have d_424 := (nI_ltI (by omega) (by omega)).mp c_424
        exact False.elim (by omega)
      · have d_424 := (not_congr (nI_ltI (by omega) (by omega))).mp c_424
        refine lv_iload hx hb dL_isLetterRight_427 (lv_at hl 0 rfl) ?_
        refine lv_sipush (v := nI 999) hx hb dL_isLetterRight_429 (by decide) ?_
        refine lv_icmp_gt (tgt := 471) hx hb dL_isLetterRight_432 (by decide) (fun c_432 => ?_) (fun c_432 => ?_)
        · have d_432 := (nI_ltI (by omega) (by omega)).mp c_432
          exact False.elim (by omega)
        · have d_432 := (not_congr (nI_ltI (by omega) (by omega))).mp c_432
          refine lv_aload_n hx hb dL_isLetterRight_435 rfl (lv_at hl 4 rfl) ?_
          refine lv_iload_n hx hb dL_isLetterRight_436 rfl (lv_at hl 5 rfl) ?_
          refine lv_iload hx hb dL_isLetterRight_437 (lv_at hl 0 rfl) ?_
          refine lv_iload_n hx hb dL_isLetterRight_439 rfl (lv_at hl 7 rfl) ?_
          refine r_cVI C0 h hl.1 _ (by omega) (ce0 k _) rfl (ct_X3_verdict l k M _ hJ cn hQ.c20 hQ.n4 lcn hQ.l8 hQ.n5 hQ.st i hi (nI to) (nI u) (isW_n h2 (by omega)) (isW_n hu (by omega))) gL_isLetterRight_X3_verdict rfl (by decide +kernel) (n := 3) ⟨Nat.le_of_ble_eq_true rfl, Nat.le_of_ble_eq_true rfl⟩ ⟨Nat.zero_le _, Nat.zero_le _⟩ (Nat.le_of_ble_eq_true rfl) rfl rfl dL_isLetterRight_440 (fun r440 I440 H locs hp h => ?_)
          obtain ⟨rfl, hq9⟩ := hp
          rw [hQ.1] at hq9 ⊢
          have hQ := hQ.ask (hq9.trans hQ.1.symm)
          rw [dcF_iff.mpr h4]
          refine lv_if_ne (tgt := 471) hx hb dL_isLetterRight_443 (by decide) (fun c_443 => ?_) (fun c_443 => ?_)
          · exact absurd (by decide) c_443
          · refine lv_iload hx hb dL_isLetterRight_446 (lv_at hl 0 rfl) ?_
            refine lv_sipush (v := nI 999) hx hb dL_isLetterRight_448 (by decide) ?_
            refine lv_icmp_eq (tgt := 467) hx hb dL_isLetterRight_451 (by decide) (fun c_451 => ?_) (fun c_451 => ?_)
            · have d_451 := (nI_eq (by omega) (by omega)).mp c_451
              refine lv_iconst (v := nI 1) hx hb dL_isLetterRight_467 (by decide) ?_
              refine lv_goto (tgt := 486) hx hb dL_isLetterRight_468 (by decide) ?_
              exact r_zret C0 h hr dL_isLetterRight_486 zb1 ⟨rfl, hQ⟩
            · have d_451 := (not_congr (nI_eq (by omega) (by omega))).mp c_451
              refine lv_aload_n hx hb dL_isLetterRight_454 rfl (lv_at hl 4 rfl) ?_
              refine lv_iload_n hx hb dL_isLetterRight_455 rfl (lv_at hl 5 rfl) ?_
              refine lv_iload hx hb dL_isLetterRight_456 (lv_at hl 0 rfl) ?_
              refine lv_iconst (v := nI 1) hx hb dL_isLetterRight_458 (by decide) ?_
              refine lv_iadd hx hb dL_isLetterRight_459 ?_
              rw [nI_add]
              refine lv_iload_n hx hb dL_isLetterRight_460 rfl (lv_at hl 7 rfl) ?_
              refine r_cVI C0 h hl.1 _ (by omega) (ce0 k _) rfl (ct_X3_verdict l k M _ hJ cn hQ.c20 hQ.n4 lcn hQ.l8 hQ.n5 hQ.st i hi (nI (to + 1)) (nI u) (isW_n (by omega) (by omega)) (isW_n hu (by omega))) gL_isLetterRight_X3_verdict rfl (by decide +kernel) (n := 3) ⟨Nat.le_of_ble_eq_true rfl, Nat.le_of_ble_eq_true rfl⟩ ⟨Nat.zero_le _, Nat.zero_le _⟩ (Nat.le_of_ble_eq_true rfl) rfl rfl dL_isLetterRight_461 (fun r461 I461 H locs hp h => ?_)
              obtain ⟨rfl, hq9⟩ := hp
              rw [hQ.1] at hq9 ⊢
              have hQ := hQ.ask (hq9.trans hQ.1.symm)
              refine lv_if_eq (tgt := 471) hx hb dL_isLetterRight_464 (by decide) (fun c_464 => ?_) (fun c_464 => ?_)
              · exact absurd c_464 (tn9 h5 d_451)
              · refine lv_iconst (v := nI 1) hx hb dL_isLetterRight_467 (by decide) ?_
                refine lv_goto (tgt := 486) hx hb dL_isLetterRight_468 (by decide) ?_
                exact r_zret C0 h hr dL_isLetterRight_486 zb1 ⟨rfl, hQ⟩
  have key337 : ∀ (I1 : IS), RQ X cn lcn I1 → ∀ (H : Heap) (locs : List Loc) (ls : Array Slot), HX k M A s I1 H locs → lv_has ls 11 [(8, .int (nI (shC X cn lcn i (nI t) (nI u)).length)), (9, .int (laI (shC X cn lcn i (nI t) (nI u)) (shC X cn lcn i (nI t) (nI u)).length)), (4, .int (nI v)), (5, .int (nI (chs X cn i).length)), (6, .int fl), (0, .ref (k.2.1 0)), (1, .int (nI i)), (2, .int (nI t)), (3, .int (nI u))] → W p l e (Rm 13) s m args below meth c H locs 0 0 (MQ below (va_Qi (fun r I' => r = nI 1 ∧ RQ X cn lcn I') (EnX k M) A) args s 0 0 A) (F0 m 337 ls []) := by
    intro I1 hQ H locs ls h hl
    have hcn := hQ.c20
    refine lv_iload hx hb dL_isLetterRight_337 (lv_at hl 0 rfl) ?_
    refine lv_bipush (v := nI 6) hx hb dL_isLetterRight_339 (by decide) ?_
    refine lv_icmp_gt (tgt := 405) hx hb dL_isLetterRight_341 (by decide) (fun c_341 => ?_) (fun c_341 => ?_)
    · have d_341 := (nI_ltI (by omega) (by omega)).mp c_341
      exact False.elim (by omega)
    · have d_341 := (not_congr (nI_ltI (by omega) (by omega))).mp c_341
      refine lv_iload hx hb dL_isLetterRight_344 (lv_at hl 0 rfl) ?_
      refine lv_if_ne (tgt := 353) hx hb dL_isLetterRight_346 (by decide) (fun c_346 => ?_) (fun c_346 => ?_)
      · have d_346 := (not_congr (nI_eq0 (by omega))).mp c_346
        refine lv_iconst (v := nI 0) hx hb dL_isLetterRight_353 (by decide) ?_
        refine lv_iload hx hb dL_isLetterRight_354 (lv_at hl 2 rfl) ?_
        refine lv_bipush (v := nI 10) hx hb dL_isLetterRight_356 (by decide) ?_
        refine lv_icmp_ne (tgt := 365) hx hb dL_isLetterRight_358 (by decide) (fun c_358 => ?_) (fun c_358 => ?_)
        · have d_358 := (not_congr (nI_eq (by omega) (by omega))).mp c_358
          refine lv_iconst (v := nI 0) hx hb dL_isLetterRight_365 (by decide) ?_
          refine lv_icmp_ne (tgt := 405) hx hb dL_isLetterRight_366 (by decide) (fun c_366 => ?_) (fun c_366 => ?_)
          · exact absurd (by decide) c_366
          · refine lv_iload hx hb dL_isLetterRight_369 (lv_at hl 0 rfl) ?_
            refine lv_if_le (tgt := 386) hx hb dL_isLetterRight_371 (by decide) (fun c_371 => ?_) (fun c_371 => ?_)
            · have d_371 := (nI_le0 (by omega)).mp c_371
              refine lv_iload hx hb dL_isLetterRight_386 (lv_at hl 4 rfl) ?_
              refine lv_iload hx hb dL_isLetterRight_388 (lv_at hl 0 rfl) ?_
              refine lv_icmp_lt (tgt := 407) hx hb dL_isLetterRight_390 (by decide) (fun c_390 => ?_) (fun c_390 => ?_)
              · exact key407 _ hQ _ _ _ h (lv_sub hl [2, 3, 4, 5, 6, 7, 8] rfl)
              · have d_390 := hL.fl_ge c_390
                refine lv_iload hx hb dL_isLetterRight_393 (lv_at hl 2 rfl) ?_
                refine lv_bipush (v := nI 10) hx hb dL_isLetterRight_395 (by decide) ?_
                refine lv_icmp_eq (tgt := 407) hx hb dL_isLetterRight_397 (by decide) (fun c_397 => ?_) (fun c_397 => ?_)
                · have d_397 := (nI_eq (by omega) (by omega)).mp c_397
                  exact key407 _ hQ _ _ _ h (lv_sub hl [2, 3, 4, 5, 6, 7, 8] rfl)
                · have d_397 := (not_congr (nI_eq (by omega) (by omega))).mp c_397
                  refine lv_iload hx hb dL_isLetterRight_400 (lv_at hl 2 rfl) ?_
                  refine lv_if_eq (tgt := 407) hx hb dL_isLetterRight_402 (by decide) (fun c_402 => ?_) (fun c_402 => ?_)
                  · have d_402 := (nI_eq0 (by omega)).mp c_402
                    exact key407 _ hQ _ _ _ h (lv_sub hl [2, 3, 4, 5, 6, 7, 8] rfl)
                  · have d_402 := (not_congr (nI_eq0 (by omega))).mp c_402
                    exact False.elim (by omega)
            · have d_371 := (not_congr (nI_le0 (by omega))).mp c_371
              rw [laI_p d_371] at hl
              refine lv_aload_n hx hb dL_isLetterRight_374 rfl (lv_at hl 5 rfl) ?_
              refine lv_iload hx hb dL_isLetterRight_375 (lv_at hl 1 rfl) ?_
              refine lv_bipush (v := nI 12) hx hb dL_isLetterRight_377 (by decide) ?_
              refine r_cVI C0 h hl.1 _ (by omega) (ce0 k _) rfl (ct_X3_ofLetter l k M _ hJ cn hQ.c20 hQ.n4 _ (hL.mem (show (shC X cn lcn i (nI t) (nI u)).length - 1 < (shC X cn lcn i (nI t) (nI u)).length by omega)) 12 (by decide)) gL_isLetterRight_X3_ofLetter rfl (by decide +kernel) (n := 2) ⟨Nat.le_of_ble_eq_true rfl, Nat.le_of_ble_eq_true rfl⟩ ⟨Nat.zero_le _, Nat.zero_le _⟩ (Nat.le_of_ble_eq_true rfl) rfl rfl dL_isLetterRight_379 (fun r379 I379 H locs hp h => ?_)
              obtain ⟨rfl, hq9⟩ := hp
              rw [hq9] at h
              rw [hQ.L (hL.mem (show (shC X cn lcn i (nI t) (nI u)).length - 1 < (shC X cn lcn i (nI t) (nI u)).length by omega)), anc_py (hL.ok (show (shC X cn lcn i (nI t) (nI u)).length - 1 < (shC X cn lcn i (nI t) (nI u)).length by omega)).2.2]
              refine lv_iconst (v := nI 1) hx hb dL_isLetterRight_382 (by decide) ?_
              refine lv_icmp_ne (tgt := 405) hx hb dL_isLetterRight_383 (by decide) (fun c_383 => ?_) (fun c_383 => ?_)
              · exact absurd (by decide) c_383
              · refine lv_iload hx hb dL_isLetterRight_386 (lv_at hl 4 rfl) ?_
                refine lv_iload hx hb dL_isLetterRight_388 (lv_at hl 0 rfl) ?_
                refine lv_icmp_lt (tgt := 407) hx hb dL_isLetterRight_390 (by decide) (fun c_390 => ?_) (fun c_390 => ?_)
                · exact key407 _ hQ _ _ _ h (lv_sub hl [2, 3, 4, 5, 6, 7, 8] rfl)
                · have d_390 := hL.fl_ge c_390
                  refine lv_iload hx hb dL_isLetterRight_393 (lv_at hl 2 rfl) ?_
                  refine lv_bipush (v := nI 10) hx hb dL_isLetterRight_395 (by decide) ?_
                  refine lv_icmp_eq (tgt := 407) hx hb dL_isLetterRight_397 (by decide) (fun c_397 => ?_) (fun c_397 => ?_)
                  · have d_397 := (nI_eq (by omega) (by omega)).mp c_397
                    exact key407 _ hQ _ _ _ h (lv_sub hl [2, 3, 4, 5, 6, 7, 8] rfl)
                  · have d_397 := (not_congr (nI_eq (by omega) (by omega))).mp c_397
                    refine lv_iload hx hb dL_isLetterRight_400 (lv_at hl 2 rfl) ?_
                    refine lv_if_eq (tgt := 407) hx hb dL_isLetterRight_402 (by decide) (fun c_402 => ?_) (fun c_402 => ?_)
                    · have d_402 := (nI_eq0 (by omega)).mp c_402
                      exact key407 _ hQ _ _ _ h (lv_sub hl [2, 3, 4, 5, 6, 7, 8] rfl)
                    · have d_402 := (not_congr (nI_eq0 (by omega))).mp c_402
                      exact False.elim (by omega)
        · have d_358 := (nI_eq (by omega) (by omega)).mp c_358
          refine lv_iconst (v := nI 1) hx hb dL_isLetterRight_361 (by decide) ?_
          refine lv_goto (tgt := 366) hx hb dL_isLetterRight_362 (by decide) ?_
          refine lv_icmp_ne (tgt := 405) hx hb dL_isLetterRight_366 (by decide) (fun c_366 => ?_) (fun c_366 => ?_)
          · exact False.elim (by omega)
          · exact absurd c_366 (by decide)
      · have d_346 := (nI_eq0 (by omega)).mp c_346
        refine lv_iconst (v := nI 1) hx hb dL_isLetterRight_349 (by decide) ?_
        refine lv_goto (tgt := 354) hx hb dL_isLetterRight_350 (by decide) ?_
        refine lv_iload hx hb dL_isLetterRight_354 (lv_at hl 2 rfl) ?_
        refine lv_bipush (v := nI 10) hx hb dL_isLetterRight_356 (by decide) ?_
        refine lv_icmp_ne (tgt := 365) hx hb dL_isLetterRight_358 (by decide) (fun c_358 => ?_) (fun c_358 => ?_)
        · have d_358 := (not_congr (nI_eq (by omega) (by omega))).mp c_358
          refine lv_iconst (v := nI 0) hx hb dL_isLetterRight_365 (by decide) ?_
          refine lv_icmp_ne (tgt := 405) hx hb dL_isLetterRight_366 (by decide) (fun c_366 => ?_) (fun c_366 => ?_)
          · exact False.elim (by omega)
          · exact absurd c_366 (by decide)
        · have d_358 := (nI_eq (by omega) (by omega)).mp c_358
          refine lv_iconst (v := nI 1) hx hb dL_isLetterRight_361 (by decide) ?_
          refine lv_goto (tgt := 366) hx hb dL_isLetterRight_362 (by decide) ?_
          refine lv_icmp_ne (tgt := 405) hx hb dL_isLetterRight_366 (by decide) (fun c_366 => ?_) (fun c_366 => ?_)
          · exact absurd (by decide) c_366
          · refine lv_iload hx hb dL_isLetterRight_369 (lv_at hl 0 rfl) ?_
            refine lv_if_le (tgt := 386) hx hb dL_isLetterRight_371 (by decide) (fun c_371 => ?_) (fun c_371 => ?_)
            · have d_371 := (nI_le0 (by omega)).mp c_371
              refine lv_iload hx hb dL_isLetterRight_386 (lv_at hl 4 rfl) ?_
              refine lv_iload hx hb dL_isLetterRight_388 (lv_at hl 0 rfl) ?_
              refine lv_icmp_lt (tgt := 407) hx hb dL_isLetterRight_390 (by decide) (fun c_390 => ?_) (fun c_390 => ?_)
              · exact key407 _ hQ _ _ _ h (lv_sub hl [2, 3, 4, 5, 6, 7, 8] rfl)
              · have d_390 := hL.fl_ge c_390
                refine lv_iload hx hb dL_isLetterRight_393 (lv_at hl 2 rfl) ?_
                refine lv_bipush (v := nI 10) hx hb dL_isLetterRight_395 (by decide) ?_
                refine lv_icmp_eq (tgt := 407) hx hb dL_isLetterRight_397 (by decide) (fun c_397 => ?_) (fun c_397 => ?_)
                · have d_397 := (nI_eq (by omega) (by omega)).mp c_397
                  exact key407 _ hQ _ _ _ h (lv_sub hl [2, 3, 4, 5, 6, 7, 8] rfl)
                · have d_397 := (not_congr (nI_eq (by omega) (by omega))).mp c_397
                  refine lv_iload hx hb dL_isLetterRight_400 (lv_at hl 2 rfl) ?_
                  refine lv_if_eq (tgt := 407) hx hb dL_isLetterRight_402 (by decide) (fun c_402 => ?_) (fun c_402 => ?_)
                  · have d_402 := (nI_eq0 (by omega)).mp c_402
                    exact key407 _ hQ _ _ _ h (lv_sub hl [2, 3, 4, 5, 6, 7, 8] rfl)
                  · have d_402 := (not_congr (nI_eq0 (by omega))).mp c_402
                    exact False.elim (by omega)
            · have d_371 := (not_congr (nI_le0 (by omega))).mp c_371
              rw [laI_p d_371] at hl
              refine lv_aload_n hx hb dL_isLetterRight_374 rfl (lv_at hl 5 rfl) ?_
              refine lv_iload hx hb dL_isLetterRight_375 (lv_at hl 1 rfl) ?_
              refine lv_bipush (v := nI 12) hx hb dL_isLetterRight_377 (by decide) ?_
              refine r_cVI C0 h hl.1 _ (by omega) (ce0 k _) rfl (ct_X3_ofLetter l k M _ hJ cn hQ.c20 hQ.n4 _ (hL.mem (show (shC X cn lcn i (nI t) (nI u)).length - 1 < (shC X cn lcn i (nI t) (nI u)).length by omega)) 12 (by decide)) gL_isLetterRight_X3_ofLetter rfl (by decide +kernel) (n := 2) ⟨Nat.le_of_ble_eq_true rfl, Nat.le_of_ble_eq_true rfl⟩ ⟨Nat.zero_le _, Nat.zero_le _⟩ (Nat.le_of_ble_eq_true rfl) rfl rfl dL_isLetterRight_379 (fun r379 I379 H locs hp h => ?_)
              obtain ⟨rfl, hq9⟩ := hp
              rw [hq9] at h
              rw [hQ.L (hL.mem (show (shC X cn lcn i (nI t) (nI u)).length - 1 < (shC X cn lcn i (nI t) (nI u)).length by omega)), anc_py (hL.ok (show (shC X cn lcn i (nI t) (nI u)).length - 1 < (shC X cn lcn i (nI t) (nI u)).length by omega)).2.2]
              refine lv_iconst (v := nI 1) hx hb dL_isLetterRight_382 (by decide) ?_
              refine lv_icmp_ne (tgt := 405) hx hb dL_isLetterRight_383 (by decide) (fun c_383 => ?_) (fun c_383 => ?_)
              · exact absurd (by decide) c_383
              · refine lv_iload hx hb dL_isLetterRight_386 (lv_at hl 4 rfl) ?_
                refine lv_iload hx hb dL_isLetterRight_388 (lv_at hl 0 rfl) ?_
                refine lv_icmp_lt (tgt := 407) hx hb dL_isLetterRight_390 (by decide) (fun c_390 => ?_) (fun c_390 => ?_)
                · exact key407 _ hQ _ _ _ h (lv_sub hl [2, 3, 4, 5, 6, 7, 8] rfl)
                · have d_390 := hL.fl_ge c_390
                  refine lv_iload hx hb dL_isLetterRight_393 (lv_at hl 2 rfl) ?_
                  refine lv_bipush (v := nI 10) hx hb dL_isLetterRight_395 (by decide) ?_
                  refine lv_icmp_eq (tgt := 407) hx hb dL_isLetterRight_397 (by decide) (fun c_397 => ?_) (fun c_397 => ?_)
                  · have d_397 := (nI_eq (by omega) (by omega)).mp c_397
                    exact key407 _ hQ _ _ _ h (lv_sub hl [2, 3, 4, 5, 6, 7, 8] rfl)
                  · have d_397 := (not_congr (nI_eq (by omega) (by omega))).mp c_397
                    refine lv_iload hx hb dL_isLetterRight_400 (lv_at hl 2 rfl) ?_
                    refine lv_if_eq (tgt := 407) hx hb dL_isLetterRight_402 (by decide) (fun c_402 => ?_) (fun c_402 => ?_)
                    · have d_402 := (nI_eq0 (by omega)).mp c_402
                      exact key407 _ hQ _ _ _ h (lv_sub hl [2, 3, 4, 5, 6, 7, 8] rfl)
                    · have d_402 := (not_congr (nI_eq0 (by omega))).mp c_402
                      exact False.elim (by omega)
  have key167 : ∀ (I1 : IS), RQ X cn lcn I1 → ∀ (H : Heap) (locs : List Loc) (ls : Array Slot), HX k M A s I1 H locs → lv_has ls 11 [(4, .int (nI v)), (5, .int (nI (chs X cn i).length)), (6, .int fl), (0, .ref (k.2.1 0)), (1, .int (nI i)), (2, .int (nI t)), (3, .int (nI u))] → W p l e (Rm 13) s m args below meth c H locs 0 0 (MQ below (va_Qi (fun r I' => r = nI 1 ∧ RQ X cn lcn I') (EnX k M) A) args s 0 0 A) (F0 m 167 ls []) := by
    intro I1 hQ H locs ls h hl
    refine lv_iconst (v := nI 0) hx hb dL_isLetterRight_167 (by decide) ?_
    refine lv_istore hx hb dL_isLetterRight_168 hl (by decide) rfl (fun ls hl => ?_)
    have hl : lv_has ls 11 [(8, _), (4, _), (5, _), (6, _), (0, _), (1, _), (2, _), (3, _)] := hl
    refine lv_iconst (v := (-1)) hx hb dL_isLetterRight_170 (by decide) ?_
    refine lv_istore hx hb dL_isLetterRight_171 hl (by decide) rfl (fun ls hl => ?_)
    have hl : lv_has ls 11 [(9, _), (8, _), (4, _), (5, _), (6, _), (0, _), (1, _), (2, _), (3, _)] := hl
    refine lv_aload_n hx hb dL_isLetterRight_173 rfl (lv_at hl 5 rfl) ?_
    refine lv_iload_n hx hb dL_isLetterRight_174 rfl (lv_at hl 6 rfl) ?_
    refine lv_iload_n hx hb dL_isLetterRight_175 rfl (lv_at hl 7 rfl) ?_
    refine lv_iload_n hx hb dL_isLetterRight_176 rfl (lv_at hl 8 rfl) ?_
    refine lv_iconst (v := nI 0) hx hb dL_isLetterRight_177 (by decide) ?_
    refine r_cVI C0 h hl.1 _ (by omega) (ce0 k _) rfl (ct_X3_chain l k M _ hJ cn hQ.c20 hQ.n4 lcn hQ.l8 hQ.n5 hQ.st i hi (nI t) (nI u) (isW_n ht (by omega)) (isW_n hu (by omega)) (nI 0)) gL_isLetterRight_X3_chain rfl (by decide +kernel) (n := 4) ⟨Nat.le_of_ble_eq_true rfl, Nat.le_of_ble_eq_true rfl⟩ ⟨Nat.zero_le _, Nat.zero_le _⟩ (Nat.le_of_ble_eq_true rfl) rfl rfl dL_isLetterRight_178 (fun r178 I178 H locs hp h => ?_)
    obtain ⟨rfl, hq9⟩ := hp
    rw [hQ.1] at hq9 ⊢
    have hQ := hQ.ask (hq9.trans hQ.1.symm)
    rw [shC_mb]
    refine lv_istore hx hb dL_isLetterRight_181 hl (by decide) rfl (fun ls hl => ?_)
    have hl : lv_has ls 11 [(10, _), (9, _), (8, _), (4, _), (5, _), (6, _), (0, _), (1, _), (2, _), (3, _)] := hl
    have key183 : ∀ (n : Nat) (pz : Nat) (I1 : IS), 8 - pz < n → pz ≤ (shC X cn lcn i (nI t) (nI u)).length → RQ X cn lcn I1 → ∀ (H : Heap) (locs : List Loc) (ls : Array Slot), HX k M A s I1 H locs → lv_has ls 11 [(8, .int (nI pz)), (9, .int (laI (shC X cn lcn i (nI t) (nI u)) pz)), (10, .int (mbI [(shC X cn lcn i (nI t) (nI u))] 0 (nI pz))), (4, .int (nI v)), (5, .int (nI (chs X cn i).length)), (6, .int fl), (0, .ref (k.2.1 0)), (1, .int (nI i)), (2, .int (nI t)), (3, .int (nI u))] → W p l e (Rm 13) s m args below meth c H locs 0 0 (MQ below (va_Qi (fun r I' => r = nI 1 ∧ RQ X cn lcn I') (EnX k M) A) args s 0 0 A) (F0 m 183 ls []) := by
      intro n
      induction n with
      | zero =>
        intro pz I1 hn183 hp9 hQ H locs ls h hl
        exact absurd hn183 (Nat.not_lt_zero _)
      | succ n ih183 =>
        intro pz I1 hn183 hp9 hQ H locs ls h hl
        have hcn := hQ.c20
        have key215 : ∀ (I1 : IS), pz < (shC X cn lcn i (nI t) (nI u)).length → RQ X cn lcn I1 → ∀ (H : Heap) (locs : List Loc) (ls : Array Slot), HX k M A s I1 H locs → lv_has ls 11 [(8, .int (nI pz)), (10, .int (nI (gtN (shC X cn lcn i (nI t) (nI u)) pz))), (4, .int (nI v)), (5, .int (nI (chs X cn i).length)), (6, .int fl), (0, .ref (k.2.1 0)), (1, .int (nI i)), (2, .int (nI t)), (3, .int (nI u))] → W p l e (Rm 13) s m args below meth c H locs 0 0 (MQ below (va_Qi (fun r I' => r = nI 1 ∧ RQ X cn lcn I') (EnX k M) A) args s 0 0 A) (F0 m 215 ls []) := by
          intro I1 hp1 hQ H locs ls h hl
          have hb9 := hL.mem hp1
          have hk9 := hL.ok hp1
          have hcn := hQ.c20
          refine lv_iload hx hb dL_isLetterRight_215 (lv_at hl 2 rfl) ?_
          refine lv_if_ne (tgt := 316) hx hb dL_isLetterRight_217 (by decide) (fun c_217 => ?_) (fun c_217 => ?_)
          · have d_217 := (not_congr (nI_eq0 (by omega))).mp c_217
            refine lv_iload hx hb dL_isLetterRight_316 (lv_at hl 1 rfl) ?_
            refine lv_istore hx hb dL_isLetterRight_318 hl (by decide) rfl (fun ls hl => ?_)
            have hl : lv_has ls 11 [(9, _), (8, _), (10, _), (4, _), (5, _), (6, _), (0, _), (1, _), (2, _), (3, _)] := hl
            refine lv_iinc (v := nI (pz + 1)) hx hb dL_isLetterRight_320 hl (k := 1) rfl (nI_1 _) (by decide) rfl (fun ls hl => ?_)
            have hl : lv_has ls 11 [(8, _), (9, _), (10, _), (4, _), (5, _), (6, _), (0, _), (1, _), (2, _), (3, _)] := hl
            refine lv_aload_n hx hb dL_isLetterRight_323 rfl (lv_at hl 6 rfl) ?_
            refine lv_iload_n hx hb dL_isLetterRight_324 rfl (lv_at hl 7 rfl) ?_
            refine lv_iload_n hx hb dL_isLetterRight_325 rfl (lv_at hl 8 rfl) ?_
            refine lv_iload_n hx hb dL_isLetterRight_326 rfl (lv_at hl 9 rfl) ?_
            refine lv_iload hx hb dL_isLetterRight_327 (lv_at hl 0 rfl) ?_
            refine r_cVI C0 h hl.1 _ (by omega) (ce0 k _) rfl (ct_X3_chain l k M _ hJ cn hQ.c20 hQ.n4 lcn hQ.l8 hQ.n5 hQ.st i hi (nI t) (nI u) (isW_n ht (by omega)) (isW_n hu (by omega)) (nI (pz + 1))) gL_isLetterRight_X3_chain rfl (by decide +kernel) (n := 4) ⟨Nat.le_of_ble_eq_true rfl, Nat.le_of_ble_eq_true rfl⟩ ⟨Nat.zero_le _, Nat.zero_le _⟩ (Nat.le_of_ble_eq_true rfl) rfl rfl dL_isLetterRight_329 (fun r329 I329 H locs hp h => ?_)
            obtain ⟨rfl, hq9⟩ := hp
            rw [hQ.1] at hq9 ⊢
            have hQ := hQ.ask (hq9.trans hQ.1.symm)
            rw [shC_mb]
            refine lv_istore hx hb dL_isLetterRight_332 hl (by decide) rfl (fun ls hl => ?_)
            have hl : lv_has ls 11 [(10, _), (8, _), (9, _), (4, _), (5, _), (6, _), (0, _), (1, _), (2, _), (3, _)] := hl
            refine lv_goto (tgt := 183) hx hb dL_isLetterRight_334 (by decide) ?_
            exact ih183 (pz + 1) _ (by omega) (by omega) hQ _ _ _ h (lv_sub hl [1, 2, 0, 3, 4, 5, 6, 7, 8, 9] rfl)
          · have d_217 := (nI_eq0 (by omega)).mp c_217
            obtain ⟨hh1, hh2, hh3, hh4⟩ := hold_at (hL.hold d_217) hp1
            refine lv_iload_n hx hb dL_isLetterRight_220 rfl (lv_at hl 7 rfl) ?_
            refine lv_aload_n hx hb dL_isLetterRight_221 rfl (lv_at hl 5 rfl) ?_
            refine lv_iload hx hb dL_isLetterRight_222 (lv_at hl 1 rfl) ?_
            refine lv_iconst (v := nI 4) hx hb dL_isLetterRight_224 (by decide) ?_
            refine r_cVI C0 h hl.1 _ (by omega) (ce0 k _) rfl (ct_X3_ofLetter l k M _ hJ cn hQ.c20 hQ.n4 _ hb9 4 (by decide)) gL_isLetterRight_X3_ofLetter rfl (by decide +kernel) (n := 2) ⟨Nat.le_of_ble_eq_true rfl, Nat.le_of_ble_eq_true rfl⟩ ⟨Nat.zero_le _, Nat.zero_le _⟩ (Nat.le_of_ble_eq_true rfl) rfl rfl dL_isLetterRight_225 (fun r225 I225 H locs hp h => ?_)
            obtain ⟨rfl, hq9⟩ := hp
            rw [hq9] at h
            rw [hQ.L hb9, py_at _ (by decide) (by decide) (by decide)]
            refine lv_icmp_lt (tgt := 314) hx hb dL_isLetterRight_228 (by decide) (fun c_228 => ?_) (fun c_228 => ?_)
            · exact absurd c_228 hh1
            · refine lv_iload_n hx hb dL_isLetterRight_231 rfl (lv_at hl 7 rfl) ?_
              refine lv_aload_n hx hb dL_isLetterRight_232 rfl (lv_at hl 5 rfl) ?_
              refine lv_iload hx hb dL_isLetterRight_233 (lv_at hl 1 rfl) ?_
              refine lv_iconst (v := nI 5) hx hb dL_isLetterRight_235 (by decide) ?_
              refine r_cVI C0 h hl.1 _ (by omega) (ce0 k _) rfl (ct_X3_ofLetter l k M _ hJ cn hQ.c20 hQ.n4 _ hb9 5 (by decide)) gL_isLetterRight_X3_ofLetter rfl (by decide +kernel) (n := 2) ⟨Nat.le_of_ble_eq_true rfl, Nat.le_of_ble_eq_true rfl⟩ ⟨Nat.zero_le _, Nat.zero_le _⟩ (Nat.le_of_ble_eq_true rfl) rfl rfl dL_isLetterRight_236 (fun r236 I236 H locs hp h => ?_)
              obtain ⟨rfl, hq9⟩ := hp
              rw [hq9] at h
              rw [hQ.L hb9, py_at _ (by decide) (by decide) (by decide)]
              refine lv_icmp_gt (tgt := 314) hx hb dL_isLetterRight_239 (by decide) (fun c_239 => ?_) (fun c_239 => ?_)
              · exact absurd c_239 hh2
              · refine lv_aload_n hx hb dL_isLetterRight_242 rfl (lv_at hl 5 rfl) ?_
                refine lv_iload hx hb dL_isLetterRight_243 (lv_at hl 1 rfl) ?_
                refine lv_bipush (v := nI 8) hx hb dL_isLetterRight_245 (by decide) ?_
                refine r_cVI C0 h hl.1 _ (by omega) (ce0 k _) rfl (ct_X3_ofLetter l k M _ hJ cn hQ.c20 hQ.n4 _ hb9 8 (by decide)) gL_isLetterRight_X3_ofLetter rfl (by decide +kernel) (n := 2) ⟨Nat.le_of_ble_eq_true rfl, Nat.le_of_ble_eq_true rfl⟩ ⟨Nat.zero_le _, Nat.zero_le _⟩ (Nat.le_of_ble_eq_true rfl) rfl rfl dL_isLetterRight_247 (fun r247 I247 H locs hp h => ?_)
                obtain ⟨rfl, hq9⟩ := hp
                rw [hq9] at h
                rw [hQ.L hb9, py_at _ (by decide) (by decide) (by decide)]
                refine lv_iload_n hx hb dL_isLetterRight_250 rfl (lv_at hl 8 rfl) ?_
                refine lv_ishr hx hb dL_isLetterRight_251 ?_
                refine lv_iconst (v := nI 1) hx hb dL_isLetterRight_252 (by decide) ?_
                refine lv_iand hx hb dL_isLetterRight_253 ?_
                refine lv_if_eq (tgt := 314) hx hb dL_isLetterRight_254 (by decide) (fun c_254 => ?_) (fun c_254 => ?_)
                · exact absurd c_254 hh3
                · refine lv_iload hx hb dL_isLetterRight_257 (lv_at hl 0 rfl) ?_
                  refine lv_if_le (tgt := 288) hx hb dL_isLetterRight_259 (by decide) (fun c_259 => ?_) (fun c_259 => ?_)
                  · have d_259 := (nI_le0 (by omega)).mp c_259
                    refine lv_iload hx hb dL_isLetterRight_288 (lv_at hl 0 rfl) ?_
                    refine lv_if_le (tgt := 316) hx hb dL_isLetterRight_290 (by decide) (fun c_290 => ?_) (fun c_290 => ?_)
                    · have d_290 := (nI_le0 (by omega)).mp c_290
                      refine lv_iload hx hb dL_isLetterRight_316 (lv_at hl 1 rfl) ?_
                      refine lv_istore hx hb dL_isLetterRight_318 hl (by decide) rfl (fun ls hl => ?_)
                      have hl : lv_has ls 11 [(9, _), (8, _), (10, _), (4, _), (5, _), (6, _), (0, _), (1, _), (2, _), (3, _)] := hl
                      refine lv_iinc (v := nI (pz + 1)) hx hb dL_isLetterRight_320 hl (k := 1) rfl (nI_1 _) (by decide) rfl (fun ls hl => ?_)
                      have hl : lv_has ls 11 [(8, _), (9, _), (10, _), (4, _), (5, _), (6, _), (0, _), (1, _), (2, _), (3, _)] := hl
                      refine lv_aload_n hx hb dL_isLetterRight_323 rfl (lv_at hl 6 rfl) ?_
                      refine lv_iload_n hx hb dL_isLetterRight_324 rfl (lv_at hl 7 rfl) ?_
                      refine lv_iload_n hx hb dL_isLetterRight_325 rfl (lv_at hl 8 rfl) ?_
                      refine lv_iload_n hx hb dL_isLetterRight_326 rfl (lv_at hl 9 rfl) ?_
                      refine lv_iload hx hb dL_isLetterRight_327 (lv_at hl 0 rfl) ?_
                      refine r_cVI C0 h hl.1 _ (by omega) (ce0 k _) rfl (ct_X3_chain l k M _ hJ cn hQ.c20 hQ.n4 lcn hQ.l8 hQ.n5 hQ.st i hi (nI t) (nI u) (isW_n ht (by omega)) (isW_n hu (by omega)) (nI (pz + 1))) gL_isLetterRight_X3_chain rfl (by decide +kernel) (n := 4) ⟨Nat.le_of_ble_eq_true rfl, Nat.le_of_ble_eq_true rfl⟩ ⟨Nat.zero_le _, Nat.zero_le _⟩ (Nat.le_of_ble_eq_true rfl) rfl rfl dL_isLetterRight_329 (fun r329 I329 H locs hp h => ?_)
                      obtain ⟨rfl, hq9⟩ := hp
                      rw [hQ.1] at hq9 ⊢
                      have hQ := hQ.ask (hq9.trans hQ.1.symm)
                      rw [shC_mb]
                      refine lv_istore hx hb dL_isLetterRight_332 hl (by decide) rfl (fun ls hl => ?_)
                      have hl : lv_has ls 11 [(10, _), (8, _), (9, _), (4, _), (5, _), (6, _), (0, _), (1, _), (2, _), (3, _)] := hl
                      refine lv_goto (tgt := 183) hx hb dL_isLetterRight_334 (by decide) ?_
                      exact ih183 (pz + 1) _ (by omega) (by omega) hQ _ _ _ h (lv_sub hl [1, 2, 0, 3, 4, 5, 6, 7, 8, 9] rfl)
                    · have d_290 := (not_congr (nI_le0 (by omega))).mp c_290
                      refine lv_aload_n hx hb dL_isLetterRight_293 rfl (lv_at hl 5 rfl) ?_
                      refine lv_aload_n hx hb dL_isLetterRight_294 rfl (lv_at hl 5 rfl) ?_
                      refine lv_iload_n hx hb dL_isLetterRight_295 rfl (lv_at hl 6 rfl) ?_
                      refine lv_iconst (v := nI 0) hx hb dL_isLetterRight_296 (by decide) ?_
                      refine r_cVI C0 h hl.1 _ (by omega) (ce0 k _) rfl (ct_X3_ofLetter l k M _ hJ cn hQ.c20 hQ.n4 i hi 0 (by decide)) gL_isLetterRight_X3_ofLetter rfl (by decide +kernel) (n := 2) ⟨Nat.le_of_ble_eq_true rfl, Nat.le_of_ble_eq_true rfl⟩ ⟨Nat.zero_le _, Nat.zero_le _⟩ (Nat.le_of_ble_eq_true rfl) rfl rfl dL_isLetterRight_297 (fun r297 I297 H locs hp h => ?_)
                      obtain ⟨rfl, hq9⟩ := hp
                      rw [hq9] at h
                      rw [hQ.L hi, py_at _ (by decide) (by decide) (by decide)]
                      refine lv_aload_n hx hb dL_isLetterRight_300 rfl (lv_at hl 5 rfl) ?_
                      refine lv_iload hx hb dL_isLetterRight_301 (lv_at hl 1 rfl) ?_
                      refine lv_bipush (v := nI 9) hx hb dL_isLetterRight_303 (by decide) ?_
                      refine r_cVI C0 h hl.1 _ (by omega) (ce0 k _) rfl (ct_X3_ofLetter l k M _ hJ cn hQ.c20 hQ.n4 _ hb9 9 (by decide)) gL_isLetterRight_X3_ofLetter rfl (by decide +kernel) (n := 2) ⟨Nat.le_of_ble_eq_true rfl, Nat.le_of_ble_eq_true rfl⟩ ⟨Nat.zero_le _, Nat.zero_le _⟩ (Nat.le_of_ble_eq_true rfl) rfl rfl dL_isLetterRight_305 (fun r305 I305 H locs hp h => ?_)
                      obtain ⟨rfl, hq9⟩ := hp
                      rw [hq9] at h
                      rw [hQ.L hb9, py_at _ (by decide) (by decide) (by decide)]
                      refine r_cVI C0 h hl.1 _ (by omega) (ce0 k _) rfl (ct_X3_isUnder l k M _ hJ _ _ (hQ.ltI hi).1 (hQ.ltI hb9).2.2.2.2.1) gL_isLetterRight_X3_isUnder rfl (by decide +kernel) (n := 2) ⟨Nat.le_of_ble_eq_true rfl, Nat.le_of_ble_eq_true rfl⟩ ⟨Nat.zero_le _, Nat.zero_le _⟩ (Nat.le_of_ble_eq_true rfl) rfl rfl dL_isLetterRight_308 (fun r308 I308 H locs hp h => ?_)
                      obtain ⟨rfl, hq9⟩ := hp
                      rw [hq9] at h
                      refine lv_if_ne (tgt := 316) hx hb dL_isLetterRight_311 (by decide) (fun c_311 => ?_) (fun c_311 => ?_)
                      · refine lv_iload hx hb dL_isLetterRight_316 (lv_at hl 1 rfl) ?_
                        refine lv_istore hx hb dL_isLetterRight_318 hl (by decide) rfl (fun ls hl => ?_)
                        have hl : lv_has ls 11 [(9, _), (8, _), (10, _), (4, _), (5, _), (6, _), (0, _), (1, _), (2, _), (3, _)] := hl
                        refine lv_iinc (v := nI (pz + 1)) hx hb dL_isLetterRight_320 hl (k := 1) rfl (nI_1 _) (by decide) rfl (fun ls hl => ?_)
                        have hl : lv_has ls 11 [(8, _), (9, _), (10, _), (4, _), (5, _), (6, _), (0, _), (1, _), (2, _), (3, _)] := hl
                        refine lv_aload_n hx hb dL_isLetterRight_323 rfl (lv_at hl 6 rfl) ?_
                        refine lv_iload_n hx hb dL_isLetterRight_324 rfl (lv_at hl 7 rfl) ?_
                        refine lv_iload_n hx hb dL_isLetterRight_325 rfl (lv_at hl 8 rfl) ?_
                        refine lv_iload_n hx hb dL_isLetterRight_326 rfl (lv_at hl 9 rfl) ?_
                        refine lv_iload hx hb dL_isLetterRight_327 (lv_at hl 0 rfl) ?_
                        refine r_cVI C0 h hl.1 _ (by omega) (ce0 k _) rfl (ct_X3_chain l k M _ hJ cn hQ.c20 hQ.n4 lcn hQ.l8 hQ.n5 hQ.st i hi (nI t) (nI u) (isW_n ht (by omega)) (isW_n hu (by omega)) (nI (pz + 1))) gL_isLetterRight_X3_chain rfl (by decide +kernel) (n := 4) ⟨Nat.le_of_ble_eq_true rfl, Nat.le_of_ble_eq_true rfl⟩ ⟨Nat.zero_le _, Nat.zero_le _⟩ (Nat.le_of_ble_eq_true rfl) rfl rfl dL_isLetterRight_329 (fun r329 I329 H locs hp h => ?_)
                        obtain ⟨rfl, hq9⟩ := hp
                        rw [hQ.1] at hq9 ⊢
                        have hQ := hQ.ask (hq9.trans hQ.1.symm)
                        rw [shC_mb]
                        refine lv_istore hx hb dL_isLetterRight_332 hl (by decide) rfl (fun ls hl => ?_)
                        have hl : lv_has ls 11 [(10, _), (8, _), (9, _), (4, _), (5, _), (6, _), (0, _), (1, _), (2, _), (3, _)] := hl
                        refine lv_goto (tgt := 183) hx hb dL_isLetterRight_334 (by decide) ?_
                        exact ih183 (pz + 1) _ (by omega) (by omega) hQ _ _ _ h (lv_sub hl [1, 2, 0, 3, 4, 5, 6, 7, 8, 9] rfl)
                      · exact absurd c_311 (show ¬ bI (isUn (X (10 + i) 0) (X (10 + gtN (shC X cn lcn i (nI t) (nI u)) pz) 9)) = 0 by have h9 := (hh4 (show 0 < pz by omega)).2.2 0 (by omega); rw [hk9.st0] at h9; rw [h9]; decide)
                  · have d_259 := (not_congr (nI_le0 (by omega))).mp c_259
                    refine lv_aload_n hx hb dL_isLetterRight_262 rfl (lv_at hl 5 rfl) ?_
                    refine lv_iload hx hb dL_isLetterRight_263 (lv_at hl 1 rfl) ?_
                    refine lv_bipush (v := nI 6) hx hb dL_isLetterRight_265 (by decide) ?_
                    refine r_cVI C0 h hl.1 _ (by omega) (ce0 k _) rfl (ct_X3_ofLetter l k M _ hJ cn hQ.c20 hQ.n4 _ hb9 6 (by decide)) gL_isLetterRight_X3_ofLetter rfl (by decide +kernel) (n := 2) ⟨Nat.le_of_ble_eq_true rfl, Nat.le_of_ble_eq_true rfl⟩ ⟨Nat.zero_le _, Nat.zero_le _⟩ (Nat.le_of_ble_eq_true rfl) rfl rfl dL_isLetterRight_267 (fun r267 I267 H locs hp h => ?_)
                    obtain ⟨rfl, hq9⟩ := hp
                    rw [hq9] at h
                    rw [hQ.L hb9, mst_py (hh4 (show 0 < pz by omega)).1]
                    refine lv_if_eq (tgt := 314) hx hb dL_isLetterRight_270 (by decide) (fun c_270 => ?_) (fun c_270 => ?_)
                    · exact absurd c_270 (by decide)
                    · refine lv_aload_n hx hb dL_isLetterRight_273 rfl (lv_at hl 5 rfl) ?_
                      refine lv_iload hx hb dL_isLetterRight_274 (lv_at hl 1 rfl) ?_
                      refine lv_bipush (v := nI 7) hx hb dL_isLetterRight_276 (by decide) ?_
                      refine r_cVI C0 h hl.1 _ (by omega) (ce0 k _) rfl (ct_X3_ofLetter l k M _ hJ cn hQ.c20 hQ.n4 _ hb9 7 (by decide)) gL_isLetterRight_X3_ofLetter rfl (by decide +kernel) (n := 2) ⟨Nat.le_of_ble_eq_true rfl, Nat.le_of_ble_eq_true rfl⟩ ⟨Nat.zero_le _, Nat.zero_le _⟩ (Nat.le_of_ble_eq_true rfl) rfl rfl dL_isLetterRight_278 (fun r278 I278 H locs hp h => ?_)
                      obtain ⟨rfl, hq9⟩ := hp
                      rw [hq9] at h
                      rw [hQ.L hb9, py_at _ (by decide) (by decide) (by decide)]
                      refine lv_iload hx hb dL_isLetterRight_281 (lv_at hl 0 rfl) ?_
                      refine lv_iconst (v := nI 1) hx hb dL_isLetterRight_283 (by decide) ?_
                      refine lv_isub hx hb dL_isLetterRight_284 ?_
                      refine lv_icmp_lt (tgt := 314) hx hb dL_isLetterRight_285 (by decide) (fun c_285 => ?_) (fun c_285 => ?_)
                      · exact absurd c_285 (hh4 (show 0 < pz by omega)).2.1
                      · refine lv_iload hx hb dL_isLetterRight_288 (lv_at hl 0 rfl) ?_
                        refine lv_if_le (tgt := 316) hx hb dL_isLetterRight_290 (by decide) (fun c_290 => ?_) (fun c_290 => ?_)
                        · have d_290 := (nI_le0 (by omega)).mp c_290
                          refine lv_iload hx hb dL_isLetterRight_316 (lv_at hl 1 rfl) ?_
                          refine lv_istore hx hb dL_isLetterRight_318 hl (by decide) rfl (fun ls hl => ?_)
                          have hl : lv_has ls 11 [(9, _), (8, _), (10, _), (4, _), (5, _), (6, _), (0, _), (1, _), (2, _), (3, _)] := hl
                          refine lv_iinc (v := nI (pz + 1)) hx hb dL_isLetterRight_320 hl (k := 1) rfl (nI_1 _) (by decide) rfl (fun ls hl => ?_)
                          have hl : lv_has ls 11 [(8, _), (9, _), (10, _), (4, _), (5, _), (6, _), (0, _), (1, _), (2, _), (3, _)] := hl
                          refine lv_aload_n hx hb dL_isLetterRight_323 rfl (lv_at hl 6 rfl) ?_
                          refine lv_iload_n hx hb dL_isLetterRight_324 rfl (lv_at hl 7 rfl) ?_
                          refine lv_iload_n hx hb dL_isLetterRight_325 rfl (lv_at hl 8 rfl) ?_
                          refine lv_iload_n hx hb dL_isLetterRight_326 rfl (lv_at hl 9 rfl) ?_
                          refine lv_iload hx hb dL_isLetterRight_327 (lv_at hl 0 rfl) ?_
                          refine r_cVI C0 h hl.1 _ (by omega) (ce0 k _) rfl (ct_X3_chain l k M _ hJ cn hQ.c20 hQ.n4 lcn hQ.l8 hQ.n5 hQ.st i hi (nI t) (nI u) (isW_n ht (by omega)) (isW_n hu (by omega)) (nI (pz + 1))) gL_isLetterRight_X3_chain rfl (by decide +kernel) (n := 4) ⟨Nat.le_of_ble_eq_true rfl, Nat.le_of_ble_eq_true rfl⟩ ⟨Nat.zero_le _, Nat.zero_le _⟩ (Nat.le_of_ble_eq_true rfl) rfl rfl dL_isLetterRight_329 (fun r329 I329 H locs hp h => ?_)
                          obtain ⟨rfl, hq9⟩ := hp
                          rw [hQ.1] at hq9 ⊢
                          have hQ := hQ.ask (hq9.trans hQ.1.symm)
                          rw [shC_mb]
                          refine lv_istore hx hb dL_isLetterRight_332 hl (by decide) rfl (fun ls hl => ?_)
                          have hl : lv_has ls 11 [(10, _), (8, _), (9, _), (4, _), (5, _), (6, _), (0, _), (1, _), (2, _), (3, _)] := hl
                          refine lv_goto (tgt := 183) hx hb dL_isLetterRight_334 (by decide) ?_
                          exact ih183 (pz + 1) _ (by omega) (by omega) hQ _ _ _ h (lv_sub hl [1, 2, 0, 3, 4, 5, 6, 7, 8, 9] rfl)
                        · have d_290 := (not_congr (nI_le0 (by omega))).mp c_290
                          refine lv_aload_n hx hb dL_isLetterRight_293 rfl (lv_at hl 5 rfl) ?_
                          refine lv_aload_n hx hb dL_isLetterRight_294 rfl (lv_at hl 5 rfl) ?_
                          refine lv_iload_n hx hb dL_isLetterRight_295 rfl (lv_at hl 6 rfl) ?_
                          refine lv_iconst (v := nI 0) hx hb dL_isLetterRight_296 (by decide) ?_
                          refine r_cVI C0 h hl.1 _ (by omega) (ce0 k _) rfl (ct_X3_ofLetter l k M _ hJ cn hQ.c20 hQ.n4 i hi 0 (by decide)) gL_isLetterRight_X3_ofLetter rfl (by decide +kernel) (n := 2) ⟨Nat.le_of_ble_eq_true rfl, Nat.le_of_ble_eq_true rfl⟩ ⟨Nat.zero_le _, Nat.zero_le _⟩ (Nat.le_of_ble_eq_true rfl) rfl rfl dL_isLetterRight_297 (fun r297 I297 H locs hp h => ?_)
                          obtain ⟨rfl, hq9⟩ := hp
                          rw [hq9] at h
                          rw [hQ.L hi, py_at _ (by decide) (by decide) (by decide)]
                          refine lv_aload_n hx hb dL_isLetterRight_300 rfl (lv_at hl 5 rfl) ?_
                          refine lv_iload hx hb dL_isLetterRight_301 (lv_at hl 1 rfl) ?_
                          refine lv_bipush (v := nI 9) hx hb dL_isLetterRight_303 (by decide) ?_
                          refine r_cVI C0 h hl.1 _ (by omega) (ce0 k _) rfl (ct_X3_ofLetter l k M _ hJ cn hQ.c20 hQ.n4 _ hb9 9 (by decide)) gL_isLetterRight_X3_ofLetter rfl (by decide +kernel) (n := 2) ⟨Nat.le_of_ble_eq_true rfl, Nat.le_of_ble_eq_true rfl⟩ ⟨Nat.zero_le _, Nat.zero_le _⟩ (Nat.le_of_ble_eq_true rfl) rfl rfl dL_isLetterRight_305 (fun r305 I305 H locs hp h => ?_)
                          obtain ⟨rfl, hq9⟩ := hp
                          rw [hq9] at h
                          rw [hQ.L hb9, py_at _ (by decide) (by decide) (by decide)]
                          refine r_cVI C0 h hl.1 _ (by omega) (ce0 k _) rfl (ct_X3_isUnder l k M _ hJ _ _ (hQ.ltI hi).1 (hQ.ltI hb9).2.2.2.2.1) gL_isLetterRight_X3_isUnder rfl (by decide +kernel) (n := 2) ⟨Nat.le_of_ble_eq_true rfl, Nat.le_of_ble_eq_true rfl⟩ ⟨Nat.zero_le _, Nat.zero_le _⟩ (Nat.le_of_ble_eq_true rfl) rfl rfl dL_isLetterRight_308 (fun r308 I308 H locs hp h => ?_)
                          obtain ⟨rfl, hq9⟩ := hp
                          rw [hq9] at h
                          refine lv_if_ne (tgt := 316) hx hb dL_isLetterRight_311 (by decide) (fun c_311 => ?_) (fun c_311 => ?_)
                          · refine lv_iload hx hb dL_isLetterRight_316 (lv_at hl 1 rfl) ?_
                            refine lv_istore hx hb dL_isLetterRight_318 hl (by decide) rfl (fun ls hl => ?_)
                            have hl : lv_has ls 11 [(9, _), (8, _), (10, _), (4, _), (5, _), (6, _), (0, _), (1, _), (2, _), (3, _)] := hl
                            refine lv_iinc (v := nI (pz + 1)) hx hb dL_isLetterRight_320 hl (k := 1) rfl (nI_1 _) (by decide) rfl (fun ls hl => ?_)
                            have hl : lv_has ls 11 [(8, _), (9, _), (10, _), (4, _), (5, _), (6, _), (0, _), (1, _), (2, _), (3, _)] := hl
                            refine lv_aload_n hx hb dL_isLetterRight_323 rfl (lv_at hl 6 rfl) ?_
                            refine lv_iload_n hx hb dL_isLetterRight_324 rfl (lv_at hl 7 rfl) ?_
                            refine lv_iload_n hx hb dL_isLetterRight_325 rfl (lv_at hl 8 rfl) ?_
                            refine lv_iload_n hx hb dL_isLetterRight_326 rfl (lv_at hl 9 rfl) ?_
                            refine lv_iload hx hb dL_isLetterRight_327 (lv_at hl 0 rfl) ?_
                            refine r_cVI C0 h hl.1 _ (by omega) (ce0 k _) rfl (ct_X3_chain l k M _ hJ cn hQ.c20 hQ.n4 lcn hQ.l8 hQ.n5 hQ.st i hi (nI t) (nI u) (isW_n ht (by omega)) (isW_n hu (by omega)) (nI (pz + 1))) gL_isLetterRight_X3_chain rfl (by decide +kernel) (n := 4) ⟨Nat.le_of_ble_eq_true rfl, Nat.le_of_ble_eq_true rfl⟩ ⟨Nat.zero_le _, Nat.zero_le _⟩ (Nat.le_of_ble_eq_true rfl) rfl rfl dL_isLetterRight_329 (fun r329 I329 H locs hp h => ?_)
                            obtain ⟨rfl, hq9⟩ := hp
                            rw [hQ.1] at hq9 ⊢
                            have hQ := hQ.ask (hq9.trans hQ.1.symm)
                            rw [shC_mb]
                            refine lv_istore hx hb dL_isLetterRight_332 hl (by decide) rfl (fun ls hl => ?_)
                            have hl : lv_has ls 11 [(10, _), (8, _), (9, _), (4, _), (5, _), (6, _), (0, _), (1, _), (2, _), (3, _)] := hl
                            refine lv_goto (tgt := 183) hx hb dL_isLetterRight_334 (by decide) ?_
                            exact ih183 (pz + 1) _ (by omega) (by omega) hQ _ _ _ h (lv_sub hl [1, 2, 0, 3, 4, 5, 6, 7, 8, 9] rfl)
                          · exact absurd c_311 (show ¬ bI (isUn (X (10 + i) 0) (X (10 + gtN (shC X cn lcn i (nI t) (nI u)) pz) 9)) = 0 by have h9 := (hh4 (show 0 < pz by omega)).2.2 0 (by omega); rw [hk9.st0] at h9; rw [h9]; decide)
        refine lv_iload hx hb dL_isLetterRight_183 (lv_at hl 2 rfl) ?_
        refine lv_if_lt (tgt := 337) hx hb dL_isLetterRight_185 (by decide) (fun c_185 => ?_) (fun c_185 => ?_)
        · have d_185 := hL.stop hcn c_185 hp9
          rw [d_185] at hl
          exact key337 _ hQ _ _ _ h (lv_sub hl [0, 1, 3, 4, 5, 6, 7, 8, 9] rfl)
        · have d_185 := hL.pl c_185 (by omega)
          have hm9 := hL.mem d_185.1
          rw [d_185.2] at hl
          refine lv_iload hx hb dL_isLetterRight_188 (lv_at hl 0 rfl) ?_
          refine lv_if_ne (tgt := 202) hx hb dL_isLetterRight_190 (by decide) (fun c_190 => ?_) (fun c_190 => ?_)
          · have d_190 := (not_congr (nI_eq0 (by omega))).mp c_190
            rw [laI_p d_190] at hl
            refine lv_aload_n hx hb dL_isLetterRight_202 rfl (lv_at hl 6 rfl) ?_
            refine lv_iload hx hb dL_isLetterRight_203 (lv_at hl 2 rfl) ?_
            refine lv_iload hx hb dL_isLetterRight_205 (lv_at hl 1 rfl) ?_
            refine r_cVI C0 h hl.1 _ (by omega) (ce0 k _) rfl (ct_X3_backs l k M _ hJ cn hQ.c20 hQ.n4 _ _ (hL.mem d_185.1) (hL.mem (show pz - 1 < (shC X cn lcn i (nI t) (nI u)).length by omega))) gL_isLetterRight_X3_backs rfl (by decide +kernel) (n := 2) ⟨Nat.le_of_ble_eq_true rfl, Nat.le_of_ble_eq_true rfl⟩ ⟨Nat.zero_le _, Nat.zero_le _⟩ (Nat.le_of_ble_eq_true rfl) rfl rfl dL_isLetterRight_207 (fun r207 I207 H locs hp h => ?_)
            obtain ⟨rfl, hq9⟩ := hp
            rw [hq9] at h
            rw [hQ.bk (hL.mem d_185.1) (hL.mem (show pz - 1 < (shC X cn lcn i (nI t) (nI u)).length by omega)), (hL.ok d_185.1).step d_190 d_185.1]
            refine lv_if_ne (tgt := 215) hx hb dL_isLetterRight_210 (by decide) (fun c_210 => ?_) (fun c_210 => ?_)
            · exact key215 _ d_185.1 hQ _ _ _ h (lv_sub hl [0, 2, 3, 4, 5, 6, 7, 8, 9] rfl)
            · exact absurd c_210 (by decide)
          · have d_190 := (nI_eq0 (by omega)).mp c_190
            refine lv_iload hx hb dL_isLetterRight_193 (lv_at hl 2 rfl) ?_
            refine lv_iload_n hx hb dL_isLetterRight_195 rfl (lv_at hl 7 rfl) ?_
            refine lv_icmp_eq (tgt := 215) hx hb dL_isLetterRight_196 (by decide) (fun c_196 => ?_) (fun c_196 => ?_)
            · exact key215 _ d_185.1 hQ _ _ _ h (lv_sub hl [0, 2, 3, 4, 5, 6, 7, 8, 9] rfl)
            · refine lv_goto (tgt := 213) hx hb dL_isLetterRight_199 (by decide) ?_
              exact absurd (show nI (gtN (shC X cn lcn i (nI t) (nI u)) pz) = nI i by rw [d_190, (hL.ok d_185.1).st0]) c_196
    exact key183 100 0 _ (by omega) (Nat.zero_le _) hQ _ _ _ h (lv_sub hl [2, 1, 0, 3, 4, 5, 6, 7, 8, 9] rfl)
  have key113 : ∀ (I1 : IS), RQ X cn lcn I1 → ∀ (H : Heap) (locs : List Loc) (ls : Array Slot), HX k M A s I1 H locs → lv_has ls 11 [(4, .int (nI v)), (5, .int (nI (chs X cn i).length)), (6, .int fl), (0, .ref (k.2.1 0)), (1, .int (nI i)), (2, .int (nI t)), (3, .int (nI u))] → W p l e (Rm 13) s m args below meth c H locs 0 0 (MQ below (va_Qi (fun r I' => r = nI 1 ∧ RQ X cn lcn I') (EnX k M) A) args s 0 0 A) (F0 m 113 ls []) := by
    intro I1 hQ H locs ls h hl
    refine lv_aload_n hx hb dL_isLetterRight_113 rfl (lv_at hl 3 rfl) ?_
    refine lv_iload_n hx hb dL_isLetterRight_114 rfl (lv_at hl 4 rfl) ?_
    refine lv_bipush (v := nI 12) hx hb dL_isLetterRight_115 (by decide) ?_
    refine r_cVI C0 h hl.1 _ (by omega) (ce0 k _) rfl (ct_X3_ofLetter l k M _ hJ cn hQ.c20 hQ.n4 i hi 12 (by decide)) gL_isLetterRight_X3_ofLetter rfl (by decide +kernel) (n := 2) ⟨Nat.le_of_ble_eq_true rfl, Nat.le_of_ble_eq_true rfl⟩ ⟨Nat.zero_le _, Nat.zero_le _⟩ (Nat.le_of_ble_eq_true rfl) rfl rfl dL_isLetterRight_117 (fun r117 I117 H locs hp h => ?_)
    obtain ⟨rfl, hq9⟩ := hp
    rw [hq9] at h
    rw [hQ.L hi]
    refine lv_iconst (v := nI 1) hx hb dL_isLetterRight_120 (by decide) ?_
    refine lv_icmp_ne (tgt := 128) hx hb dL_isLetterRight_121 (by decide) (fun c_121 => ?_) (fun c_121 => ?_)
    · refine lv_iconst (v := nI 0) hx hb dL_isLetterRight_128 (by decide) ?_
      refine lv_istore hx hb dL_isLetterRight_129 hl (by decide) rfl (fun ls hl => ?_)
      have hl : lv_has ls 11 [(7, _), (4, _), (5, _), (6, _), (0, _), (1, _), (2, _), (3, _)] := hl
      refine lv_iload hx hb dL_isLetterRight_131 (lv_at hl 0 rfl) ?_
      refine lv_if_eq (tgt := 167) hx hb dL_isLetterRight_133 (by decide) (fun c_133 => ?_) (fun c_133 => ?_)
      · exact key167 _ hQ _ _ _ h (lv_sub hl [1, 2, 3, 4, 5, 6, 7] rfl)
      · exact absurd (by decide) c_133
    · obtain ⟨ha1, ha3, hac⟩ := hL.anc hi (anc_yes c_121)
      refine lv_iconst (v := nI 1) hx hb dL_isLetterRight_124 (by decide) ?_
      refine lv_goto (tgt := 129) hx hb dL_isLetterRight_125 (by decide) ?_
      refine lv_istore hx hb dL_isLetterRight_129 hl (by decide) rfl (fun ls hl => ?_)
      have hl : lv_has ls 11 [(7, _), (4, _), (5, _), (6, _), (0, _), (1, _), (2, _), (3, _)] := hl
      refine lv_iload hx hb dL_isLetterRight_131 (lv_at hl 0 rfl) ?_
      refine lv_if_eq (tgt := 167) hx hb dL_isLetterRight_133 (by decide) (fun c_133 => ?_) (fun c_133 => ?_)
      · exact absurd c_133 (by decide)
      · refine lv_iload hx hb dL_isLetterRight_136 (lv_at hl 2 rfl) ?_
        refine lv_iconst (v := nI 1) hx hb dL_isLetterRight_138 (by decide) ?_
        refine lv_icmp_lt (tgt := 165) hx hb dL_isLetterRight_139 (by decide) (fun c_139 => ?_) (fun c_139 => ?_)
        · have d_139 := (nI_ltI (by omega) (by omega)).mp c_139
          exact False.elim (by omega)
        · have d_139 := (not_congr (nI_ltI (by omega) (by omega))).mp c_139
          refine lv_iload hx hb dL_isLetterRight_142 (lv_at hl 1 rfl) ?_
          refine lv_iconst (v := nI 3) hx hb dL_isLetterRight_144 (by decide) ?_
          refine lv_icmp_gt (tgt := 165) hx hb dL_isLetterRight_145 (by decide) (fun c_145 => ?_) (fun c_145 => ?_)
          · have d_145 := (nI_ltI (by omega) (by omega)).mp c_145
            exact False.elim (by omega)
          · have d_145 := (not_congr (nI_ltI (by omega) (by omega))).mp c_145
            refine lv_iload hx hb dL_isLetterRight_148 (lv_at hl 1 rfl) ?_
            refine lv_if_ne (tgt := 167) hx hb dL_isLetterRight_150 (by decide) (fun c_150 => ?_) (fun c_150 => ?_)
            · have d_150 := (not_congr (nI_eq0 (by omega))).mp c_150
              exact key167 _ hQ _ _ _ h (lv_sub hl [1, 2, 3, 4, 5, 6, 7] rfl)
            · have d_150 := (nI_eq0 (by omega)).mp c_150
              refine lv_aload_n hx hb dL_isLetterRight_153 rfl (lv_at hl 4 rfl) ?_
              refine lv_iload_n hx hb dL_isLetterRight_154 rfl (lv_at hl 5 rfl) ?_
              refine lv_iload_n hx hb dL_isLetterRight_155 rfl (lv_at hl 6 rfl) ?_
              refine lv_iload_n hx hb dL_isLetterRight_156 rfl (lv_at hl 7 rfl) ?_
              refine lv_iconst (v := nI 1) hx hb dL_isLetterRight_157 (by decide) ?_
              refine r_cVI C0 h hl.1 _ (by omega) (ce0 k _) rfl (ct_X3_chain l k M _ hJ cn hQ.c20 hQ.n4 lcn hQ.l8 hQ.n5 hQ.st i hi (nI t) (nI u) (isW_n ht (by omega)) (isW_n hu (by omega)) (nI 1)) gL_isLetterRight_X3_chain rfl (by decide +kernel) (n := 4) ⟨Nat.le_of_ble_eq_true rfl, Nat.le_of_ble_eq_true rfl⟩ ⟨Nat.zero_le _, Nat.zero_le _⟩ (Nat.le_of_ble_eq_true rfl) rfl rfl dL_isLetterRight_158 (fun r158 I158 H locs hp h => ?_)
              obtain ⟨rfl, hq9⟩ := hp
              rw [hQ.1] at hq9 ⊢
              have hQ := hQ.ask (hq9.trans hQ.1.symm)
              rw [shC_mb]
              refine lv_iconst (v := (-1)) hx hb dL_isLetterRight_161 (by decide) ?_
              refine lv_icmp_eq (tgt := 167) hx hb dL_isLetterRight_162 (by decide) (fun c_162 => ?_) (fun c_162 => ?_)
              · exact key167 _ hQ _ _ _ h (lv_sub hl [1, 2, 3, 4, 5, 6, 7] rfl)
              · exact absurd (hac d_150) c_162
  refine lv_aload_n hx hb dL_isLetterRight_0 rfl (lv_at hl 0 rfl) ?_
  refine lv_iload_n hx hb dL_isLetterRight_1 rfl (lv_at hl 1 rfl) ?_
  refine lv_iload_n hx hb dL_isLetterRight_2 rfl (lv_at hl 2 rfl) ?_
  refine lv_iload_n hx hb dL_isLetterRight_3 rfl (lv_at hl 3 rfl) ?_
  refine r_cVI C0 h hl.1 _ (by omega) (ce0 k _) rfl (ct_X3_verdict l k M _ hJ cn hQ.c20 hQ.n4 lcn hQ.l8 hQ.n5 hQ.st i hi (nI t) (nI u) (isW_n ht (by omega)) (isW_n hu (by omega))) gL_isLetterRight_X3_verdict rfl (by decide +kernel) (n := 3) ⟨Nat.le_of_ble_eq_true rfl, Nat.le_of_ble_eq_true rfl⟩ ⟨Nat.zero_le _, Nat.zero_le _⟩ (Nat.le_of_ble_eq_true rfl) rfl rfl dL_isLetterRight_4 (fun r4 I4 H locs hp h => ?_)
  obtain ⟨rfl, hq9⟩ := hp
  rw [hQ.1] at hq9 ⊢
  have hQ := hQ.ask (hq9.trans hQ.1.symm)
  rw [hL.dc]
  refine lv_istore hx hb dL_isLetterRight_7 hl (by decide) rfl (fun ls hl => ?_)
  have hl : lv_has ls 11 [(4, _), (0, _), (1, _), (2, _), (3, _)] := hl
  refine lv_aload_n hx hb dL_isLetterRight_9 rfl (lv_at hl 1 rfl) ?_
  refine lv_iload_n hx hb dL_isLetterRight_10 rfl (lv_at hl 2 rfl) ?_
  refine r_cVI C0 h hl.1 _ (by omega) (ce0 k _) rfl (ct_X3_chains l k M _ hJ cn hQ.c20 hQ.n4 lcn hQ.l8 hQ.n5 hQ.st i hi) gL_isLetterRight_X3_chains rfl (by decide +kernel) (n := 1) ⟨Nat.le_of_ble_eq_true rfl, Nat.le_of_ble_eq_true rfl⟩ ⟨Nat.zero_le _, Nat.zero_le _⟩ (Nat.le_of_ble_eq_true rfl) rfl rfl dL_isLetterRight_11 (fun r11 I11 H locs hp h => ?_)
  obtain ⟨rfl, hq9⟩ := hp
  rw [hQ.1] at hq9 ⊢
  have hQ := hQ.ask (hq9.trans hQ.1.symm)
  refine lv_istore hx hb dL_isLetterRight_14 hl (by decide) rfl (fun ls hl => ?_)
  have hl : lv_has ls 11 [(5, _), (4, _), (0, _), (1, _), (2, _), (3, _)] := hl
  refine lv_aload_n hx hb dL_isLetterRight_16 rfl (lv_at hl 2 rfl) ?_
  refine lv_iload_n hx hb dL_isLetterRight_17 rfl (lv_at hl 3 rfl) ?_
  refine lv_iload_n hx hb dL_isLetterRight_18 rfl (lv_at hl 4 rfl) ?_
  refine lv_iload_n hx hb dL_isLetterRight_19 rfl (lv_at hl 5 rfl) ?_
  refine r_cVI C0 h hl.1 _ (by omega) (ce0 k _) rfl (ct_X3_flawAt l k M _ hJ cn hQ.c20 hQ.n4 lcn hQ.l8 hQ.n5 hQ.st i hi (nI t) (nI u) (isW_n ht (by omega)) (isW_n hu (by omega))) gL_isLetterRight_X3_flawAt rfl (by decide +kernel) (n := 3) ⟨Nat.le_of_ble_eq_true rfl, Nat.le_of_ble_eq_true rfl⟩ ⟨Nat.zero_le _, Nat.zero_le _⟩ (Nat.le_of_ble_eq_true rfl) rfl rfl dL_isLetterRight_20 (fun r20 I20 H locs hp h => ?_)
  obtain ⟨rfl, hq9⟩ := hp
  rw [hQ.1] at hq9 ⊢
  have hQ := hQ.ask (hq9.trans hQ.1.symm)
  rw [hL.dp]
  refine lv_istore hx hb dL_isLetterRight_23 hl (by decide) rfl (fun ls hl => ?_)
  have hl : lv_has ls 11 [(6, _), (5, _), (4, _), (0, _), (1, _), (2, _), (3, _)] := hl
  refine lv_iload hx hb dL_isLetterRight_25 (lv_at hl 2 rfl) ?_
  refine lv_if_lt (tgt := 111) hx hb dL_isLetterRight_27 (by decide) (fun c_27 => ?_) (fun c_27 => ?_)
  · exact absurd c_27 (nI_pos (by omega))
  · refine lv_iload hx hb dL_isLetterRight_30 (lv_at hl 2 rfl) ?_
    refine lv_bipush (v := nI 7) hx hb dL_isLetterRight_32 (by decide) ?_
    refine lv_icmp_le (tgt := 44) hx hb dL_isLetterRight_34 (by decide) (fun c_34 => ?_) (fun c_34 => ?_)
    · have d_34 := (nI_leI (by omega) (by omega)).mp c_34
      refine lv_iload hx hb dL_isLetterRight_44 (lv_at hl 1 rfl) ?_
      refine lv_if_lt (tgt := 111) hx hb dL_isLetterRight_46 (by decide) (fun c_46 => ?_) (fun c_46 => ?_)
      · exact absurd c_46 (nI_pos (by omega))
      · refine lv_iload hx hb dL_isLetterRight_49 (lv_at hl 1 rfl) ?_
        refine lv_bipush (v := nI 60) hx hb dL_isLetterRight_51 (by decide) ?_
        refine lv_icmp_gt (tgt := 111) hx hb dL_isLetterRight_53 (by decide) (fun c_53 => ?_) (fun c_53 => ?_)
        · have d_53 := (nI_ltI (by omega) (by omega)).mp c_53
          exact False.elim (by omega)
        · have d_53 := (not_congr (nI_ltI (by omega) (by omega))).mp c_53
          refine lv_iload hx hb dL_isLetterRight_56 (lv_at hl 1 rfl) ?_
          refine lv_if_ne (tgt := 65) hx hb dL_isLetterRight_58 (by decide) (fun c_58 => ?_) (fun c_58 => ?_)
          · have d_58 := (not_congr (nI_eq0 (by omega))).mp c_58
            refine lv_iconst (v := nI 0) hx hb dL_isLetterRight_65 (by decide) ?_
            refine lv_iload hx hb dL_isLetterRight_66 (lv_at hl 2 rfl) ?_
            refine lv_bipush (v := nI 10) hx hb dL_isLetterRight_68 (by decide) ?_
            refine lv_icmp_ne (tgt := 77) hx hb dL_isLetterRight_70 (by decide) (fun c_70 => ?_) (fun c_70 => ?_)
            · have d_70 := (not_congr (nI_eq (by omega) (by omega))).mp c_70
              refine lv_iconst (v := nI 0) hx hb dL_isLetterRight_77 (by decide) ?_
              refine lv_icmp_ne (tgt := 111) hx hb dL_isLetterRight_78 (by decide) (fun c_78 => ?_) (fun c_78 => ?_)
              · exact absurd (by decide) c_78
              · refine lv_iload hx hb dL_isLetterRight_81 (lv_at hl 0 rfl) ?_
                refine lv_if_lt (tgt := 90) hx hb dL_isLetterRight_83 (by decide) (fun c_83 => ?_) (fun c_83 => ?_)
                · have d_83 := hL.fl_neg c_83
                  refine lv_iconst (v := nI 0) hx hb dL_isLetterRight_90 (by decide) ?_
                  refine lv_iload hx hb dL_isLetterRight_91 (lv_at hl 2 rfl) ?_
                  refine lv_if_le (tgt := 107) hx hb dL_isLetterRight_93 (by decide) (fun c_93 => ?_) (fun c_93 => ?_)
                  · have d_93 := (nI_le0 (by omega)).mp c_93
                    refine lv_iconst (v := nI 0) hx hb dL_isLetterRight_107 (by decide) ?_
                    refine lv_icmp_eq (tgt := 113) hx hb dL_isLetterRight_108 (by decide) (fun c_108 => ?_) (fun c_108 => ?_)
                    · exact key113 _ hQ _ _ _ h (lv_sub hl [2, 1, 0, 3, 4, 5, 6] rfl)
                    · exact absurd (by decide) c_108
                  · have d_93 := (not_congr (nI_le0 (by omega))).mp c_93
                    refine lv_iload hx hb dL_isLetterRight_96 (lv_at hl 2 rfl) ?_
                    refine lv_bipush (v := nI 10) hx hb dL_isLetterRight_98 (by decide) ?_
                    refine lv_icmp_ge (tgt := 107) hx hb dL_isLetterRight_100 (by decide) (fun c_100 => ?_) (fun c_100 => ?_)
                    · have d_100 := (nI_leI (by omega) (by omega)).mp c_100
                      refine lv_iconst (v := nI 0) hx hb dL_isLetterRight_107 (by decide) ?_
                      refine lv_icmp_eq (tgt := 113) hx hb dL_isLetterRight_108 (by decide) (fun c_108 => ?_) (fun c_108 => ?_)
                      · exact key113 _ hQ _ _ _ h (lv_sub hl [2, 1, 0, 3, 4, 5, 6] rfl)
                      · exact absurd (by decide) c_108
                    · have d_100 := (not_congr (nI_leI (by omega) (by omega))).mp c_100
                      refine lv_iconst (v := nI 1) hx hb dL_isLetterRight_103 (by decide) ?_
                      refine lv_goto (tgt := 108) hx hb dL_isLetterRight_104 (by decide) ?_
                      refine lv_icmp_eq (tgt := 113) hx hb dL_isLetterRight_108 (by decide) (fun c_108 => ?_) (fun c_108 => ?_)
                      · exact absurd c_108 (by decide)
                      · exact False.elim (by omega)
                · have d_83 := hL.fl_pos c_83
                  refine lv_iconst (v := nI 1) hx hb dL_isLetterRight_86 (by decide) ?_
                  refine lv_goto (tgt := 91) hx hb dL_isLetterRight_87 (by decide) ?_
                  refine lv_iload hx hb dL_isLetterRight_91 (lv_at hl 2 rfl) ?_
                  refine lv_if_le (tgt := 107) hx hb dL_isLetterRight_93 (by decide) (fun c_93 => ?_) (fun c_93 => ?_)
                  · have d_93 := (nI_le0 (by omega)).mp c_93
                    refine lv_iconst (v := nI 0) hx hb dL_isLetterRight_107 (by decide) ?_
                    refine lv_icmp_eq (tgt := 113) hx hb dL_isLetterRight_108 (by decide) (fun c_108 => ?_) (fun c_108 => ?_)
                    · exact absurd c_108 (by decide)
                    · exact False.elim (by omega)
                  · have d_93 := (not_congr (nI_le0 (by omega))).mp c_93
                    refine lv_iload hx hb dL_isLetterRight_96 (lv_at hl 2 rfl) ?_
                    refine lv_bipush (v := nI 10) hx hb dL_isLetterRight_98 (by decide) ?_
                    refine lv_icmp_ge (tgt := 107) hx hb dL_isLetterRight_100 (by decide) (fun c_100 => ?_) (fun c_100 => ?_)
                    · have d_100 := (nI_leI (by omega) (by omega)).mp c_100
                      refine lv_iconst (v := nI 0) hx hb dL_isLetterRight_107 (by decide) ?_
                      refine lv_icmp_eq (tgt := 113) hx hb dL_isLetterRight_108 (by decide) (fun c_108 => ?_) (fun c_108 => ?_)
                      · exact absurd c_108 (by decide)
                      · exact False.elim (by omega)
                    · have d_100 := (not_congr (nI_leI (by omega) (by omega))).mp c_100
                      refine lv_iconst (v := nI 1) hx hb dL_isLetterRight_103 (by decide) ?_
                      refine lv_goto (tgt := 108) hx hb dL_isLetterRight_104 (by decide) ?_
                      refine lv_icmp_eq (tgt := 113) hx hb dL_isLetterRight_108 (by decide) (fun c_108 => ?_) (fun c_108 => ?_)
                      · exact key113 _ hQ _ _ _ h (lv_sub hl [2, 1, 0, 3, 4, 5, 6] rfl)
                      · exact absurd (by decide) c_108
            · have d_70 := (nI_eq (by omega) (by omega)).mp c_70
              refine lv_iconst (v := nI 1) hx hb dL_isLetterRight_73 (by decide) ?_
              refine lv_goto (tgt := 78) hx hb dL_isLetterRight_74 (by decide) ?_
              refine lv_icmp_ne (tgt := 111) hx hb dL_isLetterRight_78 (by decide) (fun c_78 => ?_) (fun c_78 => ?_)
              · exact False.elim (by omega)
              · exact absurd c_78 (by decide)
          · have d_58 := (nI_eq0 (by omega)).mp c_58
            refine lv_iconst (v := nI 1) hx hb dL_isLetterRight_61 (by decide) ?_
            refine lv_goto (tgt := 66) hx hb dL_isLetterRight_62 (by decide) ?_
            refine lv_iload hx hb dL_isLetterRight_66 (lv_at hl 2 rfl) ?_
            refine lv_bipush (v := nI 10) hx hb dL_isLetterRight_68 (by decide) ?_
            refine lv_icmp_ne (tgt := 77) hx hb dL_isLetterRight_70 (by decide) (fun c_70 => ?_) (fun c_70 => ?_)
            · have d_70 := (not_congr (nI_eq (by omega) (by omega))).mp c_70
              refine lv_iconst (v := nI 0) hx hb dL_isLetterRight_77 (by decide) ?_
              refine lv_icmp_ne (tgt := 111) hx hb dL_isLetterRight_78 (by decide) (fun c_78 => ?_) (fun c_78 => ?_)
              · exact False.elim (by omega)
              · exact absurd c_78 (by decide)
            · have d_70 := (nI_eq (by omega) (by omega)).mp c_70
              refine lv_iconst (v := nI 1) hx hb dL_isLetterRight_73 (by decide) ?_
              refine lv_goto (tgt := 78) hx hb dL_isLetterRight_74 (by decide) ?_
              refine lv_icmp_ne (tgt := 111) hx hb dL_isLetterRight_78 (by decide) (fun c_78 => ?_) (fun c_78 => ?_)
              · exact absurd (by decide) c_78
              · refine lv_iload hx hb dL_isLetterRight_81 (lv_at hl 0 rfl) ?_
                refine lv_if_lt (tgt := 90) hx hb dL_isLetterRight_83 (by decide) (fun c_83 => ?_) (fun c_83 => ?_)
                · have d_83 := hL.fl_neg c_83
                  refine lv_iconst (v := nI 0) hx hb dL_isLetterRight_90 (by decide) ?_
                  refine lv_iload hx hb dL_isLetterRight_91 (lv_at hl 2 rfl) ?_
                  refine lv_if_le (tgt := 107) hx hb dL_isLetterRight_93 (by decide) (fun c_93 => ?_) (fun c_93 => ?_)
                  · have d_93 := (nI_le0 (by omega)).mp c_93
                    refine lv_iconst (v := nI 0) hx hb dL_isLetterRight_107 (by decide) ?_
                    refine lv_icmp_eq (tgt := 113) hx hb dL_isLetterRight_108 (by decide) (fun c_108 => ?_) (fun c_108 => ?_)
                    · exact key113 _ hQ _ _ _ h (lv_sub hl [2, 1, 0, 3, 4, 5, 6] rfl)
                    · exact absurd (by decide) c_108
                  · have d_93 := (not_congr (nI_le0 (by omega))).mp c_93
                    refine lv_iload hx hb dL_isLetterRight_96 (lv_at hl 2 rfl) ?_
                    refine lv_bipush (v := nI 10) hx hb dL_isLetterRight_98 (by decide) ?_
                    refine lv_icmp_ge (tgt := 107) hx hb dL_isLetterRight_100 (by decide) (fun c_100 => ?_) (fun c_100 => ?_)
                    · have d_100 := (nI_leI (by omega) (by omega)).mp c_100
                      refine lv_iconst (v := nI 0) hx hb dL_isLetterRight_107 (by decide) ?_
                      refine lv_icmp_eq (tgt := 113) hx hb dL_isLetterRight_108 (by decide) (fun c_108 => ?_) (fun c_108 => ?_)
                      · exact key113 _ hQ _ _ _ h (lv_sub hl [2, 1, 0, 3, 4, 5, 6] rfl)
                      · exact absurd (by decide) c_108
                    · have d_100 := (not_congr (nI_leI (by omega) (by omega))).mp c_100
                      refine lv_iconst (v := nI 1) hx hb dL_isLetterRight_103 (by decide) ?_
                      refine lv_goto (tgt := 108) hx hb dL_isLetterRight_104 (by decide) ?_
                      refine lv_icmp_eq (tgt := 113) hx hb dL_isLetterRight_108 (by decide) (fun c_108 => ?_) (fun c_108 => ?_)
                      · exact absurd c_108 (by decide)
                      · exact False.elim (by omega)
                · have d_83 := hL.fl_pos c_83
                  refine lv_iconst (v := nI 1) hx hb dL_isLetterRight_86 (by decide) ?_
                  refine lv_goto (tgt := 91) hx hb dL_isLetterRight_87 (by decide) ?_
                  refine lv_iload hx hb dL_isLetterRight_91 (lv_at hl 2 rfl) ?_
                  refine lv_if_le (tgt := 107) hx hb dL_isLetterRight_93 (by decide) (fun c_93 => ?_) (fun c_93 => ?_)
                  · have d_93 := (nI_le0 (by omega)).mp c_93
                    refine lv_iconst (v := nI 0) hx hb dL_isLetterRight_107 (by decide) ?_
                    refine lv_icmp_eq (tgt := 113) hx hb dL_isLetterRight_108 (by decide) (fun c_108 => ?_) (fun c_108 => ?_)
                    · exact absurd c_108 (by decide)
                    · exact False.elim (by omega)
                  · have d_93 := (not_congr (nI_le0 (by omega))).mp c_93
                    refine lv_iload hx hb dL_isLetterRight_96 (lv_at hl 2 rfl) ?_
                    refine lv_bipush (v := nI 10) hx hb dL_isLetterRight_98 (by decide) ?_
                    refine lv_icmp_ge (tgt := 107) hx hb dL_isLetterRight_100 (by decide) (fun c_100 => ?_) (fun c_100 => ?_)
                    · have d_100 := (nI_leI (by omega) (by omega)).mp c_100
                      refine lv_iconst (v := nI 0) hx hb dL_isLetterRight_107 (by decide) ?_
                      refine lv_icmp_eq (tgt := 113) hx hb dL_isLetterRight_108 (by decide) (fun c_108 => ?_) (fun c_108 => ?_)
                      · exact absurd c_108 (by decide)
                      · exact False.elim (by omega)
                    · have d_100 := (not_congr (nI_leI (by omega) (by omega))).mp c_100
                      refine lv_iconst (v := nI 1) hx hb dL_isLetterRight_103 (by decide) ?_
                      refine lv_goto (tgt := 108) hx hb dL_isLetterRight_104 (by decide) ?_
                      refine lv_icmp_eq (tgt := 113) hx hb dL_isLetterRight_108 (by decide) (fun c_108 => ?_) (fun c_108 => ?_)
                      · exact key113 _ hQ _ _ _ h (lv_sub hl [2, 1, 0, 3, 4, 5, 6] rfl)
                      · exact absurd (by decide) c_108
    · have d_34 := (not_congr (nI_leI (by omega) (by omega))).mp c_34
      refine lv_iload hx hb dL_isLetterRight_37 (lv_at hl 2 rfl) ?_
      refine lv_bipush (v := nI 10) hx hb dL_isLetterRight_39 (by decide) ?_
      refine lv_icmp_ne (tgt := 111) hx hb dL_isLetterRight_41 (by decide) (fun c_41 => ?_) (fun c_41 => ?_)
      · have d_41 := (not_congr (nI_eq (by omega) (by omega))).mp c_41
        exact False.elim (by omega)
      · have d_41 := (nI_eq (by omega) (by omega)).mp c_41
        refine lv_iload hx hb dL_isLetterRight_44 (lv_at hl 1 rfl) ?_
        refine lv_if_lt (tgt := 111) hx hb dL_isLetterRight_46 (by decide) (fun c_46 => ?_) (fun c_46 => ?_)
        · exact absurd c_46 (nI_pos (by omega))
        · refine lv_iload hx hb dL_isLetterRight_49 (lv_at hl 1 rfl) ?_
          refine lv_bipush (v := nI 60) hx hb dL_isLetterRight_51 (by decide) ?_
          refine lv_icmp_gt (tgt := 111) hx hb dL_isLetterRight_53 (by decide) (fun c_53 => ?_) (fun c_53 => ?_)
          · have d_53 := (nI_ltI (by omega) (by omega)).mp c_53
            exact False.elim (by omega)
          · have d_53 := (not_congr (nI_ltI (by omega) (by omega))).mp c_53
            refine lv_iload hx hb dL_isLetterRight_56 (lv_at hl 1 rfl) ?_
            refine lv_if_ne (tgt := 65) hx hb dL_isLetterRight_58 (by decide) (fun c_58 => ?_) (fun c_58 => ?_)
            · have d_58 := (not_congr (nI_eq0 (by omega))).mp c_58
              refine lv_iconst (v := nI 0) hx hb dL_isLetterRight_65 (by decide) ?_
              refine lv_iload hx hb dL_isLetterRight_66 (lv_at hl 2 rfl) ?_
              refine lv_bipush (v := nI 10) hx hb dL_isLetterRight_68 (by decide) ?_
              refine lv_icmp_ne (tgt := 77) hx hb dL_isLetterRight_70 (by decide) (fun c_70 => ?_) (fun c_70 => ?_)
              · have d_70 := (not_congr (nI_eq (by omega) (by omega))).mp c_70
                refine lv_iconst (v := nI 0) hx hb dL_isLetterRight_77 (by decide) ?_
                refine lv_icmp_ne (tgt := 111) hx hb dL_isLetterRight_78 (by decide) (fun c_78 => ?_) (fun c_78 => ?_)
                · exact absurd (by decide) c_78
                · refine lv_iload hx hb dL_isLetterRight_81 (lv_at hl 0 rfl) ?_
                  refine lv_if_lt (tgt := 90) hx hb dL_isLetterRight_83 (by decide) (fun c_83 => ?_) (fun c_83 => ?_)
                  · have d_83 := hL.fl_neg c_83
                    refine lv_iconst (v := nI 0) hx hb dL_isLetterRight_90 (by decide) ?_
                    refine lv_iload hx hb dL_isLetterRight_91 (lv_at hl 2 rfl) ?_
                    refine lv_if_le (tgt := 107) hx hb dL_isLetterRight_93 (by decide) (fun c_93 => ?_) (fun c_93 => ?_)
                    · have d_93 := (nI_le0 (by omega)).mp c_93
                      refine lv_iconst (v := nI 0) hx hb dL_isLetterRight_107 (by decide) ?_
                      refine lv_icmp_eq (tgt := 113) hx hb dL_isLetterRight_108 (by decide) (fun c_108 => ?_) (fun c_108 => ?_)
                      · exact key113 _ hQ _ _ _ h (lv_sub hl [2, 1, 0, 3, 4, 5, 6] rfl)
                      · exact absurd (by decide) c_108
                    · have d_93 := (not_congr (nI_le0 (by omega))).mp c_93
                      refine lv_iload hx hb dL_isLetterRight_96 (lv_at hl 2 rfl) ?_
                      refine lv_bipush (v := nI 10) hx hb dL_isLetterRight_98 (by decide) ?_
                      refine lv_icmp_ge (tgt := 107) hx hb dL_isLetterRight_100 (by decide) (fun c_100 => ?_) (fun c_100 => ?_)
                      · have d_100 := (nI_leI (by omega) (by omega)).mp c_100
                        refine lv_iconst (v := nI 0) hx hb dL_isLetterRight_107 (by decide) ?_
                        refine lv_icmp_eq (tgt := 113) hx hb dL_isLetterRight_108 (by decide) (fun c_108 => ?_) (fun c_108 => ?_)
                        · exact key113 _ hQ _ _ _ h (lv_sub hl [2, 1, 0, 3, 4, 5, 6] rfl)
                        · exact absurd (by decide) c_108
                      · have d_100 := (not_congr (nI_leI (by omega) (by omega))).mp c_100
                        refine lv_iconst (v := nI 1) hx hb dL_isLetterRight_103 (by decide) ?_
                        refine lv_goto (tgt := 108) hx hb dL_isLetterRight_104 (by decide) ?_
                        refine lv_icmp_eq (tgt := 113) hx hb dL_isLetterRight_108 (by decide) (fun c_108 => ?_) (fun c_108 => ?_)
                        · exact absurd c_108 (by decide)
                        · exact False.elim (by omega)
                  · have d_83 := hL.fl_pos c_83
                    refine lv_iconst (v := nI 1) hx hb dL_isLetterRight_86 (by decide) ?_
                    refine lv_goto (tgt := 91) hx hb dL_isLetterRight_87 (by decide) ?_
                    refine lv_iload hx hb dL_isLetterRight_91 (lv_at hl 2 rfl) ?_
                    refine lv_if_le (tgt := 107) hx hb dL_isLetterRight_93 (by decide) (fun c_93 => ?_) (fun c_93 => ?_)
                    · have d_93 := (nI_le0 (by omega)).mp c_93
                      refine lv_iconst (v := nI 0) hx hb dL_isLetterRight_107 (by decide) ?_
                      refine lv_icmp_eq (tgt := 113) hx hb dL_isLetterRight_108 (by decide) (fun c_108 => ?_) (fun c_108 => ?_)
                      · exact absurd c_108 (by decide)
                      · exact False.elim (by omega)
                    · have d_93 := (not_congr (nI_le0 (by omega))).mp c_93
                      refine lv_iload hx hb dL_isLetterRight_96 (lv_at hl 2 rfl) ?_
                      refine lv_bipush (v := nI 10) hx hb dL_isLetterRight_98 (by decide) ?_
                      refine lv_icmp_ge (tgt := 107) hx hb dL_isLetterRight_100 (by decide) (fun c_100 => ?_) (fun c_100 => ?_)
                      · have d_100 := (nI_leI (by omega) (by omega)).mp c_100
                        refine lv_iconst (v := nI 0) hx hb dL_isLetterRight_107 (by decide) ?_
                        refine lv_icmp_eq (tgt := 113) hx hb dL_isLetterRight_108 (by decide) (fun c_108 => ?_) (fun c_108 => ?_)
                        · exact absurd c_108 (by decide)
                        · exact False.elim (by omega)
                      · have d_100 := (not_congr (nI_leI (by omega) (by omega))).mp c_100
                        refine lv_iconst (v := nI 1) hx hb dL_isLetterRight_103 (by decide) ?_
                        refine lv_goto (tgt := 108) hx hb dL_isLetterRight_104 (by decide) ?_
                        refine lv_icmp_eq (tgt := 113) hx hb dL_isLetterRight_108 (by decide) (fun c_108 => ?_) (fun c_108 => ?_)
                        · exact key113 _ hQ _ _ _ h (lv_sub hl [2, 1, 0, 3, 4, 5, 6] rfl)
                        · exact absurd (by decide) c_108
              · have d_70 := (nI_eq (by omega) (by omega)).mp c_70
                refine lv_iconst (v := nI 1) hx hb dL_isLetterRight_73 (by decide) ?_
                refine lv_goto (tgt := 78) hx hb dL_isLetterRight_74 (by decide) ?_
                refine lv_icmp_ne (tgt := 111) hx hb dL_isLetterRight_78 (by decide) (fun c_78 => ?_) (fun c_78 => ?_)
                · exact False.elim (by omega)
                · exact absurd c_78 (by decide)
            · have d_58 := (nI_eq0 (by omega)).mp c_58
              refine lv_iconst (v := nI 1) hx hb dL_isLetterRight_61 (by decide) ?_
              refine lv_goto (tgt := 66) hx hb dL_isLetterRight_62 (by decide) ?_
              refine lv_iload hx hb dL_isLetterRight_66 (lv_at hl 2 rfl) ?_
              refine lv_bipush (v := nI 10) hx hb dL_isLetterRight_68 (by decide) ?_
              refine lv_icmp_ne (tgt := 77) hx hb dL_isLetterRight_70 (by decide) (fun c_70 => ?_) (fun c_70 => ?_)
              · have d_70 := (not_congr (nI_eq (by omega) (by omega))).mp c_70
                refine lv_iconst (v := nI 0) hx hb dL_isLetterRight_77 (by decide) ?_
                refine lv_icmp_ne (tgt := 111) hx hb dL_isLetterRight_78 (by decide) (fun c_78 => ?_) (fun c_78 => ?_)
                · exact False.elim (by omega)
                · exact absurd c_78 (by decide)
              · have d_70 := (nI_eq (by omega) (by omega)).mp c_70
                refine lv_iconst (v := nI 1) hx hb dL_isLetterRight_73 (by decide) ?_
                refine lv_goto (tgt := 78) hx hb dL_isLetterRight_74 (by decide) ?_
                refine lv_icmp_ne (tgt := 111) hx hb dL_isLetterRight_78 (by decide) (fun c_78 => ?_) (fun c_78 => ?_)
                · exact absurd (by decide) c_78
                · refine lv_iload hx hb dL_isLetterRight_81 (lv_at hl 0 rfl) ?_
                  refine lv_if_lt (tgt := 90) hx hb dL_isLetterRight_83 (by decide) (fun c_83 => ?_) (fun c_83 => ?_)
                  · have d_83 := hL.fl_neg c_83
                    refine lv_iconst (v := nI 0) hx hb dL_isLetterRight_90 (by decide) ?_
                    refine lv_iload hx hb dL_isLetterRight_91 (lv_at hl 2 rfl) ?_
                    refine lv_if_le (tgt := 107) hx hb dL_isLetterRight_93 (by decide) (fun c_93 => ?_) (fun c_93 => ?_)
                    · have d_93 := (nI_le0 (by omega)).mp c_93
                      refine lv_iconst (v := nI 0) hx hb dL_isLetterRight_107 (by decide) ?_
                      refine lv_icmp_eq (tgt := 113) hx hb dL_isLetterRight_108 (by decide) (fun c_108 => ?_) (fun c_108 => ?_)
                      · exact key113 _ hQ _ _ _ h (lv_sub hl [2, 1, 0, 3, 4, 5, 6] rfl)
                      · exact absurd (by decide) c_108
                    · have d_93 := (not_congr (nI_le0 (by omega))).mp c_93
                      refine lv_iload hx hb dL_isLetterRight_96 (lv_at hl 2 rfl) ?_
                      refine lv_bipush (v := nI 10) hx hb dL_isLetterRight_98 (by decide) ?_
                      refine lv_icmp_ge (tgt := 107) hx hb dL_isLetterRight_100 (by decide) (fun c_100 => ?_) (fun c_100 => ?_)
                      · have d_100 := (nI_leI (by omega) (by omega)).mp c_100
                        refine lv_iconst (v := nI 0) hx hb dL_isLetterRight_107 (by decide) ?_
                        refine lv_icmp_eq (tgt := 113) hx hb dL_isLetterRight_108 (by decide) (fun c_108 => ?_) (fun c_108 => ?_)
                        · exact key113 _ hQ _ _ _ h (lv_sub hl [2, 1, 0, 3, 4, 5, 6] rfl)
                        · exact absurd (by decide) c_108
                      · have d_100 := (not_congr (nI_leI (by omega) (by omega))).mp c_100
                        refine lv_iconst (v := nI 1) hx hb dL_isLetterRight_103 (by decide) ?_
                        refine lv_goto (tgt := 108) hx hb dL_isLetterRight_104 (by decide) ?_
                        refine lv_icmp_eq (tgt := 113) hx hb dL_isLetterRight_108 (by decide) (fun c_108 => ?_) (fun c_108 => ?_)
                        · exact absurd c_108 (by decide)
                        · exact False.elim (by omega)
                  · have d_83 := hL.fl_pos c_83
                    refine lv_iconst (v := nI 1) hx hb dL_isLetterRight_86 (by decide) ?_
                    refine lv_goto (tgt := 91) hx hb dL_isLetterRight_87 (by decide) ?_
                    refine lv_iload hx hb dL_isLetterRight_91 (lv_at hl 2 rfl) ?_
                    refine lv_if_le (tgt := 107) hx hb dL_isLetterRight_93 (by decide) (fun c_93 => ?_) (fun c_93 => ?_)
                    · have d_93 := (nI_le0 (by omega)).mp c_93
                      refine lv_iconst (v := nI 0) hx hb dL_isLetterRight_107 (by decide) ?_
                      refine lv_icmp_eq (tgt := 113) hx hb dL_isLetterRight_108 (by decide) (fun c_108 => ?_) (fun c_108 => ?_)
                      · exact absurd c_108 (by decide)
                      · exact False.elim (by omega)
                    · have d_93 := (not_congr (nI_le0 (by omega))).mp c_93
                      refine lv_iload hx hb dL_isLetterRight_96 (lv_at hl 2 rfl) ?_
                      refine lv_bipush (v := nI 10) hx hb dL_isLetterRight_98 (by decide) ?_
                      refine lv_icmp_ge (tgt := 107) hx hb dL_isLetterRight_100 (by decide) (fun c_100 => ?_) (fun c_100 => ?_)
                      · have d_100 := (nI_leI (by omega) (by omega)).mp c_100
                        refine lv_iconst (v := nI 0) hx hb dL_isLetterRight_107 (by decide) ?_
                        refine lv_icmp_eq (tgt := 113) hx hb dL_isLetterRight_108 (by decide) (fun c_108 => ?_) (fun c_108 => ?_)
                        · exact absurd c_108 (by decide)
                        · exact False.elim (by omega)
                      · have d_100 := (not_congr (nI_leI (by omega) (by omega))).mp c_100
                        refine lv_iconst (v := nI 1) hx hb dL_isLetterRight_103 (by decide) ?_
                        refine lv_goto (tgt := 108) hx hb dL_isLetterRight_104 (by decide) ?_
                        refine lv_icmp_eq (tgt := 113) hx hb dL_isLetterRight_108 (by decide) (fun c_108 => ?_) (fun c_108 => ?_)
                        · exact key113 _ hQ _ _ _ h (lv_sub hl [2, 1, 0, 3, 4, 5, 6] rfl)
                        · exact absurd (by decide) c_108
