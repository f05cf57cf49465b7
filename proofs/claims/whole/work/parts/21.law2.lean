/-! the law: its calls -/

set_option maxHeartbeats 4000000 in
set_option maxRecDepth 100000 in
theorem law_grossTax {p : Program} {l : Launch} {e : Env} {s : State} {m : MethodId} {below : List Frame} {meth : Method} {c : Code} {B0 L : Nat} {xs : Nat → Int32} {g : wG} {x out : Nat} {M : Nat → Nat} {AX AM : Nat → Prop} {H : Heap} {locs : List Loc} {cells slots : Nat} {Q : State → Prop} {σ : St} {th : Int} {fo : Nat → Int64} (E : LE p l s m c B0 L xs g out M AX AM) (I : LI s g x out M AX σ th fo H locs) (hroom : cells + 6 ≤ 634029 ∧ slots + 39 ≤ 7194018) (t : Nat) (ht : t + 4 < L) (ls : Array Slot) (hl : lv_has ls 7 [(4, .int (wI ((t : Int)))), (3, .ref out), (2, .ref (M 0)), (1, .ref x), (0, .ref B0)])
    (hk : ∀ (σ1 : St) (th1 : Int) (fo1 : Nat → Int64) (H1 : Heap) (locs1 : List Loc), LI s g x out M AX σ1 th1 fo1 H1 locs1 → ∀ ls : Array Slot, lv_has ls 7 [(4, .int (wI ((t : Int)))), (3, .ref out), (2, .ref (M 0)), (1, .ref x), (0, .ref B0)] → W p l e room_1 s m #[Value.ref B0] below meth c H1 locs1 (cells + 6) (slots + 39) Q (F0 m 1486 ls [])) : W p l e room_1 s m #[Value.ref B0] below meth c H locs cells slots Q (F0 m 340 ls []) := by
  obtain ⟨X, ⟨hE, hEs, hNx⟩, ⟨hXs, hbl, hl9, hL⟩, ⟨hsX, hsM, hso⟩, ⟨hdis, hno, hmo⟩, hAM, hMj⟩ := E
  obtain ⟨hσ, hXv, hM, hJ, hS, hA⟩ := I
  obtain ⟨hr1, hr2⟩ := hroom
  have hbA : ¬ ALs s B0 := Nat.not_le.mpr hbl
  have hW : ∀ q, AW AX out q → ALs s q := fun q h => h.elim (fun h => hsX q h) (fun h => h ▸ hso)
  have hGd := hE.dis
  obtain ⟨i, e1, hi⟩ : ∃ z : Int, xs (t + 1) = wI z ∧ wR z := ⟨_, (wI_ofInt _).symm, wR_toInt _⟩
  obtain ⟨a, e2, ha⟩ : ∃ z : Int, xs (t + 2) = wI z ∧ wR z := ⟨_, (wI_ofInt _).symm, wR_toInt _⟩
  refine w_aload_n X dL_law_340 hl 3 rfl rfl ?_
  refine w_aload_n X dL_law_341 hl 4 rfl rfl ?_
  refine w_iload X dL_law_342 hl 0 rfl ?_
  refine w_iconst X dL_law_344 ?_
  refine w_iadd X dL_law_345 fun z_1 ez_1 => ?_
  refine w_sld (y := i) X hXs hbl hbA hS hL (t + 1) (by omega) (by omega) e1 dL_law_346 ?_
  refine w_aload_n X dL_law_347 hl 4 rfl rfl ?_
  refine w_iload X dL_law_348 hl 0 rfl ?_
  refine w_iconst X dL_law_350 ?_
  refine w_iadd X dL_law_351 fun z_2 ez_2 => ?_
  refine w_sld (y := a) X hXs hbl hbA hS hL (t + 2) (by omega) (by omega) e2 dL_law_352 ?_
  refine w_aload_n X dL_law_353 hl 1 rfl rfl ?_
  refine w_ir (vx_runSW (As := [.ref x, .int (wI (i)), .int (wI (a)), .ref out]) (rest := []) X (c_L_grossTax l hl9 g H AX out hno x σ hσ hXv fo hJ i a hi ha) (vx_cwSW 4 X.2.2.2.2 gL_law_L_grossTax rfl rfl rfl (by decide +kernel) ⟨(Nat.le_of_ble_eq_true rfl), (Nat.le_of_ble_eq_true rfl)⟩) (w_pr2 hE hEs hNx hS hW) rfl rfl hl.1 rfl (lv_room (Nat.le_of_ble_eq_true rfl)) dL_law_354 ⟨by show _ ≤ 634029; omega, by show _ ≤ 7194018; omega⟩) hS hW fun v1 H1 lo1 hp1 hz1 hq1 hS => ?_
  obtain ⟨rfl, hX1, fo1, hJ1, hf1⟩ := hp1
  have hcd := cd_r (((0 ≤ i ∧ i < 4) ∧ 0 ≤ a ∧ a ≤ 10000000)) (True) (True)
  have hM1 := hM.kept (fun k h1 h2 => hq1 _ (hM.lt k h1 h2) (fun h => h.elim (fun h => hdis _ h (hAM k h1 h2)) (fun h => hmo (h ▸ hAM k h1 h2))))
  obtain ⟨fs8, hOm⟩ := hM1.ob
  have hA1 : ∀ q, H1.size ≤ q → AX q := fun q hq => hA q (by omega)
  refine w_istore X [(5, .int (wI (cd (((0 ≤ i ∧ i < 4) ∧ 0 ≤ a ∧ a ≤ 10000000)) (True) (True)))), (4, .int (wI ((t : Int)))), (3, .ref out), (2, .ref (M 0)), (1, .ref x), (0, .ref B0)] dL_law_357 hl (by decide) rfl fun ls hl => ?_
  refine w_aload_n X dL_law_359 hl 3 rfl rfl ?_
  refine w_aload_n X dL_law_360 hl 5 rfl rfl ?_
  refine w_iload X dL_law_361 hl 1 rfl ?_
  refine w_iconst X dL_law_363 ?_
  refine w_iadd X dL_law_364 fun z_3 ez_3 => ?_
  refine w_sld (y := i) X hXs hbl hbA hS hL (t + 1) (by omega) (by omega) e1 dL_law_365 ?_
  refine w_aload_n X dL_law_366 hl 5 rfl rfl ?_
  refine w_iload X dL_law_367 hl 1 rfl ?_
  refine w_iconst X dL_law_369 ?_
  refine w_iadd X dL_law_370 fun z_4 ez_4 => ?_
  refine w_sld (y := a) X hXs hbl hbA hS hL (t + 2) (by omega) (by omega) e2 dL_law_371 ?_
  refine w_ir (va_runV (As := [.int (wI (i)), .int (wI (a))]) (rest := []) X (c_X4_grossTax l g AM H1 M hAM hMj th σ hM1 hσ i a hi ha) (cwV 2 X.2.2.2.2 gL_law_X4_grossTax rfl rfl rfl (by decide +kernel) ⟨(Nat.le_of_ble_eq_true rfl), (Nat.le_of_ble_eq_true rfl)⟩) (w_prVN hE hEs hS hsM hOm rfl) rfl rfl hl.1 rfl (lv_room (Nat.le_of_ble_eq_true rfl)) dL_law_372 ⟨by show _ ≤ 634029; omega, by show _ ≤ 7194018; omega⟩) hS hsM fun v2 H2 lo2 hp2 hz2 hq2 hS => ?_
  obtain ⟨rfl, hM2⟩ := hp2
  obtain ⟨fs7, hOm2⟩ := hM2.ob
  have hX2 := hX1.kept (fun q h1 h2 => hq2 q h2 (hdis q h1))
  have hJ2 := hJ1.kept (hq2 _ hJ1.lt hmo)
  have hA2 : ∀ q, H2.size ≤ q → AX q := fun q hq => hA1 q (by omega)
  refine w_istore X [(6, .int (wI (stv (((0 ≤ i ∧ i < 4) ∧ 0 ≤ a ∧ a ≤ 10000000)) (True) (True) (grossS (σ.1 i.toNat) a)))), (5, .int (wI (cd (((0 ≤ i ∧ i < 4) ∧ 0 ≤ a ∧ a ≤ 10000000)) (True) (True)))), (4, .int (wI ((t : Int)))), (3, .ref out), (2, .ref (M 0)), (1, .ref x), (0, .ref B0)] dL_law_375 hl (by decide) rfl fun ls hl => ?_
  refine w_aload_n X dL_law_377 hl 4 rfl rfl ?_
  refine w_callV (v := .int (wI (cd (((0 ≤ i ∧ i < 4) ∧ 0 ≤ a ∧ a ≤ 10000000)) (True) (True)))) 0 X hE (c_X4_thrown l g H2 M (cd (((0 ≤ i ∧ i < 4) ∧ 0 ≤ a ∧ a ≤ 10000000)) (True) (True)) (stp (((0 ≤ i ∧ i < 4) ∧ 0 ≤ a ∧ a ≤ 10000000)) (True) (True) (σ) σ) hM2) hOm2 hl dL_law_378 gL_law_X4_thrown rfl rfl (by decide +kernel) ⟨(Nat.le_of_ble_eq_true rfl), (Nat.le_of_ble_eq_true rfl)⟩ rfl rfl (Nat.le_of_ble_eq_true rfl) ⟨by show _ ≤ 634029; omega, by show _ ≤ 7194018; omega⟩ ?_
  refine w_iload X dL_law_381 hl 1 rfl ?_
  refine w_icmp_eq X 388 dL_law_383 (by decide) (by omega) (by omega) (fun c_5 => ?_) (fun c_5 => ?_)
  · skip
    refine w_iload X dL_law_388 hl 1 rfl ?_
    refine w_if_ne X 405 dL_law_390 (by decide) (by omega) (fun c_6 => ?_) (fun c_6 => ?_)
    · skip
      refine w_goto X 1486 dL_law_405 (by decide) ?_
      refine W.widen (k := cells + 6) (n := slots + 39) (by omega) (by omega) ?_
      exact hk (stp (((0 ≤ i ∧ i < 4) ∧ 0 ≤ a ∧ a ≤ 10000000)) (True) (True) (σ) σ) (cd (((0 ≤ i ∧ i < 4) ∧ 0 ≤ a ∧ a ≤ 10000000)) (True) (True)) fo1 H2 lo2 ⟨stp_good (fun _ _ _ => hσ) hσ, hX2, hM2, hJ2, hS, hA2⟩ ls (lv_sub hl [2, 3, 4, 5, 6] rfl)
    · skip
      refine w_aload_n X dL_law_393 hl 3 rfl rfl ?_
      refine w_iconst X dL_law_394 ?_
      refine w_lald0 X hE hJ2 dL_law_395 ?_
      rw [hf1 (by omega)]
      refine w_iload X dL_law_396 hl 0 rfl ?_
      refine lv_i2l (v := (wI (stv (((0 ≤ i ∧ i < 4) ∧ 0 ≤ a ∧ a ≤ 10000000)) (True) (True) (grossS (σ.1 i.toNat) a))).toInt64) X.1 X.2.1 dL_law_398 rfl ?_
      refine w_lcmpEq X dL_law_399 ?_
      refine w_if_eq X 405 dL_law_400 (by decide) (by omega) (fun c_7 => ?_) (fun c_7 => ?_)
      · skip
        refine w_goto X 1486 dL_law_405 (by decide) ?_
        refine W.widen (k := cells + 6) (n := slots + 39) (by omega) (by omega) ?_
        exact hk (stp (((0 ≤ i ∧ i < 4) ∧ 0 ≤ a ∧ a ≤ 10000000)) (True) (True) (σ) σ) (cd (((0 ≤ i ∧ i < 4) ∧ 0 ≤ a ∧ a ≤ 10000000)) (True) (True)) fo1 H2 lo2 ⟨stp_good (fun _ _ _ => hσ) hσ, hX2, hM2, hJ2, hS, hA2⟩ ls (lv_sub hl [2, 3, 4, 5, 6] rfl)
      · skip
        exact absurd c_7 (by omega)
  · skip
    exact absurd c_5 (by omega)

set_option maxHeartbeats 4000000 in
set_option maxRecDepth 100000 in
theorem law_grossTaxByTrying {p : Program} {l : Launch} {e : Env} {s : State} {m : MethodId} {below : List Frame} {meth : Method} {c : Code} {B0 L : Nat} {xs : Nat → Int32} {g : wG} {x out : Nat} {M : Nat → Nat} {AX AM : Nat → Prop} {H : Heap} {locs : List Loc} {cells slots : Nat} {Q : State → Prop} {σ : St} {th : Int} {fo : Nat → Int64} (E : LE p l s m c B0 L xs g out M AX AM) (I : LI s g x out M AX σ th fo H locs) (hroom : cells + 6 ≤ 634029 ∧ slots + 39 ≤ 7194018) (t : Nat) (ht : t + 4 < L) (ls : Array Slot) (hl : lv_has ls 7 [(4, .int (wI ((t : Int)))), (3, .ref out), (2, .ref (M 0)), (1, .ref x), (0, .ref B0)])
    (hk : ∀ (σ1 : St) (th1 : Int) (fo1 : Nat → Int64) (H1 : Heap) (locs1 : List Loc), LI s g x out M AX σ1 th1 fo1 H1 locs1 → ∀ ls : Array Slot, lv_has ls 7 [(4, .int (wI ((t : Int)))), (3, .ref out), (2, .ref (M 0)), (1, .ref x), (0, .ref B0)] → W p l e room_1 s m #[Value.ref B0] below meth c H1 locs1 (cells + 6) (slots + 39) Q (F0 m 1486 ls [])) : W p l e room_1 s m #[Value.ref B0] below meth c H locs cells slots Q (F0 m 408 ls []) := by
  obtain ⟨X, ⟨hE, hEs, hNx⟩, ⟨hXs, hbl, hl9, hL⟩, ⟨hsX, hsM, hso⟩, ⟨hdis, hno, hmo⟩, hAM, hMj⟩ := E
  obtain ⟨hσ, hXv, hM, hJ, hS, hA⟩ := I
  obtain ⟨hr1, hr2⟩ := hroom
  have hbA : ¬ ALs s B0 := Nat.not_le.mpr hbl
  have hW : ∀ q, AW AX out q → ALs s q := fun q h => h.elim (fun h => hsX q h) (fun h => h ▸ hso)
  have hGd := hE.dis
  obtain ⟨i, e1, hi⟩ : ∃ z : Int, xs (t + 1) = wI z ∧ wR z := ⟨_, (wI_ofInt _).symm, wR_toInt _⟩
  obtain ⟨a, e2, ha⟩ : ∃ z : Int, xs (t + 2) = wI z ∧ wR z := ⟨_, (wI_ofInt _).symm, wR_toInt _⟩
  refine w_aload_n X dL_law_408 hl 3 rfl rfl ?_
  refine w_aload_n X dL_law_409 hl 4 rfl rfl ?_
  refine w_iload X dL_law_410 hl 0 rfl ?_
  refine w_iconst X dL_law_412 ?_
  refine w_iadd X dL_law_413 fun z_1 ez_1 => ?_
  refine w_sld (y := i) X hXs hbl hbA hS hL (t + 1) (by omega) (by omega) e1 dL_law_414 ?_
  refine w_aload_n X dL_law_415 hl 4 rfl rfl ?_
  refine w_iload X dL_law_416 hl 0 rfl ?_
  refine w_iconst X dL_law_418 ?_
  refine w_iadd X dL_law_419 fun z_2 ez_2 => ?_
  refine w_sld (y := a) X hXs hbl hbA hS hL (t + 2) (by omega) (by omega) e2 dL_law_420 ?_
  refine w_aload_n X dL_law_421 hl 1 rfl rfl ?_
  refine w_ir (vx_runSW (As := [.ref x, .int (wI (i)), .int (wI (a)), .ref out]) (rest := []) X (c_L_grossTaxByTrying l hl9 g H AX out hno x σ hσ hXv fo hJ i a hi ha) (vx_cwSW 4 X.2.2.2.2 gL_law_L_grossTaxByTrying rfl rfl rfl (by decide +kernel) ⟨(Nat.le_of_ble_eq_true rfl), (Nat.le_of_ble_eq_true rfl)⟩) (w_pr2 hE hEs hNx hS hW) rfl rfl hl.1 rfl (lv_room (Nat.le_of_ble_eq_true rfl)) dL_law_422 ⟨by show _ ≤ 634029; omega, by show _ ≤ 7194018; omega⟩) hS hW fun v1 H1 lo1 hp1 hz1 hq1 hS => ?_
  obtain ⟨rfl, hX1, fo1, hJ1, hf1⟩ := hp1
  have hcd := cd_r (((0 ≤ i ∧ i < 4) ∧ 0 ≤ a ∧ a ≤ 20000)) (True) (True)
  have hM1 := hM.kept (fun k h1 h2 => hq1 _ (hM.lt k h1 h2) (fun h => h.elim (fun h => hdis _ h (hAM k h1 h2)) (fun h => hmo (h ▸ hAM k h1 h2))))
  obtain ⟨fs8, hOm⟩ := hM1.ob
  have hA1 : ∀ q, H1.size ≤ q → AX q := fun q hq => hA q (by omega)
  refine w_istore X [(5, .int (wI (cd (((0 ≤ i ∧ i < 4) ∧ 0 ≤ a ∧ a ≤ 20000)) (True) (True)))), (4, .int (wI ((t : Int)))), (3, .ref out), (2, .ref (M 0)), (1, .ref x), (0, .ref B0)] dL_law_425 hl (by decide) rfl fun ls hl => ?_
  refine w_aload_n X dL_law_427 hl 3 rfl rfl ?_
  refine w_aload_n X dL_law_428 hl 5 rfl rfl ?_
  refine w_iload X dL_law_429 hl 1 rfl ?_
  refine w_iconst X dL_law_431 ?_
  refine w_iadd X dL_law_432 fun z_3 ez_3 => ?_
  refine w_sld (y := i) X hXs hbl hbA hS hL (t + 1) (by omega) (by omega) e1 dL_law_433 ?_
  refine w_aload_n X dL_law_434 hl 5 rfl rfl ?_
  refine w_iload X dL_law_435 hl 1 rfl ?_
  refine w_iconst X dL_law_437 ?_
  refine w_iadd X dL_law_438 fun z_4 ez_4 => ?_
  refine w_sld (y := a) X hXs hbl hbA hS hL (t + 2) (by omega) (by omega) e2 dL_law_439 ?_
  refine w_ir (va_runV (As := [.int (wI (i)), .int (wI (a))]) (rest := []) X (c_X4_grossTaxByTrying l g AM H1 M hAM hMj th σ hM1 hσ i a hi ha) (cwV 2 X.2.2.2.2 gL_law_X4_grossTaxByTrying rfl rfl rfl (by decide +kernel) ⟨(Nat.le_of_ble_eq_true rfl), (Nat.le_of_ble_eq_true rfl)⟩) (w_prVN hE hEs hS hsM hOm rfl) rfl rfl hl.1 rfl (lv_room (Nat.le_of_ble_eq_true rfl)) dL_law_440 ⟨by show _ ≤ 634029; omega, by show _ ≤ 7194018; omega⟩) hS hsM fun v2 H2 lo2 hp2 hz2 hq2 hS => ?_
  obtain ⟨rfl, hM2⟩ := hp2
  obtain ⟨fs7, hOm2⟩ := hM2.ob
  have hX2 := hX1.kept (fun q h1 h2 => hq2 q h2 (hdis q h1))
  have hJ2 := hJ1.kept (hq2 _ hJ1.lt hmo)
  have hA2 : ∀ q, H2.size ≤ q → AX q := fun q hq => hA1 q (by omega)
  refine w_istore X [(6, .int (wI (stv (((0 ≤ i ∧ i < 4) ∧ 0 ≤ a ∧ a ≤ 20000)) (True) (True) (grossS (σ.1 i.toNat) a)))), (5, .int (wI (cd (((0 ≤ i ∧ i < 4) ∧ 0 ≤ a ∧ a ≤ 20000)) (True) (True)))), (4, .int (wI ((t : Int)))), (3, .ref out), (2, .ref (M 0)), (1, .ref x), (0, .ref B0)] dL_law_443 hl (by decide) rfl fun ls hl => ?_
  refine w_aload_n X dL_law_445 hl 4 rfl rfl ?_
  refine w_callV (v := .int (wI (cd (((0 ≤ i ∧ i < 4) ∧ 0 ≤ a ∧ a ≤ 20000)) (True) (True)))) 0 X hE (c_X4_thrown l g H2 M (cd (((0 ≤ i ∧ i < 4) ∧ 0 ≤ a ∧ a ≤ 20000)) (True) (True)) (stp (((0 ≤ i ∧ i < 4) ∧ 0 ≤ a ∧ a ≤ 20000)) (True) (True) (σ) σ) hM2) hOm2 hl dL_law_446 gL_law_X4_thrown rfl rfl (by decide +kernel) ⟨(Nat.le_of_ble_eq_true rfl), (Nat.le_of_ble_eq_true rfl)⟩ rfl rfl (Nat.le_of_ble_eq_true rfl) ⟨by show _ ≤ 634029; omega, by show _ ≤ 7194018; omega⟩ ?_
  refine w_iload X dL_law_449 hl 1 rfl ?_
  refine w_icmp_eq X 456 dL_law_451 (by decide) (by omega) (by omega) (fun c_5 => ?_) (fun c_5 => ?_)
  · skip
    refine w_iload X dL_law_456 hl 1 rfl ?_
    refine w_if_ne X 473 dL_law_458 (by decide) (by omega) (fun c_6 => ?_) (fun c_6 => ?_)
    · skip
      refine w_goto X 1486 dL_law_473 (by decide) ?_
      refine W.widen (k := cells + 6) (n := slots + 39) (by omega) (by omega) ?_
      exact hk (stp (((0 ≤ i ∧ i < 4) ∧ 0 ≤ a ∧ a ≤ 20000)) (True) (True) (σ) σ) (cd (((0 ≤ i ∧ i < 4) ∧ 0 ≤ a ∧ a ≤ 20000)) (True) (True)) fo1 H2 lo2 ⟨stp_good (fun _ _ _ => hσ) hσ, hX2, hM2, hJ2, hS, hA2⟩ ls (lv_sub hl [2, 3, 4, 5, 6] rfl)
    · skip
      refine w_aload_n X dL_law_461 hl 3 rfl rfl ?_
      refine w_iconst X dL_law_462 ?_
      refine w_lald0 X hE hJ2 dL_law_463 ?_
      rw [hf1 (by omega)]
      refine w_iload X dL_law_464 hl 0 rfl ?_
      refine lv_i2l (v := (wI (stv (((0 ≤ i ∧ i < 4) ∧ 0 ≤ a ∧ a ≤ 20000)) (True) (True) (grossS (σ.1 i.toNat) a))).toInt64) X.1 X.2.1 dL_law_466 rfl ?_
      refine w_lcmpEq X dL_law_467 ?_
      refine w_if_eq X 473 dL_law_468 (by decide) (by omega) (fun c_7 => ?_) (fun c_7 => ?_)
      · skip
        refine w_goto X 1486 dL_law_473 (by decide) ?_
        refine W.widen (k := cells + 6) (n := slots + 39) (by omega) (by omega) ?_
        exact hk (stp (((0 ≤ i ∧ i < 4) ∧ 0 ≤ a ∧ a ≤ 20000)) (True) (True) (σ) σ) (cd (((0 ≤ i ∧ i < 4) ∧ 0 ≤ a ∧ a ≤ 20000)) (True) (True)) fo1 H2 lo2 ⟨stp_good (fun _ _ _ => hσ) hσ, hX2, hM2, hJ2, hS, hA2⟩ ls (lv_sub hl [2, 3, 4, 5, 6] rfl)
      · skip
        exact absurd c_7 (by omega)
  · skip
    exact absurd c_5 (by omega)

set_option maxHeartbeats 4000000 in
set_option maxRecDepth 100000 in
theorem law_add {p : Program} {l : Launch} {e : Env} {s : State} {m : MethodId} {below : List Frame} {meth : Method} {c : Code} {B0 L : Nat} {xs : Nat → Int32} {g : wG} {x out : Nat} {M : Nat → Nat} {AX AM : Nat → Prop} {H : Heap} {locs : List Loc} {cells slots : Nat} {Q : State → Prop} {σ : St} {th : Int} {fo : Nat → Int64} (E : LE p l s m c B0 L xs g out M AX AM) (I : LI s g x out M AX σ th fo H locs) (hroom : cells + 6 ≤ 634029 ∧ slots + 39 ≤ 7194018) (t : Nat) (ht : t + 4 < L) (ls : Array Slot) (hl : lv_has ls 7 [(4, .int (wI ((t : Int)))), (3, .ref out), (2, .ref (M 0)), (1, .ref x), (0, .ref B0)])
    (hk : ∀ (σ1 : St) (th1 : Int) (fo1 : Nat → Int64) (H1 : Heap) (locs1 : List Loc), LI s g x out M AX σ1 th1 fo1 H1 locs1 → ∀ ls : Array Slot, lv_has ls 7 [(4, .int (wI ((t : Int)))), (3, .ref out), (2, .ref (M 0)), (1, .ref x), (0, .ref B0)] → W p l e room_1 s m #[Value.ref B0] below meth c H1 locs1 (cells + 6) (slots + 39) Q (F0 m 1486 ls [])) : W p l e room_1 s m #[Value.ref B0] below meth c H locs cells slots Q (F0 m 476 ls []) := by
  obtain ⟨X, ⟨hE, hEs, hNx⟩, ⟨hXs, hbl, hl9, hL⟩, ⟨hsX, hsM, hso⟩, ⟨hdis, hno, hmo⟩, hAM, hMj⟩ := E
  obtain ⟨hσ, hXv, hM, hJ, hS, hA⟩ := I
  obtain ⟨hr1, hr2⟩ := hroom
  have hbA : ¬ ALs s B0 := Nat.not_le.mpr hbl
  have hW : ∀ q, AW AX out q → ALs s q := fun q h => h.elim (fun h => hsX q h) (fun h => h ▸ hso)
  have hGd := hE.dis
  obtain ⟨i, e1, hi⟩ : ∃ z : Int, xs (t + 1) = wI z ∧ wR z := ⟨_, (wI_ofInt _).symm, wR_toInt _⟩
  obtain ⟨a, e2, ha⟩ : ∃ z : Int, xs (t + 2) = wI z ∧ wR z := ⟨_, (wI_ofInt _).symm, wR_toInt _⟩
  obtain ⟨b, e3, hb⟩ : ∃ z : Int, xs (t + 3) = wI z ∧ wR z := ⟨_, (wI_ofInt _).symm, wR_toInt _⟩
  refine w_aload_n X dL_law_476 hl 3 rfl rfl ?_
  refine w_aload_n X dL_law_477 hl 4 rfl rfl ?_
  refine w_iload X dL_law_478 hl 0 rfl ?_
  refine w_iconst X dL_law_480 ?_
  refine w_iadd X dL_law_481 fun z_1 ez_1 => ?_
  refine w_sld (y := i) X hXs hbl hbA hS hL (t + 1) (by omega) (by omega) e1 dL_law_482 ?_
  refine w_aload_n X dL_law_483 hl 4 rfl rfl ?_
  refine w_iload X dL_law_484 hl 0 rfl ?_
  refine w_iconst X dL_law_486 ?_
  refine w_iadd X dL_law_487 fun z_2 ez_2 => ?_
  refine w_sld (y := a) X hXs hbl hbA hS hL (t + 2) (by omega) (by omega) e2 dL_law_488 ?_
  refine w_aload_n X dL_law_489 hl 4 rfl rfl ?_
  refine w_iload X dL_law_490 hl 0 rfl ?_
  refine w_iconst X dL_law_492 ?_
  refine w_iadd X dL_law_493 fun z_3 ez_3 => ?_
  refine w_sld (y := b) X hXs hbl hbA hS hL (t + 3) (by omega) (by omega) e3 dL_law_494 ?_
  refine w_aload_n X dL_law_495 hl 1 rfl rfl ?_
  refine w_ir (vx_runSW (As := [.ref x, .int (wI (i)), .int (wI (a)), .int (wI (b)), .ref out]) (rest := []) X (c_L_add l hl9 g H AX out hno hA x σ hσ hXv fo hJ i a b hi ha hb) (vx_cwSW 5 X.2.2.2.2 gL_law_L_add rfl rfl rfl (by decide +kernel) ⟨(Nat.le_of_ble_eq_true rfl), (Nat.le_of_ble_eq_true rfl)⟩) (w_pr2 hE hEs hNx hS hW) rfl rfl hl.1 rfl (lv_room (Nat.le_of_ble_eq_true rfl)) dL_law_496 ⟨by show _ ≤ 634029; omega, by show _ ≤ 7194018; omega⟩) hS hW fun v1 H1 lo1 hp1 hz1 hq1 hS => ?_
  obtain ⟨rfl, hX1, fo1, hJ1, hf1⟩ := hp1
  have hcd := cd_r (((0 ≤ i ∧ i < 4) ∧ (0 ≤ a ∧ a < 4) ∧ (0 ≤ b ∧ b ≤ 100000) ∧ i ≠ a)) ((sn σ < 10)) (True)
  have hM1 := hM.kept (fun k h1 h2 => hq1 _ (hM.lt k h1 h2) (fun h => h.elim (fun h => hdis _ h (hAM k h1 h2)) (fun h => hmo (h ▸ hAM k h1 h2))))
  obtain ⟨fs8, hOm⟩ := hM1.ob
  have hA1 : ∀ q, H1.size ≤ q → AX q := fun q hq => hA q (by omega)
  refine w_istore X [(5, .int (wI (cd (((0 ≤ i ∧ i < 4) ∧ (0 ≤ a ∧ a < 4) ∧ (0 ≤ b ∧ b ≤ 100000) ∧ i ≠ a)) ((sn σ < 10)) (True)))), (4, .int (wI ((t : Int)))), (3, .ref out), (2, .ref (M 0)), (1, .ref x), (0, .ref B0)] dL_law_499 hl (by decide) rfl fun ls hl => ?_
  refine w_aload_n X dL_law_501 hl 3 rfl rfl ?_
  refine w_aload_n X dL_law_502 hl 5 rfl rfl ?_
  refine w_iload X dL_law_503 hl 1 rfl ?_
  refine w_iconst X dL_law_505 ?_
  refine w_iadd X dL_law_506 fun z_4 ez_4 => ?_
  refine w_sld (y := i) X hXs hbl hbA hS hL (t + 1) (by omega) (by omega) e1 dL_law_507 ?_
  refine w_aload_n X dL_law_508 hl 5 rfl rfl ?_
  refine w_iload X dL_law_509 hl 1 rfl ?_
  refine w_iconst X dL_law_511 ?_
  refine w_iadd X dL_law_512 fun z_5 ez_5 => ?_
  refine w_sld (y := a) X hXs hbl hbA hS hL (t + 2) (by omega) (by omega) e2 dL_law_513 ?_
  refine w_aload_n X dL_law_514 hl 5 rfl rfl ?_
  refine w_iload X dL_law_515 hl 1 rfl ?_
  refine w_iconst X dL_law_517 ?_
  refine w_iadd X dL_law_518 fun z_6 ez_6 => ?_
  refine w_sld (y := b) X hXs hbl hbA hS hL (t + 3) (by omega) (by omega) e3 dL_law_519 ?_
  refine w_ir (va_runV (As := [.int (wI (i)), .int (wI (a)), .int (wI (b))]) (rest := []) X (c_X4_add l g AM H1 M hAM hMj th σ hM1 hσ i a b hi ha hb) (cwV 3 X.2.2.2.2 gL_law_X4_add rfl rfl rfl (by decide +kernel) ⟨(Nat.le_of_ble_eq_true rfl), (Nat.le_of_ble_eq_true rfl)⟩) (w_prVN hE hEs hS hsM hOm rfl) rfl rfl hl.1 rfl (lv_room (Nat.le_of_ble_eq_true rfl)) dL_law_520 ⟨by show _ ≤ 634029; omega, by show _ ≤ 7194018; omega⟩) hS hsM fun v2 H2 lo2 hp2 hz2 hq2 hS => ?_
  obtain ⟨rfl, hM2⟩ := hp2
  obtain ⟨fs7, hOm2⟩ := hM2.ob
  have hX2 := hX1.kept (fun q h1 h2 => hq2 q h2 (hdis q h1))
  have hJ2 := hJ1.kept (hq2 _ hJ1.lt hmo)
  have hA2 : ∀ q, H2.size ≤ q → AX q := fun q hq => hA1 q (by omega)
  refine w_istore X [(6, .int (wI (stv (((0 ≤ i ∧ i < 4) ∧ (0 ≤ a ∧ a < 4) ∧ (0 ≤ b ∧ b ≤ 100000) ∧ i ≠ a)) ((sn σ < 10)) (True) ((sn σ : Int))))), (5, .int (wI (cd (((0 ≤ i ∧ i < 4) ∧ (0 ≤ a ∧ a < 4) ∧ (0 ≤ b ∧ b ≤ 100000) ∧ i ≠ a)) ((sn σ < 10)) (True)))), (4, .int (wI ((t : Int)))), (3, .ref out), (2, .ref (M 0)), (1, .ref x), (0, .ref B0)] dL_law_523 hl (by decide) rfl fun ls hl => ?_
  refine w_aload_n X dL_law_525 hl 4 rfl rfl ?_
  refine w_callV (v := .int (wI (cd (((0 ≤ i ∧ i < 4) ∧ (0 ≤ a ∧ a < 4) ∧ (0 ≤ b ∧ b ≤ 100000) ∧ i ≠ a)) ((sn σ < 10)) (True)))) 0 X hE (c_X4_thrown l g H2 M (cd (((0 ≤ i ∧ i < 4) ∧ (0 ≤ a ∧ a < 4) ∧ (0 ≤ b ∧ b ≤ 100000) ∧ i ≠ a)) ((sn σ < 10)) (True)) (stp (((0 ≤ i ∧ i < 4) ∧ (0 ≤ a ∧ a < 4) ∧ (0 ≤ b ∧ b ≤ 100000) ∧ i ≠ a)) ((sn σ < 10)) (True) (nxAdd σ (newS i a b)) σ) hM2) hOm2 hl dL_law_526 gL_law_X4_thrown rfl rfl (by decide +kernel) ⟨(Nat.le_of_ble_eq_true rfl), (Nat.le_of_ble_eq_true rfl)⟩ rfl rfl (Nat.le_of_ble_eq_true rfl) ⟨by show _ ≤ 634029; omega, by show _ ≤ 7194018; omega⟩ ?_
  refine w_iload X dL_law_529 hl 1 rfl ?_
  refine w_icmp_eq X 536 dL_law_531 (by decide) (by omega) (by omega) (fun c_7 => ?_) (fun c_7 => ?_)
  · skip
    refine w_iload X dL_law_536 hl 1 rfl ?_
    refine w_if_ne X 553 dL_law_538 (by decide) (by omega) (fun c_8 => ?_) (fun c_8 => ?_)
    · skip
      refine w_goto X 1486 dL_law_553 (by decide) ?_
      refine W.widen (k := cells + 6) (n := slots + 39) (by omega) (by omega) ?_
      exact hk (stp (((0 ≤ i ∧ i < 4) ∧ (0 ≤ a ∧ a < 4) ∧ (0 ≤ b ∧ b ≤ 100000) ∧ i ≠ a)) ((sn σ < 10)) (True) (nxAdd σ (newS i a b)) σ) (cd (((0 ≤ i ∧ i < 4) ∧ (0 ≤ a ∧ a < 4) ∧ (0 ≤ b ∧ b ≤ 100000) ∧ i ≠ a)) ((sn σ < 10)) (True)) fo1 H2 lo2 ⟨stp_good (fun q1 q2 _ => hσ.add q2 (by show 0 ≤ i ∧ i < 4; omega) (by show 0 ≤ a ∧ a < 4; omega) (by show 0 ≤ b ∧ b ≤ 100000; omega) ⟨rfl, rfl, rfl, rfl⟩) hσ, hX2, hM2, hJ2, hS, hA2⟩ ls (lv_sub hl [2, 3, 4, 5, 6] rfl)
    · skip
      refine w_aload_n X dL_law_541 hl 3 rfl rfl ?_
      refine w_iconst X dL_law_542 ?_
      refine w_lald0 X hE hJ2 dL_law_543 ?_
      rw [hf1 (by omega)]
      refine w_iload X dL_law_544 hl 0 rfl ?_
      refine lv_i2l (v := (wI (stv (((0 ≤ i ∧ i < 4) ∧ (0 ≤ a ∧ a < 4) ∧ (0 ≤ b ∧ b ≤ 100000) ∧ i ≠ a)) ((sn σ < 10)) (True) ((sn σ : Int)))).toInt64) X.1 X.2.1 dL_law_546 rfl ?_
      refine w_lcmpEq X dL_law_547 ?_
      refine w_if_eq X 553 dL_law_548 (by decide) (by omega) (fun c_9 => ?_) (fun c_9 => ?_)
      · skip
        refine w_goto X 1486 dL_law_553 (by decide) ?_
        refine W.widen (k := cells + 6) (n := slots + 39) (by omega) (by omega) ?_
        exact hk (stp (((0 ≤ i ∧ i < 4) ∧ (0 ≤ a ∧ a < 4) ∧ (0 ≤ b ∧ b ≤ 100000) ∧ i ≠ a)) ((sn σ < 10)) (True) (nxAdd σ (newS i a b)) σ) (cd (((0 ≤ i ∧ i < 4) ∧ (0 ≤ a ∧ a < 4) ∧ (0 ≤ b ∧ b ≤ 100000) ∧ i ≠ a)) ((sn σ < 10)) (True)) fo1 H2 lo2 ⟨stp_good (fun q1 q2 _ => hσ.add q2 (by show 0 ≤ i ∧ i < 4; omega) (by show 0 ≤ a ∧ a < 4; omega) (by show 0 ≤ b ∧ b ≤ 100000; omega) ⟨rfl, rfl, rfl, rfl⟩) hσ, hX2, hM2, hJ2, hS, hA2⟩ ls (lv_sub hl [2, 3, 4, 5, 6] rfl)
      · skip
        exact absurd c_9 (by omega)
  · skip
    exact absurd c_7 (by omega)

set_option maxHeartbeats 4000000 in
set_option maxRecDepth 100000 in
theorem law_setAbroad {p : Program} {l : Launch} {e : Env} {s : State} {m : MethodId} {below : List Frame} {meth : Method} {c : Code} {B0 L : Nat} {xs : Nat → Int32} {g : wG} {x out : Nat} {M : Nat → Nat} {AX AM : Nat → Prop} {H : Heap} {locs : List Loc} {cells slots : Nat} {Q : State → Prop} {σ : St} {th : Int} {fo : Nat → Int64} (E : LE p l s m c B0 L xs g out M AX AM) (I : LI s g x out M AX σ th fo H locs) (hroom : cells + 6 ≤ 634029 ∧ slots + 39 ≤ 7194018) (t : Nat) (ht : t + 4 < L) (ls : Array Slot) (hl : lv_has ls 7 [(4, .int (wI ((t : Int)))), (3, .ref out), (2, .ref (M 0)), (1, .ref x), (0, .ref B0)])
    (hk : ∀ (σ1 : St) (th1 : Int) (fo1 : Nat → Int64) (H1 : Heap) (locs1 : List Loc), LI s g x out M AX σ1 th1 fo1 H1 locs1 → ∀ ls : Array Slot, lv_has ls 7 [(4, .int (wI ((t : Int)))), (3, .ref out), (2, .ref (M 0)), (1, .ref x), (0, .ref B0)] → W p l e room_1 s m #[Value.ref B0] below meth c H1 locs1 (cells + 6) (slots + 39) Q (F0 m 1486 ls [])) : W p l e room_1 s m #[Value.ref B0] below meth c H locs cells slots Q (F0 m 556 ls []) := by
  obtain ⟨X, ⟨hE, hEs, hNx⟩, ⟨hXs, hbl, hl9, hL⟩, ⟨hsX, hsM, hso⟩, ⟨hdis, hno, hmo⟩, hAM, hMj⟩ := E
  obtain ⟨hσ, hXv, hM, hJ, hS, hA⟩ := I
  obtain ⟨hr1, hr2⟩ := hroom
  have hbA : ¬ ALs s B0 := Nat.not_le.mpr hbl
  have hW : ∀ q, AW AX out q → ALs s q := fun q h => h.elim (fun h => hsX q h) (fun h => h ▸ hso)
  have hGd := hE.dis
  obtain ⟨i, e1, hi⟩ : ∃ z : Int, xs (t + 1) = wI z ∧ wR z := ⟨_, (wI_ofInt _).symm, wR_toInt _⟩
  obtain ⟨a, e2, ha⟩ : ∃ z : Int, xs (t + 2) = wI z ∧ wR z := ⟨_, (wI_ofInt _).symm, wR_toInt _⟩
  obtain ⟨b, e3, hb⟩ : ∃ z : Int, xs (t + 3) = wI z ∧ wR z := ⟨_, (wI_ofInt _).symm, wR_toInt _⟩
  refine w_aload_n X dL_law_556 hl 3 rfl rfl ?_
  refine w_aload_n X dL_law_557 hl 4 rfl rfl ?_
  refine w_iload X dL_law_558 hl 0 rfl ?_
  refine w_iconst X dL_law_560 ?_
  refine w_iadd X dL_law_561 fun z_1 ez_1 => ?_
  refine w_sld (y := i) X hXs hbl hbA hS hL (t + 1) (by omega) (by omega) e1 dL_law_562 ?_
  refine w_aload_n X dL_law_563 hl 4 rfl rfl ?_
  refine w_iload X dL_law_564 hl 0 rfl ?_
  refine w_iconst X dL_law_566 ?_
  refine w_iadd X dL_law_567 fun z_2 ez_2 => ?_
  refine w_sld (y := a) X hXs hbl hbA hS hL (t + 2) (by omega) (by omega) e2 dL_law_568 ?_
  refine w_aload_n X dL_law_569 hl 4 rfl rfl ?_
  refine w_iload X dL_law_570 hl 0 rfl ?_
  refine w_iconst X dL_law_572 ?_
  refine w_iadd X dL_law_573 fun z_3 ez_3 => ?_
  refine w_sld (y := b) X hXs hbl hbA hS hL (t + 3) (by omega) (by omega) e3 dL_law_574 ?_
  refine w_aload_n X dL_law_575 hl 1 rfl rfl ?_
  refine w_ir (vx_runSW (As := [.ref x, .int (wI (i)), .int (wI (a)), .int (wI (b)), .ref out]) (rest := []) X (c_L_setAbroad l hl9 g H AX out hno x σ hσ hXv fo hJ i a b hi ha hb) (vx_cwSW 5 X.2.2.2.2 gL_law_L_setAbroad rfl rfl rfl (by decide +kernel) ⟨(Nat.le_of_ble_eq_true rfl), (Nat.le_of_ble_eq_true rfl)⟩) (w_pr2 hE hEs hNx hS hW) rfl rfl hl.1 rfl (lv_room (Nat.le_of_ble_eq_true rfl)) dL_law_576 ⟨by show _ ≤ 634029; omega, by show _ ≤ 7194018; omega⟩) hS hW fun v1 H1 lo1 hp1 hz1 hq1 hS => ?_
  obtain ⟨rfl, hX1, fo1, hJ1, hf1⟩ := hp1
  have hcd := cd_r (((0 : Int) ≤ i ∧ i < (sn σ : Int))) (((0 ≤ a ∧ a ≤ 12) ∧ a ≤ b ∧ b ≤ 12)) (True)
  have hM1 := hM.kept (fun k h1 h2 => hq1 _ (hM.lt k h1 h2) (fun h => h.elim (fun h => hdis _ h (hAM k h1 h2)) (fun h => hmo (h ▸ hAM k h1 h2))))
  obtain ⟨fs8, hOm⟩ := hM1.ob
  have hA1 : ∀ q, H1.size ≤ q → AX q := fun q hq => hA q (by omega)
  refine w_istore X [(5, .int (wI (cd (((0 : Int) ≤ i ∧ i < (sn σ : Int))) (((0 ≤ a ∧ a ≤ 12) ∧ a ≤ b ∧ b ≤ 12)) (True)))), (4, .int (wI ((t : Int)))), (3, .ref out), (2, .ref (M 0)), (1, .ref x), (0, .ref B0)] dL_law_579 hl (by decide) rfl fun ls hl => ?_
  refine w_aload_n X dL_law_581 hl 3 rfl rfl ?_
  refine w_aload_n X dL_law_582 hl 5 rfl rfl ?_
  refine w_iload X dL_law_583 hl 1 rfl ?_
  refine w_iconst X dL_law_585 ?_
  refine w_iadd X dL_law_586 fun z_4 ez_4 => ?_
  refine w_sld (y := i) X hXs hbl hbA hS hL (t + 1) (by omega) (by omega) e1 dL_law_587 ?_
  refine w_aload_n X dL_law_588 hl 5 rfl rfl ?_
  refine w_iload X dL_law_589 hl 1 rfl ?_
  refine w_iconst X dL_law_591 ?_
  refine w_iadd X dL_law_592 fun z_5 ez_5 => ?_
  refine w_sld (y := a) X hXs hbl hbA hS hL (t + 2) (by omega) (by omega) e2 dL_law_593 ?_
  refine w_aload_n X dL_law_594 hl 5 rfl rfl ?_
  refine w_iload X dL_law_595 hl 1 rfl ?_
  refine w_iconst X dL_law_597 ?_
  refine w_iadd X dL_law_598 fun z_6 ez_6 => ?_
  refine w_sld (y := b) X hXs hbl hbA hS hL (t + 3) (by omega) (by omega) e3 dL_law_599 ?_
  refine w_ir (va_runV (As := [.int (wI (i)), .int (wI (a)), .int (wI (b))]) (rest := []) X (c_X4_setAbroad l g AM H1 M hAM hMj th σ hM1 hσ i a b hi ha hb) (cwV 3 X.2.2.2.2 gL_law_X4_setAbroad rfl rfl rfl (by decide +kernel) ⟨(Nat.le_of_ble_eq_true rfl), (Nat.le_of_ble_eq_true rfl)⟩) (w_prVN hE hEs hS hsM hOm rfl) rfl rfl hl.1 rfl (lv_room (Nat.le_of_ble_eq_true rfl)) dL_law_600 ⟨by show _ ≤ 634029; omega, by show _ ≤ 7194018; omega⟩) hS hsM fun v2 H2 lo2 hp2 hz2 hq2 hS => ?_
  obtain ⟨rfl, hM2⟩ := hp2
  obtain ⟨fs7, hOm2⟩ := hM2.ob
  have hX2 := hX1.kept (fun q h1 h2 => hq2 q h2 (hdis q h1))
  have hJ2 := hJ1.kept (hq2 _ hJ1.lt hmo)
  have hA2 : ∀ q, H2.size ≤ q → AX q := fun q hq => hA1 q (by omega)
  refine w_istore X [(6, .int (wI (stv (((0 : Int) ≤ i ∧ i < (sn σ : Int))) (((0 ≤ a ∧ a ≤ 12) ∧ a ≤ b ∧ b ≤ 12)) (True) (monS (sp σ i.toNat))))), (5, .int (wI (cd (((0 : Int) ≤ i ∧ i < (sn σ : Int))) (((0 ≤ a ∧ a ≤ 12) ∧ a ≤ b ∧ b ≤ 12)) (True)))), (4, .int (wI ((t : Int)))), (3, .ref out), (2, .ref (M 0)), (1, .ref x), (0, .ref B0)] dL_law_603 hl (by decide) rfl fun ls hl => ?_
  refine w_aload_n X dL_law_605 hl 4 rfl rfl ?_
  refine w_callV (v := .int (wI (cd (((0 : Int) ≤ i ∧ i < (sn σ : Int))) (((0 ≤ a ∧ a ≤ 12) ∧ a ≤ b ∧ b ≤ 12)) (True)))) 0 X hE (c_X4_thrown l g H2 M (cd (((0 : Int) ≤ i ∧ i < (sn σ : Int))) (((0 ≤ a ∧ a ≤ 12) ∧ a ≤ b ∧ b ≤ 12)) (True)) (stp (((0 : Int) ≤ i ∧ i < (sn σ : Int))) (((0 ≤ a ∧ a ≤ 12) ∧ a ≤ b ∧ b ≤ 12)) (True) (nxPers σ i.toNat (absS (sp σ i.toNat) a b)) σ) hM2) hOm2 hl dL_law_606 gL_law_X4_thrown rfl rfl (by decide +kernel) ⟨(Nat.le_of_ble_eq_true rfl), (Nat.le_of_ble_eq_true rfl)⟩ rfl rfl (Nat.le_of_ble_eq_true rfl) ⟨by show _ ≤ 634029; omega, by show _ ≤ 7194018; omega⟩ ?_
  refine w_iload X dL_law_609 hl 1 rfl ?_
  refine w_icmp_eq X 616 dL_law_611 (by decide) (by omega) (by omega) (fun c_7 => ?_) (fun c_7 => ?_)
  · skip
    refine w_iload X dL_law_616 hl 1 rfl ?_
    refine w_if_ne X 633 dL_law_618 (by decide) (by omega) (fun c_8 => ?_) (fun c_8 => ?_)
    · skip
      refine w_goto X 1486 dL_law_633 (by decide) ?_
      refine W.widen (k := cells + 6) (n := slots + 39) (by omega) (by omega) ?_
      exact hk (stp (((0 : Int) ≤ i ∧ i < (sn σ : Int))) (((0 ≤ a ∧ a ≤ 12) ∧ a ≤ b ∧ b ≤ 12)) (True) (nxPers σ i.toNat (absS (sp σ i.toNat) a b)) σ) (cd (((0 : Int) ≤ i ∧ i < (sn σ : Int))) (((0 ≤ a ∧ a ≤ 12) ∧ a ≤ b ∧ b ≤ 12)) (True)) fo1 H2 lo2 ⟨stp_good (fun q1 q2 _ => hσ.pers (by omega) ⟨(hσ.2.2.1 i.toNat (by omega)).1.1, (by omega : 0 ≤ a ∧ a ≤ b ∧ b ≤ 12), (hσ.2.2.1 i.toNat (by omega)).1.2.2⟩ rfl rfl) hσ, hX2, hM2, hJ2, hS, hA2⟩ ls (lv_sub hl [2, 3, 4, 5, 6] rfl)
    · skip
      refine w_aload_n X dL_law_621 hl 3 rfl rfl ?_
      refine w_iconst X dL_law_622 ?_
      refine w_lald0 X hE hJ2 dL_law_623 ?_
      rw [hf1 (by omega)]
      refine w_iload X dL_law_624 hl 0 rfl ?_
      refine lv_i2l (v := (wI (stv (((0 : Int) ≤ i ∧ i < (sn σ : Int))) (((0 ≤ a ∧ a ≤ 12) ∧ a ≤ b ∧ b ≤ 12)) (True) (monS (sp σ i.toNat)))).toInt64) X.1 X.2.1 dL_law_626 rfl ?_
      refine w_lcmpEq X dL_law_627 ?_
      refine w_if_eq X 633 dL_law_628 (by decide) (by omega) (fun c_9 => ?_) (fun c_9 => ?_)
      · skip
        refine w_goto X 1486 dL_law_633 (by decide) ?_
        refine W.widen (k := cells + 6) (n := slots + 39) (by omega) (by omega) ?_
        exact hk (stp (((0 : Int) ≤ i ∧ i < (sn σ : Int))) (((0 ≤ a ∧ a ≤ 12) ∧ a ≤ b ∧ b ≤ 12)) (True) (nxPers σ i.toNat (absS (sp σ i.toNat) a b)) σ) (cd (((0 : Int) ≤ i ∧ i < (sn σ : Int))) (((0 ≤ a ∧ a ≤ 12) ∧ a ≤ b ∧ b ≤ 12)) (True)) fo1 H2 lo2 ⟨stp_good (fun q1 q2 _ => hσ.pers (by omega) ⟨(hσ.2.2.1 i.toNat (by omega)).1.1, (by omega : 0 ≤ a ∧ a ≤ b ∧ b ≤ 12), (hσ.2.2.1 i.toNat (by omega)).1.2.2⟩ rfl rfl) hσ, hX2, hM2, hJ2, hS, hA2⟩ ls (lv_sub hl [2, 3, 4, 5, 6] rfl)
      · skip
        exact absurd c_9 (by omega)
  · skip
    exact absurd c_7 (by omega)

set_option maxHeartbeats 4000000 in
set_option maxRecDepth 100000 in
theorem law_setPay {p : Program} {l : Launch} {e : Env} {s : State} {m : MethodId} {below : List Frame} {meth : Method} {c : Code} {B0 L : Nat} {xs : Nat → Int32} {g : wG} {x out : Nat} {M : Nat → Nat} {AX AM : Nat → Prop} {H : Heap} {locs : List Loc} {cells slots : Nat} {Q : State → Prop} {σ : St} {th : Int} {fo : Nat → Int64} (E : LE p l s m c B0 L xs g out M AX AM) (I : LI s g x out M AX σ th fo H locs) (hroom : cells + 6 ≤ 634029 ∧ slots + 39 ≤ 7194018) (t : Nat) (ht : t + 4 < L) (ls : Array Slot) (hl : lv_has ls 7 [(4, .int (wI ((t : Int)))), (3, .ref out), (2, .ref (M 0)), (1, .ref x), (0, .ref B0)])
    (hk : ∀ (σ1 : St) (th1 : Int) (fo1 : Nat → Int64) (H1 : Heap) (locs1 : List Loc), LI s g x out M AX σ1 th1 fo1 H1 locs1 → ∀ ls : Array Slot, lv_has ls 7 [(4, .int (wI ((t : Int)))), (3, .ref out), (2, .ref (M 0)), (1, .ref x), (0, .ref B0)] → W p l e room_1 s m #[Value.ref B0] below meth c H1 locs1 (cells + 6) (slots + 39) Q (F0 m 1486 ls [])) : W p l e room_1 s m #[Value.ref B0] below meth c H locs cells slots Q (F0 m 636 ls []) := by
  obtain ⟨X, ⟨hE, hEs, hNx⟩, ⟨hXs, hbl, hl9, hL⟩, ⟨hsX, hsM, hso⟩, ⟨hdis, hno, hmo⟩, hAM, hMj⟩ := E
  obtain ⟨hσ, hXv, hM, hJ, hS, hA⟩ := I
  obtain ⟨hr1, hr2⟩ := hroom
  have hbA : ¬ ALs s B0 := Nat.not_le.mpr hbl
  have hW : ∀ q, AW AX out q → ALs s q := fun q h => h.elim (fun h => hsX q h) (fun h => h ▸ hso)
  have hGd := hE.dis
  obtain ⟨i, e1, hi⟩ : ∃ z : Int, xs (t + 1) = wI z ∧ wR z := ⟨_, (wI_ofInt _).symm, wR_toInt _⟩
  obtain ⟨a, e2, ha⟩ : ∃ z : Int, xs (t + 2) = wI z ∧ wR z := ⟨_, (wI_ofInt _).symm, wR_toInt _⟩
  refine w_aload_n X dL_law_636 hl 3 rfl rfl ?_
  refine w_aload_n X dL_law_637 hl 4 rfl rfl ?_
  refine w_iload X dL_law_638 hl 0 rfl ?_
  refine w_iconst X dL_law_640 ?_
  refine w_iadd X dL_law_641 fun z_1 ez_1 => ?_
  refine w_sld (y := i) X hXs hbl hbA hS hL (t + 1) (by omega) (by omega) e1 dL_law_642 ?_
  refine w_aload_n X dL_law_643 hl 4 rfl rfl ?_
  refine w_iload X dL_law_644 hl 0 rfl ?_
  refine w_iconst X dL_law_646 ?_
  refine w_iadd X dL_law_647 fun z_2 ez_2 => ?_
  refine w_sld (y := a) X hXs hbl hbA hS hL (t + 2) (by omega) (by omega) e2 dL_law_648 ?_
  refine w_aload_n X dL_law_649 hl 1 rfl rfl ?_
  refine w_ir (vx_runSW (As := [.ref x, .int (wI (i)), .int (wI (a)), .ref out]) (rest := []) X (c_L_setPay l hl9 g H AX out hno x σ hσ hXv fo hJ i a hi ha) (vx_cwSW 4 X.2.2.2.2 gL_law_L_setPay rfl rfl rfl (by decide +kernel) ⟨(Nat.le_of_ble_eq_true rfl), (Nat.le_of_ble_eq_true rfl)⟩) (w_pr2 hE hEs hNx hS hW) rfl rfl hl.1 rfl (lv_room (Nat.le_of_ble_eq_true rfl)) dL_law_650 ⟨by show _ ≤ 634029; omega, by show _ ≤ 7194018; omega⟩) hS hW fun v1 H1 lo1 hp1 hz1 hq1 hS => ?_
  obtain ⟨rfl, hX1, fo1, hJ1, hf1⟩ := hp1
  have hcd := cd_r (((0 : Int) ≤ i ∧ i < (sn σ : Int))) ((0 ≤ a ∧ a ≤ 100000)) (True)
  have hM1 := hM.kept (fun k h1 h2 => hq1 _ (hM.lt k h1 h2) (fun h => h.elim (fun h => hdis _ h (hAM k h1 h2)) (fun h => hmo (h ▸ hAM k h1 h2))))
  obtain ⟨fs8, hOm⟩ := hM1.ob
  have hA1 : ∀ q, H1.size ≤ q → AX q := fun q hq => hA q (by omega)
  refine w_istore X [(5, .int (wI (cd (((0 : Int) ≤ i ∧ i < (sn σ : Int))) ((0 ≤ a ∧ a ≤ 100000)) (True)))), (4, .int (wI ((t : Int)))), (3, .ref out), (2, .ref (M 0)), (1, .ref x), (0, .ref B0)] dL_law_653 hl (by decide) rfl fun ls hl => ?_
  refine w_aload_n X dL_law_655 hl 3 rfl rfl ?_
  refine w_aload_n X dL_law_656 hl 5 rfl rfl ?_
  refine w_iload X dL_law_657 hl 1 rfl ?_
  refine w_iconst X dL_law_659 ?_
  refine w_iadd X dL_law_660 fun z_3 ez_3 => ?_
  refine w_sld (y := i) X hXs hbl hbA hS hL (t + 1) (by omega) (by omega) e1 dL_law_661 ?_
  refine w_aload_n X dL_law_662 hl 5 rfl rfl ?_
  refine w_iload X dL_law_663 hl 1 rfl ?_
  refine w_iconst X dL_law_665 ?_
  refine w_iadd X dL_law_666 fun z_4 ez_4 => ?_
  refine w_sld (y := a) X hXs hbl hbA hS hL (t + 2) (by omega) (by omega) e2 dL_law_667 ?_
  refine w_ir (va_runV (As := [.int (wI (i)), .int (wI (a))]) (rest := []) X (c_X4_setPay l g AM H1 M hAM hMj th σ hM1 hσ i a hi ha) (cwV 2 X.2.2.2.2 gL_law_X4_setPay rfl rfl rfl (by decide +kernel) ⟨(Nat.le_of_ble_eq_true rfl), (Nat.le_of_ble_eq_true rfl)⟩) (w_prVN hE hEs hS hsM hOm rfl) rfl rfl hl.1 rfl (lv_room (Nat.le_of_ble_eq_true rfl)) dL_law_668 ⟨by show _ ≤ 634029; omega, by show _ ≤ 7194018; omega⟩) hS hsM fun v2 H2 lo2 hp2 hz2 hq2 hS => ?_
  obtain ⟨rfl, hM2⟩ := hp2
  obtain ⟨fs7, hOm2⟩ := hM2.ob
  have hX2 := hX1.kept (fun q h1 h2 => hq2 q h2 (hdis q h1))
  have hJ2 := hJ1.kept (hq2 _ hJ1.lt hmo)
  have hA2 : ∀ q, H2.size ≤ q → AX q := fun q hq => hA1 q (by omega)
  refine w_istore X [(6, .int (wI (stv (((0 : Int) ≤ i ∧ i < (sn σ : Int))) ((0 ≤ a ∧ a ≤ 100000)) (True) (sp σ i.toNat 2)))), (5, .int (wI (cd (((0 : Int) ≤ i ∧ i < (sn σ : Int))) ((0 ≤ a ∧ a ≤ 100000)) (True)))), (4, .int (wI ((t : Int)))), (3, .ref out), (2, .ref (M 0)), (1, .ref x), (0, .ref B0)] dL_law_671 hl (by decide) rfl fun ls hl => ?_
  refine w_aload_n X dL_law_673 hl 4 rfl rfl ?_
  refine w_callV (v := .int (wI (cd (((0 : Int) ≤ i ∧ i < (sn σ : Int))) ((0 ≤ a ∧ a ≤ 100000)) (True)))) 0 X hE (c_X4_thrown l g H2 M (cd (((0 : Int) ≤ i ∧ i < (sn σ : Int))) ((0 ≤ a ∧ a ≤ 100000)) (True)) (stp (((0 : Int) ≤ i ∧ i < (sn σ : Int))) ((0 ≤ a ∧ a ≤ 100000)) (True) (nxPers σ i.toNat (payS (sp σ i.toNat) a)) σ) hM2) hOm2 hl dL_law_674 gL_law_X4_thrown rfl rfl (by decide +kernel) ⟨(Nat.le_of_ble_eq_true rfl), (Nat.le_of_ble_eq_true rfl)⟩ rfl rfl (Nat.le_of_ble_eq_true rfl) ⟨by show _ ≤ 634029; omega, by show _ ≤ 7194018; omega⟩ ?_
  refine w_iload X dL_law_677 hl 1 rfl ?_
  refine w_icmp_eq X 684 dL_law_679 (by decide) (by omega) (by omega) (fun c_5 => ?_) (fun c_5 => ?_)
  · skip
    refine w_iload X dL_law_684 hl 1 rfl ?_
    refine w_if_ne X 701 dL_law_686 (by decide) (by omega) (fun c_6 => ?_) (fun c_6 => ?_)
    · skip
      refine w_goto X 1486 dL_law_701 (by decide) ?_
      refine W.widen (k := cells + 6) (n := slots + 39) (by omega) (by omega) ?_
      exact hk (stp (((0 : Int) ≤ i ∧ i < (sn σ : Int))) ((0 ≤ a ∧ a ≤ 100000)) (True) (nxPers σ i.toNat (payS (sp σ i.toNat) a)) σ) (cd (((0 : Int) ≤ i ∧ i < (sn σ : Int))) ((0 ≤ a ∧ a ≤ 100000)) (True)) fo1 H2 lo2 ⟨stp_good (fun q1 q2 _ => hσ.pers (by omega) ⟨(by omega : 0 ≤ a ∧ a ≤ 100000), (hσ.2.2.1 i.toNat (by omega)).1.2⟩ rfl rfl) hσ, hX2, hM2, hJ2, hS, hA2⟩ ls (lv_sub hl [2, 3, 4, 5, 6] rfl)
    · skip
      refine w_aload_n X dL_law_689 hl 3 rfl rfl ?_
      refine w_iconst X dL_law_690 ?_
      refine w_lald0 X hE hJ2 dL_law_691 ?_
      rw [hf1 (by omega)]
      refine w_iload X dL_law_692 hl 0 rfl ?_
      refine lv_i2l (v := (wI (stv (((0 : Int) ≤ i ∧ i < (sn σ : Int))) ((0 ≤ a ∧ a ≤ 100000)) (True) (sp σ i.toNat 2))).toInt64) X.1 X.2.1 dL_law_694 rfl ?_
      refine w_lcmpEq X dL_law_695 ?_
      refine w_if_eq X 701 dL_law_696 (by decide) (by omega) (fun c_7 => ?_) (fun c_7 => ?_)
      · skip
        refine w_goto X 1486 dL_law_701 (by decide) ?_
        refine W.widen (k := cells + 6) (n := slots + 39) (by omega) (by omega) ?_
        exact hk (stp (((0 : Int) ≤ i ∧ i < (sn σ : Int))) ((0 ≤ a ∧ a ≤ 100000)) (True) (nxPers σ i.toNat (payS (sp σ i.toNat) a)) σ) (cd (((0 : Int) ≤ i ∧ i < (sn σ : Int))) ((0 ≤ a ∧ a ≤ 100000)) (True)) fo1 H2 lo2 ⟨stp_good (fun q1 q2 _ => hσ.pers (by omega) ⟨(by omega : 0 ≤ a ∧ a ≤ 100000), (hσ.2.2.1 i.toNat (by omega)).1.2⟩ rfl rfl) hσ, hX2, hM2, hJ2, hS, hA2⟩ ls (lv_sub hl [2, 3, 4, 5, 6] rfl)
      · skip
        exact absurd c_7 (by omega)
  · skip
    exact absurd c_5 (by omega)

set_option maxHeartbeats 4000000 in
set_option maxRecDepth 100000 in
theorem law_setHousing {p : Program} {l : Launch} {e : Env} {s : State} {m : MethodId} {below : List Frame} {meth : Method} {c : Code} {B0 L : Nat} {xs : Nat → Int32} {g : wG} {x out : Nat} {M : Nat → Nat} {AX AM : Nat → Prop} {H : Heap} {locs : List Loc} {cells slots : Nat} {Q : State → Prop} {σ : St} {th : Int} {fo : Nat → Int64} (E : LE p l s m c B0 L xs g out M AX AM) (I : LI s g x out M AX σ th fo H locs) (hroom : cells + 6 ≤ 634029 ∧ slots + 39 ≤ 7194018) (t : Nat) (ht : t + 4 < L) (ls : Array Slot) (hl : lv_has ls 7 [(4, .int (wI ((t : Int)))), (3, .ref out), (2, .ref (M 0)), (1, .ref x), (0, .ref B0)])
    (hk : ∀ (σ1 : St) (th1 : Int) (fo1 : Nat → Int64) (H1 : Heap) (locs1 : List Loc), LI s g x out M AX σ1 th1 fo1 H1 locs1 → ∀ ls : Array Slot, lv_has ls 7 [(4, .int (wI ((t : Int)))), (3, .ref out), (2, .ref (M 0)), (1, .ref x), (0, .ref B0)] → W p l e room_1 s m #[Value.ref B0] below meth c H1 locs1 (cells + 6) (slots + 39) Q (F0 m 1486 ls [])) : W p l e room_1 s m #[Value.ref B0] below meth c H locs cells slots Q (F0 m 704 ls []) := by
  obtain ⟨X, ⟨hE, hEs, hNx⟩, ⟨hXs, hbl, hl9, hL⟩, ⟨hsX, hsM, hso⟩, ⟨hdis, hno, hmo⟩, hAM, hMj⟩ := E
  obtain ⟨hσ, hXv, hM, hJ, hS, hA⟩ := I
  obtain ⟨hr1, hr2⟩ := hroom
  have hbA : ¬ ALs s B0 := Nat.not_le.mpr hbl
  have hW : ∀ q, AW AX out q → ALs s q := fun q h => h.elim (fun h => hsX q h) (fun h => h ▸ hso)
  have hGd := hE.dis
  obtain ⟨i, e1, hi⟩ : ∃ z : Int, xs (t + 1) = wI z ∧ wR z := ⟨_, (wI_ofInt _).symm, wR_toInt _⟩
  obtain ⟨a, e2, ha⟩ : ∃ z : Int, xs (t + 2) = wI z ∧ wR z := ⟨_, (wI_ofInt _).symm, wR_toInt _⟩
  obtain ⟨b, e3, hb⟩ : ∃ z : Int, xs (t + 3) = wI z ∧ wR z := ⟨_, (wI_ofInt _).symm, wR_toInt _⟩
  refine w_aload_n X dL_law_704 hl 3 rfl rfl ?_
  refine w_aload_n X dL_law_705 hl 4 rfl rfl ?_
  refine w_iload X dL_law_706 hl 0 rfl ?_
  refine w_iconst X dL_law_708 ?_
  refine w_iadd X dL_law_709 fun z_1 ez_1 => ?_
  refine w_sld (y := i) X hXs hbl hbA hS hL (t + 1) (by omega) (by omega) e1 dL_law_710 ?_
  refine w_aload_n X dL_law_711 hl 4 rfl rfl ?_
  refine w_iload X dL_law_712 hl 0 rfl ?_
  refine w_iconst X dL_law_714 ?_
  refine w_iadd X dL_law_715 fun z_2 ez_2 => ?_
  refine w_sld (y := a) X hXs hbl hbA hS hL (t + 2) (by omega) (by omega) e2 dL_law_716 ?_
  refine w_aload_n X dL_law_717 hl 4 rfl rfl ?_
  refine w_iload X dL_law_718 hl 0 rfl ?_
  refine w_iconst X dL_law_720 ?_
  refine w_iadd X dL_law_721 fun z_3 ez_3 => ?_
  refine w_sld (y := b) X hXs hbl hbA hS hL (t + 3) (by omega) (by omega) e3 dL_law_722 ?_
  refine w_aload_n X dL_law_723 hl 1 rfl rfl ?_
  refine w_ir (vx_runSW (As := [.ref x, .int (wI (i)), .int (wI (a)), .int (wI (b)), .ref out]) (rest := []) X (c_L_setHousing l hl9 g H AX out hno x σ hσ hXv fo hJ i a b hi ha hb) (vx_cwSW 5 X.2.2.2.2 gL_law_L_setHousing rfl rfl rfl (by decide +kernel) ⟨(Nat.le_of_ble_eq_true rfl), (Nat.le_of_ble_eq_true rfl)⟩) (w_pr2 hE hEs hNx hS hW) rfl rfl hl.1 rfl (lv_room (Nat.le_of_ble_eq_true rfl)) dL_law_724 ⟨by show _ ≤ 634029; omega, by show _ ≤ 7194018; omega⟩) hS hW fun v1 H1 lo1 hp1 hz1 hq1 hS => ?_
  obtain ⟨rfl, hX1, fo1, hJ1, hf1⟩ := hp1
  have hcd := cd_r (((0 : Int) ≤ i ∧ i < (sn σ : Int))) (((0 ≤ a ∧ a ≤ 50000) ∧ 0 ≤ b ∧ b ≤ 40)) (True)
  have hM1 := hM.kept (fun k h1 h2 => hq1 _ (hM.lt k h1 h2) (fun h => h.elim (fun h => hdis _ h (hAM k h1 h2)) (fun h => hmo (h ▸ hAM k h1 h2))))
  obtain ⟨fs8, hOm⟩ := hM1.ob
  have hA1 : ∀ q, H1.size ≤ q → AX q := fun q hq => hA q (by omega)
  refine w_istore X [(5, .int (wI (cd (((0 : Int) ≤ i ∧ i < (sn σ : Int))) (((0 ≤ a ∧ a ≤ 50000) ∧ 0 ≤ b ∧ b ≤ 40)) (True)))), (4, .int (wI ((t : Int)))), (3, .ref out), (2, .ref (M 0)), (1, .ref x), (0, .ref B0)] dL_law_727 hl (by decide) rfl fun ls hl => ?_
  refine w_aload_n X dL_law_729 hl 3 rfl rfl ?_
  refine w_aload_n X dL_law_730 hl 5 rfl rfl ?_
  refine w_iload X dL_law_731 hl 1 rfl ?_
  refine w_iconst X dL_law_733 ?_
  refine w_iadd X dL_law_734 fun z_4 ez_4 => ?_
  refine w_sld (y := i) X hXs hbl hbA hS hL (t + 1) (by omega) (by omega) e1 dL_law_735 ?_
  refine w_aload_n X dL_law_736 hl 5 rfl rfl ?_
  refine w_iload X dL_law_737 hl 1 rfl ?_
  refine w_iconst X dL_law_739 ?_
  refine w_iadd X dL_law_740 fun z_5 ez_5 => ?_
  refine w_sld (y := a) X hXs hbl hbA hS hL (t + 2) (by omega) (by omega) e2 dL_law_741 ?_
  refine w_aload_n X dL_law_742 hl 5 rfl rfl ?_
  refine w_iload X dL_law_743 hl 1 rfl ?_
  refine w_iconst X dL_law_745 ?_
  refine w_iadd X dL_law_746 fun z_6 ez_6 => ?_
  refine w_sld (y := b) X hXs hbl hbA hS hL (t + 3) (by omega) (by omega) e3 dL_law_747 ?_
  refine w_ir (va_runV (As := [.int (wI (i)), .int (wI (a)), .int (wI (b))]) (rest := []) X (c_X4_setHousing l g AM H1 M hAM hMj th σ hM1 hσ i a b hi ha hb) (cwV 3 X.2.2.2.2 gL_law_X4_setHousing rfl rfl rfl (by decide +kernel) ⟨(Nat.le_of_ble_eq_true rfl), (Nat.le_of_ble_eq_true rfl)⟩) (w_prVN hE hEs hS hsM hOm rfl) rfl rfl hl.1 rfl (lv_room (Nat.le_of_ble_eq_true rfl)) dL_law_748 ⟨by show _ ≤ 634029; omega, by show _ ≤ 7194018; omega⟩) hS hsM fun v2 H2 lo2 hp2 hz2 hq2 hS => ?_
  obtain ⟨rfl, hM2⟩ := hp2
  obtain ⟨fs7, hOm2⟩ := hM2.ob
  have hX2 := hX1.kept (fun q h1 h2 => hq2 q h2 (hdis q h1))
  have hJ2 := hJ1.kept (hq2 _ hJ1.lt hmo)
  have hA2 : ∀ q, H2.size ≤ q → AX q := fun q hq => hA1 q (by omega)
  refine w_istore X [(6, .int (wI (stv (((0 : Int) ≤ i ∧ i < (sn σ : Int))) (((0 ≤ a ∧ a ≤ 50000) ∧ 0 ≤ b ∧ b ≤ 40)) (True) (ownS (renS (sp σ i.toNat) a b))))), (5, .int (wI (cd (((0 : Int) ≤ i ∧ i < (sn σ : Int))) (((0 ≤ a ∧ a ≤ 50000) ∧ 0 ≤ b ∧ b ≤ 40)) (True)))), (4, .int (wI ((t : Int)))), (3, .ref out), (2, .ref (M 0)), (1, .ref x), (0, .ref B0)] dL_law_751 hl (by decide) rfl fun ls hl => ?_
  refine w_aload_n X dL_law_753 hl 4 rfl rfl ?_
  refine w_callV (v := .int (wI (cd (((0 : Int) ≤ i ∧ i < (sn σ : Int))) (((0 ≤ a ∧ a ≤ 50000) ∧ 0 ≤ b ∧ b ≤ 40)) (True)))) 0 X hE (c_X4_thrown l g H2 M (cd (((0 : Int) ≤ i ∧ i < (sn σ : Int))) (((0 ≤ a ∧ a ≤ 50000) ∧ 0 ≤ b ∧ b ≤ 40)) (True)) (stp (((0 : Int) ≤ i ∧ i < (sn σ : Int))) (((0 ≤ a ∧ a ≤ 50000) ∧ 0 ≤ b ∧ b ≤ 40)) (True) (nxPers σ i.toNat (renS (sp σ i.toNat) a b)) σ) hM2) hOm2 hl dL_law_754 gL_law_X4_thrown rfl rfl (by decide +kernel) ⟨(Nat.le_of_ble_eq_true rfl), (Nat.le_of_ble_eq_true rfl)⟩ rfl rfl (Nat.le_of_ble_eq_true rfl) ⟨by show _ ≤ 634029; omega, by show _ ≤ 7194018; omega⟩ ?_
  refine w_iload X dL_law_757 hl 1 rfl ?_
  refine w_icmp_eq X 764 dL_law_759 (by decide) (by omega) (by omega) (fun c_7 => ?_) (fun c_7 => ?_)
  · skip
    refine w_iload X dL_law_764 hl 1 rfl ?_
    refine w_if_ne X 781 dL_law_766 (by decide) (by omega) (fun c_8 => ?_) (fun c_8 => ?_)
    · skip
      refine w_goto X 1486 dL_law_781 (by decide) ?_
      refine W.widen (k := cells + 6) (n := slots + 39) (by omega) (by omega) ?_
      exact hk (stp (((0 : Int) ≤ i ∧ i < (sn σ : Int))) (((0 ≤ a ∧ a ≤ 50000) ∧ 0 ≤ b ∧ b ≤ 40)) (True) (nxPers σ i.toNat (renS (sp σ i.toNat) a b)) σ) (cd (((0 : Int) ≤ i ∧ i < (sn σ : Int))) (((0 ≤ a ∧ a ≤ 50000) ∧ 0 ≤ b ∧ b ≤ 40)) (True)) fo1 H2 lo2 ⟨stp_good (fun q1 q2 _ => hσ.pers (by omega) ⟨(hσ.2.2.1 i.toNat (by omega)).1.1, (hσ.2.2.1 i.toNat (by omega)).1.2.1, (by omega : 0 ≤ a ∧ a ≤ 50000), (by omega : 0 ≤ b ∧ b ≤ 40), (hσ.2.2.1 i.toNat (by omega)).1.2.2.2.2⟩ rfl rfl) hσ, hX2, hM2, hJ2, hS, hA2⟩ ls (lv_sub hl [2, 3, 4, 5, 6] rfl)
    · skip
      refine w_aload_n X dL_law_769 hl 3 rfl rfl ?_
      refine w_iconst X dL_law_770 ?_
      refine w_lald0 X hE hJ2 dL_law_771 ?_
      rw [hf1 (by omega)]
      refine w_iload X dL_law_772 hl 0 rfl ?_
      refine lv_i2l (v := (wI (stv (((0 : Int) ≤ i ∧ i < (sn σ : Int))) (((0 ≤ a ∧ a ≤ 50000) ∧ 0 ≤ b ∧ b ≤ 40)) (True) (ownS (renS (sp σ i.toNat) a b)))).toInt64) X.1 X.2.1 dL_law_774 rfl ?_
      refine w_lcmpEq X dL_law_775 ?_
      refine w_if_eq X 781 dL_law_776 (by decide) (by omega) (fun c_9 => ?_) (fun c_9 => ?_)
      · skip
        refine w_goto X 1486 dL_law_781 (by decide) ?_
        refine W.widen (k := cells + 6) (n := slots + 39) (by omega) (by omega) ?_
        exact hk (stp (((0 : Int) ≤ i ∧ i < (sn σ : Int))) (((0 ≤ a ∧ a ≤ 50000) ∧ 0 ≤ b ∧ b ≤ 40)) (True) (nxPers σ i.toNat (renS (sp σ i.toNat) a b)) σ) (cd (((0 : Int) ≤ i ∧ i < (sn σ : Int))) (((0 ≤ a ∧ a ≤ 50000) ∧ 0 ≤ b ∧ b ≤ 40)) (True)) fo1 H2 lo2 ⟨stp_good (fun q1 q2 _ => hσ.pers (by omega) ⟨(hσ.2.2.1 i.toNat (by omega)).1.1, (hσ.2.2.1 i.toNat (by omega)).1.2.1, (by omega : 0 ≤ a ∧ a ≤ 50000), (by omega : 0 ≤ b ∧ b ≤ 40), (hσ.2.2.1 i.toNat (by omega)).1.2.2.2.2⟩ rfl rfl) hσ, hX2, hM2, hJ2, hS, hA2⟩ ls (lv_sub hl [2, 3, 4, 5, 6] rfl)
      · skip
        exact absurd c_9 (by omega)
  · skip
    exact absurd c_7 (by omega)
