/-! the law: what it does with a person; the dearest -/

set_option maxHeartbeats 4000000 in
set_option maxRecDepth 100000 in
theorem c_L_person (l : Launch) (hl9 : l.stackTraces = false) (g : wG) (AX : Nat → Prop) (H : Heap) (hAn : ∀ q, H.size ≤ q → AX q) (x : Nat) (σ : St) (hσ : StGood σ) (hXv : XInv g AX x σ H) (act : Int) (hact : 0 ≤ act ∧ act ≤ 3) (k : Int) (hk9 : 0 ≤ k ∧ k < (sn σ : Int)) (z : Int32) (hs3 : sn σ ≤ 3) (ap : Nat) (fp : Nat → Int32) (hAp : IA g H ap 24 fp) (hPA : PA σ fp) (hnp : ¬ AX ap) (ab : Nat) (fb : Nat → Int32) (hAb : IA g H ab 54 fb) (hBA : BA σ fb) (hnb : ¬ AX ab) (hne : ap ≠ ab) : WrpR l g (AW2 AX ap ab) H yL_person wsL_person 9 164 6 37 [.ref x, .int (wI (act)), .int (wI (k)), .int (z), .ref ap, .ref ab] (fun w H1 => w = .int (wI 1) ∧ ∃ (σ9 : St) (fp9 fb9 : Nat → Int32), σ9.1 = σ.1 ∧ sn σ9 = sn σ ∧ StGood σ9 ∧ XInv g AX x σ9 H1 ∧ IA g H1 ap 24 fp9 ∧ PA σ9 fp9 ∧ IA g H1 ab 54 fb9 ∧ BA σ9 fb9) := by
  refine Imp2.of (cc := cL_person) (maxL := 11) (ret := (some .boolean)) (by decide) rfl (Nat.le_of_ble_eq_true rfl) ?_
  intro p e s m args below meth c X hE hEs hNx hr hk hS ls hl
  have hl : lv_has ls 11 [(0, .ref x), (1, .int (wI (act))), (2, .int (wI (k))), (3, .int (z)), (4, .ref ap), (5, .ref ab)] := hl
  obtain ⟨hAx, fs9, hxO⟩ := hXv.ob
  have hN : ∀ q, AX q → AW2 AX ap ab q := fun _ h => Or.inl h
  have hg := (hσ.2.2.1 (k).toNat (by omega)).1
  have hb6 := sb_le6 hσ (k).toNat
  obtain ⟨p1, ⟨p2, p3, p4⟩, p5, p6, -⟩ := id hg
  have fm : monS (sp σ (k).toNat) = sp σ (k).toNat 4 - sp σ (k).toNat 3 := rfl
  refine w_bipush X dL_person_0 (by decide) ?_
  refine w_iload_n X dL_person_2 hl 2 rfl rfl ?_
  refine w_imul X dL_person_3 fun z_1 ez_1 => ?_
  refine w_istore X [(6, .int (wI (z_1))), (0, .ref x), (1, .int (wI (act))), (2, .int (wI (k))), (3, .int (z)), (4, .ref ap), (5, .ref ab)] dL_person_4 hl (by decide) rfl fun ls hl => ?_
  refine w_iload_n X dL_person_6 hl 2 rfl rfl ?_
  refine w_if_ne X 101 dL_person_7 (by decide) (by omega) (fun c_2 => ?_) (fun c_2 => ?_)
  · skip
    refine w_iload_n X dL_person_101 hl 2 rfl rfl ?_
    refine w_iconst X dL_person_102 ?_
    refine w_icmp_ne X 168 dL_person_103 (by decide) (by omega) (by omega) (fun c_3 => ?_) (fun c_3 => ?_)
    · skip
      refine w_iload_n X dL_person_168 hl 2 rfl rfl ?_
      refine w_iconst X dL_person_169 ?_
      refine w_icmp_ne X 254 dL_person_170 (by decide) (by omega) (by omega) (fun c_4 => ?_) (fun c_4 => ?_)
      · skip
        refine w_iconst X dL_person_254 ?_
        refine w_iload_n X dL_person_255 hl 4 rfl rfl ?_
        refine w_iload_n X dL_person_256 hl 4 rfl rfl ?_
        refine w_bipush X dL_person_257 (by decide) ?_
        refine w_ishr X dL_person_259 fun v_5 => ?_
        refine w_iconst X dL_person_260 ?_
        refine w_low X hE (by omega) hl dL_person_261 gL_person_L_low ⟨(Nat.le_of_ble_eq_true rfl), (Nat.le_of_ble_eq_true rfl)⟩ (Nat.le_of_ble_eq_true rfl) ⟨(Nat.le_of_ble_eq_true rfl), (Nat.le_of_ble_eq_true rfl)⟩ fun y_6 hy_6a hy_6b => ?_
        refine w_if_ne X 272 dL_person_264 (by decide) (by omega) (fun c_7 => ?_) (fun c_7 => ?_)
        · skip
          refine w_sipush X dL_person_272 (by decide) ?_
          refine w_low X hE (by omega) hl dL_person_275 gL_person_L_low ⟨(Nat.le_of_ble_eq_true rfl), (Nat.le_of_ble_eq_true rfl)⟩ (Nat.le_of_ble_eq_true rfl) ⟨(Nat.le_of_ble_eq_true rfl), (Nat.le_of_ble_eq_true rfl)⟩ fun y_8 hy_8a hy_8b => ?_
          refine w_iadd X dL_person_278 fun z_9 ez_9 => ?_
          refine w_istore X [(7, .int (wI (z_9))), (6, .int (wI (z_1))), (0, .ref x), (1, .int (wI (act))), (2, .int (wI (k))), (3, .int (z)), (4, .ref ap), (5, .ref ab)] dL_person_279 hl (by decide) rfl fun ls hl => ?_
          refine w_iload_n X dL_person_281 hl 5 rfl rfl ?_
          refine w_iconst X dL_person_282 ?_
          refine w_ishr X dL_person_283 fun v_10 => ?_
          refine w_bipush X dL_person_284 (by decide) ?_
          refine w_low X hE (by omega) hl dL_person_286 gL_person_L_low ⟨(Nat.le_of_ble_eq_true rfl), (Nat.le_of_ble_eq_true rfl)⟩ (Nat.le_of_ble_eq_true rfl) ⟨(Nat.le_of_ble_eq_true rfl), (Nat.le_of_ble_eq_true rfl)⟩ fun y_11 hy_11a hy_11b => ?_
          refine w_istore X [(8, .int (wI (y_11))), (7, .int (wI (z_9))), (6, .int (wI (z_1))), (0, .ref x), (1, .int (wI (act))), (2, .int (wI (k))), (3, .int (z)), (4, .ref ap), (5, .ref ab)] dL_person_289 hl (by decide) rfl fun ls hl => ?_
          refine w_iload X dL_person_291 hl 0 rfl ?_
          refine w_iconst X dL_person_293 ?_
          refine w_iadd X dL_person_294 fun z_12 ez_12 => ?_
          refine w_iload_n X dL_person_295 hl 6 rfl rfl ?_
          refine w_bipush X dL_person_296 (by decide) ?_
          refine w_ishr X dL_person_298 fun v_13 => ?_
          refine w_bipush X dL_person_299 (by decide) ?_
          refine w_iload X dL_person_301 hl 0 rfl ?_
          refine w_isub X dL_person_303 fun z_14 ez_14 => ?_
          refine w_low X hE (by omega) hl dL_person_304 gL_person_L_low ⟨(Nat.le_of_ble_eq_true rfl), (Nat.le_of_ble_eq_true rfl)⟩ (Nat.le_of_ble_eq_true rfl) ⟨(Nat.le_of_ble_eq_true rfl), (Nat.le_of_ble_eq_true rfl)⟩ fun y_15 hy_15a hy_15b => ?_
          refine w_iadd X dL_person_307 fun z_16 ez_16 => ?_
          refine w_istore X [(9, .int (wI (z_16))), (8, .int (wI (y_11))), (7, .int (wI (z_9))), (6, .int (wI (z_1))), (0, .ref x), (1, .int (wI (act))), (2, .int (wI (k))), (3, .int (z)), (4, .ref ap), (5, .ref ab)] dL_person_308 hl (by decide) rfl fun ls hl => ?_
          refine w_aload X dL_person_310 hl 8 rfl ?_
          refine w_iload X dL_person_312 hl 3 rfl ?_
          refine w_bipush X dL_person_314 (by decide) ?_
          refine w_iadd X dL_person_316 fun z_17 ez_17 => ?_
          refine w_iald (y := wI ((sb σ (k).toNat : Int))) X hE hAp dL_person_317 (by omega) (by omega) (by omega) (by rw [show (z_17).toNat = 8 * (k).toNat + 7 by omega]; exact (hPA _ (by omega)).2) ?_
          refine w_bipush X dL_person_318 (by decide) ?_
          refine w_icmp_ne X 328 dL_person_320 (by decide) (by omega) (by omega) (fun c_18 => ?_) (fun c_18 => ?_)
          · skip
            refine w_aload X dL_person_328 hl 8 rfl ?_
            refine w_iload X dL_person_330 hl 3 rfl ?_
            refine w_bipush X dL_person_332 (by decide) ?_
            refine w_iadd X dL_person_334 fun z_19 ez_19 => ?_
            refine w_iald (y := wI ((sb σ (k).toNat : Int))) X hE hAp dL_person_335 (by omega) (by omega) (by omega) (by rw [show (z_19).toNat = 8 * (k).toNat + 7 by omega]; exact (hPA _ (by omega)).2) ?_
            refine w_istore X [(10, .int (wI ((sb σ (k).toNat : Int)))), (9, .int (wI (z_16))), (8, .int (wI (y_11))), (7, .int (wI (z_9))), (6, .int (wI (z_1))), (0, .ref x), (1, .int (wI (act))), (2, .int (wI (k))), (3, .int (z)), (4, .ref ap), (5, .ref ab)] dL_person_336 hl (by decide) rfl fun ls hl => ?_
            refine w_iload X dL_person_338 hl 0 rfl ?_
            refine w_if_lt X 401 dL_person_340 (by decide) (by omega) (fun c_20 => ?_) (fun c_20 => ?_)
            · skip
              exact absurd c_20 (by omega)
            · skip
              refine w_aload X dL_person_343 hl 10 rfl ?_
              refine w_bipush X dL_person_345 (by decide) ?_
              refine w_iload_n X dL_person_347 hl 7 rfl rfl ?_
              refine w_imul X dL_person_348 fun z_21 ez_21 => ?_
              refine w_iconst X dL_person_349 ?_
              refine w_iload X dL_person_350 hl 0 rfl ?_
              refine w_imul X dL_person_352 fun z_22 ez_22 => ?_
              refine w_iadd X dL_person_353 fun z_23 ez_23 => ?_
              refine w_iload X dL_person_354 hl 3 rfl ?_
              refine w_iast X hE hAb hS (Or.inr (Or.inr rfl)) dL_person_356 (by omega) (by omega) (by omega) fun H_24 lo_25 hAb hz_26 hq_27 hS => ?_
              have hAp := hAp.kept (hq_27 _ hne)
              have hXv := hXv.kept (fun q h1 h2 => hq_27 q (fun e => hnb (e ▸ h1)))
              obtain ⟨hAx, fs9, hxO⟩ := hXv.ob
              have hAn : ∀ q, H_24.size ≤ q → AX q := fun q h => hAn q (by omega)
              refine w_aload X dL_person_357 hl 10 rfl ?_
              refine w_bipush X dL_person_359 (by decide) ?_
              refine w_iload_n X dL_person_361 hl 7 rfl rfl ?_
              refine w_imul X dL_person_362 fun z_28 ez_28 => ?_
              refine w_iconst X dL_person_363 ?_
              refine w_iload X dL_person_364 hl 0 rfl ?_
              refine w_imul X dL_person_366 fun z_29 ez_29 => ?_
              refine w_iadd X dL_person_367 fun z_30 ez_30 => ?_
              refine w_iconst X dL_person_368 ?_
              refine w_iadd X dL_person_369 fun z_31 ez_31 => ?_
              refine w_iload X dL_person_370 hl 2 rfl ?_
              refine w_iast X hE hAb hS (Or.inr (Or.inr rfl)) dL_person_372 (by omega) (by omega) (by omega) fun H_32 lo_33 hAb hz_34 hq_35 hS => ?_
              have hAp := hAp.kept (hq_35 _ hne)
              have hXv := hXv.kept (fun q h1 h2 => hq_35 q (fun e => hnb (e ▸ h1)))
              obtain ⟨hAx, fs9, hxO⟩ := hXv.ob
              have hAn : ∀ q, H_32.size ≤ q → AX q := fun q h => hAn q (by omega)
              refine w_aload X dL_person_373 hl 10 rfl ?_
              refine w_bipush X dL_person_375 (by decide) ?_
              refine w_iload_n X dL_person_377 hl 7 rfl rfl ?_
              refine w_imul X dL_person_378 fun z_36 ez_36 => ?_
              refine w_iconst X dL_person_379 ?_
              refine w_iload X dL_person_380 hl 0 rfl ?_
              refine w_imul X dL_person_382 fun z_37 ez_37 => ?_
              refine w_iadd X dL_person_383 fun z_38 ez_38 => ?_
              refine w_iconst X dL_person_384 ?_
              refine w_iadd X dL_person_385 fun z_39 ez_39 => ?_
              refine w_iload X dL_person_386 hl 1 rfl ?_
              refine w_iast X hE hAb hS (Or.inr (Or.inr rfl)) dL_person_388 (by omega) (by omega) (by omega) fun H_40 lo_41 hAb hz_42 hq_43 hS => ?_
              have hAp := hAp.kept (hq_43 _ hne)
              have hXv := hXv.kept (fun q h1 h2 => hq_43 q (fun e => hnb (e ▸ h1)))
              obtain ⟨hAx, fs9, hxO⟩ := hXv.ob
              have hAn : ∀ q, H_40.size ≤ q → AX q := fun q h => hAn q (by omega)
              refine w_aload X dL_person_389 hl 9 rfl ?_
              refine w_iload X dL_person_391 hl 4 rfl ?_
              refine w_bipush X dL_person_393 (by decide) ?_
              refine w_iadd X dL_person_395 fun z_44 ez_44 => ?_
              refine lv_dup2_11 X.1 X.2.1 dL_person_396 rfl rfl ?_
              refine w_iald (y := wI ((sb σ (k).toNat : Int))) X hE hAp dL_person_397 (by omega) (by omega) (by omega) (by rw [show (z_44).toNat = 8 * (k).toNat + 7 by omega]; exact (hPA _ (by omega)).2) ?_
              refine w_iconst X dL_person_398 ?_
              refine w_iadd X dL_person_399 fun z_45 ez_45 => ?_
              refine w_iast X hE hAp hS (Or.inr (Or.inl rfl)) dL_person_400 (by omega) (by omega) (by omega) fun H_46 lo_47 hAp hz_48 hq_49 hS => ?_
              have hAb := hAb.kept (hq_49 _ (Ne.symm hne))
              have hXv := hXv.kept (fun q h1 h2 => hq_49 q (fun e => hnp (e ▸ h1)))
              obtain ⟨hAx, fs9, hxO⟩ := hXv.ob
              have hAn : ∀ q, H_46.size ≤ q → AX q := fun q h => hAn q (by omega)
              refine w_aload_n X dL_person_401 hl 5 rfl rfl ?_
              refine w_iload_n X dL_person_402 hl 7 rfl rfl ?_
              refine w_iload X dL_person_403 hl 3 rfl ?_
              refine w_iload X dL_person_405 hl 2 rfl ?_
              refine w_iload X dL_person_407 hl 1 rfl ?_
              refine w_ir (vx_runSW (As := [.ref x, .int (wI (k)), .int (wI (z_9)), .int (wI (y_11)), .int (wI (z_16))]) (rest := []) X (c_L_bonus l hl9 g AX H_46 hAn x σ hσ hXv k hk9 (z_9) (y_11) (z_16) (by omega) (by omega) (by omega)) (vx_cwSW 5 X.2.2.2.2 gL_person_L_bonus rfl rfl rfl (by decide +kernel) ⟨(Nat.le_of_ble_eq_true rfl), (Nat.le_of_ble_eq_true rfl)⟩) (w_pr2 hE hEs hNx hS hN) rfl rfl hl.1 rfl (lv_room (Nat.le_of_ble_eq_true rfl)) dL_person_409 ⟨(Nat.le_of_ble_eq_true rfl), (Nat.le_of_ble_eq_true rfl)⟩) hS hN fun v1 H_50 lo1 hp_51 hz_52 hq_53 hS => ?_
              have hAp := hAp.kept (hq_53 _ hAp.lt hnp)
              have hAb := hAb.kept (hq_53 _ hAb.lt hnb)
              obtain ⟨h6, rfl, hXv⟩ := hp_51.resolve_right (fun q => absurd q.1 (by omega))
              have q1 : (up fp (z_44).toNat (wI (z_45))) (8 * (k).toNat + 7) = wI ((sb σ (k).toNat : Int) + 1) := (va_up_at _ _ (by omega)).trans (by rw [ez_45])
              have q2 : ∀ q, q ≠ 8 * (k).toNat + 7 → (up fp (z_44).toNat (wI (z_45))) q = fp q := fun q hq => (va_up_ne _ _ (by omega))
              have q3 : ∀ j, j < 3 → (up (up (up fb (z_23).toNat (wI (z_9))) (z_31).toNat (wI (y_11))) (z_39).toNat (wI (z_16))) (18 * (k).toNat + 3 * sb σ (k).toNat + j) = wI ((bonS (z_9) (y_11) (z_16)) j) :=
                fun j hj => by
                  rcases (by omega : j = 0 ∨ j = 1 ∨ j = 2) with rfl | rfl | rfl
                  · exact (va_up_ne _ _ (by omega)).trans ((va_up_ne _ _ (by omega)).trans (va_up_at _ _ (by omega)))
                  · exact (va_up_ne _ _ (by omega)).trans (va_up_at _ _ (by omega))
                  · exact va_up_at _ _ (by omega)
              have q4 : ∀ q, (q < 18 * (k).toNat + 3 * sb σ (k).toNat ∨ 18 * (k).toNat + 3 * sb σ (k).toNat + 3 ≤ q) → (up (up (up fb (z_23).toNat (wI (z_9))) (z_31).toNat (wI (y_11))) (z_39).toNat (wI (z_16))) q = fb q := fun q hq => (va_up_ne _ _ (by omega)).trans ((va_up_ne _ _ (by omega)).trans ((va_up_ne _ _ (by omega))))
              have hPA9 : PA (nxBon σ (k).toNat (bonS (z_9) (y_11) (z_16))) _ := hPA.bon q1 q2
              have hBA9 : BA (nxBon σ (k).toNat (bonS (z_9) (y_11) (z_16))) _ := BA.bon hσ hBA h6 q3 q4
              have hσ9 : StGood (nxBon σ (k).toNat (bonS (z_9) (y_11) (z_16))) := hσ.bon (by omega) h6 ⟨(by omega : 1 ≤ z_9 ∧ z_9 ≤ 500000), (by omega : 0 ≤ y_11), (by omega : y_11 < z_16), (by omega : z_16 ≤ 12)⟩
              refine w_iload X dL_person_412 hl 0 rfl ?_
              refine w_icmp_ne X 421 dL_person_414 (by decide) (by omega) (by omega) (fun c_54 => ?_) (fun c_54 => ?_)
              · skip
                exact absurd c_54 (by omega)
              · skip
                refine w_iconst X dL_person_417 ?_
                refine w_goto X 422 dL_person_418 (by decide) ?_
                exact w_zrR X hr hk hS (Or.inr rfl) ⟨rfl, nxBon σ (k).toNat (bonS (z_9) (y_11) (z_16)), _, _, rfl, rfl, hσ9, hXv, hAp, hPA9, hAb, hBA9⟩ dL_person_422 (Nat.le_of_ble_eq_true rfl) (Nat.le_of_ble_eq_true rfl)
          · skip
            refine w_bipush X dL_person_323 (by decide) ?_
            refine w_goto X 336 dL_person_325 (by decide) ?_
            refine w_istore X [(10, .int (wI (-3))), (9, .int (wI (z_16))), (8, .int (wI (y_11))), (7, .int (wI (z_9))), (6, .int (wI (z_1))), (0, .ref x), (1, .int (wI (act))), (2, .int (wI (k))), (3, .int (z)), (4, .ref ap), (5, .ref ab)] dL_person_336 hl (by decide) rfl fun ls hl => ?_
            refine w_iload X dL_person_338 hl 0 rfl ?_
            refine w_if_lt X 401 dL_person_340 (by decide) (by omega) (fun c_55 => ?_) (fun c_55 => ?_)
            · skip
              refine w_aload_n X dL_person_401 hl 5 rfl rfl ?_
              refine w_iload_n X dL_person_402 hl 7 rfl rfl ?_
              refine w_iload X dL_person_403 hl 3 rfl ?_
              refine w_iload X dL_person_405 hl 2 rfl ?_
              refine w_iload X dL_person_407 hl 1 rfl ?_
              refine w_ir (vx_runSW (As := [.ref x, .int (wI (k)), .int (wI (z_9)), .int (wI (y_11)), .int (wI (z_16))]) (rest := []) X (c_L_bonus l hl9 g AX H hAn x σ hσ hXv k hk9 (z_9) (y_11) (z_16) (by omega) (by omega) (by omega)) (vx_cwSW 5 X.2.2.2.2 gL_person_L_bonus rfl rfl rfl (by decide +kernel) ⟨(Nat.le_of_ble_eq_true rfl), (Nat.le_of_ble_eq_true rfl)⟩) (w_pr2 hE hEs hNx hS hN) rfl rfl hl.1 rfl (lv_room (Nat.le_of_ble_eq_true rfl)) dL_person_409 ⟨(Nat.le_of_ble_eq_true rfl), (Nat.le_of_ble_eq_true rfl)⟩) hS hN fun v1 H_56 lo1 hp_57 hz_58 hq_59 hS => ?_
              have hAp := hAp.kept (hq_59 _ hAp.lt hnp)
              have hAb := hAb.kept (hq_59 _ hAb.lt hnb)
              obtain ⟨h6, rfl, hXv⟩ := hp_57.resolve_left (fun q => absurd q.1 (by omega))
              have hPA9 := hPA
              have hσ9 := hσ
              refine w_iload X dL_person_412 hl 0 rfl ?_
              refine w_icmp_ne X 421 dL_person_414 (by decide) (by omega) (by omega) (fun c_60 => ?_) (fun c_60 => ?_)
              · skip
                exact absurd c_60 (by omega)
              · skip
                refine w_iconst X dL_person_417 ?_
                refine w_goto X 422 dL_person_418 (by decide) ?_
                exact w_zrR X hr hk hS (Or.inr rfl) ⟨rfl, σ, _, _, rfl, rfl, hσ9, hXv, hAp, hPA9, hAb, hBA⟩ dL_person_422 (Nat.le_of_ble_eq_true rfl) (Nat.le_of_ble_eq_true rfl)
            · skip
              exact absurd c_55 (by omega)
        · skip
          refine w_ldc (v := 500000) (z := 500000) X dL_person_267 (by decide +kernel) (by decide) ?_
          refine w_goto X 275 dL_person_269 (by decide) ?_
          refine w_low X hE (by omega) hl dL_person_275 gL_person_L_low ⟨(Nat.le_of_ble_eq_true rfl), (Nat.le_of_ble_eq_true rfl)⟩ (Nat.le_of_ble_eq_true rfl) ⟨(Nat.le_of_ble_eq_true rfl), (Nat.le_of_ble_eq_true rfl)⟩ fun y_61 hy_61a hy_61b => ?_
          refine w_iadd X dL_person_278 fun z_62 ez_62 => ?_
          refine w_istore X [(7, .int (wI (z_62))), (6, .int (wI (z_1))), (0, .ref x), (1, .int (wI (act))), (2, .int (wI (k))), (3, .int (z)), (4, .ref ap), (5, .ref ab)] dL_person_279 hl (by decide) rfl fun ls hl => ?_
          refine w_iload_n X dL_person_281 hl 5 rfl rfl ?_
          refine w_iconst X dL_person_282 ?_
          refine w_ishr X dL_person_283 fun v_63 => ?_
          refine w_bipush X dL_person_284 (by decide) ?_
          refine w_low X hE (by omega) hl dL_person_286 gL_person_L_low ⟨(Nat.le_of_ble_eq_true rfl), (Nat.le_of_ble_eq_true rfl)⟩ (Nat.le_of_ble_eq_true rfl) ⟨(Nat.le_of_ble_eq_true rfl), (Nat.le_of_ble_eq_true rfl)⟩ fun y_64 hy_64a hy_64b => ?_
          refine w_istore X [(8, .int (wI (y_64))), (7, .int (wI (z_62))), (6, .int (wI (z_1))), (0, .ref x), (1, .int (wI (act))), (2, .int (wI (k))), (3, .int (z)), (4, .ref ap), (5, .ref ab)] dL_person_289 hl (by decide) rfl fun ls hl => ?_
          refine w_iload X dL_person_291 hl 0 rfl ?_
          refine w_iconst X dL_person_293 ?_
          refine w_iadd X dL_person_294 fun z_65 ez_65 => ?_
          refine w_iload_n X dL_person_295 hl 6 rfl rfl ?_
          refine w_bipush X dL_person_296 (by decide) ?_
          refine w_ishr X dL_person_298 fun v_66 => ?_
          refine w_bipush X dL_person_299 (by decide) ?_
          refine w_iload X dL_person_301 hl 0 rfl ?_
          refine w_isub X dL_person_303 fun z_67 ez_67 => ?_
          refine w_low X hE (by omega) hl dL_person_304 gL_person_L_low ⟨(Nat.le_of_ble_eq_true rfl), (Nat.le_of_ble_eq_true rfl)⟩ (Nat.le_of_ble_eq_true rfl) ⟨(Nat.le_of_ble_eq_true rfl), (Nat.le_of_ble_eq_true rfl)⟩ fun y_68 hy_68a hy_68b => ?_
          refine w_iadd X dL_person_307 fun z_69 ez_69 => ?_
          refine w_istore X [(9, .int (wI (z_69))), (8, .int (wI (y_64))), (7, .int (wI (z_62))), (6, .int (wI (z_1))), (0, .ref x), (1, .int (wI (act))), (2, .int (wI (k))), (3, .int (z)), (4, .ref ap), (5, .ref ab)] dL_person_308 hl (by decide) rfl fun ls hl => ?_
          refine w_aload X dL_person_310 hl 8 rfl ?_
          refine w_iload X dL_person_312 hl 3 rfl ?_
          refine w_bipush X dL_person_314 (by decide) ?_
          refine w_iadd X dL_person_316 fun z_70 ez_70 => ?_
          refine w_iald (y := wI ((sb σ (k).toNat : Int))) X hE hAp dL_person_317 (by omega) (by omega) (by omega) (by rw [show (z_70).toNat = 8 * (k).toNat + 7 by omega]; exact (hPA _ (by omega)).2) ?_
          refine w_bipush X dL_person_318 (by decide) ?_
          refine w_icmp_ne X 328 dL_person_320 (by decide) (by omega) (by omega) (fun c_71 => ?_) (fun c_71 => ?_)
          · skip
            refine w_aload X dL_person_328 hl 8 rfl ?_
            refine w_iload X dL_person_330 hl 3 rfl ?_
            refine w_bipush X dL_person_332 (by decide) ?_
            refine w_iadd X dL_person_334 fun z_72 ez_72 => ?_
            refine w_iald (y := wI ((sb σ (k).toNat : Int))) X hE hAp dL_person_335 (by omega) (by omega) (by omega) (by rw [show (z_72).toNat = 8 * (k).toNat + 7 by omega]; exact (hPA _ (by omega)).2) ?_
            refine w_istore X [(10, .int (wI ((sb σ (k).toNat : Int)))), (9, .int (wI (z_69))), (8, .int (wI (y_64))), (7, .int (wI (z_62))), (6, .int (wI (z_1))), (0, .ref x), (1, .int (wI (act))), (2, .int (wI (k))), (3, .int (z)), (4, .ref ap), (5, .ref ab)] dL_person_336 hl (by decide) rfl fun ls hl => ?_
            refine w_iload X dL_person_338 hl 0 rfl ?_
            refine w_if_lt X 401 dL_person_340 (by decide) (by omega) (fun c_73 => ?_) (fun c_73 => ?_)
            · skip
              exact absurd c_73 (by omega)
            · skip
              refine w_aload X dL_person_343 hl 10 rfl ?_
              refine w_bipush X dL_person_345 (by decide) ?_
              refine w_iload_n X dL_person_347 hl 7 rfl rfl ?_
              refine w_imul X dL_person_348 fun z_74 ez_74 => ?_
              refine w_iconst X dL_person_349 ?_
              refine w_iload X dL_person_350 hl 0 rfl ?_
              refine w_imul X dL_person_352 fun z_75 ez_75 => ?_
              refine w_iadd X dL_person_353 fun z_76 ez_76 => ?_
              refine w_iload X dL_person_354 hl 3 rfl ?_
              refine w_iast X hE hAb hS (Or.inr (Or.inr rfl)) dL_person_356 (by omega) (by omega) (by omega) fun H_77 lo_78 hAb hz_79 hq_80 hS => ?_
              have hAp := hAp.kept (hq_80 _ hne)
              have hXv := hXv.kept (fun q h1 h2 => hq_80 q (fun e => hnb (e ▸ h1)))
              obtain ⟨hAx, fs9, hxO⟩ := hXv.ob
              have hAn : ∀ q, H_77.size ≤ q → AX q := fun q h => hAn q (by omega)
              refine w_aload X dL_person_357 hl 10 rfl ?_
              refine w_bipush X dL_person_359 (by decide) ?_
              refine w_iload_n X dL_person_361 hl 7 rfl rfl ?_
              refine w_imul X dL_person_362 fun z_81 ez_81 => ?_
              refine w_iconst X dL_person_363 ?_
              refine w_iload X dL_person_364 hl 0 rfl ?_
              refine w_imul X dL_person_366 fun z_82 ez_82 => ?_
              refine w_iadd X dL_person_367 fun z_83 ez_83 => ?_
              refine w_iconst X dL_person_368 ?_
              refine w_iadd X dL_person_369 fun z_84 ez_84 => ?_
              refine w_iload X dL_person_370 hl 2 rfl ?_
              refine w_iast X hE hAb hS (Or.inr (Or.inr rfl)) dL_person_372 (by omega) (by omega) (by omega) fun H_85 lo_86 hAb hz_87 hq_88 hS => ?_
              have hAp := hAp.kept (hq_88 _ hne)
              have hXv := hXv.kept (fun q h1 h2 => hq_88 q (fun e => hnb (e ▸ h1)))
              obtain ⟨hAx, fs9, hxO⟩ := hXv.ob
              have hAn : ∀ q, H_85.size ≤ q → AX q := fun q h => hAn q (by omega)
              refine w_aload X dL_person_373 hl 10 rfl ?_
              refine w_bipush X dL_person_375 (by decide) ?_
              refine w_iload_n X dL_person_377 hl 7 rfl rfl ?_
              refine w_imul X dL_person_378 fun z_89 ez_89 => ?_
              refine w_iconst X dL_person_379 ?_
              refine w_iload X dL_person_380 hl 0 rfl ?_
              refine w_imul X dL_person_382 fun z_90 ez_90 => ?_
              refine w_iadd X dL_person_383 fun z_91 ez_91 => ?_
              refine w_iconst X dL_person_384 ?_
              refine w_iadd X dL_person_385 fun z_92 ez_92 => ?_
              refine w_iload X dL_person_386 hl 1 rfl ?_
              refine w_iast X hE hAb hS (Or.inr (Or.inr rfl)) dL_person_388 (by omega) (by omega) (by omega) fun H_93 lo_94 hAb hz_95 hq_96 hS => ?_
              have hAp := hAp.kept (hq_96 _ hne)
              have hXv := hXv.kept (fun q h1 h2 => hq_96 q (fun e => hnb (e ▸ h1)))
              obtain ⟨hAx, fs9, hxO⟩ := hXv.ob
              have hAn : ∀ q, H_93.size ≤ q → AX q := fun q h => hAn q (by omega)
              refine w_aload X dL_person_389 hl 9 rfl ?_
              refine w_iload X dL_person_391 hl 4 rfl ?_
              refine w_bipush X dL_person_393 (by decide) ?_
              refine w_iadd X dL_person_395 fun z_97 ez_97 => ?_
              refine lv_dup2_11 X.1 X.2.1 dL_person_396 rfl rfl ?_
              refine w_iald (y := wI ((sb σ (k).toNat : Int))) X hE hAp dL_person_397 (by omega) (by omega) (by omega) (by rw [show (z_97).toNat = 8 * (k).toNat + 7 by omega]; exact (hPA _ (by omega)).2) ?_
              refine w_iconst X dL_person_398 ?_
              refine w_iadd X dL_person_399 fun z_98 ez_98 => ?_
              refine w_iast X hE hAp hS (Or.inr (Or.inl rfl)) dL_person_400 (by omega) (by omega) (by omega) fun H_99 lo_100 hAp hz_101 hq_102 hS => ?_
              have hAb := hAb.kept (hq_102 _ (Ne.symm hne))
              have hXv := hXv.kept (fun q h1 h2 => hq_102 q (fun e => hnp (e ▸ h1)))
              obtain ⟨hAx, fs9, hxO⟩ := hXv.ob
              have hAn : ∀ q, H_99.size ≤ q → AX q := fun q h => hAn q (by omega)
              refine w_aload_n X dL_person_401 hl 5 rfl rfl ?_
              refine w_iload_n X dL_person_402 hl 7 rfl rfl ?_
              refine w_iload X dL_person_403 hl 3 rfl ?_
              refine w_iload X dL_person_405 hl 2 rfl ?_
              refine w_iload X dL_person_407 hl 1 rfl ?_
              refine w_ir (vx_runSW (As := [.ref x, .int (wI (k)), .int (wI (z_62)), .int (wI (y_64)), .int (wI (z_69))]) (rest := []) X (c_L_bonus l hl9 g AX H_99 hAn x σ hσ hXv k hk9 (z_62) (y_64) (z_69) (by omega) (by omega) (by omega)) (vx_cwSW 5 X.2.2.2.2 gL_person_L_bonus rfl rfl rfl (by decide +kernel) ⟨(Nat.le_of_ble_eq_true rfl), (Nat.le_of_ble_eq_true rfl)⟩) (w_pr2 hE hEs hNx hS hN) rfl rfl hl.1 rfl (lv_room (Nat.le_of_ble_eq_true rfl)) dL_person_409 ⟨(Nat.le_of_ble_eq_true rfl), (Nat.le_of_ble_eq_true rfl)⟩) hS hN fun v1 H_103 lo1 hp_104 hz_105 hq_106 hS => ?_
              have hAp := hAp.kept (hq_106 _ hAp.lt hnp)
              have hAb := hAb.kept (hq_106 _ hAb.lt hnb)
              obtain ⟨h6, rfl, hXv⟩ := hp_104.resolve_right (fun q => absurd q.1 (by omega))
              have q1 : (up fp (z_97).toNat (wI (z_98))) (8 * (k).toNat + 7) = wI ((sb σ (k).toNat : Int) + 1) := (va_up_at _ _ (by omega)).trans (by rw [ez_98])
              have q2 : ∀ q, q ≠ 8 * (k).toNat + 7 → (up fp (z_97).toNat (wI (z_98))) q = fp q := fun q hq => (va_up_ne _ _ (by omega))
              have q3 : ∀ j, j < 3 → (up (up (up fb (z_76).toNat (wI (z_62))) (z_84).toNat (wI (y_64))) (z_92).toNat (wI (z_69))) (18 * (k).toNat + 3 * sb σ (k).toNat + j) = wI ((bonS (z_62) (y_64) (z_69)) j) :=
                fun j hj => by
                  rcases (by omega : j = 0 ∨ j = 1 ∨ j = 2) with rfl | rfl | rfl
                  · exact (va_up_ne _ _ (by omega)).trans ((va_up_ne _ _ (by omega)).trans (va_up_at _ _ (by omega)))
                  · exact (va_up_ne _ _ (by omega)).trans (va_up_at _ _ (by omega))
                  · exact va_up_at _ _ (by omega)
              have q4 : ∀ q, (q < 18 * (k).toNat + 3 * sb σ (k).toNat ∨ 18 * (k).toNat + 3 * sb σ (k).toNat + 3 ≤ q) → (up (up (up fb (z_76).toNat (wI (z_62))) (z_84).toNat (wI (y_64))) (z_92).toNat (wI (z_69))) q = fb q := fun q hq => (va_up_ne _ _ (by omega)).trans ((va_up_ne _ _ (by omega)).trans ((va_up_ne _ _ (by omega))))
              have hPA9 : PA (nxBon σ (k).toNat (bonS (z_62) (y_64) (z_69))) _ := hPA.bon q1 q2
              have hBA9 : BA (nxBon σ (k).toNat (bonS (z_62) (y_64) (z_69))) _ := BA.bon hσ hBA h6 q3 q4
              have hσ9 : StGood (nxBon σ (k).toNat (bonS (z_62) (y_64) (z_69))) := hσ.bon (by omega) h6 ⟨(by omega : 1 ≤ z_62 ∧ z_62 ≤ 500000), (by omega : 0 ≤ y_64), (by omega : y_64 < z_69), (by omega : z_69 ≤ 12)⟩
              refine w_iload X dL_person_412 hl 0 rfl ?_
              refine w_icmp_ne X 421 dL_person_414 (by decide) (by omega) (by omega) (fun c_107 => ?_) (fun c_107 => ?_)
              · skip
                exact absurd c_107 (by omega)
              · skip
                refine w_iconst X dL_person_417 ?_
                refine w_goto X 422 dL_person_418 (by decide) ?_
                exact w_zrR X hr hk hS (Or.inr rfl) ⟨rfl, nxBon σ (k).toNat (bonS (z_62) (y_64) (z_69)), _, _, rfl, rfl, hσ9, hXv, hAp, hPA9, hAb, hBA9⟩ dL_person_422 (Nat.le_of_ble_eq_true rfl) (Nat.le_of_ble_eq_true rfl)
          · skip
            refine w_bipush X dL_person_323 (by decide) ?_
            refine w_goto X 336 dL_person_325 (by decide) ?_
            refine w_istore X [(10, .int (wI (-3))), (9, .int (wI (z_69))), (8, .int (wI (y_64))), (7, .int (wI (z_62))), (6, .int (wI (z_1))), (0, .ref x), (1, .int (wI (act))), (2, .int (wI (k))), (3, .int (z)), (4, .ref ap), (5, .ref ab)] dL_person_336 hl (by decide) rfl fun ls hl => ?_
            refine w_iload X dL_person_338 hl 0 rfl ?_
            refine w_if_lt X 401 dL_person_340 (by decide) (by omega) (fun c_108 => ?_) (fun c_108 => ?_)
            · skip
              refine w_aload_n X dL_person_401 hl 5 rfl rfl ?_
              refine w_iload_n X dL_person_402 hl 7 rfl rfl ?_
              refine w_iload X dL_person_403 hl 3 rfl ?_
              refine w_iload X dL_person_405 hl 2 rfl ?_
              refine w_iload X dL_person_407 hl 1 rfl ?_
              refine w_ir (vx_runSW (As := [.ref x, .int (wI (k)), .int (wI (z_62)), .int (wI (y_64)), .int (wI (z_69))]) (rest := []) X (c_L_bonus l hl9 g AX H hAn x σ hσ hXv k hk9 (z_62) (y_64) (z_69) (by omega) (by omega) (by omega)) (vx_cwSW 5 X.2.2.2.2 gL_person_L_bonus rfl rfl rfl (by decide +kernel) ⟨(Nat.le_of_ble_eq_true rfl), (Nat.le_of_ble_eq_true rfl)⟩) (w_pr2 hE hEs hNx hS hN) rfl rfl hl.1 rfl (lv_room (Nat.le_of_ble_eq_true rfl)) dL_person_409 ⟨(Nat.le_of_ble_eq_true rfl), (Nat.le_of_ble_eq_true rfl)⟩) hS hN fun v1 H_109 lo1 hp_110 hz_111 hq_112 hS => ?_
              have hAp := hAp.kept (hq_112 _ hAp.lt hnp)
              have hAb := hAb.kept (hq_112 _ hAb.lt hnb)
              obtain ⟨h6, rfl, hXv⟩ := hp_110.resolve_left (fun q => absurd q.1 (by omega))
              have hPA9 := hPA
              have hσ9 := hσ
              refine w_iload X dL_person_412 hl 0 rfl ?_
              refine w_icmp_ne X 421 dL_person_414 (by decide) (by omega) (by omega) (fun c_113 => ?_) (fun c_113 => ?_)
              · skip
                exact absurd c_113 (by omega)
              · skip
                refine w_iconst X dL_person_417 ?_
                refine w_goto X 422 dL_person_418 (by decide) ?_
                exact w_zrR X hr hk hS (Or.inr rfl) ⟨rfl, σ, _, _, rfl, rfl, hσ9, hXv, hAp, hPA9, hAb, hBA⟩ dL_person_422 (Nat.le_of_ble_eq_true rfl) (Nat.le_of_ble_eq_true rfl)
            · skip
              exact absurd c_108 (by omega)
      · skip
        refine w_aload X dL_person_173 hl 5 rfl ?_
        refine w_iload X dL_person_175 hl 0 rfl ?_
        refine w_iconst X dL_person_177 ?_
        refine w_iadd X dL_person_178 fun z_114 ez_114 => ?_
        refine w_iload_n X dL_person_179 hl 4 rfl rfl ?_
        refine w_iload_n X dL_person_180 hl 4 rfl rfl ?_
        refine w_bipush X dL_person_181 (by decide) ?_
        refine w_ishr X dL_person_183 fun v_115 => ?_
        refine w_iconst X dL_person_184 ?_
        refine w_low X hE (by omega) hl dL_person_185 gL_person_L_low ⟨(Nat.le_of_ble_eq_true rfl), (Nat.le_of_ble_eq_true rfl)⟩ (Nat.le_of_ble_eq_true rfl) ⟨(Nat.le_of_ble_eq_true rfl), (Nat.le_of_ble_eq_true rfl)⟩ fun y_116 hy_116a hy_116b => ?_
        refine w_if_ne X 196 dL_person_188 (by decide) (by omega) (fun c_117 => ?_) (fun c_117 => ?_)
        · skip
          refine w_sipush X dL_person_196 (by decide) ?_
          refine w_low X hE (by omega) hl dL_person_199 gL_person_L_low ⟨(Nat.le_of_ble_eq_true rfl), (Nat.le_of_ble_eq_true rfl)⟩ (Nat.le_of_ble_eq_true rfl) ⟨(Nat.le_of_ble_eq_true rfl), (Nat.le_of_ble_eq_true rfl)⟩ fun y_118 hy_118a hy_118b => ?_
          refine w_iast X hE hAp hS (Or.inr (Or.inl rfl)) dL_person_202 (by omega) (by omega) (by omega) fun H_119 lo_120 hAp hz_121 hq_122 hS => ?_
          have hAb := hAb.kept (hq_122 _ (Ne.symm hne))
          have hXv := hXv.kept (fun q h1 h2 => hq_122 q (fun e => hnp (e ▸ h1)))
          obtain ⟨hAx, fs9, hxO⟩ := hXv.ob
          have hAn : ∀ q, H_119.size ≤ q → AX q := fun q h => hAn q (by omega)
          refine w_aload X dL_person_203 hl 5 rfl ?_
          refine w_iload X dL_person_205 hl 0 rfl ?_
          refine w_bipush X dL_person_207 (by decide) ?_
          refine w_iadd X dL_person_209 fun z_123 ez_123 => ?_
          refine w_iload_n X dL_person_210 hl 4 rfl rfl ?_
          refine w_iconst X dL_person_211 ?_
          refine w_ishr X dL_person_212 fun v_124 => ?_
          refine w_bipush X dL_person_213 (by decide) ?_
          refine w_low X hE (by omega) hl dL_person_215 gL_person_L_low ⟨(Nat.le_of_ble_eq_true rfl), (Nat.le_of_ble_eq_true rfl)⟩ (Nat.le_of_ble_eq_true rfl) ⟨(Nat.le_of_ble_eq_true rfl), (Nat.le_of_ble_eq_true rfl)⟩ fun y_125 hy_125a hy_125b => ?_
          refine w_iast X hE hAp hS (Or.inr (Or.inl rfl)) dL_person_218 (by omega) (by omega) (by omega) fun H_126 lo_127 hAp hz_128 hq_129 hS => ?_
          have hAb := hAb.kept (hq_129 _ (Ne.symm hne))
          have hXv := hXv.kept (fun q h1 h2 => hq_129 q (fun e => hnp (e ▸ h1)))
          obtain ⟨hAx, fs9, hxO⟩ := hXv.ob
          have hAn : ∀ q, H_126.size ≤ q → AX q := fun q h => hAn q (by omega)
          refine w_aload_n X dL_person_219 hl 1 rfl rfl ?_
          refine w_iload_n X dL_person_220 hl 3 rfl rfl ?_
          refine w_aload X dL_person_221 hl 5 rfl ?_
          refine w_iload X dL_person_223 hl 0 rfl ?_
          refine w_iconst X dL_person_225 ?_
          refine w_iadd X dL_person_226 fun z_130 ez_130 => ?_
          refine w_iald (y := wI (y_118)) X hE hAp dL_person_227 (by omega) (by omega) (by omega) ((va_up_ne _ _ (by omega)).trans (va_up_at _ _ (by omega))) ?_
          refine w_aload X dL_person_228 hl 5 rfl ?_
          refine w_iload X dL_person_230 hl 0 rfl ?_
          refine w_bipush X dL_person_232 (by decide) ?_
          refine w_iadd X dL_person_234 fun z_131 ez_131 => ?_
          refine w_iald (y := wI (y_125)) X hE hAp dL_person_235 (by omega) (by omega) (by omega) (va_up_at _ _ (by omega)) ?_
          refine w_xr (vx_runV (As := [.int (wI (k)), .int (wI (y_118)), .int (wI (y_125))]) (rest := []) X (c_X3_setHousing l hl9 g AX H_126 x σ hσ hXv (k) (y_118) (y_125) (by omega) (by omega) (by omega)) (cwV 3 X.2.2.2.2 gL_person_X3_setHousing rfl rfl rfl (by decide +kernel) ⟨(Nat.le_of_ble_eq_true rfl), (Nat.le_of_ble_eq_true rfl)⟩) (w_prVN hE hEs hS hN hxO rfl) rfl rfl hl.1 rfl (lv_room (Nat.le_of_ble_eq_true rfl)) dL_person_236 ⟨(Nat.le_of_ble_eq_true rfl), (Nat.le_of_ble_eq_true rfl)⟩) hS hN ?_ fun v_137 H_132 lo_133 hp_134 hz_135 hq_136 hS => ?_
          · intro E ce q9 H9 lo9 hxp hz9 hq9 hS9 hce hcv hcl
            have hx9 := hxp.1
            exact absurd hx9 (by rintro (⟨-, r9⟩ | ⟨-, -, r9⟩) <;> omega)
          obtain ⟨-, rfl, hXv⟩ := hp_134
          obtain ⟨hAx, fs9, hxO⟩ := hXv.ob
          have hAp := hAp.kept (hq_136 _ hAp.lt hnp)
          have hAb := hAb.kept (hq_136 _ hAb.lt hnb)
          have hAn : ∀ q, H_132.size ≤ q → AX q := fun q h => hAn q (by omega)
          have q1 : ∀ j, j < 7 → (up (up fp (z_114).toNat (wI (y_118))) (z_123).toNat (wI (y_125))) (8 * (k).toNat + j) = wI ((renS (sp σ (k).toNat) (y_118) (y_125)) j) :=
            fun j hj => by
              rcases (by omega : j = 0 ∨ j = 1 ∨ j = 2 ∨ j = 3 ∨ j = 4 ∨ j = 5 ∨ j = 6) with rfl | rfl | rfl | rfl | rfl | rfl | rfl
              · exact (va_up_ne _ _ (by omega)).trans ((va_up_ne _ _ (by omega)).trans ((hPA _ (by omega)).1 0 (by omega)))
              · exact (va_up_ne _ _ (by omega)).trans ((va_up_ne _ _ (by omega)).trans ((hPA _ (by omega)).1 1 (by omega)))
              · exact (va_up_ne _ _ (by omega)).trans ((va_up_ne _ _ (by omega)).trans ((hPA _ (by omega)).1 2 (by omega)))
              · exact (va_up_ne _ _ (by omega)).trans ((va_up_ne _ _ (by omega)).trans ((hPA _ (by omega)).1 3 (by omega)))
              · exact (va_up_ne _ _ (by omega)).trans ((va_up_ne _ _ (by omega)).trans ((hPA _ (by omega)).1 4 (by omega)))
              · exact (va_up_ne _ _ (by omega)).trans (va_up_at _ _ (by omega))
              · exact va_up_at _ _ (by omega)
          have q2 : ∀ q, (q < 8 * (k).toNat ∨ 8 * (k).toNat + 7 ≤ q) → (up (up fp (z_114).toNat (wI (y_118))) (z_123).toNat (wI (y_125))) q = fp q := fun q hq => (va_up_ne _ _ (by omega)).trans ((va_up_ne _ _ (by omega)))
          have hPA9 : PA (nxPers σ (k).toNat (renS (sp σ (k).toNat) (y_118) (y_125))) _ := hPA.pers q1 q2
          have hσ9 : StGood (nxPers σ (k).toNat (renS (sp σ (k).toNat) (y_118) (y_125))) := hσ.pers (by omega) ⟨(hσ.2.2.1 (k).toNat (by omega)).1.1, (hσ.2.2.1 (k).toNat (by omega)).1.2.1, (by omega : 0 ≤ y_118 ∧ y_118 ≤ 50000), (by omega : 0 ≤ y_125 ∧ y_125 ≤ 40), (hσ.2.2.1 (k).toNat (by omega)).1.2.2.2.2⟩ rfl rfl
          refine w_iload_n X dL_person_239 hl 3 rfl rfl ?_
          refine w_aload X dL_person_240 hl 5 rfl ?_
          have hown := c_L_own l g H_132 (nxPers σ (k).toNat (renS (sp σ (k).toNat) (y_118) (y_125))) hσ9 hs3 ap _ hAp hPA9 k hk9
          rw [show sp (nxPers σ (k).toNat (renS (sp σ (k).toNat) (y_118) (y_125))) (k).toNat = renS (sp σ (k).toNat) (y_118) (y_125) from va_up_self _ _ _] at hown
          have fo9 := own_bd (hσ9.2.2.1 (k).toNat (by show _ < sn σ; omega)).1
          rw [show sp (nxPers σ (k).toNat (renS (sp σ (k).toNat) (y_118) (y_125))) (k).toNat = renS (sp σ (k).toNat) (y_118) (y_125) from va_up_self _ _ _] at fo9
          have fo8 : (renS (sp σ (k).toNat) (y_118) (y_125)) 5 = y_118 := rfl
          refine w_callS (v := .int (wI (ownS (renS (sp σ (k).toNat) (y_118) (y_125))))) 2 X hE (hown) hl dL_person_242 gL_person_L_own rfl rfl (by decide +kernel) ⟨(Nat.le_of_ble_eq_true rfl), (Nat.le_of_ble_eq_true rfl)⟩ rfl (Nat.le_of_ble_eq_true rfl) ⟨(Nat.le_of_ble_eq_true rfl), (Nat.le_of_ble_eq_true rfl)⟩ ?_
          refine w_icmp_ne X 252 dL_person_245 (by decide) (by omega) (by omega) (fun c_138 => ?_) (fun c_138 => ?_)
          · skip
            exact absurd c_138 (by omega)
          · skip
            refine w_iconst X dL_person_248 ?_
            refine w_goto X 253 dL_person_249 (by decide) ?_
            exact w_zrR X hr hk hS (Or.inr rfl) ⟨rfl, nxPers σ (k).toNat (renS (sp σ (k).toNat) (y_118) (y_125)), _, _, rfl, rfl, hσ9, hXv, hAp, hPA9, hAb, hBA⟩ dL_person_253 (Nat.le_of_ble_eq_true rfl) (Nat.le_of_ble_eq_true rfl)
        · skip
          refine w_ldc (v := 50001) (z := 50001) X dL_person_191 (by decide +kernel) (by decide) ?_
          refine w_goto X 199 dL_person_193 (by decide) ?_
          refine w_low X hE (by omega) hl dL_person_199 gL_person_L_low ⟨(Nat.le_of_ble_eq_true rfl), (Nat.le_of_ble_eq_true rfl)⟩ (Nat.le_of_ble_eq_true rfl) ⟨(Nat.le_of_ble_eq_true rfl), (Nat.le_of_ble_eq_true rfl)⟩ fun y_139 hy_139a hy_139b => ?_
          refine w_iast X hE hAp hS (Or.inr (Or.inl rfl)) dL_person_202 (by omega) (by omega) (by omega) fun H_140 lo_141 hAp hz_142 hq_143 hS => ?_
          have hAb := hAb.kept (hq_143 _ (Ne.symm hne))
          have hXv := hXv.kept (fun q h1 h2 => hq_143 q (fun e => hnp (e ▸ h1)))
          obtain ⟨hAx, fs9, hxO⟩ := hXv.ob
          have hAn : ∀ q, H_140.size ≤ q → AX q := fun q h => hAn q (by omega)
          refine w_aload X dL_person_203 hl 5 rfl ?_
          refine w_iload X dL_person_205 hl 0 rfl ?_
          refine w_bipush X dL_person_207 (by decide) ?_
          refine w_iadd X dL_person_209 fun z_144 ez_144 => ?_
          refine w_iload_n X dL_person_210 hl 4 rfl rfl ?_
          refine w_iconst X dL_person_211 ?_
          refine w_ishr X dL_person_212 fun v_145 => ?_
          refine w_bipush X dL_person_213 (by decide) ?_
          refine w_low X hE (by omega) hl dL_person_215 gL_person_L_low ⟨(Nat.le_of_ble_eq_true rfl), (Nat.le_of_ble_eq_true rfl)⟩ (Nat.le_of_ble_eq_true rfl) ⟨(Nat.le_of_ble_eq_true rfl), (Nat.le_of_ble_eq_true rfl)⟩ fun y_146 hy_146a hy_146b => ?_
          refine w_iast X hE hAp hS (Or.inr (Or.inl rfl)) dL_person_218 (by omega) (by omega) (by omega) fun H_147 lo_148 hAp hz_149 hq_150 hS => ?_
          have hAb := hAb.kept (hq_150 _ (Ne.symm hne))
          have hXv := hXv.kept (fun q h1 h2 => hq_150 q (fun e => hnp (e ▸ h1)))
          obtain ⟨hAx, fs9, hxO⟩ := hXv.ob
          have hAn : ∀ q, H_147.size ≤ q → AX q := fun q h => hAn q (by omega)
          refine w_aload_n X dL_person_219 hl 1 rfl rfl ?_
          refine w_iload_n X dL_person_220 hl 3 rfl rfl ?_
          refine w_aload X dL_person_221 hl 5 rfl ?_
          refine w_iload X dL_person_223 hl 0 rfl ?_
          refine w_iconst X dL_person_225 ?_
          refine w_iadd X dL_person_226 fun z_151 ez_151 => ?_
          refine w_iald (y := wI (y_139)) X hE hAp dL_person_227 (by omega) (by omega) (by omega) ((va_up_ne _ _ (by omega)).trans (va_up_at _ _ (by omega))) ?_
          refine w_aload X dL_person_228 hl 5 rfl ?_
          refine w_iload X dL_person_230 hl 0 rfl ?_
          refine w_bipush X dL_person_232 (by decide) ?_
          refine w_iadd X dL_person_234 fun z_152 ez_152 => ?_
          refine w_iald (y := wI (y_146)) X hE hAp dL_person_235 (by omega) (by omega) (by omega) (va_up_at _ _ (by omega)) ?_
          refine w_xr (vx_runV (As := [.int (wI (k)), .int (wI (y_139)), .int (wI (y_146))]) (rest := []) X (c_X3_setHousing l hl9 g AX H_147 x σ hσ hXv (k) (y_139) (y_146) (by omega) (by omega) (by omega)) (cwV 3 X.2.2.2.2 gL_person_X3_setHousing rfl rfl rfl (by decide +kernel) ⟨(Nat.le_of_ble_eq_true rfl), (Nat.le_of_ble_eq_true rfl)⟩) (w_prVN hE hEs hS hN hxO rfl) rfl rfl hl.1 rfl (lv_room (Nat.le_of_ble_eq_true rfl)) dL_person_236 ⟨(Nat.le_of_ble_eq_true rfl), (Nat.le_of_ble_eq_true rfl)⟩) hS hN ?_ fun v_158 H_153 lo_154 hp_155 hz_156 hq_157 hS => ?_
          · intro E ce q9 H9 lo9 hxp hz9 hq9 hS9 hce hcv hcl
            have hx9 := hxp.1
            exact absurd hx9 (by rintro (⟨-, r9⟩ | ⟨-, -, r9⟩) <;> omega)
          obtain ⟨-, rfl, hXv⟩ := hp_155
          obtain ⟨hAx, fs9, hxO⟩ := hXv.ob
          have hAp := hAp.kept (hq_157 _ hAp.lt hnp)
          have hAb := hAb.kept (hq_157 _ hAb.lt hnb)
          have hAn : ∀ q, H_153.size ≤ q → AX q := fun q h => hAn q (by omega)
          have q1 : ∀ j, j < 7 → (up (up fp (z_114).toNat (wI (y_139))) (z_144).toNat (wI (y_146))) (8 * (k).toNat + j) = wI ((renS (sp σ (k).toNat) (y_139) (y_146)) j) :=
            fun j hj => by
              rcases (by omega : j = 0 ∨ j = 1 ∨ j = 2 ∨ j = 3 ∨ j = 4 ∨ j = 5 ∨ j = 6) with rfl | rfl | rfl | rfl | rfl | rfl | rfl
              · exact (va_up_ne _ _ (by omega)).trans ((va_up_ne _ _ (by omega)).trans ((hPA _ (by omega)).1 0 (by omega)))
              · exact (va_up_ne _ _ (by omega)).trans ((va_up_ne _ _ (by omega)).trans ((hPA _ (by omega)).1 1 (by omega)))
              · exact (va_up_ne _ _ (by omega)).trans ((va_up_ne _ _ (by omega)).trans ((hPA _ (by omega)).1 2 (by omega)))
              · exact (va_up_ne _ _ (by omega)).trans ((va_up_ne _ _ (by omega)).trans ((hPA _ (by omega)).1 3 (by omega)))
              · exact (va_up_ne _ _ (by omega)).trans ((va_up_ne _ _ (by omega)).trans ((hPA _ (by omega)).1 4 (by omega)))
              · exact (va_up_ne _ _ (by omega)).trans (va_up_at _ _ (by omega))
              · exact va_up_at _ _ (by omega)
          have q2 : ∀ q, (q < 8 * (k).toNat ∨ 8 * (k).toNat + 7 ≤ q) → (up (up fp (z_114).toNat (wI (y_139))) (z_144).toNat (wI (y_146))) q = fp q := fun q hq => (va_up_ne _ _ (by omega)).trans ((va_up_ne _ _ (by omega)))
          have hPA9 : PA (nxPers σ (k).toNat (renS (sp σ (k).toNat) (y_139) (y_146))) _ := hPA.pers q1 q2
          have hσ9 : StGood (nxPers σ (k).toNat (renS (sp σ (k).toNat) (y_139) (y_146))) := hσ.pers (by omega) ⟨(hσ.2.2.1 (k).toNat (by omega)).1.1, (hσ.2.2.1 (k).toNat (by omega)).1.2.1, (by omega : 0 ≤ y_139 ∧ y_139 ≤ 50000), (by omega : 0 ≤ y_146 ∧ y_146 ≤ 40), (hσ.2.2.1 (k).toNat (by omega)).1.2.2.2.2⟩ rfl rfl
          refine w_iload_n X dL_person_239 hl 3 rfl rfl ?_
          refine w_aload X dL_person_240 hl 5 rfl ?_
          have hown := c_L_own l g H_153 (nxPers σ (k).toNat (renS (sp σ (k).toNat) (y_139) (y_146))) hσ9 hs3 ap _ hAp hPA9 k hk9
          rw [show sp (nxPers σ (k).toNat (renS (sp σ (k).toNat) (y_139) (y_146))) (k).toNat = renS (sp σ (k).toNat) (y_139) (y_146) from va_up_self _ _ _] at hown
          have fo9 := own_bd (hσ9.2.2.1 (k).toNat (by show _ < sn σ; omega)).1
          rw [show sp (nxPers σ (k).toNat (renS (sp σ (k).toNat) (y_139) (y_146))) (k).toNat = renS (sp σ (k).toNat) (y_139) (y_146) from va_up_self _ _ _] at fo9
          have fo8 : (renS (sp σ (k).toNat) (y_139) (y_146)) 5 = y_139 := rfl
          refine w_callS (v := .int (wI (ownS (renS (sp σ (k).toNat) (y_139) (y_146))))) 2 X hE (hown) hl dL_person_242 gL_person_L_own rfl rfl (by decide +kernel) ⟨(Nat.le_of_ble_eq_true rfl), (Nat.le_of_ble_eq_true rfl)⟩ rfl (Nat.le_of_ble_eq_true rfl) ⟨(Nat.le_of_ble_eq_true rfl), (Nat.le_of_ble_eq_true rfl)⟩ ?_
          refine w_icmp_ne X 252 dL_person_245 (by decide) (by omega) (by omega) (fun c_159 => ?_) (fun c_159 => ?_)
          · skip
            exact absurd c_159 (by omega)
          · skip
            refine w_iconst X dL_person_248 ?_
            refine w_goto X 253 dL_person_249 (by decide) ?_
            exact w_zrR X hr hk hS (Or.inr rfl) ⟨rfl, nxPers σ (k).toNat (renS (sp σ (k).toNat) (y_139) (y_146)), _, _, rfl, rfl, hσ9, hXv, hAp, hPA9, hAb, hBA⟩ dL_person_253 (Nat.le_of_ble_eq_true rfl) (Nat.le_of_ble_eq_true rfl)
    · skip
      refine w_aload X dL_person_106 hl 5 rfl ?_
      refine w_iload X dL_person_108 hl 0 rfl ?_
      refine w_iconst X dL_person_110 ?_
      refine w_iadd X dL_person_111 fun z_160 ez_160 => ?_
      refine w_iald (y := wI (sp σ (k).toNat 2)) X hE hAp dL_person_112 (by omega) (by omega) (by omega) (by rw [show (z_160).toNat = 8 * (k).toNat + 2 by omega]; exact (hPA _ (by omega)).1 2 (by omega)) ?_
      refine w_istore X [(7, .int (wI (sp σ (k).toNat 2))), (6, .int (wI (z_1))), (0, .ref x), (1, .int (wI (act))), (2, .int (wI (k))), (3, .int (z)), (4, .ref ap), (5, .ref ab)] dL_person_113 hl (by decide) rfl fun ls hl => ?_
      refine w_aload X dL_person_115 hl 6 rfl ?_
      refine w_iload X dL_person_117 hl 1 rfl ?_
      refine w_iconst X dL_person_119 ?_
      refine w_iadd X dL_person_120 fun z_161 ez_161 => ?_
      refine w_iload_n X dL_person_121 hl 5 rfl rfl ?_
      refine w_iload_n X dL_person_122 hl 5 rfl rfl ?_
      refine w_bipush X dL_person_123 (by decide) ?_
      refine w_ishr X dL_person_125 fun v_162 => ?_
      refine w_iconst X dL_person_126 ?_
      refine w_low X hE (by omega) hl dL_person_127 gL_person_L_low ⟨(Nat.le_of_ble_eq_true rfl), (Nat.le_of_ble_eq_true rfl)⟩ (Nat.le_of_ble_eq_true rfl) ⟨(Nat.le_of_ble_eq_true rfl), (Nat.le_of_ble_eq_true rfl)⟩ fun y_163 hy_163a hy_163b => ?_
      refine w_if_ne X 138 dL_person_130 (by decide) (by omega) (fun c_164 => ?_) (fun c_164 => ?_)
      · skip
        refine w_sipush X dL_person_138 (by decide) ?_
        refine w_low X hE (by omega) hl dL_person_141 gL_person_L_low ⟨(Nat.le_of_ble_eq_true rfl), (Nat.le_of_ble_eq_true rfl)⟩ (Nat.le_of_ble_eq_true rfl) ⟨(Nat.le_of_ble_eq_true rfl), (Nat.le_of_ble_eq_true rfl)⟩ fun y_165 hy_165a hy_165b => ?_
        refine w_iast X hE hAp hS (Or.inr (Or.inl rfl)) dL_person_144 (by omega) (by omega) (by omega) fun H_166 lo_167 hAp hz_168 hq_169 hS => ?_
        have hAb := hAb.kept (hq_169 _ (Ne.symm hne))
        have hXv := hXv.kept (fun q h1 h2 => hq_169 q (fun e => hnp (e ▸ h1)))
        obtain ⟨hAx, fs9, hxO⟩ := hXv.ob
        have hAn : ∀ q, H_166.size ≤ q → AX q := fun q h => hAn q (by omega)
        refine w_aload_n X dL_person_145 hl 2 rfl rfl ?_
        refine w_iload_n X dL_person_146 hl 4 rfl rfl ?_
        refine w_aload X dL_person_147 hl 6 rfl ?_
        refine w_iload X dL_person_149 hl 1 rfl ?_
        refine w_iconst X dL_person_151 ?_
        refine w_iadd X dL_person_152 fun z_170 ez_170 => ?_
        refine w_iald (y := wI (y_165)) X hE hAp dL_person_153 (by omega) (by omega) (by omega) (va_up_at _ _ (by omega)) ?_
        refine w_xr (vx_runV (As := [.int (wI (k)), .int (wI (y_165))]) (rest := []) X (c_X3_setPay l hl9 g AX H_166 x σ hσ hXv (k) (y_165) (by omega) (by omega)) (cwV 2 X.2.2.2.2 gL_person_X3_setPay rfl rfl rfl (by decide +kernel) ⟨(Nat.le_of_ble_eq_true rfl), (Nat.le_of_ble_eq_true rfl)⟩) (w_prVN hE hEs hS hN hxO rfl) rfl rfl hl.1 rfl (lv_room (Nat.le_of_ble_eq_true rfl)) dL_person_154 ⟨(Nat.le_of_ble_eq_true rfl), (Nat.le_of_ble_eq_true rfl)⟩) hS hN ?_ fun v_176 H_171 lo_172 hp_173 hz_174 hq_175 hS => ?_
        · intro E ce q9 H9 lo9 hxp hz9 hq9 hS9 hce hcv hcl
          have hx9 := hxp.1
          exact absurd hx9 (by rintro (⟨-, r9⟩ | ⟨-, -, r9⟩) <;> omega)
        obtain ⟨-, rfl, hXv⟩ := hp_173
        obtain ⟨hAx, fs9, hxO⟩ := hXv.ob
        have hAp := hAp.kept (hq_175 _ hAp.lt hnp)
        have hAb := hAb.kept (hq_175 _ hAb.lt hnb)
        have hAn : ∀ q, H_171.size ≤ q → AX q := fun q h => hAn q (by omega)
        have q1 : ∀ j, j < 7 → (up fp (z_161).toNat (wI (y_165))) (8 * (k).toNat + j) = wI ((payS (sp σ (k).toNat) (y_165)) j) :=
          fun j hj => by
            rcases (by omega : j = 0 ∨ j = 1 ∨ j = 2 ∨ j = 3 ∨ j = 4 ∨ j = 5 ∨ j = 6) with rfl | rfl | rfl | rfl | rfl | rfl | rfl
            · exact (va_up_ne _ _ (by omega)).trans ((hPA _ (by omega)).1 0 (by omega))
            · exact (va_up_ne _ _ (by omega)).trans ((hPA _ (by omega)).1 1 (by omega))
            · exact va_up_at _ _ (by omega)
            · exact (va_up_ne _ _ (by omega)).trans ((hPA _ (by omega)).1 3 (by omega))
            · exact (va_up_ne _ _ (by omega)).trans ((hPA _ (by omega)).1 4 (by omega))
            · exact (va_up_ne _ _ (by omega)).trans ((hPA _ (by omega)).1 5 (by omega))
            · exact (va_up_ne _ _ (by omega)).trans ((hPA _ (by omega)).1 6 (by omega))
        have q2 : ∀ q, (q < 8 * (k).toNat ∨ 8 * (k).toNat + 7 ≤ q) → (up fp (z_161).toNat (wI (y_165))) q = fp q := fun q hq => (va_up_ne _ _ (by omega))
        have hPA9 : PA (nxPers σ (k).toNat (payS (sp σ (k).toNat) (y_165))) _ := hPA.pers q1 q2
        have hσ9 : StGood (nxPers σ (k).toNat (payS (sp σ (k).toNat) (y_165))) := hσ.pers (by omega) ⟨(by omega : 0 ≤ y_165 ∧ y_165 ≤ 100000), (hσ.2.2.1 (k).toNat (by omega)).1.2⟩ rfl rfl
        refine w_iload X dL_person_157 hl 0 rfl ?_
        refine w_icmp_ne X 166 dL_person_159 (by decide) (by omega) (by omega) (fun c_177 => ?_) (fun c_177 => ?_)
        · skip
          exact absurd c_177 (by omega)
        · skip
          refine w_iconst X dL_person_162 ?_
          refine w_goto X 167 dL_person_163 (by decide) ?_
          exact w_zrR X hr hk hS (Or.inr rfl) ⟨rfl, nxPers σ (k).toNat (payS (sp σ (k).toNat) (y_165)), _, _, rfl, rfl, hσ9, hXv, hAp, hPA9, hAb, hBA⟩ dL_person_167 (Nat.le_of_ble_eq_true rfl) (Nat.le_of_ble_eq_true rfl)
      · skip
        refine w_ldc (v := 100001) (z := 100001) X dL_person_133 (by decide +kernel) (by decide) ?_
        refine w_goto X 141 dL_person_135 (by decide) ?_
        refine w_low X hE (by omega) hl dL_person_141 gL_person_L_low ⟨(Nat.le_of_ble_eq_true rfl), (Nat.le_of_ble_eq_true rfl)⟩ (Nat.le_of_ble_eq_true rfl) ⟨(Nat.le_of_ble_eq_true rfl), (Nat.le_of_ble_eq_true rfl)⟩ fun y_178 hy_178a hy_178b => ?_
        refine w_iast X hE hAp hS (Or.inr (Or.inl rfl)) dL_person_144 (by omega) (by omega) (by omega) fun H_179 lo_180 hAp hz_181 hq_182 hS => ?_
        have hAb := hAb.kept (hq_182 _ (Ne.symm hne))
        have hXv := hXv.kept (fun q h1 h2 => hq_182 q (fun e => hnp (e ▸ h1)))
        obtain ⟨hAx, fs9, hxO⟩ := hXv.ob
        have hAn : ∀ q, H_179.size ≤ q → AX q := fun q h => hAn q (by omega)
        refine w_aload_n X dL_person_145 hl 2 rfl rfl ?_
        refine w_iload_n X dL_person_146 hl 4 rfl rfl ?_
        refine w_aload X dL_person_147 hl 6 rfl ?_
        refine w_iload X dL_person_149 hl 1 rfl ?_
        refine w_iconst X dL_person_151 ?_
        refine w_iadd X dL_person_152 fun z_183 ez_183 => ?_
        refine w_iald (y := wI (y_178)) X hE hAp dL_person_153 (by omega) (by omega) (by omega) (va_up_at _ _ (by omega)) ?_
        refine w_xr (vx_runV (As := [.int (wI (k)), .int (wI (y_178))]) (rest := []) X (c_X3_setPay l hl9 g AX H_179 x σ hσ hXv (k) (y_178) (by omega) (by omega)) (cwV 2 X.2.2.2.2 gL_person_X3_setPay rfl rfl rfl (by decide +kernel) ⟨(Nat.le_of_ble_eq_true rfl), (Nat.le_of_ble_eq_true rfl)⟩) (w_prVN hE hEs hS hN hxO rfl) rfl rfl hl.1 rfl (lv_room (Nat.le_of_ble_eq_true rfl)) dL_person_154 ⟨(Nat.le_of_ble_eq_true rfl), (Nat.le_of_ble_eq_true rfl)⟩) hS hN ?_ fun v_189 H_184 lo_185 hp_186 hz_187 hq_188 hS => ?_
        · intro E ce q9 H9 lo9 hxp hz9 hq9 hS9 hce hcv hcl
          have hx9 := hxp.1
          exact absurd hx9 (by rintro (⟨-, r9⟩ | ⟨-, -, r9⟩) <;> omega)
        obtain ⟨-, rfl, hXv⟩ := hp_186
        obtain ⟨hAx, fs9, hxO⟩ := hXv.ob
        have hAp := hAp.kept (hq_188 _ hAp.lt hnp)
        have hAb := hAb.kept (hq_188 _ hAb.lt hnb)
        have hAn : ∀ q, H_184.size ≤ q → AX q := fun q h => hAn q (by omega)
        have q1 : ∀ j, j < 7 → (up fp (z_161).toNat (wI (y_178))) (8 * (k).toNat + j) = wI ((payS (sp σ (k).toNat) (y_178)) j) :=
          fun j hj => by
            rcases (by omega : j = 0 ∨ j = 1 ∨ j = 2 ∨ j = 3 ∨ j = 4 ∨ j = 5 ∨ j = 6) with rfl | rfl | rfl | rfl | rfl | rfl | rfl
            · exact (va_up_ne _ _ (by omega)).trans ((hPA _ (by omega)).1 0 (by omega))
            · exact (va_up_ne _ _ (by omega)).trans ((hPA _ (by omega)).1 1 (by omega))
            · exact va_up_at _ _ (by omega)
            · exact (va_up_ne _ _ (by omega)).trans ((hPA _ (by omega)).1 3 (by omega))
            · exact (va_up_ne _ _ (by omega)).trans ((hPA _ (by omega)).1 4 (by omega))
            · exact (va_up_ne _ _ (by omega)).trans ((hPA _ (by omega)).1 5 (by omega))
            · exact (va_up_ne _ _ (by omega)).trans ((hPA _ (by omega)).1 6 (by omega))
        have q2 : ∀ q, (q < 8 * (k).toNat ∨ 8 * (k).toNat + 7 ≤ q) → (up fp (z_161).toNat (wI (y_178))) q = fp q := fun q hq => (va_up_ne _ _ (by omega))
        have hPA9 : PA (nxPers σ (k).toNat (payS (sp σ (k).toNat) (y_178))) _ := hPA.pers q1 q2
        have hσ9 : StGood (nxPers σ (k).toNat (payS (sp σ (k).toNat) (y_178))) := hσ.pers (by omega) ⟨(by omega : 0 ≤ y_178 ∧ y_178 ≤ 100000), (hσ.2.2.1 (k).toNat (by omega)).1.2⟩ rfl rfl
        refine w_iload X dL_person_157 hl 0 rfl ?_
        refine w_icmp_ne X 166 dL_person_159 (by decide) (by omega) (by omega) (fun c_190 => ?_) (fun c_190 => ?_)
        · skip
          exact absurd c_190 (by omega)
        · skip
          refine w_iconst X dL_person_162 ?_
          refine w_goto X 167 dL_person_163 (by decide) ?_
          exact w_zrR X hr hk hS (Or.inr rfl) ⟨rfl, nxPers σ (k).toNat (payS (sp σ (k).toNat) (y_178)), _, _, rfl, rfl, hσ9, hXv, hAp, hPA9, hAb, hBA⟩ dL_person_167 (Nat.le_of_ble_eq_true rfl) (Nat.le_of_ble_eq_true rfl)
  · skip
    refine w_aload X dL_person_10 hl 5 rfl ?_
    refine w_iload X dL_person_12 hl 0 rfl ?_
    refine w_iconst X dL_person_14 ?_
    refine w_iadd X dL_person_15 fun z_191 ez_191 => ?_
    refine w_iald (y := wI (sp σ (k).toNat 4)) X hE hAp dL_person_16 (by omega) (by omega) (by omega) (by rw [show (z_191).toNat = 8 * (k).toNat + 4 by omega]; exact (hPA _ (by omega)).1 4 (by omega)) ?_
    refine w_aload X dL_person_17 hl 5 rfl ?_
    refine w_iload X dL_person_19 hl 0 rfl ?_
    refine w_iconst X dL_person_21 ?_
    refine w_iadd X dL_person_22 fun z_192 ez_192 => ?_
    refine w_iald (y := wI (sp σ (k).toNat 3)) X hE hAp dL_person_23 (by omega) (by omega) (by omega) (by rw [show (z_192).toNat = 8 * (k).toNat + 3 by omega]; exact (hPA _ (by omega)).1 3 (by omega)) ?_
    refine w_isub X dL_person_24 fun z_193 ez_193 => ?_
    refine w_istore X [(7, .int (wI (z_193))), (6, .int (wI (z_1))), (0, .ref x), (1, .int (wI (act))), (2, .int (wI (k))), (3, .int (z)), (4, .ref ap), (5, .ref ab)] dL_person_25 hl (by decide) rfl fun ls hl => ?_
    refine w_aload X dL_person_27 hl 6 rfl ?_
    refine w_iload X dL_person_29 hl 1 rfl ?_
    refine w_iconst X dL_person_31 ?_
    refine w_iadd X dL_person_32 fun z_194 ez_194 => ?_
    refine w_iload_n X dL_person_33 hl 5 rfl rfl ?_
    refine w_bipush X dL_person_34 (by decide) ?_
    refine w_low X hE (by omega) hl dL_person_36 gL_person_L_low ⟨(Nat.le_of_ble_eq_true rfl), (Nat.le_of_ble_eq_true rfl)⟩ (Nat.le_of_ble_eq_true rfl) ⟨(Nat.le_of_ble_eq_true rfl), (Nat.le_of_ble_eq_true rfl)⟩ fun y_195 hy_195a hy_195b => ?_
    refine w_iast X hE hAp hS (Or.inr (Or.inl rfl)) dL_person_39 (by omega) (by omega) (by omega) fun H_196 lo_197 hAp hz_198 hq_199 hS => ?_
    have hAb := hAb.kept (hq_199 _ (Ne.symm hne))
    have hXv := hXv.kept (fun q h1 h2 => hq_199 q (fun e => hnp (e ▸ h1)))
    obtain ⟨hAx, fs9, hxO⟩ := hXv.ob
    have hAn : ∀ q, H_196.size ≤ q → AX q := fun q h => hAn q (by omega)
    refine w_aload X dL_person_40 hl 6 rfl ?_
    refine w_iload X dL_person_42 hl 1 rfl ?_
    refine w_iconst X dL_person_44 ?_
    refine w_iadd X dL_person_45 fun z_200 ez_200 => ?_
    refine w_aload X dL_person_46 hl 6 rfl ?_
    refine w_iload X dL_person_48 hl 1 rfl ?_
    refine w_iconst X dL_person_50 ?_
    refine w_iadd X dL_person_51 fun z_201 ez_201 => ?_
    refine w_iald (y := wI (y_195)) X hE hAp dL_person_52 (by omega) (by omega) (by omega) (va_up_at _ _ (by omega)) ?_
    refine w_iload_n X dL_person_53 hl 5 rfl rfl ?_
    refine w_iconst X dL_person_54 ?_
    refine w_ishr X dL_person_55 fun v_202 => ?_
    refine w_bipush X dL_person_56 (by decide) ?_
    refine w_aload X dL_person_58 hl 6 rfl ?_
    refine w_iload X dL_person_60 hl 1 rfl ?_
    refine w_iconst X dL_person_62 ?_
    refine w_iadd X dL_person_63 fun z_203 ez_203 => ?_
    refine w_iald (y := wI (y_195)) X hE hAp dL_person_64 (by omega) (by omega) (by omega) (va_up_at _ _ (by omega)) ?_
    refine w_isub X dL_person_65 fun z_204 ez_204 => ?_
    refine w_low X hE (by omega) hl dL_person_66 gL_person_L_low ⟨(Nat.le_of_ble_eq_true rfl), (Nat.le_of_ble_eq_true rfl)⟩ (Nat.le_of_ble_eq_true rfl) ⟨(Nat.le_of_ble_eq_true rfl), (Nat.le_of_ble_eq_true rfl)⟩ fun y_205 hy_205a hy_205b => ?_
    refine w_iadd X dL_person_69 fun z_206 ez_206 => ?_
    refine w_iast X hE hAp hS (Or.inr (Or.inl rfl)) dL_person_70 (by omega) (by omega) (by omega) fun H_207 lo_208 hAp hz_209 hq_210 hS => ?_
    have hAb := hAb.kept (hq_210 _ (Ne.symm hne))
    have hXv := hXv.kept (fun q h1 h2 => hq_210 q (fun e => hnp (e ▸ h1)))
    obtain ⟨hAx, fs9, hxO⟩ := hXv.ob
    have hAn : ∀ q, H_207.size ≤ q → AX q := fun q h => hAn q (by omega)
    refine w_aload_n X dL_person_71 hl 2 rfl rfl ?_
    refine w_iload_n X dL_person_72 hl 4 rfl rfl ?_
    refine w_aload X dL_person_73 hl 6 rfl ?_
    refine w_iload X dL_person_75 hl 1 rfl ?_
    refine w_iconst X dL_person_77 ?_
    refine w_iadd X dL_person_78 fun z_211 ez_211 => ?_
    refine w_iald (y := wI (y_195)) X hE hAp dL_person_79 (by omega) (by omega) (by omega) ((va_up_ne _ _ (by omega)).trans (va_up_at _ _ (by omega))) ?_
    refine w_aload X dL_person_80 hl 6 rfl ?_
    refine w_iload X dL_person_82 hl 1 rfl ?_
    refine w_iconst X dL_person_84 ?_
    refine w_iadd X dL_person_85 fun z_212 ez_212 => ?_
    refine w_iald (y := wI (z_206)) X hE hAp dL_person_86 (by omega) (by omega) (by omega) (va_up_at _ _ (by omega)) ?_
    refine w_xr (vx_runV (As := [.int (wI (k)), .int (wI (y_195)), .int (wI (z_206))]) (rest := []) X (c_X3_setAbroad l hl9 g AX H_207 x σ hσ hXv (k) (y_195) (z_206) (by omega) (by omega) (by omega)) (cwV 3 X.2.2.2.2 gL_person_X3_setAbroad rfl rfl rfl (by decide +kernel) ⟨(Nat.le_of_ble_eq_true rfl), (Nat.le_of_ble_eq_true rfl)⟩) (w_prVN hE hEs hS hN hxO rfl) rfl rfl hl.1 rfl (lv_room (Nat.le_of_ble_eq_true rfl)) dL_person_87 ⟨(Nat.le_of_ble_eq_true rfl), (Nat.le_of_ble_eq_true rfl)⟩) hS hN ?_ fun v_218 H_213 lo_214 hp_215 hz_216 hq_217 hS => ?_
    · intro E ce q9 H9 lo9 hxp hz9 hq9 hS9 hce hcv hcl
      have hx9 := hxp.1
      exact absurd hx9 (by rintro (⟨-, r9⟩ | ⟨-, -, r9⟩) <;> omega)
    obtain ⟨-, rfl, hXv⟩ := hp_215
    obtain ⟨hAx, fs9, hxO⟩ := hXv.ob
    have hAp := hAp.kept (hq_217 _ hAp.lt hnp)
    have hAb := hAb.kept (hq_217 _ hAb.lt hnb)
    have hAn : ∀ q, H_213.size ≤ q → AX q := fun q h => hAn q (by omega)
    have q1 : ∀ j, j < 7 → (up (up fp (z_194).toNat (wI (y_195))) (z_200).toNat (wI (z_206))) (8 * (k).toNat + j) = wI ((absS (sp σ (k).toNat) (y_195) (z_206)) j) :=
      fun j hj => by
        rcases (by omega : j = 0 ∨ j = 1 ∨ j = 2 ∨ j = 3 ∨ j = 4 ∨ j = 5 ∨ j = 6) with rfl | rfl | rfl | rfl | rfl | rfl | rfl
        · exact (va_up_ne _ _ (by omega)).trans ((va_up_ne _ _ (by omega)).trans ((hPA _ (by omega)).1 0 (by omega)))
        · exact (va_up_ne _ _ (by omega)).trans ((va_up_ne _ _ (by omega)).trans ((hPA _ (by omega)).1 1 (by omega)))
        · exact (va_up_ne _ _ (by omega)).trans ((va_up_ne _ _ (by omega)).trans ((hPA _ (by omega)).1 2 (by omega)))
        · exact (va_up_ne _ _ (by omega)).trans (va_up_at _ _ (by omega))
        · exact va_up_at _ _ (by omega)
        · exact (va_up_ne _ _ (by omega)).trans ((va_up_ne _ _ (by omega)).trans ((hPA _ (by omega)).1 5 (by omega)))
        · exact (va_up_ne _ _ (by omega)).trans ((va_up_ne _ _ (by omega)).trans ((hPA _ (by omega)).1 6 (by omega)))
    have q2 : ∀ q, (q < 8 * (k).toNat ∨ 8 * (k).toNat + 7 ≤ q) → (up (up fp (z_194).toNat (wI (y_195))) (z_200).toNat (wI (z_206))) q = fp q := fun q hq => (va_up_ne _ _ (by omega)).trans ((va_up_ne _ _ (by omega)))
    have hPA9 : PA (nxPers σ (k).toNat (absS (sp σ (k).toNat) (y_195) (z_206))) _ := hPA.pers q1 q2
    have hσ9 : StGood (nxPers σ (k).toNat (absS (sp σ (k).toNat) (y_195) (z_206))) := hσ.pers (by omega) ⟨(hσ.2.2.1 (k).toNat (by omega)).1.1, (by omega : 0 ≤ y_195 ∧ y_195 ≤ z_206 ∧ z_206 ≤ 12), (hσ.2.2.1 (k).toNat (by omega)).1.2.2⟩ rfl rfl
    refine w_iload X dL_person_90 hl 0 rfl ?_
    refine w_icmp_ne X 99 dL_person_92 (by decide) (by omega) (by omega) (fun c_219 => ?_) (fun c_219 => ?_)
    · skip
      exact absurd c_219 (by omega)
    · skip
      refine w_iconst X dL_person_95 ?_
      refine w_goto X 100 dL_person_96 (by decide) ?_
      exact w_zrR X hr hk hS (Or.inr rfl) ⟨rfl, nxPers σ (k).toNat (absS (sp σ (k).toNat) (y_195) (z_206)), _, _, rfl, rfl, hσ9, hXv, hAp, hPA9, hAb, hBA⟩ dL_person_100 (Nat.le_of_ble_eq_true rfl) (Nat.le_of_ble_eq_true rfl)
