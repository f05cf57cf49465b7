/-! the reference: what is asked of people -/

set_option maxHeartbeats 4000000 in
set_option maxRecDepth 100000 in
theorem c_X4_supposedTax (l : Launch) (g : wG) (A : Nat → Prop) (H : Heap) (M : Nat → Nat) (hAM : ∀ k, k < 16 → k ≠ 4 → A (M k)) (hMj : AInj M) (th : Int) (σ : St) (hM : ModAt g H M th σ) (hσ : StGood σ) (i : Int) (hi : wR i) : ImpR l g A H yX4_supposedTax wsX4_supposedTax 2 50 0 0 [.ref (M 0), .int (wI (i))] (fun v H1 => v = .int (wI (stv (((0 : Int) ≤ i ∧ i < (sn σ : Int))) (True) (True) (supS (sH σ i.toNat) (sp σ i.toNat) (sb σ i.toNat) (so σ i.toNat)))) ∧ ModAt g H1 M (cd (((0 : Int) ≤ i ∧ i < (sn σ : Int))) (True) (True)) (stp (((0 : Int) ≤ i ∧ i < (sn σ : Int))) (True) (True) (σ) σ)) := by
  refine Imp.of (cc := cX4_supposedTax) (maxL := 2) (ret := (some .int)) (by decide) rfl (Nat.le_of_ble_eq_true rfl) ?_
  intro p9 e s m args below meth c X hE hEs hnm hr hk hS ls hl
  have hl : lv_has ls 2 [(0, .ref (M 0)), (1, .int (wI (i)))] := hl
  have hGd := hE.dis
  obtain ⟨hs1, hs2, hs3, hs4⟩ := id hσ
  have hO_n_1 : Ob g H (M 0) 5 [.int (wI (th)), .ref (M 1), .ref (M 2), .ref (M 3), .int (wI ((sn σ : Int))), .ref (M 5), .ref (M 6), .ref (M 7), .ref (M 8), .ref (M 9), .ref (M 10), .ref (M 11), .ref (M 12), .ref (M 13), .ref (M 14), .ref (M 15)] := hM 0 _ rfl
  have hA1_n_1 : IA g H (M 1) 4 (fun j => wI (σ.1 j 0)) := hM 1 _ rfl
  have hA2_n_1 : IA g H (M 2) 4 (fun j => wI (σ.1 j 1)) := hM 2 _ rfl
  have hA3_n_1 : IA g H (M 3) 12 (fun j => wI (σ.1 (j / 3) (2 + j % 3))) := hM 3 _ rfl
  have hA5_n_1 : IA g H (M 5) 10 (fun j => wI (sp σ j 0)) := hM 4 _ rfl
  have hA6_n_1 : IA g H (M 6) 10 (fun j => wI (sp σ j 1)) := hM 5 _ rfl
  have hA7_n_1 : IA g H (M 7) 10 (fun j => wI (sp σ j 2)) := hM 6 _ rfl
  have hA8_n_1 : IA g H (M 8) 10 (fun j => wI (sp σ j 3)) := hM 7 _ rfl
  have hA9_n_1 : IA g H (M 9) 10 (fun j => wI (sp σ j 4)) := hM 8 _ rfl
  have hA10_n_1 : IA g H (M 10) 10 (fun j => wI (sp σ j 5)) := hM 9 _ rfl
  have hA11_n_1 : IA g H (M 11) 10 (fun j => wI (sp σ j 6)) := hM 10 _ rfl
  have hA12_n_1 : IA g H (M 12) 10 (fun j => wI ((sb σ j : Int))) := hM 11 _ rfl
  have hA13_n_1 : IA g H (M 13) 60 (fun j => wI (so σ (j / 6) (j % 6) 0)) := hM 12 _ rfl
  have hA14_n_1 : IA g H (M 14) 60 (fun j => wI (so σ (j / 6) (j % 6) 1)) := hM 13 _ rfl
  have hA15_n_1 : IA g H (M 15) 60 (fun j => wI (so σ (j / 6) (j % 6) 2)) := hM 14 _ rfl
  refine w_aload_n X dX4_supposedTax_0 hl 0 rfl rfl ?_
  refine w_iload_n X dX4_supposedTax_1 hl 1 rfl rfl ?_
  refine w_ir (va_runV (As := [.int (wI (i))]) (rest := []) X (c_X4_isAsked l g A H M hAM hMj (th) σ hM hσ (i) (by omega)) (cwV 1 X.2.2.2.2 gX4_supposedTax_X4_isAsked rfl rfl rfl (by decide +kernel) ⟨(Nat.le_of_ble_eq_true rfl), (Nat.le_of_ble_eq_true rfl)⟩) (w_prV hE hEs hS hO_n_1 rfl) rfl rfl hl.1 rfl (lv_room (Nat.le_of_ble_eq_true rfl)) dX4_supposedTax_2 ⟨(Nat.le_of_ble_eq_true rfl), (Nat.le_of_ble_eq_true rfl)⟩) hS (fun _ h => h) fun v_7 H_2 lo_3 hp_4 hz_5 hq_6 hS => ?_
  obtain ⟨rfl, hM_8⟩ := hp_4
  have qa_hM_8 := inS_spec 0 (i) ((sn σ : Int) - 1)
  have hO_n_9 : Ob g H_2 (M 0) 5 [.int (wI (1 - inS 0 (i) ((sn σ : Int) - 1))), .ref (M 1), .ref (M 2), .ref (M 3), .int (wI ((sn σ : Int))), .ref (M 5), .ref (M 6), .ref (M 7), .ref (M 8), .ref (M 9), .ref (M 10), .ref (M 11), .ref (M 12), .ref (M 13), .ref (M 14), .ref (M 15)] := hM_8 0 _ rfl
  have hA1_n_9 : IA g H_2 (M 1) 4 (fun j => wI (σ.1 j 0)) := hM_8 1 _ rfl
  have hA2_n_9 : IA g H_2 (M 2) 4 (fun j => wI (σ.1 j 1)) := hM_8 2 _ rfl
  have hA3_n_9 : IA g H_2 (M 3) 12 (fun j => wI (σ.1 (j / 3) (2 + j % 3))) := hM_8 3 _ rfl
  have hA5_n_9 : IA g H_2 (M 5) 10 (fun j => wI (sp σ j 0)) := hM_8 4 _ rfl
  have hA6_n_9 : IA g H_2 (M 6) 10 (fun j => wI (sp σ j 1)) := hM_8 5 _ rfl
  have hA7_n_9 : IA g H_2 (M 7) 10 (fun j => wI (sp σ j 2)) := hM_8 6 _ rfl
  have hA8_n_9 : IA g H_2 (M 8) 10 (fun j => wI (sp σ j 3)) := hM_8 7 _ rfl
  have hA9_n_9 : IA g H_2 (M 9) 10 (fun j => wI (sp σ j 4)) := hM_8 8 _ rfl
  have hA10_n_9 : IA g H_2 (M 10) 10 (fun j => wI (sp σ j 5)) := hM_8 9 _ rfl
  have hA11_n_9 : IA g H_2 (M 11) 10 (fun j => wI (sp σ j 6)) := hM_8 10 _ rfl
  have hA12_n_9 : IA g H_2 (M 12) 10 (fun j => wI ((sb σ j : Int))) := hM_8 11 _ rfl
  have hA13_n_9 : IA g H_2 (M 13) 60 (fun j => wI (so σ (j / 6) (j % 6) 0)) := hM_8 12 _ rfl
  have hA14_n_9 : IA g H_2 (M 14) 60 (fun j => wI (so σ (j / 6) (j % 6) 1)) := hM_8 13 _ rfl
  have hA15_n_9 : IA g H_2 (M 15) 60 (fun j => wI (so σ (j / 6) (j % 6) 2)) := hM_8 14 _ rfl
  refine w_if_eq X 16 dX4_supposedTax_5 (by decide) (by omega) (fun c_10 => ?_) (fun c_10 => ?_)
  · skip
    refine w_iconst X dX4_supposedTax_16 ?_
    exact w_irR X hr hk hS (ref_1 (by omega) rfl (ModAt.cast (ModAt.mk hO_n_9 hA1_n_9 hA2_n_9 hA3_n_9 hA5_n_9 hA6_n_9 hA7_n_9 hA8_n_9 hA9_n_9 hA10_n_9 hA11_n_9 hA12_n_9 hA13_n_9 hA14_n_9 hA15_n_9) (by omega : (1 - inS 0 (i) ((sn σ : Int) - 1) : Int) = 1))) dX4_supposedTax_17 (Nat.le_of_ble_eq_true rfl) (Nat.le_of_ble_eq_true rfl)
  · skip
    refine w_aload_n X dX4_supposedTax_8 hl 0 rfl rfl ?_
    refine w_iload_n X dX4_supposedTax_9 hl 1 rfl rfl ?_
    refine w_callV (v := .int (wI (supS (sH σ i.toNat) (sp σ i.toNat) (sb σ i.toNat) (so σ i.toNat)))) 1 X hE (c_X4_supposed l g H_2 M (1 - inS 0 (i) ((sn σ : Int) - 1)) σ hM_8 hσ (i) (by omega)) hO_n_9 hl dX4_supposedTax_10 gX4_supposedTax_X4_supposed rfl rfl (by decide +kernel) ⟨(Nat.le_of_ble_eq_true rfl), (Nat.le_of_ble_eq_true rfl)⟩ rfl rfl (Nat.le_of_ble_eq_true rfl) ⟨(Nat.le_of_ble_eq_true rfl), (Nat.le_of_ble_eq_true rfl)⟩ ?_
    refine w_goto X 17 dX4_supposedTax_13 (by decide) ?_
    exact w_irR X hr hk hS (ref_y (y := supS (sH σ i.toNat) (sp σ i.toNat) (sb σ i.toNat) (so σ i.toNat)) (by first | trivial | omega) (by first | trivial | omega) (by first | trivial | omega) rfl (ModAt.cast (ModAt.mk hO_n_9 hA1_n_9 hA2_n_9 hA3_n_9 hA5_n_9 hA6_n_9 hA7_n_9 hA8_n_9 hA9_n_9 hA10_n_9 hA11_n_9 hA12_n_9 hA13_n_9 hA14_n_9 hA15_n_9) (by omega : (1 - inS 0 (i) ((sn σ : Int) - 1) : Int) = 0))) dX4_supposedTax_17 (Nat.le_of_ble_eq_true rfl) (Nat.le_of_ble_eq_true rfl)

set_option maxHeartbeats 4000000 in
set_option maxRecDepth 100000 in
theorem c_X4_homeIncome (l : Launch) (g : wG) (A : Nat → Prop) (H : Heap) (M : Nat → Nat) (hAM : ∀ k, k < 16 → k ≠ 4 → A (M k)) (hMj : AInj M) (th : Int) (σ : St) (hM : ModAt g H M th σ) (hσ : StGood σ) (i : Int) (hi : wR i) : ImpR l g A H yX4_homeIncome wsX4_homeIncome 3 69 0 0 [.ref (M 0), .int (wI (i))] (fun v H1 => v = .int (wI (stv (((0 : Int) ≤ i ∧ i < (sn σ : Int))) (True) (True) (ahS (sp σ i.toNat) (sb σ i.toNat) (so σ i.toNat)))) ∧ ModAt g H1 M (cd (((0 : Int) ≤ i ∧ i < (sn σ : Int))) (True) (True)) (stp (((0 : Int) ≤ i ∧ i < (sn σ : Int))) (True) (True) (σ) σ)) := by
  refine Imp.of (cc := cX4_homeIncome) (maxL := 2) (ret := (some .int)) (by decide) rfl (Nat.le_of_ble_eq_true rfl) ?_
  intro p9 e s m args below meth c X hE hEs hnm hr hk hS ls hl
  have hl : lv_has ls 2 [(0, .ref (M 0)), (1, .int (wI (i)))] := hl
  have hGd := hE.dis
  obtain ⟨hs1, hs2, hs3, hs4⟩ := id hσ
  have hO_n_1 : Ob g H (M 0) 5 [.int (wI (th)), .ref (M 1), .ref (M 2), .ref (M 3), .int (wI ((sn σ : Int))), .ref (M 5), .ref (M 6), .ref (M 7), .ref (M 8), .ref (M 9), .ref (M 10), .ref (M 11), .ref (M 12), .ref (M 13), .ref (M 14), .ref (M 15)] := hM 0 _ rfl
  have hA1_n_1 : IA g H (M 1) 4 (fun j => wI (σ.1 j 0)) := hM 1 _ rfl
  have hA2_n_1 : IA g H (M 2) 4 (fun j => wI (σ.1 j 1)) := hM 2 _ rfl
  have hA3_n_1 : IA g H (M 3) 12 (fun j => wI (σ.1 (j / 3) (2 + j % 3))) := hM 3 _ rfl
  have hA5_n_1 : IA g H (M 5) 10 (fun j => wI (sp σ j 0)) := hM 4 _ rfl
  have hA6_n_1 : IA g H (M 6) 10 (fun j => wI (sp σ j 1)) := hM 5 _ rfl
  have hA7_n_1 : IA g H (M 7) 10 (fun j => wI (sp σ j 2)) := hM 6 _ rfl
  have hA8_n_1 : IA g H (M 8) 10 (fun j => wI (sp σ j 3)) := hM 7 _ rfl
  have hA9_n_1 : IA g H (M 9) 10 (fun j => wI (sp σ j 4)) := hM 8 _ rfl
  have hA10_n_1 : IA g H (M 10) 10 (fun j => wI (sp σ j 5)) := hM 9 _ rfl
  have hA11_n_1 : IA g H (M 11) 10 (fun j => wI (sp σ j 6)) := hM 10 _ rfl
  have hA12_n_1 : IA g H (M 12) 10 (fun j => wI ((sb σ j : Int))) := hM 11 _ rfl
  have hA13_n_1 : IA g H (M 13) 60 (fun j => wI (so σ (j / 6) (j % 6) 0)) := hM 12 _ rfl
  have hA14_n_1 : IA g H (M 14) 60 (fun j => wI (so σ (j / 6) (j % 6) 1)) := hM 13 _ rfl
  have hA15_n_1 : IA g H (M 15) 60 (fun j => wI (so σ (j / 6) (j % 6) 2)) := hM 14 _ rfl
  refine w_aload_n X dX4_homeIncome_0 hl 0 rfl rfl ?_
  refine w_iload_n X dX4_homeIncome_1 hl 1 rfl rfl ?_
  refine w_ir (va_runV (As := [.int (wI (i))]) (rest := []) X (c_X4_isAsked l g A H M hAM hMj (th) σ hM hσ (i) (by omega)) (cwV 1 X.2.2.2.2 gX4_homeIncome_X4_isAsked rfl rfl rfl (by decide +kernel) ⟨(Nat.le_of_ble_eq_true rfl), (Nat.le_of_ble_eq_true rfl)⟩) (w_prV hE hEs hS hO_n_1 rfl) rfl rfl hl.1 rfl (lv_room (Nat.le_of_ble_eq_true rfl)) dX4_homeIncome_2 ⟨(Nat.le_of_ble_eq_true rfl), (Nat.le_of_ble_eq_true rfl)⟩) hS (fun _ h => h) fun v_7 H_2 lo_3 hp_4 hz_5 hq_6 hS => ?_
  obtain ⟨rfl, hM_8⟩ := hp_4
  have qa_hM_8 := inS_spec 0 (i) ((sn σ : Int) - 1)
  have hO_n_9 : Ob g H_2 (M 0) 5 [.int (wI (1 - inS 0 (i) ((sn σ : Int) - 1))), .ref (M 1), .ref (M 2), .ref (M 3), .int (wI ((sn σ : Int))), .ref (M 5), .ref (M 6), .ref (M 7), .ref (M 8), .ref (M 9), .ref (M 10), .ref (M 11), .ref (M 12), .ref (M 13), .ref (M 14), .ref (M 15)] := hM_8 0 _ rfl
  have hA1_n_9 : IA g H_2 (M 1) 4 (fun j => wI (σ.1 j 0)) := hM_8 1 _ rfl
  have hA2_n_9 : IA g H_2 (M 2) 4 (fun j => wI (σ.1 j 1)) := hM_8 2 _ rfl
  have hA3_n_9 : IA g H_2 (M 3) 12 (fun j => wI (σ.1 (j / 3) (2 + j % 3))) := hM_8 3 _ rfl
  have hA5_n_9 : IA g H_2 (M 5) 10 (fun j => wI (sp σ j 0)) := hM_8 4 _ rfl
  have hA6_n_9 : IA g H_2 (M 6) 10 (fun j => wI (sp σ j 1)) := hM_8 5 _ rfl
  have hA7_n_9 : IA g H_2 (M 7) 10 (fun j => wI (sp σ j 2)) := hM_8 6 _ rfl
  have hA8_n_9 : IA g H_2 (M 8) 10 (fun j => wI (sp σ j 3)) := hM_8 7 _ rfl
  have hA9_n_9 : IA g H_2 (M 9) 10 (fun j => wI (sp σ j 4)) := hM_8 8 _ rfl
  have hA10_n_9 : IA g H_2 (M 10) 10 (fun j => wI (sp σ j 5)) := hM_8 9 _ rfl
  have hA11_n_9 : IA g H_2 (M 11) 10 (fun j => wI (sp σ j 6)) := hM_8 10 _ rfl
  have hA12_n_9 : IA g H_2 (M 12) 10 (fun j => wI ((sb σ j : Int))) := hM_8 11 _ rfl
  have hA13_n_9 : IA g H_2 (M 13) 60 (fun j => wI (so σ (j / 6) (j % 6) 0)) := hM_8 12 _ rfl
  have hA14_n_9 : IA g H_2 (M 14) 60 (fun j => wI (so σ (j / 6) (j % 6) 1)) := hM_8 13 _ rfl
  have hA15_n_9 : IA g H_2 (M 15) 60 (fun j => wI (so σ (j / 6) (j % 6) 2)) := hM_8 14 _ rfl
  refine w_if_eq X 16 dX4_homeIncome_5 (by decide) (by omega) (fun c_10 => ?_) (fun c_10 => ?_)
  · skip
    refine w_iconst X dX4_homeIncome_16 ?_
    exact w_irR X hr hk hS (ref_1 (by omega) rfl (ModAt.cast (ModAt.mk hO_n_9 hA1_n_9 hA2_n_9 hA3_n_9 hA5_n_9 hA6_n_9 hA7_n_9 hA8_n_9 hA9_n_9 hA10_n_9 hA11_n_9 hA12_n_9 hA13_n_9 hA14_n_9 hA15_n_9) (by omega : (1 - inS 0 (i) ((sn σ : Int) - 1) : Int) = 1))) dX4_homeIncome_17 (Nat.le_of_ble_eq_true rfl) (Nat.le_of_ble_eq_true rfl)
  · skip
    refine w_aload_n X dX4_homeIncome_8 hl 0 rfl rfl ?_
    refine w_iload_n X dX4_homeIncome_9 hl 1 rfl rfl ?_
    refine w_callV (v := .int (wI (ahS (sp σ i.toNat) (sb σ i.toNat) (so σ i.toNat)))) 1 X hE (c_X4_atHome l g H_2 M (1 - inS 0 (i) ((sn σ : Int) - 1)) σ hM_8 hσ (i) (by omega)) hO_n_9 hl dX4_homeIncome_10 gX4_homeIncome_X4_atHome rfl rfl (by decide +kernel) ⟨(Nat.le_of_ble_eq_true rfl), (Nat.le_of_ble_eq_true rfl)⟩ rfl rfl (Nat.le_of_ble_eq_true rfl) ⟨(Nat.le_of_ble_eq_true rfl), (Nat.le_of_ble_eq_true rfl)⟩ ?_
    refine w_goto X 17 dX4_homeIncome_13 (by decide) ?_
    exact w_irR X hr hk hS (ref_y (y := ahS (sp σ i.toNat) (sb σ i.toNat) (so σ i.toNat)) (by first | trivial | omega) (by first | trivial | omega) (by first | trivial | omega) rfl (ModAt.cast (ModAt.mk hO_n_9 hA1_n_9 hA2_n_9 hA3_n_9 hA5_n_9 hA6_n_9 hA7_n_9 hA8_n_9 hA9_n_9 hA10_n_9 hA11_n_9 hA12_n_9 hA13_n_9 hA14_n_9 hA15_n_9) (by omega : (1 - inS 0 (i) ((sn σ : Int) - 1) : Int) = 0))) dX4_homeIncome_17 (Nat.le_of_ble_eq_true rfl) (Nat.le_of_ble_eq_true rfl)

set_option maxHeartbeats 4000000 in
set_option maxRecDepth 100000 in
theorem c_X4_homeTax (l : Launch) (g : wG) (A : Nat → Prop) (H : Heap) (M : Nat → Nat) (hAM : ∀ k, k < 16 → k ≠ 4 → A (M k)) (hMj : AInj M) (th : Int) (σ : St) (hM : ModAt g H M th σ) (hσ : StGood σ) (i : Int) (hi : wR i) : ImpR l g A H yX4_homeTax wsX4_homeTax 4 91 0 0 [.ref (M 0), .int (wI (i))] (fun v H1 => v = .int (wI (stv (((0 : Int) ≤ i ∧ i < (sn σ : Int))) (True) (True) (tahS (sH σ i.toNat) (sp σ i.toNat) (sb σ i.toNat) (so σ i.toNat)))) ∧ ModAt g H1 M (cd (((0 : Int) ≤ i ∧ i < (sn σ : Int))) (True) (True)) (stp (((0 : Int) ≤ i ∧ i < (sn σ : Int))) (True) (True) (σ) σ)) := by
  refine Imp.of (cc := cX4_homeTax) (maxL := 2) (ret := (some .int)) (by decide) rfl (Nat.le_of_ble_eq_true rfl) ?_
  intro p9 e s m args below meth c X hE hEs hnm hr hk hS ls hl
  have hl : lv_has ls 2 [(0, .ref (M 0)), (1, .int (wI (i)))] := hl
  have hGd := hE.dis
  obtain ⟨hs1, hs2, hs3, hs4⟩ := id hσ
  have hO_n_1 : Ob g H (M 0) 5 [.int (wI (th)), .ref (M 1), .ref (M 2), .ref (M 3), .int (wI ((sn σ : Int))), .ref (M 5), .ref (M 6), .ref (M 7), .ref (M 8), .ref (M 9), .ref (M 10), .ref (M 11), .ref (M 12), .ref (M 13), .ref (M 14), .ref (M 15)] := hM 0 _ rfl
  have hA1_n_1 : IA g H (M 1) 4 (fun j => wI (σ.1 j 0)) := hM 1 _ rfl
  have hA2_n_1 : IA g H (M 2) 4 (fun j => wI (σ.1 j 1)) := hM 2 _ rfl
  have hA3_n_1 : IA g H (M 3) 12 (fun j => wI (σ.1 (j / 3) (2 + j % 3))) := hM 3 _ rfl
  have hA5_n_1 : IA g H (M 5) 10 (fun j => wI (sp σ j 0)) := hM 4 _ rfl
  have hA6_n_1 : IA g H (M 6) 10 (fun j => wI (sp σ j 1)) := hM 5 _ rfl
  have hA7_n_1 : IA g H (M 7) 10 (fun j => wI (sp σ j 2)) := hM 6 _ rfl
  have hA8_n_1 : IA g H (M 8) 10 (fun j => wI (sp σ j 3)) := hM 7 _ rfl
  have hA9_n_1 : IA g H (M 9) 10 (fun j => wI (sp σ j 4)) := hM 8 _ rfl
  have hA10_n_1 : IA g H (M 10) 10 (fun j => wI (sp σ j 5)) := hM 9 _ rfl
  have hA11_n_1 : IA g H (M 11) 10 (fun j => wI (sp σ j 6)) := hM 10 _ rfl
  have hA12_n_1 : IA g H (M 12) 10 (fun j => wI ((sb σ j : Int))) := hM 11 _ rfl
  have hA13_n_1 : IA g H (M 13) 60 (fun j => wI (so σ (j / 6) (j % 6) 0)) := hM 12 _ rfl
  have hA14_n_1 : IA g H (M 14) 60 (fun j => wI (so σ (j / 6) (j % 6) 1)) := hM 13 _ rfl
  have hA15_n_1 : IA g H (M 15) 60 (fun j => wI (so σ (j / 6) (j % 6) 2)) := hM 14 _ rfl
  refine w_aload_n X dX4_homeTax_0 hl 0 rfl rfl ?_
  refine w_iload_n X dX4_homeTax_1 hl 1 rfl rfl ?_
  refine w_ir (va_runV (As := [.int (wI (i))]) (rest := []) X (c_X4_isAsked l g A H M hAM hMj (th) σ hM hσ (i) (by omega)) (cwV 1 X.2.2.2.2 gX4_homeTax_X4_isAsked rfl rfl rfl (by decide +kernel) ⟨(Nat.le_of_ble_eq_true rfl), (Nat.le_of_ble_eq_true rfl)⟩) (w_prV hE hEs hS hO_n_1 rfl) rfl rfl hl.1 rfl (lv_room (Nat.le_of_ble_eq_true rfl)) dX4_homeTax_2 ⟨(Nat.le_of_ble_eq_true rfl), (Nat.le_of_ble_eq_true rfl)⟩) hS (fun _ h => h) fun v_7 H_2 lo_3 hp_4 hz_5 hq_6 hS => ?_
  obtain ⟨rfl, hM_8⟩ := hp_4
  have qa_hM_8 := inS_spec 0 (i) ((sn σ : Int) - 1)
  have hO_n_9 : Ob g H_2 (M 0) 5 [.int (wI (1 - inS 0 (i) ((sn σ : Int) - 1))), .ref (M 1), .ref (M 2), .ref (M 3), .int (wI ((sn σ : Int))), .ref (M 5), .ref (M 6), .ref (M 7), .ref (M 8), .ref (M 9), .ref (M 10), .ref (M 11), .ref (M 12), .ref (M 13), .ref (M 14), .ref (M 15)] := hM_8 0 _ rfl
  have hA1_n_9 : IA g H_2 (M 1) 4 (fun j => wI (σ.1 j 0)) := hM_8 1 _ rfl
  have hA2_n_9 : IA g H_2 (M 2) 4 (fun j => wI (σ.1 j 1)) := hM_8 2 _ rfl
  have hA3_n_9 : IA g H_2 (M 3) 12 (fun j => wI (σ.1 (j / 3) (2 + j % 3))) := hM_8 3 _ rfl
  have hA5_n_9 : IA g H_2 (M 5) 10 (fun j => wI (sp σ j 0)) := hM_8 4 _ rfl
  have hA6_n_9 : IA g H_2 (M 6) 10 (fun j => wI (sp σ j 1)) := hM_8 5 _ rfl
  have hA7_n_9 : IA g H_2 (M 7) 10 (fun j => wI (sp σ j 2)) := hM_8 6 _ rfl
  have hA8_n_9 : IA g H_2 (M 8) 10 (fun j => wI (sp σ j 3)) := hM_8 7 _ rfl
  have hA9_n_9 : IA g H_2 (M 9) 10 (fun j => wI (sp σ j 4)) := hM_8 8 _ rfl
  have hA10_n_9 : IA g H_2 (M 10) 10 (fun j => wI (sp σ j 5)) := hM_8 9 _ rfl
  have hA11_n_9 : IA g H_2 (M 11) 10 (fun j => wI (sp σ j 6)) := hM_8 10 _ rfl
  have hA12_n_9 : IA g H_2 (M 12) 10 (fun j => wI ((sb σ j : Int))) := hM_8 11 _ rfl
  have hA13_n_9 : IA g H_2 (M 13) 60 (fun j => wI (so σ (j / 6) (j % 6) 0)) := hM_8 12 _ rfl
  have hA14_n_9 : IA g H_2 (M 14) 60 (fun j => wI (so σ (j / 6) (j % 6) 1)) := hM_8 13 _ rfl
  have hA15_n_9 : IA g H_2 (M 15) 60 (fun j => wI (so σ (j / 6) (j % 6) 2)) := hM_8 14 _ rfl
  refine w_if_eq X 16 dX4_homeTax_5 (by decide) (by omega) (fun c_10 => ?_) (fun c_10 => ?_)
  · skip
    refine w_iconst X dX4_homeTax_16 ?_
    exact w_irR X hr hk hS (ref_1 (by omega) rfl (ModAt.cast (ModAt.mk hO_n_9 hA1_n_9 hA2_n_9 hA3_n_9 hA5_n_9 hA6_n_9 hA7_n_9 hA8_n_9 hA9_n_9 hA10_n_9 hA11_n_9 hA12_n_9 hA13_n_9 hA14_n_9 hA15_n_9) (by omega : (1 - inS 0 (i) ((sn σ : Int) - 1) : Int) = 1))) dX4_homeTax_17 (Nat.le_of_ble_eq_true rfl) (Nat.le_of_ble_eq_true rfl)
  · skip
    refine w_aload_n X dX4_homeTax_8 hl 0 rfl rfl ?_
    refine w_iload_n X dX4_homeTax_9 hl 1 rfl rfl ?_
    refine w_callV (v := .int (wI (tahS (sH σ i.toNat) (sp σ i.toNat) (sb σ i.toNat) (so σ i.toNat)))) 1 X hE (c_X4_taxAtHome l g H_2 M (1 - inS 0 (i) ((sn σ : Int) - 1)) σ hM_8 hσ (i) (by omega)) hO_n_9 hl dX4_homeTax_10 gX4_homeTax_X4_taxAtHome rfl rfl (by decide +kernel) ⟨(Nat.le_of_ble_eq_true rfl), (Nat.le_of_ble_eq_true rfl)⟩ rfl rfl (Nat.le_of_ble_eq_true rfl) ⟨(Nat.le_of_ble_eq_true rfl), (Nat.le_of_ble_eq_true rfl)⟩ ?_
    refine w_goto X 17 dX4_homeTax_13 (by decide) ?_
    exact w_irR X hr hk hS (ref_y (y := tahS (sH σ i.toNat) (sp σ i.toNat) (sb σ i.toNat) (so σ i.toNat)) (by first | trivial | omega) (by first | trivial | omega) (by first | trivial | omega) rfl (ModAt.cast (ModAt.mk hO_n_9 hA1_n_9 hA2_n_9 hA3_n_9 hA5_n_9 hA6_n_9 hA7_n_9 hA8_n_9 hA9_n_9 hA10_n_9 hA11_n_9 hA12_n_9 hA13_n_9 hA14_n_9 hA15_n_9) (by omega : (1 - inS 0 (i) ((sn σ : Int) - 1) : Int) = 0))) dX4_homeTax_17 (Nat.le_of_ble_eq_true rfl) (Nat.le_of_ble_eq_true rfl)

set_option maxHeartbeats 4000000 in
set_option maxRecDepth 100000 in
theorem c_X4_hostIncome (l : Launch) (g : wG) (A : Nat → Prop) (H : Heap) (M : Nat → Nat) (hAM : ∀ k, k < 16 → k ≠ 4 → A (M k)) (hMj : AInj M) (th : Int) (σ : St) (hM : ModAt g H M th σ) (hσ : StGood σ) (i : Int) (hi : wR i) : ImpR l g A H yX4_hostIncome wsX4_hostIncome 3 69 0 0 [.ref (M 0), .int (wI (i))] (fun v H1 => v = .int (wI (stv (((0 : Int) ≤ i ∧ i < (sn σ : Int))) (True) (True) (aosS (sp σ i.toNat) (sb σ i.toNat) (so σ i.toNat)))) ∧ ModAt g H1 M (cd (((0 : Int) ≤ i ∧ i < (sn σ : Int))) (True) (True)) (stp (((0 : Int) ≤ i ∧ i < (sn σ : Int))) (True) (True) (σ) σ)) := by
  refine Imp.of (cc := cX4_hostIncome) (maxL := 2) (ret := (some .int)) (by decide) rfl (Nat.le_of_ble_eq_true rfl) ?_
  intro p9 e s m args below meth c X hE hEs hnm hr hk hS ls hl
  have hl : lv_has ls 2 [(0, .ref (M 0)), (1, .int (wI (i)))] := hl
  have hGd := hE.dis
  obtain ⟨hs1, hs2, hs3, hs4⟩ := id hσ
  have hO_n_1 : Ob g H (M 0) 5 [.int (wI (th)), .ref (M 1), .ref (M 2), .ref (M 3), .int (wI ((sn σ : Int))), .ref (M 5), .ref (M 6), .ref (M 7), .ref (M 8), .ref (M 9), .ref (M 10), .ref (M 11), .ref (M 12), .ref (M 13), .ref (M 14), .ref (M 15)] := hM 0 _ rfl
  have hA1_n_1 : IA g H (M 1) 4 (fun j => wI (σ.1 j 0)) := hM 1 _ rfl
  have hA2_n_1 : IA g H (M 2) 4 (fun j => wI (σ.1 j 1)) := hM 2 _ rfl
  have hA3_n_1 : IA g H (M 3) 12 (fun j => wI (σ.1 (j / 3) (2 + j % 3))) := hM 3 _ rfl
  have hA5_n_1 : IA g H (M 5) 10 (fun j => wI (sp σ j 0)) := hM 4 _ rfl
  have hA6_n_1 : IA g H (M 6) 10 (fun j => wI (sp σ j 1)) := hM 5 _ rfl
  have hA7_n_1 : IA g H (M 7) 10 (fun j => wI (sp σ j 2)) := hM 6 _ rfl
  have hA8_n_1 : IA g H (M 8) 10 (fun j => wI (sp σ j 3)) := hM 7 _ rfl
  have hA9_n_1 : IA g H (M 9) 10 (fun j => wI (sp σ j 4)) := hM 8 _ rfl
  have hA10_n_1 : IA g H (M 10) 10 (fun j => wI (sp σ j 5)) := hM 9 _ rfl
  have hA11_n_1 : IA g H (M 11) 10 (fun j => wI (sp σ j 6)) := hM 10 _ rfl
  have hA12_n_1 : IA g H (M 12) 10 (fun j => wI ((sb σ j : Int))) := hM 11 _ rfl
  have hA13_n_1 : IA g H (M 13) 60 (fun j => wI (so σ (j / 6) (j % 6) 0)) := hM 12 _ rfl
  have hA14_n_1 : IA g H (M 14) 60 (fun j => wI (so σ (j / 6) (j % 6) 1)) := hM 13 _ rfl
  have hA15_n_1 : IA g H (M 15) 60 (fun j => wI (so σ (j / 6) (j % 6) 2)) := hM 14 _ rfl
  refine w_aload_n X dX4_hostIncome_0 hl 0 rfl rfl ?_
  refine w_iload_n X dX4_hostIncome_1 hl 1 rfl rfl ?_
  refine w_ir (va_runV (As := [.int (wI (i))]) (rest := []) X (c_X4_isAsked l g A H M hAM hMj (th) σ hM hσ (i) (by omega)) (cwV 1 X.2.2.2.2 gX4_hostIncome_X4_isAsked rfl rfl rfl (by decide +kernel) ⟨(Nat.le_of_ble_eq_true rfl), (Nat.le_of_ble_eq_true rfl)⟩) (w_prV hE hEs hS hO_n_1 rfl) rfl rfl hl.1 rfl (lv_room (Nat.le_of_ble_eq_true rfl)) dX4_hostIncome_2 ⟨(Nat.le_of_ble_eq_true rfl), (Nat.le_of_ble_eq_true rfl)⟩) hS (fun _ h => h) fun v_7 H_2 lo_3 hp_4 hz_5 hq_6 hS => ?_
  obtain ⟨rfl, hM_8⟩ := hp_4
  have qa_hM_8 := inS_spec 0 (i) ((sn σ : Int) - 1)
  have hO_n_9 : Ob g H_2 (M 0) 5 [.int (wI (1 - inS 0 (i) ((sn σ : Int) - 1))), .ref (M 1), .ref (M 2), .ref (M 3), .int (wI ((sn σ : Int))), .ref (M 5), .ref (M 6), .ref (M 7), .ref (M 8), .ref (M 9), .ref (M 10), .ref (M 11), .ref (M 12), .ref (M 13), .ref (M 14), .ref (M 15)] := hM_8 0 _ rfl
  have hA1_n_9 : IA g H_2 (M 1) 4 (fun j => wI (σ.1 j 0)) := hM_8 1 _ rfl
  have hA2_n_9 : IA g H_2 (M 2) 4 (fun j => wI (σ.1 j 1)) := hM_8 2 _ rfl
  have hA3_n_9 : IA g H_2 (M 3) 12 (fun j => wI (σ.1 (j / 3) (2 + j % 3))) := hM_8 3 _ rfl
  have hA5_n_9 : IA g H_2 (M 5) 10 (fun j => wI (sp σ j 0)) := hM_8 4 _ rfl
  have hA6_n_9 : IA g H_2 (M 6) 10 (fun j => wI (sp σ j 1)) := hM_8 5 _ rfl
  have hA7_n_9 : IA g H_2 (M 7) 10 (fun j => wI (sp σ j 2)) := hM_8 6 _ rfl
  have hA8_n_9 : IA g H_2 (M 8) 10 (fun j => wI (sp σ j 3)) := hM_8 7 _ rfl
  have hA9_n_9 : IA g H_2 (M 9) 10 (fun j => wI (sp σ j 4)) := hM_8 8 _ rfl
  have hA10_n_9 : IA g H_2 (M 10) 10 (fun j => wI (sp σ j 5)) := hM_8 9 _ rfl
  have hA11_n_9 : IA g H_2 (M 11) 10 (fun j => wI (sp σ j 6)) := hM_8 10 _ rfl
  have hA12_n_9 : IA g H_2 (M 12) 10 (fun j => wI ((sb σ j : Int))) := hM_8 11 _ rfl
  have hA13_n_9 : IA g H_2 (M 13) 60 (fun j => wI (so σ (j / 6) (j % 6) 0)) := hM_8 12 _ rfl
  have hA14_n_9 : IA g H_2 (M 14) 60 (fun j => wI (so σ (j / 6) (j % 6) 1)) := hM_8 13 _ rfl
  have hA15_n_9 : IA g H_2 (M 15) 60 (fun j => wI (so σ (j / 6) (j % 6) 2)) := hM_8 14 _ rfl
  refine w_if_eq X 16 dX4_hostIncome_5 (by decide) (by omega) (fun c_10 => ?_) (fun c_10 => ?_)
  · skip
    refine w_iconst X dX4_hostIncome_16 ?_
    exact w_irR X hr hk hS (ref_1 (by omega) rfl (ModAt.cast (ModAt.mk hO_n_9 hA1_n_9 hA2_n_9 hA3_n_9 hA5_n_9 hA6_n_9 hA7_n_9 hA8_n_9 hA9_n_9 hA10_n_9 hA11_n_9 hA12_n_9 hA13_n_9 hA14_n_9 hA15_n_9) (by omega : (1 - inS 0 (i) ((sn σ : Int) - 1) : Int) = 1))) dX4_hostIncome_17 (Nat.le_of_ble_eq_true rfl) (Nat.le_of_ble_eq_true rfl)
  · skip
    refine w_aload_n X dX4_hostIncome_8 hl 0 rfl rfl ?_
    refine w_iload_n X dX4_hostIncome_9 hl 1 rfl rfl ?_
    refine w_callV (v := .int (wI (aosS (sp σ i.toNat) (sb σ i.toNat) (so σ i.toNat)))) 1 X hE (c_X4_abroad l g H_2 M (1 - inS 0 (i) ((sn σ : Int) - 1)) σ hM_8 hσ (i) (by omega)) hO_n_9 hl dX4_hostIncome_10 gX4_hostIncome_X4_abroad rfl rfl (by decide +kernel) ⟨(Nat.le_of_ble_eq_true rfl), (Nat.le_of_ble_eq_true rfl)⟩ rfl rfl (Nat.le_of_ble_eq_true rfl) ⟨(Nat.le_of_ble_eq_true rfl), (Nat.le_of_ble_eq_true rfl)⟩ ?_
    refine w_goto X 17 dX4_hostIncome_13 (by decide) ?_
    exact w_irR X hr hk hS (ref_y (y := aosS (sp σ i.toNat) (sb σ i.toNat) (so σ i.toNat)) (by first | trivial | omega) (by first | trivial | omega) (by first | trivial | omega) rfl (ModAt.cast (ModAt.mk hO_n_9 hA1_n_9 hA2_n_9 hA3_n_9 hA5_n_9 hA6_n_9 hA7_n_9 hA8_n_9 hA9_n_9 hA10_n_9 hA11_n_9 hA12_n_9 hA13_n_9 hA14_n_9 hA15_n_9) (by omega : (1 - inS 0 (i) ((sn σ : Int) - 1) : Int) = 0))) dX4_hostIncome_17 (Nat.le_of_ble_eq_true rfl) (Nat.le_of_ble_eq_true rfl)

set_option maxHeartbeats 4000000 in
set_option maxRecDepth 100000 in
theorem c_X4_borne (l : Launch) (g : wG) (A : Nat → Prop) (H : Heap) (M : Nat → Nat) (hAM : ∀ k, k < 16 → k ≠ 4 → A (M k)) (hMj : AInj M) (th : Int) (σ : St) (hM : ModAt g H M th σ) (hσ : StGood σ) (i : Int) (hi : wR i) : ImpR l g A H yX4_borne wsX4_borne 5 112 0 0 [.ref (M 0), .int (wI (i))] (fun v H1 => v = .int (wI (stv (((0 : Int) ≤ i ∧ i < (sn σ : Int))) (True) (True) (borS (sH σ i.toNat) (sp σ i.toNat) (sb σ i.toNat) (so σ i.toNat)))) ∧ ModAt g H1 M (cd (((0 : Int) ≤ i ∧ i < (sn σ : Int))) (True) (True)) (stp (((0 : Int) ≤ i ∧ i < (sn σ : Int))) (True) (True) (σ) σ)) := by
  refine Imp.of (cc := cX4_borne) (maxL := 2) (ret := (some .int)) (by decide) rfl (Nat.le_of_ble_eq_true rfl) ?_
  intro p9 e s m args below meth c X hE hEs hnm hr hk hS ls hl
  have hl : lv_has ls 2 [(0, .ref (M 0)), (1, .int (wI (i)))] := hl
  have hGd := hE.dis
  obtain ⟨hs1, hs2, hs3, hs4⟩ := id hσ
  have hO_n_1 : Ob g H (M 0) 5 [.int (wI (th)), .ref (M 1), .ref (M 2), .ref (M 3), .int (wI ((sn σ : Int))), .ref (M 5), .ref (M 6), .ref (M 7), .ref (M 8), .ref (M 9), .ref (M 10), .ref (M 11), .ref (M 12), .ref (M 13), .ref (M 14), .ref (M 15)] := hM 0 _ rfl
  have hA1_n_1 : IA g H (M 1) 4 (fun j => wI (σ.1 j 0)) := hM 1 _ rfl
  have hA2_n_1 : IA g H (M 2) 4 (fun j => wI (σ.1 j 1)) := hM 2 _ rfl
  have hA3_n_1 : IA g H (M 3) 12 (fun j => wI (σ.1 (j / 3) (2 + j % 3))) := hM 3 _ rfl
  have hA5_n_1 : IA g H (M 5) 10 (fun j => wI (sp σ j 0)) := hM 4 _ rfl
  have hA6_n_1 : IA g H (M 6) 10 (fun j => wI (sp σ j 1)) := hM 5 _ rfl
  have hA7_n_1 : IA g H (M 7) 10 (fun j => wI (sp σ j 2)) := hM 6 _ rfl
  have hA8_n_1 : IA g H (M 8) 10 (fun j => wI (sp σ j 3)) := hM 7 _ rfl
  have hA9_n_1 : IA g H (M 9) 10 (fun j => wI (sp σ j 4)) := hM 8 _ rfl
  have hA10_n_1 : IA g H (M 10) 10 (fun j => wI (sp σ j 5)) := hM 9 _ rfl
  have hA11_n_1 : IA g H (M 11) 10 (fun j => wI (sp σ j 6)) := hM 10 _ rfl
  have hA12_n_1 : IA g H (M 12) 10 (fun j => wI ((sb σ j : Int))) := hM 11 _ rfl
  have hA13_n_1 : IA g H (M 13) 60 (fun j => wI (so σ (j / 6) (j % 6) 0)) := hM 12 _ rfl
  have hA14_n_1 : IA g H (M 14) 60 (fun j => wI (so σ (j / 6) (j % 6) 1)) := hM 13 _ rfl
  have hA15_n_1 : IA g H (M 15) 60 (fun j => wI (so σ (j / 6) (j % 6) 2)) := hM 14 _ rfl
  refine w_aload_n X dX4_borne_0 hl 0 rfl rfl ?_
  refine w_iload_n X dX4_borne_1 hl 1 rfl rfl ?_
  refine w_ir (va_runV (As := [.int (wI (i))]) (rest := []) X (c_X4_isAsked l g A H M hAM hMj (th) σ hM hσ (i) (by omega)) (cwV 1 X.2.2.2.2 gX4_borne_X4_isAsked rfl rfl rfl (by decide +kernel) ⟨(Nat.le_of_ble_eq_true rfl), (Nat.le_of_ble_eq_true rfl)⟩) (w_prV hE hEs hS hO_n_1 rfl) rfl rfl hl.1 rfl (lv_room (Nat.le_of_ble_eq_true rfl)) dX4_borne_2 ⟨(Nat.le_of_ble_eq_true rfl), (Nat.le_of_ble_eq_true rfl)⟩) hS (fun _ h => h) fun v_7 H_2 lo_3 hp_4 hz_5 hq_6 hS => ?_
  obtain ⟨rfl, hM_8⟩ := hp_4
  have qa_hM_8 := inS_spec 0 (i) ((sn σ : Int) - 1)
  have hO_n_9 : Ob g H_2 (M 0) 5 [.int (wI (1 - inS 0 (i) ((sn σ : Int) - 1))), .ref (M 1), .ref (M 2), .ref (M 3), .int (wI ((sn σ : Int))), .ref (M 5), .ref (M 6), .ref (M 7), .ref (M 8), .ref (M 9), .ref (M 10), .ref (M 11), .ref (M 12), .ref (M 13), .ref (M 14), .ref (M 15)] := hM_8 0 _ rfl
  have hA1_n_9 : IA g H_2 (M 1) 4 (fun j => wI (σ.1 j 0)) := hM_8 1 _ rfl
  have hA2_n_9 : IA g H_2 (M 2) 4 (fun j => wI (σ.1 j 1)) := hM_8 2 _ rfl
  have hA3_n_9 : IA g H_2 (M 3) 12 (fun j => wI (σ.1 (j / 3) (2 + j % 3))) := hM_8 3 _ rfl
  have hA5_n_9 : IA g H_2 (M 5) 10 (fun j => wI (sp σ j 0)) := hM_8 4 _ rfl
  have hA6_n_9 : IA g H_2 (M 6) 10 (fun j => wI (sp σ j 1)) := hM_8 5 _ rfl
  have hA7_n_9 : IA g H_2 (M 7) 10 (fun j => wI (sp σ j 2)) := hM_8 6 _ rfl
  have hA8_n_9 : IA g H_2 (M 8) 10 (fun j => wI (sp σ j 3)) := hM_8 7 _ rfl
  have hA9_n_9 : IA g H_2 (M 9) 10 (fun j => wI (sp σ j 4)) := hM_8 8 _ rfl
  have hA10_n_9 : IA g H_2 (M 10) 10 (fun j => wI (sp σ j 5)) := hM_8 9 _ rfl
  have hA11_n_9 : IA g H_2 (M 11) 10 (fun j => wI (sp σ j 6)) := hM_8 10 _ rfl
  have hA12_n_9 : IA g H_2 (M 12) 10 (fun j => wI ((sb σ j : Int))) := hM_8 11 _ rfl
  have hA13_n_9 : IA g H_2 (M 13) 60 (fun j => wI (so σ (j / 6) (j % 6) 0)) := hM_8 12 _ rfl
  have hA14_n_9 : IA g H_2 (M 14) 60 (fun j => wI (so σ (j / 6) (j % 6) 1)) := hM_8 13 _ rfl
  have hA15_n_9 : IA g H_2 (M 15) 60 (fun j => wI (so σ (j / 6) (j % 6) 2)) := hM_8 14 _ rfl
  refine w_if_eq X 16 dX4_borne_5 (by decide) (by omega) (fun c_10 => ?_) (fun c_10 => ?_)
  · skip
    refine w_iconst X dX4_borne_16 ?_
    exact w_irR X hr hk hS (ref_1 (by omega) rfl (ModAt.cast (ModAt.mk hO_n_9 hA1_n_9 hA2_n_9 hA3_n_9 hA5_n_9 hA6_n_9 hA7_n_9 hA8_n_9 hA9_n_9 hA10_n_9 hA11_n_9 hA12_n_9 hA13_n_9 hA14_n_9 hA15_n_9) (by omega : (1 - inS 0 (i) ((sn σ : Int) - 1) : Int) = 1))) dX4_borne_17 (Nat.le_of_ble_eq_true rfl) (Nat.le_of_ble_eq_true rfl)
  · skip
    refine w_aload_n X dX4_borne_8 hl 0 rfl rfl ?_
    refine w_iload_n X dX4_borne_9 hl 1 rfl rfl ?_
    refine w_callV (v := .int (wI (borS (sH σ i.toNat) (sp σ i.toNat) (sb σ i.toNat) (so σ i.toNat)))) 1 X hE (c_X4_bears l g H_2 M (1 - inS 0 (i) ((sn σ : Int) - 1)) σ hM_8 hσ (i) (by omega)) hO_n_9 hl dX4_borne_10 gX4_borne_X4_bears rfl rfl (by decide +kernel) ⟨(Nat.le_of_ble_eq_true rfl), (Nat.le_of_ble_eq_true rfl)⟩ rfl rfl (Nat.le_of_ble_eq_true rfl) ⟨(Nat.le_of_ble_eq_true rfl), (Nat.le_of_ble_eq_true rfl)⟩ ?_
    refine w_goto X 17 dX4_borne_13 (by decide) ?_
    exact w_irR X hr hk hS (ref_y (y := borS (sH σ i.toNat) (sp σ i.toNat) (sb σ i.toNat) (so σ i.toNat)) (by first | trivial | omega) (by first | trivial | omega) (by first | trivial | omega) rfl (ModAt.cast (ModAt.mk hO_n_9 hA1_n_9 hA2_n_9 hA3_n_9 hA5_n_9 hA6_n_9 hA7_n_9 hA8_n_9 hA9_n_9 hA10_n_9 hA11_n_9 hA12_n_9 hA13_n_9 hA14_n_9 hA15_n_9) (by omega : (1 - inS 0 (i) ((sn σ : Int) - 1) : Int) = 0))) dX4_borne_17 (Nat.le_of_ble_eq_true rfl) (Nat.le_of_ble_eq_true rfl)

set_option maxHeartbeats 4000000 in
set_option maxRecDepth 100000 in
theorem c_X4_cost (l : Launch) (g : wG) (A : Nat → Prop) (H : Heap) (M : Nat → Nat) (hAM : ∀ k, k < 16 → k ≠ 4 → A (M k)) (hMj : AInj M) (th : Int) (σ : St) (hM : ModAt g H M th σ) (hσ : StGood σ) (i : Int) (hi : wR i) : ImpR l g A H yX4_cost wsX4_cost 6 133 0 0 [.ref (M 0), .int (wI (i))] (fun v H1 => v = .int (wI (stv (((0 : Int) ≤ i ∧ i < (sn σ : Int))) (True) (True) (cosS (sH σ i.toNat) (sT σ i.toNat) (sp σ i.toNat) (sb σ i.toNat) (so σ i.toNat)))) ∧ ModAt g H1 M (cd (((0 : Int) ≤ i ∧ i < (sn σ : Int))) (True) (True)) (stp (((0 : Int) ≤ i ∧ i < (sn σ : Int))) (True) (True) (σ) σ)) := by
  refine Imp.of (cc := cX4_cost) (maxL := 2) (ret := (some .int)) (by decide) rfl (Nat.le_of_ble_eq_true rfl) ?_
  intro p9 e s m args below meth c X hE hEs hnm hr hk hS ls hl
  have hl : lv_has ls 2 [(0, .ref (M 0)), (1, .int (wI (i)))] := hl
  have hGd := hE.dis
  obtain ⟨hs1, hs2, hs3, hs4⟩ := id hσ
  have hO_n_1 : Ob g H (M 0) 5 [.int (wI (th)), .ref (M 1), .ref (M 2), .ref (M 3), .int (wI ((sn σ : Int))), .ref (M 5), .ref (M 6), .ref (M 7), .ref (M 8), .ref (M 9), .ref (M 10), .ref (M 11), .ref (M 12), .ref (M 13), .ref (M 14), .ref (M 15)] := hM 0 _ rfl
  have hA1_n_1 : IA g H (M 1) 4 (fun j => wI (σ.1 j 0)) := hM 1 _ rfl
  have hA2_n_1 : IA g H (M 2) 4 (fun j => wI (σ.1 j 1)) := hM 2 _ rfl
  have hA3_n_1 : IA g H (M 3) 12 (fun j => wI (σ.1 (j / 3) (2 + j % 3))) := hM 3 _ rfl
  have hA5_n_1 : IA g H (M 5) 10 (fun j => wI (sp σ j 0)) := hM 4 _ rfl
  have hA6_n_1 : IA g H (M 6) 10 (fun j => wI (sp σ j 1)) := hM 5 _ rfl
  have hA7_n_1 : IA g H (M 7) 10 (fun j => wI (sp σ j 2)) := hM 6 _ rfl
  have hA8_n_1 : IA g H (M 8) 10 (fun j => wI (sp σ j 3)) := hM 7 _ rfl
  have hA9_n_1 : IA g H (M 9) 10 (fun j => wI (sp σ j 4)) := hM 8 _ rfl
  have hA10_n_1 : IA g H (M 10) 10 (fun j => wI (sp σ j 5)) := hM 9 _ rfl
  have hA11_n_1 : IA g H (M 11) 10 (fun j => wI (sp σ j 6)) := hM 10 _ rfl
  have hA12_n_1 : IA g H (M 12) 10 (fun j => wI ((sb σ j : Int))) := hM 11 _ rfl
  have hA13_n_1 : IA g H (M 13) 60 (fun j => wI (so σ (j / 6) (j % 6) 0)) := hM 12 _ rfl
  have hA14_n_1 : IA g H (M 14) 60 (fun j => wI (so σ (j / 6) (j % 6) 1)) := hM 13 _ rfl
  have hA15_n_1 : IA g H (M 15) 60 (fun j => wI (so σ (j / 6) (j % 6) 2)) := hM 14 _ rfl
  refine w_aload_n X dX4_cost_0 hl 0 rfl rfl ?_
  refine w_iload_n X dX4_cost_1 hl 1 rfl rfl ?_
  refine w_ir (va_runV (As := [.int (wI (i))]) (rest := []) X (c_X4_isAsked l g A H M hAM hMj (th) σ hM hσ (i) (by omega)) (cwV 1 X.2.2.2.2 gX4_cost_X4_isAsked rfl rfl rfl (by decide +kernel) ⟨(Nat.le_of_ble_eq_true rfl), (Nat.le_of_ble_eq_true rfl)⟩) (w_prV hE hEs hS hO_n_1 rfl) rfl rfl hl.1 rfl (lv_room (Nat.le_of_ble_eq_true rfl)) dX4_cost_2 ⟨(Nat.le_of_ble_eq_true rfl), (Nat.le_of_ble_eq_true rfl)⟩) hS (fun _ h => h) fun v_7 H_2 lo_3 hp_4 hz_5 hq_6 hS => ?_
  obtain ⟨rfl, hM_8⟩ := hp_4
  have qa_hM_8 := inS_spec 0 (i) ((sn σ : Int) - 1)
  have hO_n_9 : Ob g H_2 (M 0) 5 [.int (wI (1 - inS 0 (i) ((sn σ : Int) - 1))), .ref (M 1), .ref (M 2), .ref (M 3), .int (wI ((sn σ : Int))), .ref (M 5), .ref (M 6), .ref (M 7), .ref (M 8), .ref (M 9), .ref (M 10), .ref (M 11), .ref (M 12), .ref (M 13), .ref (M 14), .ref (M 15)] := hM_8 0 _ rfl
  have hA1_n_9 : IA g H_2 (M 1) 4 (fun j => wI (σ.1 j 0)) := hM_8 1 _ rfl
  have hA2_n_9 : IA g H_2 (M 2) 4 (fun j => wI (σ.1 j 1)) := hM_8 2 _ rfl
  have hA3_n_9 : IA g H_2 (M 3) 12 (fun j => wI (σ.1 (j / 3) (2 + j % 3))) := hM_8 3 _ rfl
  have hA5_n_9 : IA g H_2 (M 5) 10 (fun j => wI (sp σ j 0)) := hM_8 4 _ rfl
  have hA6_n_9 : IA g H_2 (M 6) 10 (fun j => wI (sp σ j 1)) := hM_8 5 _ rfl
  have hA7_n_9 : IA g H_2 (M 7) 10 (fun j => wI (sp σ j 2)) := hM_8 6 _ rfl
  have hA8_n_9 : IA g H_2 (M 8) 10 (fun j => wI (sp σ j 3)) := hM_8 7 _ rfl
  have hA9_n_9 : IA g H_2 (M 9) 10 (fun j => wI (sp σ j 4)) := hM_8 8 _ rfl
  have hA10_n_9 : IA g H_2 (M 10) 10 (fun j => wI (sp σ j 5)) := hM_8 9 _ rfl
  have hA11_n_9 : IA g H_2 (M 11) 10 (fun j => wI (sp σ j 6)) := hM_8 10 _ rfl
  have hA12_n_9 : IA g H_2 (M 12) 10 (fun j => wI ((sb σ j : Int))) := hM_8 11 _ rfl
  have hA13_n_9 : IA g H_2 (M 13) 60 (fun j => wI (so σ (j / 6) (j % 6) 0)) := hM_8 12 _ rfl
  have hA14_n_9 : IA g H_2 (M 14) 60 (fun j => wI (so σ (j / 6) (j % 6) 1)) := hM_8 13 _ rfl
  have hA15_n_9 : IA g H_2 (M 15) 60 (fun j => wI (so σ (j / 6) (j % 6) 2)) := hM_8 14 _ rfl
  refine w_if_eq X 16 dX4_cost_5 (by decide) (by omega) (fun c_10 => ?_) (fun c_10 => ?_)
  · skip
    refine w_iconst X dX4_cost_16 ?_
    exact w_irR X hr hk hS (ref_1 (by omega) rfl (ModAt.cast (ModAt.mk hO_n_9 hA1_n_9 hA2_n_9 hA3_n_9 hA5_n_9 hA6_n_9 hA7_n_9 hA8_n_9 hA9_n_9 hA10_n_9 hA11_n_9 hA12_n_9 hA13_n_9 hA14_n_9 hA15_n_9) (by omega : (1 - inS 0 (i) ((sn σ : Int) - 1) : Int) = 1))) dX4_cost_17 (Nat.le_of_ble_eq_true rfl) (Nat.le_of_ble_eq_true rfl)
  · skip
    refine w_aload_n X dX4_cost_8 hl 0 rfl rfl ?_
    refine w_iload_n X dX4_cost_9 hl 1 rfl rfl ?_
    refine w_callV (v := .int (wI (cosS (sH σ i.toNat) (sT σ i.toNat) (sp σ i.toNat) (sb σ i.toNat) (so σ i.toNat)))) 1 X hE (c_X4_costOf l g H_2 M (1 - inS 0 (i) ((sn σ : Int) - 1)) σ hM_8 hσ (i) (by omega)) hO_n_9 hl dX4_cost_10 gX4_cost_X4_costOf rfl rfl (by decide +kernel) ⟨(Nat.le_of_ble_eq_true rfl), (Nat.le_of_ble_eq_true rfl)⟩ rfl rfl (Nat.le_of_ble_eq_true rfl) ⟨(Nat.le_of_ble_eq_true rfl), (Nat.le_of_ble_eq_true rfl)⟩ ?_
    refine w_goto X 17 dX4_cost_13 (by decide) ?_
    exact w_irR X hr hk hS (ref_y (y := cosS (sH σ i.toNat) (sT σ i.toNat) (sp σ i.toNat) (sb σ i.toNat) (so σ i.toNat)) (by first | trivial | omega) (by first | trivial | omega) (by first | trivial | omega) rfl (ModAt.cast (ModAt.mk hO_n_9 hA1_n_9 hA2_n_9 hA3_n_9 hA5_n_9 hA6_n_9 hA7_n_9 hA8_n_9 hA9_n_9 hA10_n_9 hA11_n_9 hA12_n_9 hA13_n_9 hA14_n_9 hA15_n_9) (by omega : (1 - inS 0 (i) ((sn σ : Int) - 1) : Int) = 0))) dX4_cost_17 (Nat.le_of_ble_eq_true rfl) (Nat.le_of_ble_eq_true rfl)

set_option maxHeartbeats 4000000 in
set_option maxRecDepth 100000 in
theorem c_X4_settlement (l : Launch) (g : wG) (A : Nat → Prop) (H : Heap) (M : Nat → Nat) (hAM : ∀ k, k < 16 → k ≠ 4 → A (M k)) (hMj : AInj M) (th : Int) (σ : St) (hM : ModAt g H M th σ) (hσ : StGood σ) (i : Int) (hi : wR i) : ImpR l g A H yX4_settlement wsX4_settlement 5 112 0 0 [.ref (M 0), .int (wI (i))] (fun v H1 => v = .int (wI (stv (((0 : Int) ≤ i ∧ i < (sn σ : Int))) (True) (True) (setS (sH σ i.toNat) (sp σ i.toNat) (sb σ i.toNat) (so σ i.toNat)))) ∧ ModAt g H1 M (cd (((0 : Int) ≤ i ∧ i < (sn σ : Int))) (True) (True)) (stp (((0 : Int) ≤ i ∧ i < (sn σ : Int))) (True) (True) (σ) σ)) := by
  refine Imp.of (cc := cX4_settlement) (maxL := 2) (ret := (some .int)) (by decide) rfl (Nat.le_of_ble_eq_true rfl) ?_
  intro p9 e s m args below meth c X hE hEs hnm hr hk hS ls hl
  have hl : lv_has ls 2 [(0, .ref (M 0)), (1, .int (wI (i)))] := hl
  have hGd := hE.dis
  obtain ⟨hs1, hs2, hs3, hs4⟩ := id hσ
  have hO_n_1 : Ob g H (M 0) 5 [.int (wI (th)), .ref (M 1), .ref (M 2), .ref (M 3), .int (wI ((sn σ : Int))), .ref (M 5), .ref (M 6), .ref (M 7), .ref (M 8), .ref (M 9), .ref (M 10), .ref (M 11), .ref (M 12), .ref (M 13), .ref (M 14), .ref (M 15)] := hM 0 _ rfl
  have hA1_n_1 : IA g H (M 1) 4 (fun j => wI (σ.1 j 0)) := hM 1 _ rfl
  have hA2_n_1 : IA g H (M 2) 4 (fun j => wI (σ.1 j 1)) := hM 2 _ rfl
  have hA3_n_1 : IA g H (M 3) 12 (fun j => wI (σ.1 (j / 3) (2 + j % 3))) := hM 3 _ rfl
  have hA5_n_1 : IA g H (M 5) 10 (fun j => wI (sp σ j 0)) := hM 4 _ rfl
  have hA6_n_1 : IA g H (M 6) 10 (fun j => wI (sp σ j 1)) := hM 5 _ rfl
  have hA7_n_1 : IA g H (M 7) 10 (fun j => wI (sp σ j 2)) := hM 6 _ rfl
  have hA8_n_1 : IA g H (M 8) 10 (fun j => wI (sp σ j 3)) := hM 7 _ rfl
  have hA9_n_1 : IA g H (M 9) 10 (fun j => wI (sp σ j 4)) := hM 8 _ rfl
  have hA10_n_1 : IA g H (M 10) 10 (fun j => wI (sp σ j 5)) := hM 9 _ rfl
  have hA11_n_1 : IA g H (M 11) 10 (fun j => wI (sp σ j 6)) := hM 10 _ rfl
  have hA12_n_1 : IA g H (M 12) 10 (fun j => wI ((sb σ j : Int))) := hM 11 _ rfl
  have hA13_n_1 : IA g H (M 13) 60 (fun j => wI (so σ (j / 6) (j % 6) 0)) := hM 12 _ rfl
  have hA14_n_1 : IA g H (M 14) 60 (fun j => wI (so σ (j / 6) (j % 6) 1)) := hM 13 _ rfl
  have hA15_n_1 : IA g H (M 15) 60 (fun j => wI (so σ (j / 6) (j % 6) 2)) := hM 14 _ rfl
  refine w_aload_n X dX4_settlement_0 hl 0 rfl rfl ?_
  refine w_iload_n X dX4_settlement_1 hl 1 rfl rfl ?_
  refine w_ir (va_runV (As := [.int (wI (i))]) (rest := []) X (c_X4_isAsked l g A H M hAM hMj (th) σ hM hσ (i) (by omega)) (cwV 1 X.2.2.2.2 gX4_settlement_X4_isAsked rfl rfl rfl (by decide +kernel) ⟨(Nat.le_of_ble_eq_true rfl), (Nat.le_of_ble_eq_true rfl)⟩) (w_prV hE hEs hS hO_n_1 rfl) rfl rfl hl.1 rfl (lv_room (Nat.le_of_ble_eq_true rfl)) dX4_settlement_2 ⟨(Nat.le_of_ble_eq_true rfl), (Nat.le_of_ble_eq_true rfl)⟩) hS (fun _ h => h) fun v_7 H_2 lo_3 hp_4 hz_5 hq_6 hS => ?_
  obtain ⟨rfl, hM_8⟩ := hp_4
  have qa_hM_8 := inS_spec 0 (i) ((sn σ : Int) - 1)
  have hO_n_9 : Ob g H_2 (M 0) 5 [.int (wI (1 - inS 0 (i) ((sn σ : Int) - 1))), .ref (M 1), .ref (M 2), .ref (M 3), .int (wI ((sn σ : Int))), .ref (M 5), .ref (M 6), .ref (M 7), .ref (M 8), .ref (M 9), .ref (M 10), .ref (M 11), .ref (M 12), .ref (M 13), .ref (M 14), .ref (M 15)] := hM_8 0 _ rfl
  have hA1_n_9 : IA g H_2 (M 1) 4 (fun j => wI (σ.1 j 0)) := hM_8 1 _ rfl
  have hA2_n_9 : IA g H_2 (M 2) 4 (fun j => wI (σ.1 j 1)) := hM_8 2 _ rfl
  have hA3_n_9 : IA g H_2 (M 3) 12 (fun j => wI (σ.1 (j / 3) (2 + j % 3))) := hM_8 3 _ rfl
  have hA5_n_9 : IA g H_2 (M 5) 10 (fun j => wI (sp σ j 0)) := hM_8 4 _ rfl
  have hA6_n_9 : IA g H_2 (M 6) 10 (fun j => wI (sp σ j 1)) := hM_8 5 _ rfl
  have hA7_n_9 : IA g H_2 (M 7) 10 (fun j => wI (sp σ j 2)) := hM_8 6 _ rfl
  have hA8_n_9 : IA g H_2 (M 8) 10 (fun j => wI (sp σ j 3)) := hM_8 7 _ rfl
  have hA9_n_9 : IA g H_2 (M 9) 10 (fun j => wI (sp σ j 4)) := hM_8 8 _ rfl
  have hA10_n_9 : IA g H_2 (M 10) 10 (fun j => wI (sp σ j 5)) := hM_8 9 _ rfl
  have hA11_n_9 : IA g H_2 (M 11) 10 (fun j => wI (sp σ j 6)) := hM_8 10 _ rfl
  have hA12_n_9 : IA g H_2 (M 12) 10 (fun j => wI ((sb σ j : Int))) := hM_8 11 _ rfl
  have hA13_n_9 : IA g H_2 (M 13) 60 (fun j => wI (so σ (j / 6) (j % 6) 0)) := hM_8 12 _ rfl
  have hA14_n_9 : IA g H_2 (M 14) 60 (fun j => wI (so σ (j / 6) (j % 6) 1)) := hM_8 13 _ rfl
  have hA15_n_9 : IA g H_2 (M 15) 60 (fun j => wI (so σ (j / 6) (j % 6) 2)) := hM_8 14 _ rfl
  refine w_if_eq X 22 dX4_settlement_5 (by decide) (by omega) (fun c_10 => ?_) (fun c_10 => ?_)
  · skip
    refine w_iconst X dX4_settlement_22 ?_
    exact w_irR X hr hk hS (ref_1 (by omega) rfl (ModAt.cast (ModAt.mk hO_n_9 hA1_n_9 hA2_n_9 hA3_n_9 hA5_n_9 hA6_n_9 hA7_n_9 hA8_n_9 hA9_n_9 hA10_n_9 hA11_n_9 hA12_n_9 hA13_n_9 hA14_n_9 hA15_n_9) (by omega : (1 - inS 0 (i) ((sn σ : Int) - 1) : Int) = 1))) dX4_settlement_23 (Nat.le_of_ble_eq_true rfl) (Nat.le_of_ble_eq_true rfl)
  · skip
    refine w_aload_n X dX4_settlement_8 hl 0 rfl rfl ?_
    refine w_iload_n X dX4_settlement_9 hl 1 rfl rfl ?_
    refine w_callV (v := .int (wI (supS (sH σ i.toNat) (sp σ i.toNat) (sb σ i.toNat) (so σ i.toNat)))) 1 X hE (c_X4_supposed l g H_2 M (1 - inS 0 (i) ((sn σ : Int) - 1)) σ hM_8 hσ (i) (by omega)) hO_n_9 hl dX4_settlement_10 gX4_settlement_X4_supposed rfl rfl (by decide +kernel) ⟨(Nat.le_of_ble_eq_true rfl), (Nat.le_of_ble_eq_true rfl)⟩ rfl rfl (Nat.le_of_ble_eq_true rfl) ⟨(Nat.le_of_ble_eq_true rfl), (Nat.le_of_ble_eq_true rfl)⟩ ?_
    refine w_aload_n X dX4_settlement_13 hl 0 rfl rfl ?_
    refine w_iload_n X dX4_settlement_14 hl 1 rfl rfl ?_
    refine w_callV (v := .int (wI (borS (sH σ i.toNat) (sp σ i.toNat) (sb σ i.toNat) (so σ i.toNat)))) 1 X hE (c_X4_bears l g H_2 M (1 - inS 0 (i) ((sn σ : Int) - 1)) σ hM_8 hσ (i) (by omega)) hO_n_9 hl dX4_settlement_15 gX4_settlement_X4_bears rfl rfl (by decide +kernel) ⟨(Nat.le_of_ble_eq_true rfl), (Nat.le_of_ble_eq_true rfl)⟩ rfl rfl (Nat.le_of_ble_eq_true rfl) ⟨(Nat.le_of_ble_eq_true rfl), (Nat.le_of_ble_eq_true rfl)⟩ ?_
    refine w_isub X dX4_settlement_18 fun z_11 ez_11 => ?_
    refine w_goto X 23 dX4_settlement_19 (by decide) ?_
    exact w_irR X hr hk hS (ref_y (y := z_11) (by first | trivial | omega) (by first | trivial | omega) (by first | trivial | omega) (by unfold setS; omega) (ModAt.cast (ModAt.mk hO_n_9 hA1_n_9 hA2_n_9 hA3_n_9 hA5_n_9 hA6_n_9 hA7_n_9 hA8_n_9 hA9_n_9 hA10_n_9 hA11_n_9 hA12_n_9 hA13_n_9 hA14_n_9 hA15_n_9) (by omega : (1 - inS 0 (i) ((sn σ : Int) - 1) : Int) = 0))) dX4_settlement_23 (Nat.le_of_ble_eq_true rfl) (Nat.le_of_ble_eq_true rfl)

set_option maxHeartbeats 4000000 in
set_option maxRecDepth 100000 in
theorem c_X4_hostTax (l : Launch) (g : wG) (A : Nat → Prop) (H : Heap) (M : Nat → Nat) (hAM : ∀ k, k < 16 → k ≠ 4 → A (M k)) (hMj : AInj M) (th : Int) (σ : St) (hM : ModAt g H M th σ) (hσ : StGood σ) (i : Int) (hi : wR i) : ImpR l g A H yX4_hostTax wsX4_hostTax 3 69 0 0 [.ref (M 0), .int (wI (i))] (fun v H1 => v = .int (wI (stv (((0 : Int) ≤ i ∧ i < (sn σ : Int))) (True) (True) (taoS (sT σ i.toNat) (sp σ i.toNat) (sb σ i.toNat) (so σ i.toNat)))) ∧ ModAt g H1 M (cd (((0 : Int) ≤ i ∧ i < (sn σ : Int))) (True) (True)) (stp (((0 : Int) ≤ i ∧ i < (sn σ : Int))) (True) (True) (σ) σ)) := by
  refine Imp.of (cc := cX4_hostTax) (maxL := 2) (ret := (some .int)) (by decide) rfl (Nat.le_of_ble_eq_true rfl) ?_
  intro p9 e s m args below meth c X hE hEs hnm hr hk hS ls hl
  have hl : lv_has ls 2 [(0, .ref (M 0)), (1, .int (wI (i)))] := hl
  have hin_RX4 : ∀ w ∈ u_ws RX4 TX4 16, w ∈ wsX4_hostTax := by decide +kernel
  have hGd := hE.dis
  obtain ⟨hs1, hs2, hs3, hs4⟩ := id hσ
  have hO_n_1 : Ob g H (M 0) 5 [.int (wI (th)), .ref (M 1), .ref (M 2), .ref (M 3), .int (wI ((sn σ : Int))), .ref (M 5), .ref (M 6), .ref (M 7), .ref (M 8), .ref (M 9), .ref (M 10), .ref (M 11), .ref (M 12), .ref (M 13), .ref (M 14), .ref (M 15)] := hM 0 _ rfl
  have hA1_n_1 : IA g H (M 1) 4 (fun j => wI (σ.1 j 0)) := hM 1 _ rfl
  have hA2_n_1 : IA g H (M 2) 4 (fun j => wI (σ.1 j 1)) := hM 2 _ rfl
  have hA3_n_1 : IA g H (M 3) 12 (fun j => wI (σ.1 (j / 3) (2 + j % 3))) := hM 3 _ rfl
  have hA5_n_1 : IA g H (M 5) 10 (fun j => wI (sp σ j 0)) := hM 4 _ rfl
  have hA6_n_1 : IA g H (M 6) 10 (fun j => wI (sp σ j 1)) := hM 5 _ rfl
  have hA7_n_1 : IA g H (M 7) 10 (fun j => wI (sp σ j 2)) := hM 6 _ rfl
  have hA8_n_1 : IA g H (M 8) 10 (fun j => wI (sp σ j 3)) := hM 7 _ rfl
  have hA9_n_1 : IA g H (M 9) 10 (fun j => wI (sp σ j 4)) := hM 8 _ rfl
  have hA10_n_1 : IA g H (M 10) 10 (fun j => wI (sp σ j 5)) := hM 9 _ rfl
  have hA11_n_1 : IA g H (M 11) 10 (fun j => wI (sp σ j 6)) := hM 10 _ rfl
  have hA12_n_1 : IA g H (M 12) 10 (fun j => wI ((sb σ j : Int))) := hM 11 _ rfl
  have hA13_n_1 : IA g H (M 13) 60 (fun j => wI (so σ (j / 6) (j % 6) 0)) := hM 12 _ rfl
  have hA14_n_1 : IA g H (M 14) 60 (fun j => wI (so σ (j / 6) (j % 6) 1)) := hM 13 _ rfl
  have hA15_n_1 : IA g H (M 15) 60 (fun j => wI (so σ (j / 6) (j % 6) 2)) := hM 14 _ rfl
  refine w_aload_n X dX4_hostTax_0 hl 0 rfl rfl ?_
  refine w_iload_n X dX4_hostTax_1 hl 1 rfl rfl ?_
  refine w_ir (va_runV (As := [.int (wI (i))]) (rest := []) X (c_X4_isAsked l g A H M hAM hMj (th) σ hM hσ (i) (by omega)) (cwV 1 X.2.2.2.2 gX4_hostTax_X4_isAsked rfl rfl rfl (by decide +kernel) ⟨(Nat.le_of_ble_eq_true rfl), (Nat.le_of_ble_eq_true rfl)⟩) (w_prV hE hEs hS hO_n_1 rfl) rfl rfl hl.1 rfl (lv_room (Nat.le_of_ble_eq_true rfl)) dX4_hostTax_2 ⟨(Nat.le_of_ble_eq_true rfl), (Nat.le_of_ble_eq_true rfl)⟩) hS (fun _ h => h) fun v_7 H_2 lo_3 hp_4 hz_5 hq_6 hS => ?_
  obtain ⟨rfl, hM_8⟩ := hp_4
  have qa_hM_8 := inS_spec 0 (i) ((sn σ : Int) - 1)
  have hO_n_9 : Ob g H_2 (M 0) 5 [.int (wI (1 - inS 0 (i) ((sn σ : Int) - 1))), .ref (M 1), .ref (M 2), .ref (M 3), .int (wI ((sn σ : Int))), .ref (M 5), .ref (M 6), .ref (M 7), .ref (M 8), .ref (M 9), .ref (M 10), .ref (M 11), .ref (M 12), .ref (M 13), .ref (M 14), .ref (M 15)] := hM_8 0 _ rfl
  have hA1_n_9 : IA g H_2 (M 1) 4 (fun j => wI (σ.1 j 0)) := hM_8 1 _ rfl
  have hA2_n_9 : IA g H_2 (M 2) 4 (fun j => wI (σ.1 j 1)) := hM_8 2 _ rfl
  have hA3_n_9 : IA g H_2 (M 3) 12 (fun j => wI (σ.1 (j / 3) (2 + j % 3))) := hM_8 3 _ rfl
  have hA5_n_9 : IA g H_2 (M 5) 10 (fun j => wI (sp σ j 0)) := hM_8 4 _ rfl
  have hA6_n_9 : IA g H_2 (M 6) 10 (fun j => wI (sp σ j 1)) := hM_8 5 _ rfl
  have hA7_n_9 : IA g H_2 (M 7) 10 (fun j => wI (sp σ j 2)) := hM_8 6 _ rfl
  have hA8_n_9 : IA g H_2 (M 8) 10 (fun j => wI (sp σ j 3)) := hM_8 7 _ rfl
  have hA9_n_9 : IA g H_2 (M 9) 10 (fun j => wI (sp σ j 4)) := hM_8 8 _ rfl
  have hA10_n_9 : IA g H_2 (M 10) 10 (fun j => wI (sp σ j 5)) := hM_8 9 _ rfl
  have hA11_n_9 : IA g H_2 (M 11) 10 (fun j => wI (sp σ j 6)) := hM_8 10 _ rfl
  have hA12_n_9 : IA g H_2 (M 12) 10 (fun j => wI ((sb σ j : Int))) := hM_8 11 _ rfl
  have hA13_n_9 : IA g H_2 (M 13) 60 (fun j => wI (so σ (j / 6) (j % 6) 0)) := hM_8 12 _ rfl
  have hA14_n_9 : IA g H_2 (M 14) 60 (fun j => wI (so σ (j / 6) (j % 6) 1)) := hM_8 13 _ rfl
  have hA15_n_9 : IA g H_2 (M 15) 60 (fun j => wI (so σ (j / 6) (j % 6) 2)) := hM_8 14 _ rfl
  refine w_if_eq X 27 dX4_hostTax_5 (by decide) (by omega) (fun c_10 => ?_) (fun c_10 => ?_)
  · skip
    refine w_iconst X dX4_hostTax_27 ?_
    exact w_irR X hr hk hS (ref_1 (by omega) rfl (ModAt.cast (ModAt.mk hO_n_9 hA1_n_9 hA2_n_9 hA3_n_9 hA5_n_9 hA6_n_9 hA7_n_9 hA8_n_9 hA9_n_9 hA10_n_9 hA11_n_9 hA12_n_9 hA13_n_9 hA14_n_9 hA15_n_9) (by omega : (1 - inS 0 (i) ((sn σ : Int) - 1) : Int) = 1))) dX4_hostTax_28 (Nat.le_of_ble_eq_true rfl) (Nat.le_of_ble_eq_true rfl)
  · skip
    have hx0 := hs3 i.toNat (by omega)
    refine w_aload_n X dX4_hostTax_8 hl 0 rfl rfl ?_
    refine w_aload_n X dX4_hostTax_9 hl 0 rfl rfl ?_
    refine w_get X hE hO_n_9 6 dX4_hostTax_10 rfl hin_RX4 (by decide) (by decide +kernel) rfl rfl ?_
    refine w_iload_n X dX4_hostTax_13 hl 1 rfl rfl ?_
    refine w_iald (y := wI (sp σ (i).toNat 1)) X hE hA6_n_9 dX4_hostTax_14 (by omega) (by omega) (by omega) rfl ?_
    refine w_aload_n X dX4_hostTax_15 hl 0 rfl rfl ?_
    refine w_iload_n X dX4_hostTax_16 hl 1 rfl rfl ?_
    refine w_callV (v := .int (wI (aosS (sp σ i.toNat) (sb σ i.toNat) (so σ i.toNat)))) 1 X hE (c_X4_abroad l g H_2 M (1 - inS 0 (i) ((sn σ : Int) - 1)) σ hM_8 hσ (i) (by omega)) hO_n_9 hl dX4_hostTax_17 gX4_hostTax_X4_abroad rfl rfl (by decide +kernel) ⟨(Nat.le_of_ble_eq_true rfl), (Nat.le_of_ble_eq_true rfl)⟩ rfl rfl (Nat.le_of_ble_eq_true rfl) ⟨(Nat.le_of_ble_eq_true rfl), (Nat.le_of_ble_eq_true rfl)⟩ ?_
    have hx1 := aos_bd hx0.1
    refine w_i2l X dX4_hostTax_20 (by omega) ?_
    refine w_callV (v := .int (wI (grossS (σ.1 (sp σ (i).toNat 1).toNat) (aosS (sp σ i.toNat) (sb σ i.toNat) (so σ i.toNat))))) 2 X hE (c_X4_gross l g H_2 M (1 - inS 0 (i) ((sn σ : Int) - 1)) σ hM_8 hσ (sp σ (i).toNat 1) (by omega) (aosS (sp σ i.toNat) (sb σ i.toNat) (so σ i.toNat)) (by omega)) hO_n_9 hl dX4_hostTax_21 gX4_hostTax_X4_gross rfl rfl (by decide +kernel) ⟨(Nat.le_of_ble_eq_true rfl), (Nat.le_of_ble_eq_true rfl)⟩ rfl rfl (Nat.le_of_ble_eq_true rfl) ⟨(Nat.le_of_ble_eq_true rfl), (Nat.le_of_ble_eq_true rfl)⟩ ?_
    refine w_goto X 28 dX4_hostTax_24 (by decide) ?_
    exact w_irR X hr hk hS (ref_y (y := grossS (σ.1 (sp σ (i).toNat 1).toNat) (aosS (sp σ i.toNat) (sb σ i.toNat) (so σ i.toNat))) (by first | trivial | omega) (by first | trivial | omega) (by first | trivial | omega) rfl (ModAt.cast (ModAt.mk hO_n_9 hA1_n_9 hA2_n_9 hA3_n_9 hA5_n_9 hA6_n_9 hA7_n_9 hA8_n_9 hA9_n_9 hA10_n_9 hA11_n_9 hA12_n_9 hA13_n_9 hA14_n_9 hA15_n_9) (by omega : (1 - inS 0 (i) ((sn σ : Int) - 1) : Int) = 0))) dX4_hostTax_28 (Nat.le_of_ble_eq_true rfl) (Nat.le_of_ble_eq_true rfl)

set_option maxHeartbeats 4000000 in
set_option maxRecDepth 100000 in
theorem c_X4_held (l : Launch) (g : wG) (A : Nat → Prop) (H : Heap) (M : Nat → Nat) (hAM : ∀ k, k < 16 → k ≠ 4 → A (M k)) (hMj : AInj M) (th : Int) (σ : St) (hM : ModAt g H M th σ) (hσ : StGood σ) (i a : Int) (hi : wR i) (ha : wR a) : ImpR l g A H yX4_held wsX4_held 2 50 0 0 [.ref (M 0), .int (wI (i)), .int (wI (a))] (fun v H1 => v = .int (wI (stv (((0 : Int) ≤ i ∧ i < (sn σ : Int))) ((0 ≤ a ∧ a ≤ 11)) (True) (if sp σ i.toNat 3 ≤ a ∧ a < sp σ i.toNat 4 then heldS (sH σ i.toNat) (sp σ i.toNat) else 0))) ∧ ModAt g H1 M (cd (((0 : Int) ≤ i ∧ i < (sn σ : Int))) ((0 ≤ a ∧ a ≤ 11)) (True)) (stp (((0 : Int) ≤ i ∧ i < (sn σ : Int))) ((0 ≤ a ∧ a ≤ 11)) (True) (σ) σ)) := by
  refine Imp.of (cc := cX4_held) (maxL := 3) (ret := (some .int)) (by decide) rfl (Nat.le_of_ble_eq_true rfl) ?_
  intro p9 e s m args below meth c X hE hEs hnm hr hk hS ls hl
  have hl : lv_has ls 3 [(0, .ref (M 0)), (1, .int (wI (i))), (2, .int (wI (a)))] := hl
  have hin_RX4 : ∀ w ∈ u_ws RX4 TX4 16, w ∈ wsX4_held := by decide +kernel
  have hGd := hE.dis
  obtain ⟨hs1, hs2, hs3, hs4⟩ := id hσ
  have hO_n_1 : Ob g H (M 0) 5 [.int (wI (th)), .ref (M 1), .ref (M 2), .ref (M 3), .int (wI ((sn σ : Int))), .ref (M 5), .ref (M 6), .ref (M 7), .ref (M 8), .ref (M 9), .ref (M 10), .ref (M 11), .ref (M 12), .ref (M 13), .ref (M 14), .ref (M 15)] := hM 0 _ rfl
  have hA1_n_1 : IA g H (M 1) 4 (fun j => wI (σ.1 j 0)) := hM 1 _ rfl
  have hA2_n_1 : IA g H (M 2) 4 (fun j => wI (σ.1 j 1)) := hM 2 _ rfl
  have hA3_n_1 : IA g H (M 3) 12 (fun j => wI (σ.1 (j / 3) (2 + j % 3))) := hM 3 _ rfl
  have hA5_n_1 : IA g H (M 5) 10 (fun j => wI (sp σ j 0)) := hM 4 _ rfl
  have hA6_n_1 : IA g H (M 6) 10 (fun j => wI (sp σ j 1)) := hM 5 _ rfl
  have hA7_n_1 : IA g H (M 7) 10 (fun j => wI (sp σ j 2)) := hM 6 _ rfl
  have hA8_n_1 : IA g H (M 8) 10 (fun j => wI (sp σ j 3)) := hM 7 _ rfl
  have hA9_n_1 : IA g H (M 9) 10 (fun j => wI (sp σ j 4)) := hM 8 _ rfl
  have hA10_n_1 : IA g H (M 10) 10 (fun j => wI (sp σ j 5)) := hM 9 _ rfl
  have hA11_n_1 : IA g H (M 11) 10 (fun j => wI (sp σ j 6)) := hM 10 _ rfl
  have hA12_n_1 : IA g H (M 12) 10 (fun j => wI ((sb σ j : Int))) := hM 11 _ rfl
  have hA13_n_1 : IA g H (M 13) 60 (fun j => wI (so σ (j / 6) (j % 6) 0)) := hM 12 _ rfl
  have hA14_n_1 : IA g H (M 14) 60 (fun j => wI (so σ (j / 6) (j % 6) 1)) := hM 13 _ rfl
  have hA15_n_1 : IA g H (M 15) 60 (fun j => wI (so σ (j / 6) (j % 6) 2)) := hM 14 _ rfl
  refine w_aload_n X dX4_held_0 hl 0 rfl rfl ?_
  refine w_iload_n X dX4_held_1 hl 1 rfl rfl ?_
  refine w_ir (va_runV (As := [.int (wI (i))]) (rest := []) X (c_X4_isAsked l g A H M hAM hMj (th) σ hM hσ (i) (by omega)) (cwV 1 X.2.2.2.2 gX4_held_X4_isAsked rfl rfl rfl (by decide +kernel) ⟨(Nat.le_of_ble_eq_true rfl), (Nat.le_of_ble_eq_true rfl)⟩) (w_prV hE hEs hS hO_n_1 rfl) rfl rfl hl.1 rfl (lv_room (Nat.le_of_ble_eq_true rfl)) dX4_held_2 ⟨(Nat.le_of_ble_eq_true rfl), (Nat.le_of_ble_eq_true rfl)⟩) hS (fun _ h => h) fun v_7 H_2 lo_3 hp_4 hz_5 hq_6 hS => ?_
  obtain ⟨rfl, hM_8⟩ := hp_4
  have qa_hM_8 := inS_spec 0 (i) ((sn σ : Int) - 1)
  have hO_n_9 : Ob g H_2 (M 0) 5 [.int (wI (1 - inS 0 (i) ((sn σ : Int) - 1))), .ref (M 1), .ref (M 2), .ref (M 3), .int (wI ((sn σ : Int))), .ref (M 5), .ref (M 6), .ref (M 7), .ref (M 8), .ref (M 9), .ref (M 10), .ref (M 11), .ref (M 12), .ref (M 13), .ref (M 14), .ref (M 15)] := hM_8 0 _ rfl
  have hA1_n_9 : IA g H_2 (M 1) 4 (fun j => wI (σ.1 j 0)) := hM_8 1 _ rfl
  have hA2_n_9 : IA g H_2 (M 2) 4 (fun j => wI (σ.1 j 1)) := hM_8 2 _ rfl
  have hA3_n_9 : IA g H_2 (M 3) 12 (fun j => wI (σ.1 (j / 3) (2 + j % 3))) := hM_8 3 _ rfl
  have hA5_n_9 : IA g H_2 (M 5) 10 (fun j => wI (sp σ j 0)) := hM_8 4 _ rfl
  have hA6_n_9 : IA g H_2 (M 6) 10 (fun j => wI (sp σ j 1)) := hM_8 5 _ rfl
  have hA7_n_9 : IA g H_2 (M 7) 10 (fun j => wI (sp σ j 2)) := hM_8 6 _ rfl
  have hA8_n_9 : IA g H_2 (M 8) 10 (fun j => wI (sp σ j 3)) := hM_8 7 _ rfl
  have hA9_n_9 : IA g H_2 (M 9) 10 (fun j => wI (sp σ j 4)) := hM_8 8 _ rfl
  have hA10_n_9 : IA g H_2 (M 10) 10 (fun j => wI (sp σ j 5)) := hM_8 9 _ rfl
  have hA11_n_9 : IA g H_2 (M 11) 10 (fun j => wI (sp σ j 6)) := hM_8 10 _ rfl
  have hA12_n_9 : IA g H_2 (M 12) 10 (fun j => wI ((sb σ j : Int))) := hM_8 11 _ rfl
  have hA13_n_9 : IA g H_2 (M 13) 60 (fun j => wI (so σ (j / 6) (j % 6) 0)) := hM_8 12 _ rfl
  have hA14_n_9 : IA g H_2 (M 14) 60 (fun j => wI (so σ (j / 6) (j % 6) 1)) := hM_8 13 _ rfl
  have hA15_n_9 : IA g H_2 (M 15) 60 (fun j => wI (so σ (j / 6) (j % 6) 2)) := hM_8 14 _ rfl
  refine w_if_ne X 10 dX4_held_5 (by decide) (by omega) (fun c_10 => ?_) (fun c_10 => ?_)
  · skip
    refine w_iload_n X dX4_held_10 hl 2 rfl rfl ?_
    refine w_iconst X dX4_held_11 ?_
    refine w_bipush X dX4_held_12 (by decide) ?_
    refine w_callS (v := .int (wI (inS (0) (a) (11)))) 3 X hE (c_X4_in l g H_2 (a) (0) (11) (by omega) (by omega) (by omega)) hl dX4_held_14 gX4_held_X4_in rfl rfl (by decide +kernel) ⟨(Nat.le_of_ble_eq_true rfl), (Nat.le_of_ble_eq_true rfl)⟩ rfl (Nat.le_of_ble_eq_true rfl) ⟨(Nat.le_of_ble_eq_true rfl), (Nat.le_of_ble_eq_true rfl)⟩ ?_
    have qi_11 := inS_spec (0) (a) (11)
    refine w_if_ne X 26 dX4_held_17 (by decide) (by omega) (fun c_12 => ?_) (fun c_12 => ?_)
    · skip
      obtain ⟨gp1, ⟨gp2, gp3, gp4⟩, gp5⟩ := (hs3 i.toNat (by omega)).1
      refine w_iload_n X dX4_held_26 hl 2 rfl rfl ?_
      refine w_aload_n X dX4_held_27 hl 0 rfl rfl ?_
      refine w_get X hE hO_n_9 8 dX4_held_28 rfl hin_RX4 (by decide) (by decide +kernel) rfl rfl ?_
      refine w_iload_n X dX4_held_31 hl 1 rfl rfl ?_
      refine w_iald (y := wI (sp σ (i).toNat 3)) X hE hA8_n_9 dX4_held_32 (by omega) (by omega) (by omega) rfl ?_
      refine w_icmp_lt X 54 dX4_held_33 (by decide) (by omega) (by omega) (fun c_13 => ?_) (fun c_13 => ?_)
      · skip
        refine w_iconst X dX4_held_54 ?_
        exact w_irR X hr hk hS (ref_y (y := 0) (by first | trivial | omega) (by first | trivial | omega) (by first | trivial | omega) (by rw [if_neg (by omega)]) (ModAt.cast (ModAt.mk hO_n_9 hA1_n_9 hA2_n_9 hA3_n_9 hA5_n_9 hA6_n_9 hA7_n_9 hA8_n_9 hA9_n_9 hA10_n_9 hA11_n_9 hA12_n_9 hA13_n_9 hA14_n_9 hA15_n_9) (by omega : (1 - inS 0 (i) ((sn σ : Int) - 1) : Int) = 0))) dX4_held_55 (Nat.le_of_ble_eq_true rfl) (Nat.le_of_ble_eq_true rfl)
      · skip
        refine w_iload_n X dX4_held_36 hl 2 rfl rfl ?_
        refine w_aload_n X dX4_held_37 hl 0 rfl rfl ?_
        refine w_get X hE hO_n_9 9 dX4_held_38 rfl hin_RX4 (by decide) (by decide +kernel) rfl rfl ?_
        refine w_iload_n X dX4_held_41 hl 1 rfl rfl ?_
        refine w_iald (y := wI (sp σ (i).toNat 4)) X hE hA9_n_9 dX4_held_42 (by omega) (by omega) (by omega) rfl ?_
        refine w_icmp_ge X 54 dX4_held_43 (by decide) (by omega) (by omega) (fun c_14 => ?_) (fun c_14 => ?_)
        · skip
          refine w_iconst X dX4_held_54 ?_
          exact w_irR X hr hk hS (ref_y (y := 0) (by first | trivial | omega) (by first | trivial | omega) (by first | trivial | omega) (by rw [if_neg (by omega)]) (ModAt.cast (ModAt.mk hO_n_9 hA1_n_9 hA2_n_9 hA3_n_9 hA5_n_9 hA6_n_9 hA7_n_9 hA8_n_9 hA9_n_9 hA10_n_9 hA11_n_9 hA12_n_9 hA13_n_9 hA14_n_9 hA15_n_9) (by omega : (1 - inS 0 (i) ((sn σ : Int) - 1) : Int) = 0))) dX4_held_55 (Nat.le_of_ble_eq_true rfl) (Nat.le_of_ble_eq_true rfl)
        · skip
          refine w_aload_n X dX4_held_46 hl 0 rfl rfl ?_
          refine w_iload_n X dX4_held_47 hl 1 rfl rfl ?_
          refine w_callV (v := .int (wI (heldS (sH σ i.toNat) (sp σ i.toNat)))) 1 X hE (c_X4_heldOf l g H_2 M (1 - inS 0 (i) ((sn σ : Int) - 1)) σ hM_8 hσ (i) (by omega)) hO_n_9 hl dX4_held_48 gX4_held_X4_heldOf rfl rfl (by decide +kernel) ⟨(Nat.le_of_ble_eq_true rfl), (Nat.le_of_ble_eq_true rfl)⟩ rfl rfl (Nat.le_of_ble_eq_true rfl) ⟨(Nat.le_of_ble_eq_true rfl), (Nat.le_of_ble_eq_true rfl)⟩ ?_
          refine w_goto X 55 dX4_held_51 (by decide) ?_
          exact w_irR X hr hk hS (ref_y (y := heldS (sH σ i.toNat) (sp σ i.toNat)) (by first | trivial | omega) (by first | trivial | omega) (by first | trivial | omega) (by rw [if_pos (by omega)]) (ModAt.cast (ModAt.mk hO_n_9 hA1_n_9 hA2_n_9 hA3_n_9 hA5_n_9 hA6_n_9 hA7_n_9 hA8_n_9 hA9_n_9 hA10_n_9 hA11_n_9 hA12_n_9 hA13_n_9 hA14_n_9 hA15_n_9) (by omega : (1 - inS 0 (i) ((sn σ : Int) - 1) : Int) = 0))) dX4_held_55 (Nat.le_of_ble_eq_true rfl) (Nat.le_of_ble_eq_true rfl)
    · skip
      refine w_aload_n X dX4_held_20 hl 0 rfl rfl ?_
      refine w_iconst X dX4_held_21 ?_
      refine w_ir (va_runV (As := [.int (wI (2))]) (rest := []) X (c_X4_fails l g A H_2 M hAM hMj (1 - inS 0 (i) ((sn σ : Int) - 1)) σ hM_8 hσ (2)) (cwV 1 X.2.2.2.2 gX4_held_X4_fails rfl rfl rfl (by decide +kernel) ⟨(Nat.le_of_ble_eq_true rfl), (Nat.le_of_ble_eq_true rfl)⟩) (w_prV hE hEs hS hO_n_9 rfl) rfl rfl hl.1 rfl (lv_room (Nat.le_of_ble_eq_true rfl)) dX4_held_22 ⟨(Nat.le_of_ble_eq_true rfl), (Nat.le_of_ble_eq_true rfl)⟩) hS (fun _ h => h) fun v_20 H_15 lo_16 hp_17 hz_18 hq_19 hS => ?_
      obtain ⟨rfl, hM_21⟩ := hp_17
      have hO_n_22 : Ob g H_15 (M 0) 5 [.int (wI (2)), .ref (M 1), .ref (M 2), .ref (M 3), .int (wI ((sn σ : Int))), .ref (M 5), .ref (M 6), .ref (M 7), .ref (M 8), .ref (M 9), .ref (M 10), .ref (M 11), .ref (M 12), .ref (M 13), .ref (M 14), .ref (M 15)] := hM_21 0 _ rfl
      have hA1_n_22 : IA g H_15 (M 1) 4 (fun j => wI (σ.1 j 0)) := hM_21 1 _ rfl
      have hA2_n_22 : IA g H_15 (M 2) 4 (fun j => wI (σ.1 j 1)) := hM_21 2 _ rfl
      have hA3_n_22 : IA g H_15 (M 3) 12 (fun j => wI (σ.1 (j / 3) (2 + j % 3))) := hM_21 3 _ rfl
      have hA5_n_22 : IA g H_15 (M 5) 10 (fun j => wI (sp σ j 0)) := hM_21 4 _ rfl
      have hA6_n_22 : IA g H_15 (M 6) 10 (fun j => wI (sp σ j 1)) := hM_21 5 _ rfl
      have hA7_n_22 : IA g H_15 (M 7) 10 (fun j => wI (sp σ j 2)) := hM_21 6 _ rfl
      have hA8_n_22 : IA g H_15 (M 8) 10 (fun j => wI (sp σ j 3)) := hM_21 7 _ rfl
      have hA9_n_22 : IA g H_15 (M 9) 10 (fun j => wI (sp σ j 4)) := hM_21 8 _ rfl
      have hA10_n_22 : IA g H_15 (M 10) 10 (fun j => wI (sp σ j 5)) := hM_21 9 _ rfl
      have hA11_n_22 : IA g H_15 (M 11) 10 (fun j => wI (sp σ j 6)) := hM_21 10 _ rfl
      have hA12_n_22 : IA g H_15 (M 12) 10 (fun j => wI ((sb σ j : Int))) := hM_21 11 _ rfl
      have hA13_n_22 : IA g H_15 (M 13) 60 (fun j => wI (so σ (j / 6) (j % 6) 0)) := hM_21 12 _ rfl
      have hA14_n_22 : IA g H_15 (M 14) 60 (fun j => wI (so σ (j / 6) (j % 6) 1)) := hM_21 13 _ rfl
      have hA15_n_22 : IA g H_15 (M 15) 60 (fun j => wI (so σ (j / 6) (j % 6) 2)) := hM_21 14 _ rfl
      exact w_irR X hr hk hS (ref_2 (by first | trivial | omega) (by omega) rfl (ModAt.mk hO_n_22 hA1_n_22 hA2_n_22 hA3_n_22 hA5_n_22 hA6_n_22 hA7_n_22 hA8_n_22 hA9_n_22 hA10_n_22 hA11_n_22 hA12_n_22 hA13_n_22 hA14_n_22 hA15_n_22)) dX4_held_25 (Nat.le_of_ble_eq_true rfl) (Nat.le_of_ble_eq_true rfl)
  · skip
    refine w_iconst X dX4_held_8 ?_
    exact w_irR X hr hk hS (ref_1 (by omega) rfl (ModAt.cast (ModAt.mk hO_n_9 hA1_n_9 hA2_n_9 hA3_n_9 hA5_n_9 hA6_n_9 hA7_n_9 hA8_n_9 hA9_n_9 hA10_n_9 hA11_n_9 hA12_n_9 hA13_n_9 hA14_n_9 hA15_n_9) (by omega : (1 - inS 0 (i) ((sn σ : Int) - 1) : Int) = 1))) dX4_held_9 (Nat.le_of_ble_eq_true rfl) (Nat.le_of_ble_eq_true rfl)

set_option maxHeartbeats 4000000 in
set_option maxRecDepth 100000 in
theorem c_X4_abroadPart (l : Launch) (g : wG) (A : Nat → Prop) (H : Heap) (M : Nat → Nat) (hAM : ∀ k, k < 16 → k ≠ 4 → A (M k)) (hMj : AInj M) (th : Int) (σ : St) (hM : ModAt g H M th σ) (hσ : StGood σ) (i a : Int) (hi : wR i) (ha : wR a) : ImpR l g A H yX4_abroadPart wsX4_abroadPart 1 25 0 0 [.ref (M 0), .int (wI (i)), .int (wI (a))] (fun v H1 => v = .int (wI (stv ((((0 : Int) ≤ i ∧ i < (sn σ : Int)) ∧ 0 ≤ a ∧ a < (sb σ i.toNat : Int))) (True) (True) (parS (sp σ i.toNat) (so σ i.toNat a.toNat)))) ∧ ModAt g H1 M (cd ((((0 : Int) ≤ i ∧ i < (sn σ : Int)) ∧ 0 ≤ a ∧ a < (sb σ i.toNat : Int))) (True) (True)) (stp ((((0 : Int) ≤ i ∧ i < (sn σ : Int)) ∧ 0 ≤ a ∧ a < (sb σ i.toNat : Int))) (True) (True) (σ) σ)) := by
  refine Imp.of (cc := cX4_abroadPart) (maxL := 3) (ret := (some .int)) (by decide) rfl (Nat.le_of_ble_eq_true rfl) ?_
  intro p9 e s m args below meth c X hE hEs hnm hr hk hS ls hl
  have hl : lv_has ls 3 [(0, .ref (M 0)), (1, .int (wI (i))), (2, .int (wI (a)))] := hl
  have hin_RX4 : ∀ w ∈ u_ws RX4 TX4 16, w ∈ wsX4_abroadPart := by decide +kernel
  have hGd := hE.dis
  obtain ⟨hs1, hs2, hs3, hs4⟩ := id hσ
  have hO_n_1 : Ob g H (M 0) 5 [.int (wI (th)), .ref (M 1), .ref (M 2), .ref (M 3), .int (wI ((sn σ : Int))), .ref (M 5), .ref (M 6), .ref (M 7), .ref (M 8), .ref (M 9), .ref (M 10), .ref (M 11), .ref (M 12), .ref (M 13), .ref (M 14), .ref (M 15)] := hM 0 _ rfl
  have hA1_n_1 : IA g H (M 1) 4 (fun j => wI (σ.1 j 0)) := hM 1 _ rfl
  have hA2_n_1 : IA g H (M 2) 4 (fun j => wI (σ.1 j 1)) := hM 2 _ rfl
  have hA3_n_1 : IA g H (M 3) 12 (fun j => wI (σ.1 (j / 3) (2 + j % 3))) := hM 3 _ rfl
  have hA5_n_1 : IA g H (M 5) 10 (fun j => wI (sp σ j 0)) := hM 4 _ rfl
  have hA6_n_1 : IA g H (M 6) 10 (fun j => wI (sp σ j 1)) := hM 5 _ rfl
  have hA7_n_1 : IA g H (M 7) 10 (fun j => wI (sp σ j 2)) := hM 6 _ rfl
  have hA8_n_1 : IA g H (M 8) 10 (fun j => wI (sp σ j 3)) := hM 7 _ rfl
  have hA9_n_1 : IA g H (M 9) 10 (fun j => wI (sp σ j 4)) := hM 8 _ rfl
  have hA10_n_1 : IA g H (M 10) 10 (fun j => wI (sp σ j 5)) := hM 9 _ rfl
  have hA11_n_1 : IA g H (M 11) 10 (fun j => wI (sp σ j 6)) := hM 10 _ rfl
  have hA12_n_1 : IA g H (M 12) 10 (fun j => wI ((sb σ j : Int))) := hM 11 _ rfl
  have hA13_n_1 : IA g H (M 13) 60 (fun j => wI (so σ (j / 6) (j % 6) 0)) := hM 12 _ rfl
  have hA14_n_1 : IA g H (M 14) 60 (fun j => wI (so σ (j / 6) (j % 6) 1)) := hM 13 _ rfl
  have hA15_n_1 : IA g H (M 15) 60 (fun j => wI (so σ (j / 6) (j % 6) 2)) := hM 14 _ rfl
  refine w_aload_n X dX4_abroadPart_0 hl 0 rfl rfl ?_
  refine w_iconst X dX4_abroadPart_1 ?_
  refine w_put (ref := "TaxEqualiserModel") (v := .int (wI (0))) X hE hO_n_1 hS (hAM 0 (by decide) (by decide)) 0 dX4_abroadPart_2 rfl hin_RX4 tyX4 tyX4_ok nmX4 (by decide) (by decide +kernel) (fun _ h => h) rfl rfl rfl (Nat.le_of_ble_eq_true rfl) fun H_2 lo_3 ho_4 hz_5 hq_6 hS => ?_
  have ho_4 : Ob g H_2 (M 0) 5 [.int (wI (0)), .ref (M 1), .ref (M 2), .ref (M 3), .int (wI ((sn σ : Int))), .ref (M 5), .ref (M 6), .ref (M 7), .ref (M 8), .ref (M 9), .ref (M 10), .ref (M 11), .ref (M 12), .ref (M 13), .ref (M 14), .ref (M 15)] := ho_4
  have hr_7 := (hA1_n_1).kept (hq_6 _ (hMj 1 0 (by decide) (by decide) (by decide) (by decide) (by decide)))
  have hr_8 := (hA2_n_1).kept (hq_6 _ (hMj 2 0 (by decide) (by decide) (by decide) (by decide) (by decide)))
  have hr_9 := (hA3_n_1).kept (hq_6 _ (hMj 3 0 (by decide) (by decide) (by decide) (by decide) (by decide)))
  have hr_10 := (hA5_n_1).kept (hq_6 _ (hMj 5 0 (by decide) (by decide) (by decide) (by decide) (by decide)))
  have hr_11 := (hA6_n_1).kept (hq_6 _ (hMj 6 0 (by decide) (by decide) (by decide) (by decide) (by decide)))
  have hr_12 := (hA7_n_1).kept (hq_6 _ (hMj 7 0 (by decide) (by decide) (by decide) (by decide) (by decide)))
  have hr_13 := (hA8_n_1).kept (hq_6 _ (hMj 8 0 (by decide) (by decide) (by decide) (by decide) (by decide)))
  have hr_14 := (hA9_n_1).kept (hq_6 _ (hMj 9 0 (by decide) (by decide) (by decide) (by decide) (by decide)))
  have hr_15 := (hA10_n_1).kept (hq_6 _ (hMj 10 0 (by decide) (by decide) (by decide) (by decide) (by decide)))
  have hr_16 := (hA11_n_1).kept (hq_6 _ (hMj 11 0 (by decide) (by decide) (by decide) (by decide) (by decide)))
  have hr_17 := (hA12_n_1).kept (hq_6 _ (hMj 12 0 (by decide) (by decide) (by decide) (by decide) (by decide)))
  have hr_18 := (hA13_n_1).kept (hq_6 _ (hMj 13 0 (by decide) (by decide) (by decide) (by decide) (by decide)))
  have hr_19 := (hA14_n_1).kept (hq_6 _ (hMj 14 0 (by decide) (by decide) (by decide) (by decide) (by decide)))
  have hr_20 := (hA15_n_1).kept (hq_6 _ (hMj 15 0 (by decide) (by decide) (by decide) (by decide) (by decide)))
  refine w_iload_n X dX4_abroadPart_5 hl 1 rfl rfl ?_
  refine w_iconst X dX4_abroadPart_6 ?_
  refine w_aload_n X dX4_abroadPart_7 hl 0 rfl rfl ?_
  refine w_get X hE ho_4 4 dX4_abroadPart_8 rfl hin_RX4 (by decide) (by decide +kernel) rfl rfl ?_
  refine w_iconst X dX4_abroadPart_11 ?_
  refine w_isub X dX4_abroadPart_12 fun z_21 ez_21 => ?_
  refine w_callS (v := .int (wI (inS (0) (i) (z_21)))) 3 X hE (c_X4_in l g H_2 (i) (0) (z_21) (by omega) (by omega) (by omega)) hl dX4_abroadPart_13 gX4_abroadPart_X4_in rfl rfl (by decide +kernel) ⟨(Nat.le_of_ble_eq_true rfl), (Nat.le_of_ble_eq_true rfl)⟩ rfl (Nat.le_of_ble_eq_true rfl) ⟨(Nat.le_of_ble_eq_true rfl), (Nat.le_of_ble_eq_true rfl)⟩ ?_
  have qi_22 := inS_spec (0) (i) (z_21)
  refine w_if_eq X 44 dX4_abroadPart_16 (by decide) (by omega) (fun c_23 => ?_) (fun c_23 => ?_)
  · skip
    refine w_aload_n X dX4_abroadPart_44 hl 0 rfl rfl ?_
    refine w_iconst X dX4_abroadPart_45 ?_
    have hM_24 : ModAt g H_2 M (0) σ := ModAt.mk ho_4 hr_7 hr_8 hr_9 hr_10 hr_11 hr_12 hr_13 hr_14 hr_15 hr_16 hr_17 hr_18 hr_19 hr_20
    refine w_ir (va_runV (As := [.int (wI (1))]) (rest := []) X (c_X4_fails l g A H_2 M hAM hMj (0) σ hM_24 hσ (1)) (cwV 1 X.2.2.2.2 gX4_abroadPart_X4_fails rfl rfl rfl (by decide +kernel) ⟨(Nat.le_of_ble_eq_true rfl), (Nat.le_of_ble_eq_true rfl)⟩) (w_prV hE hEs hS ho_4 rfl) rfl rfl hl.1 rfl (lv_room (Nat.le_of_ble_eq_true rfl)) dX4_abroadPart_46 ⟨(Nat.le_of_ble_eq_true rfl), (Nat.le_of_ble_eq_true rfl)⟩) hS (fun _ h => h) fun v_30 H_25 lo_26 hp_27 hz_28 hq_29 hS => ?_
    obtain ⟨rfl, hM_31⟩ := hp_27
    have hO_n_32 : Ob g H_25 (M 0) 5 [.int (wI (1)), .ref (M 1), .ref (M 2), .ref (M 3), .int (wI ((sn σ : Int))), .ref (M 5), .ref (M 6), .ref (M 7), .ref (M 8), .ref (M 9), .ref (M 10), .ref (M 11), .ref (M 12), .ref (M 13), .ref (M 14), .ref (M 15)] := hM_31 0 _ rfl
    have hA1_n_32 : IA g H_25 (M 1) 4 (fun j => wI (σ.1 j 0)) := hM_31 1 _ rfl
    have hA2_n_32 : IA g H_25 (M 2) 4 (fun j => wI (σ.1 j 1)) := hM_31 2 _ rfl
    have hA3_n_32 : IA g H_25 (M 3) 12 (fun j => wI (σ.1 (j / 3) (2 + j % 3))) := hM_31 3 _ rfl
    have hA5_n_32 : IA g H_25 (M 5) 10 (fun j => wI (sp σ j 0)) := hM_31 4 _ rfl
    have hA6_n_32 : IA g H_25 (M 6) 10 (fun j => wI (sp σ j 1)) := hM_31 5 _ rfl
    have hA7_n_32 : IA g H_25 (M 7) 10 (fun j => wI (sp σ j 2)) := hM_31 6 _ rfl
    have hA8_n_32 : IA g H_25 (M 8) 10 (fun j => wI (sp σ j 3)) := hM_31 7 _ rfl
    have hA9_n_32 : IA g H_25 (M 9) 10 (fun j => wI (sp σ j 4)) := hM_31 8 _ rfl
    have hA10_n_32 : IA g H_25 (M 10) 10 (fun j => wI (sp σ j 5)) := hM_31 9 _ rfl
    have hA11_n_32 : IA g H_25 (M 11) 10 (fun j => wI (sp σ j 6)) := hM_31 10 _ rfl
    have hA12_n_32 : IA g H_25 (M 12) 10 (fun j => wI ((sb σ j : Int))) := hM_31 11 _ rfl
    have hA13_n_32 : IA g H_25 (M 13) 60 (fun j => wI (so σ (j / 6) (j % 6) 0)) := hM_31 12 _ rfl
    have hA14_n_32 : IA g H_25 (M 14) 60 (fun j => wI (so σ (j / 6) (j % 6) 1)) := hM_31 13 _ rfl
    have hA15_n_32 : IA g H_25 (M 15) 60 (fun j => wI (so σ (j / 6) (j % 6) 2)) := hM_31 14 _ rfl
    exact w_irR X hr hk hS (ref_1 (by omega) rfl (ModAt.mk hO_n_32 hA1_n_32 hA2_n_32 hA3_n_32 hA5_n_32 hA6_n_32 hA7_n_32 hA8_n_32 hA9_n_32 hA10_n_32 hA11_n_32 hA12_n_32 hA13_n_32 hA14_n_32 hA15_n_32)) dX4_abroadPart_49 (Nat.le_of_ble_eq_true rfl) (Nat.le_of_ble_eq_true rfl)
  · skip
    refine w_iload_n X dX4_abroadPart_19 hl 2 rfl rfl ?_
    refine w_iconst X dX4_abroadPart_20 ?_
    have hsb := (hs3 i.toNat (by omega)).1.2.2.2.2.1
    refine w_aload_n X dX4_abroadPart_21 hl 0 rfl rfl ?_
    refine w_get X hE ho_4 12 dX4_abroadPart_22 rfl hin_RX4 (by decide) (by decide +kernel) rfl rfl ?_
    refine w_iload_n X dX4_abroadPart_25 hl 1 rfl rfl ?_
    refine w_iald (y := wI ((sb σ (i).toNat : Int))) X hE hr_17 dX4_abroadPart_26 (by omega) (by omega) (by omega) rfl ?_
    refine w_iconst X dX4_abroadPart_27 ?_
    refine w_isub X dX4_abroadPart_28 fun z_33 ez_33 => ?_
    refine w_callS (v := .int (wI (inS (0) (a) (z_33)))) 3 X hE (c_X4_in l g H_2 (a) (0) (z_33) (by omega) (by omega) (by omega)) hl dX4_abroadPart_29 gX4_abroadPart_X4_in rfl rfl (by decide +kernel) ⟨(Nat.le_of_ble_eq_true rfl), (Nat.le_of_ble_eq_true rfl)⟩ rfl (Nat.le_of_ble_eq_true rfl) ⟨(Nat.le_of_ble_eq_true rfl), (Nat.le_of_ble_eq_true rfl)⟩ ?_
    have qi_34 := inS_spec (0) (a) (z_33)
    refine w_if_eq X 44 dX4_abroadPart_32 (by decide) (by omega) (fun c_35 => ?_) (fun c_35 => ?_)
    · skip
      refine w_aload_n X dX4_abroadPart_44 hl 0 rfl rfl ?_
      refine w_iconst X dX4_abroadPart_45 ?_
      have hM_36 : ModAt g H_2 M (0) σ := ModAt.mk ho_4 hr_7 hr_8 hr_9 hr_10 hr_11 hr_12 hr_13 hr_14 hr_15 hr_16 hr_17 hr_18 hr_19 hr_20
      refine w_ir (va_runV (As := [.int (wI (1))]) (rest := []) X (c_X4_fails l g A H_2 M hAM hMj (0) σ hM_36 hσ (1)) (cwV 1 X.2.2.2.2 gX4_abroadPart_X4_fails rfl rfl rfl (by decide +kernel) ⟨(Nat.le_of_ble_eq_true rfl), (Nat.le_of_ble_eq_true rfl)⟩) (w_prV hE hEs hS ho_4 rfl) rfl rfl hl.1 rfl (lv_room (Nat.le_of_ble_eq_true rfl)) dX4_abroadPart_46 ⟨(Nat.le_of_ble_eq_true rfl), (Nat.le_of_ble_eq_true rfl)⟩) hS (fun _ h => h) fun v_42 H_37 lo_38 hp_39 hz_40 hq_41 hS => ?_
      obtain ⟨rfl, hM_43⟩ := hp_39
      have hO_n_44 : Ob g H_37 (M 0) 5 [.int (wI (1)), .ref (M 1), .ref (M 2), .ref (M 3), .int (wI ((sn σ : Int))), .ref (M 5), .ref (M 6), .ref (M 7), .ref (M 8), .ref (M 9), .ref (M 10), .ref (M 11), .ref (M 12), .ref (M 13), .ref (M 14), .ref (M 15)] := hM_43 0 _ rfl
      have hA1_n_44 : IA g H_37 (M 1) 4 (fun j => wI (σ.1 j 0)) := hM_43 1 _ rfl
      have hA2_n_44 : IA g H_37 (M 2) 4 (fun j => wI (σ.1 j 1)) := hM_43 2 _ rfl
      have hA3_n_44 : IA g H_37 (M 3) 12 (fun j => wI (σ.1 (j / 3) (2 + j % 3))) := hM_43 3 _ rfl
      have hA5_n_44 : IA g H_37 (M 5) 10 (fun j => wI (sp σ j 0)) := hM_43 4 _ rfl
      have hA6_n_44 : IA g H_37 (M 6) 10 (fun j => wI (sp σ j 1)) := hM_43 5 _ rfl
      have hA7_n_44 : IA g H_37 (M 7) 10 (fun j => wI (sp σ j 2)) := hM_43 6 _ rfl
      have hA8_n_44 : IA g H_37 (M 8) 10 (fun j => wI (sp σ j 3)) := hM_43 7 _ rfl
      have hA9_n_44 : IA g H_37 (M 9) 10 (fun j => wI (sp σ j 4)) := hM_43 8 _ rfl
      have hA10_n_44 : IA g H_37 (M 10) 10 (fun j => wI (sp σ j 5)) := hM_43 9 _ rfl
      have hA11_n_44 : IA g H_37 (M 11) 10 (fun j => wI (sp σ j 6)) := hM_43 10 _ rfl
      have hA12_n_44 : IA g H_37 (M 12) 10 (fun j => wI ((sb σ j : Int))) := hM_43 11 _ rfl
      have hA13_n_44 : IA g H_37 (M 13) 60 (fun j => wI (so σ (j / 6) (j % 6) 0)) := hM_43 12 _ rfl
      have hA14_n_44 : IA g H_37 (M 14) 60 (fun j => wI (so σ (j / 6) (j % 6) 1)) := hM_43 13 _ rfl
      have hA15_n_44 : IA g H_37 (M 15) 60 (fun j => wI (so σ (j / 6) (j % 6) 2)) := hM_43 14 _ rfl
      exact w_irR X hr hk hS (ref_1 (by omega) rfl (ModAt.mk hO_n_44 hA1_n_44 hA2_n_44 hA3_n_44 hA5_n_44 hA6_n_44 hA7_n_44 hA8_n_44 hA9_n_44 hA10_n_44 hA11_n_44 hA12_n_44 hA13_n_44 hA14_n_44 hA15_n_44)) dX4_abroadPart_49 (Nat.le_of_ble_eq_true rfl) (Nat.le_of_ble_eq_true rfl)
    · skip
      refine w_aload_n X dX4_abroadPart_35 hl 0 rfl rfl ?_
      refine w_iload_n X dX4_abroadPart_36 hl 1 rfl rfl ?_
      refine w_iload_n X dX4_abroadPart_37 hl 2 rfl rfl ?_
      have hM_45 : ModAt g H_2 M (0) σ := ModAt.mk ho_4 hr_7 hr_8 hr_9 hr_10 hr_11 hr_12 hr_13 hr_14 hr_15 hr_16 hr_17 hr_18 hr_19 hr_20
      refine w_callV (v := .int (wI (parS (sp σ i.toNat) (so σ i.toNat a.toNat)))) 2 X hE (c_X4_part l g H_2 M (0) σ hM_45 hσ (i) (by omega) (a) (by omega)) ho_4 hl dX4_abroadPart_38 gX4_abroadPart_X4_part rfl rfl (by decide +kernel) ⟨(Nat.le_of_ble_eq_true rfl), (Nat.le_of_ble_eq_true rfl)⟩ rfl rfl (Nat.le_of_ble_eq_true rfl) ⟨(Nat.le_of_ble_eq_true rfl), (Nat.le_of_ble_eq_true rfl)⟩ ?_
      refine w_goto X 49 dX4_abroadPart_41 (by decide) ?_
      exact w_irR X hr hk hS (ref_y (y := parS (sp σ i.toNat) (so σ i.toNat a.toNat)) (by first | trivial | omega) (by first | trivial | omega) (by first | trivial | omega) rfl (ModAt.mk ho_4 hr_7 hr_8 hr_9 hr_10 hr_11 hr_12 hr_13 hr_14 hr_15 hr_16 hr_17 hr_18 hr_19 hr_20)) dX4_abroadPart_49 (Nat.le_of_ble_eq_true rfl) (Nat.le_of_ble_eq_true rfl)
