/-! the reference: people and bonuses added -/

set_option maxHeartbeats 4000000 in
set_option maxRecDepth 100000 in
theorem c_X4_add (l : Launch) (g : wG) (A : Nat → Prop) (H : Heap) (M : Nat → Nat) (hAM : ∀ k, k < 16 → k ≠ 4 → A (M k)) (hMj : AInj M) (th : Int) (σ : St) (hM : ModAt g H M th σ) (hσ : StGood σ) (i a b : Int) (hi : wR i) (ha : wR a) (hb : wR b) : ImpR l g A H yX4_add wsX4_add 2 42 0 0 [.ref (M 0), .int (wI (i)), .int (wI (a)), .int (wI (b))] (fun v H1 => v = .int (wI (stv (((0 ≤ i ∧ i < 4) ∧ (0 ≤ a ∧ a < 4) ∧ (0 ≤ b ∧ b ≤ 100000) ∧ i ≠ a)) ((sn σ < 10)) (True) ((sn σ : Int)))) ∧ ModAt g H1 M (cd (((0 ≤ i ∧ i < 4) ∧ (0 ≤ a ∧ a < 4) ∧ (0 ≤ b ∧ b ≤ 100000) ∧ i ≠ a)) ((sn σ < 10)) (True)) (stp (((0 ≤ i ∧ i < 4) ∧ (0 ≤ a ∧ a < 4) ∧ (0 ≤ b ∧ b ≤ 100000) ∧ i ≠ a)) ((sn σ < 10)) (True) (nxAdd σ (newS i a b)) σ)) := by
  refine Imp.of (cc := cX4_add) (maxL := 4) (ret := (some .int)) (by decide) rfl (Nat.le_of_ble_eq_true rfl) ?_
  intro p9 e s m args below meth c X hE hEs hnm hr hk hS ls hl
  have hl : lv_has ls 4 [(0, .ref (M 0)), (1, .int (wI (i))), (2, .int (wI (a))), (3, .int (wI (b)))] := hl
  have hin_RX4 : ∀ w ∈ u_ws RX4 TX4 16, w ∈ wsX4_add := by decide +kernel
  have hGd := hE.dis
  obtain ⟨hs1, hs2, hs3, hs4⟩ := id hσ
  have hO_n_1 : Ob g H (M 0) 5 [.int (wI (th)), .ref (M 1), .ref (M 2), .ref (M 3), .int (wI ((sn σ : Int))), .ref (M 5), .ref (M 6), .ref (M 7), .ref (M 8), .ref (M 9), .ref (M 10), .ref (M 11), .ref (M 12), .ref (M 13), .ref (M 14), .ref (M 15)] := hM 0 _ rfl
  have hA1_n_1 : IA g H (M 1) 4 (fun j => wI (σ.1 j 0)) := hM 1 _ rfl
  have hA2_n_1 : IA g H (M 2) 4 (fun j => wI (σ.1 j 1)) := hM 2 _ rfl
  have hA3_n_1 : IA g H (M 3) 12 (fun j => wI (σ.1 (j / 3) (2 + j % 3))) := hM 3 _ rfl
  have hA5_n_1 : IA g H (M 5) 10 (fun j => wI (sp σ j 0)) := hM 4 _ rfl
  have hA6_n_1 : IA g H (M 6) 10 (fun j => wI (sp σ j 1)) := hM 5 _ rfl
  have hA7_n_1 : IA g H (M 7) 10 (fun j => wI (sp σ j 2)) := hM 6 _ rfl
  have hA8_n_1 : IA g H (M 8) 10 (fun j => wI (sp σ j 3)) := hM 7 _ rfl
  have hA9_n_1 : IA g H (M 9) 10 (fun j => wI (sp σ j 4)) := hM 8 _ rfl
  have hA10_n_1 : IA g H (M 10) 10 (fun j => wI (sp σ j 5)) := hM 9 _ rfl
  have hA11_n_1 : IA g H (M 11) 10 (fun j => wI (sp σ j 6)) := hM 10 _ rfl
  have hA12_n_1 : IA g H (M 12) 10 (fun j => wI ((sb σ j : Int))) := hM 11 _ rfl
  have hA13_n_1 : IA g H (M 13) 60 (fun j => wI (so σ (j / 6) (j % 6) 0)) := hM 12 _ rfl
  have hA14_n_1 : IA g H (M 14) 60 (fun j => wI (so σ (j / 6) (j % 6) 1)) := hM 13 _ rfl
  have hA15_n_1 : IA g H (M 15) 60 (fun j => wI (so σ (j / 6) (j % 6) 2)) := hM 14 _ rfl
  refine w_aload_n X dX4_add_0 hl 0 rfl rfl ?_
  refine w_iconst X dX4_add_1 ?_
  refine w_put (ref := "TaxEqualiserModel") (v := .int (wI (0))) X hE hO_n_1 hS (hAM 0 (by decide) (by decide)) 0 dX4_add_2 rfl hin_RX4 tyX4 tyX4_ok nmX4 (by decide) (by decide +kernel) (fun _ h => h) rfl rfl rfl (Nat.le_of_ble_eq_true rfl) fun H_2 lo_3 ho_4 hz_5 hq_6 hS => ?_
  have ho_4 : Ob g H_2 (M 0) 5 [.int (wI (0)), .ref (M 1), .ref (M 2), .ref (M 3), .int (wI ((sn σ : Int))), .ref (M 5), .ref (M 6), .ref (M 7), .ref (M 8), .ref (M 9), .ref (M 10), .ref (M 11), .ref (M 12), .ref (M 13), .ref (M 14), .ref (M 15)] := ho_4
  have hr_7 := (hA1_n_1).kept (hq_6 _ (hMj 1 0 (by decide) (by decide) (by decide) (by decide) (by decide)))
  have hr_8 := (hA2_n_1).kept (hq_6 _ (hMj 2 0 (by decide) (by decide) (by decide) (by decide) (by decide)))
  have hr_9 := (hA3_n_1).kept (hq_6 _ (hMj 3 0 (by decide) (by decide) (by decide) (by decide) (by decide)))
  have hr_10 := (hA5_n_1).kept (hq_6 _ (hMj 5 0 (by decide) (by decide) (by decide) (by decide) (by decide)))
  have hr_11 := (hA6_n_1).kept (hq_6 _ (hMj 6 0 (by decide) (by decide) (by decide) (by decide) (by decide)))
  have hr_12 := (hA7_n_1).kept (hq_6 _ (hMj 7 0 (by decide) (by decide) (by decide) (by decide) (by decide)))
  have hr_13 := (hA8_n_1).kept (hq_6 _ (hMj 8 0 (by decide) (by decide) (by decide) (by decide) (by decide)))
  have hr_14 := (hA9_n_1).kept (hq_6 _ (hMj 9 0 (by decide) (by decide) (by decide) (by decide) (by decide)))
  have hr_15 := (hA10_n_1).kept (hq_6 _ (hMj 10 0 (by decide) (by decide) (by decide) (by decide) (by decide)))
  have hr_16 := (hA11_n_1).kept (hq_6 _ (hMj 11 0 (by decide) (by decide) (by decide) (by decide) (by decide)))
  have hr_17 := (hA12_n_1).kept (hq_6 _ (hMj 12 0 (by decide) (by decide) (by decide) (by decide) (by decide)))
  have hr_18 := (hA13_n_1).kept (hq_6 _ (hMj 13 0 (by decide) (by decide) (by decide) (by decide) (by decide)))
  have hr_19 := (hA14_n_1).kept (hq_6 _ (hMj 14 0 (by decide) (by decide) (by decide) (by decide) (by decide)))
  have hr_20 := (hA15_n_1).kept (hq_6 _ (hMj 15 0 (by decide) (by decide) (by decide) (by decide) (by decide)))
  refine w_iload_n X dX4_add_5 hl 1 rfl rfl ?_
  refine w_callS (v := .int (wI (inS 0 (i) 3))) 1 X hE (c_X4_isLand l g H_2 (i) (by omega)) hl dX4_add_6 gX4_add_X4_isLand rfl rfl (by decide +kernel) ⟨(Nat.le_of_ble_eq_true rfl), (Nat.le_of_ble_eq_true rfl)⟩ rfl (Nat.le_of_ble_eq_true rfl) ⟨(Nat.le_of_ble_eq_true rfl), (Nat.le_of_ble_eq_true rfl)⟩ ?_
  have qi_21 := inS_spec 0 (i) 3
  refine w_if_eq X 34 dX4_add_9 (by decide) (by omega) (fun c_22 => ?_) (fun c_22 => ?_)
  · skip
    refine w_aload_n X dX4_add_34 hl 0 rfl rfl ?_
    refine w_iconst X dX4_add_35 ?_
    have hM_23 : ModAt g H_2 M (0) σ := ModAt.mk ho_4 hr_7 hr_8 hr_9 hr_10 hr_11 hr_12 hr_13 hr_14 hr_15 hr_16 hr_17 hr_18 hr_19 hr_20
    refine w_ir (va_runV (As := [.int (wI (1))]) (rest := []) X (c_X4_fails l g A H_2 M hAM hMj (0) σ hM_23 hσ (1)) (cwV 1 X.2.2.2.2 gX4_add_X4_fails rfl rfl rfl (by decide +kernel) ⟨(Nat.le_of_ble_eq_true rfl), (Nat.le_of_ble_eq_true rfl)⟩) (w_prV hE hEs hS ho_4 rfl) rfl rfl hl.1 rfl (lv_room (Nat.le_of_ble_eq_true rfl)) dX4_add_36 ⟨(Nat.le_of_ble_eq_true rfl), (Nat.le_of_ble_eq_true rfl)⟩) hS (fun _ h => h) fun v_29 H_24 lo_25 hp_26 hz_27 hq_28 hS => ?_
    obtain ⟨rfl, hM_30⟩ := hp_26
    have hO_n_31 : Ob g H_24 (M 0) 5 [.int (wI (1)), .ref (M 1), .ref (M 2), .ref (M 3), .int (wI ((sn σ : Int))), .ref (M 5), .ref (M 6), .ref (M 7), .ref (M 8), .ref (M 9), .ref (M 10), .ref (M 11), .ref (M 12), .ref (M 13), .ref (M 14), .ref (M 15)] := hM_30 0 _ rfl
    have hA1_n_31 : IA g H_24 (M 1) 4 (fun j => wI (σ.1 j 0)) := hM_30 1 _ rfl
    have hA2_n_31 : IA g H_24 (M 2) 4 (fun j => wI (σ.1 j 1)) := hM_30 2 _ rfl
    have hA3_n_31 : IA g H_24 (M 3) 12 (fun j => wI (σ.1 (j / 3) (2 + j % 3))) := hM_30 3 _ rfl
    have hA5_n_31 : IA g H_24 (M 5) 10 (fun j => wI (sp σ j 0)) := hM_30 4 _ rfl
    have hA6_n_31 : IA g H_24 (M 6) 10 (fun j => wI (sp σ j 1)) := hM_30 5 _ rfl
    have hA7_n_31 : IA g H_24 (M 7) 10 (fun j => wI (sp σ j 2)) := hM_30 6 _ rfl
    have hA8_n_31 : IA g H_24 (M 8) 10 (fun j => wI (sp σ j 3)) := hM_30 7 _ rfl
    have hA9_n_31 : IA g H_24 (M 9) 10 (fun j => wI (sp σ j 4)) := hM_30 8 _ rfl
    have hA10_n_31 : IA g H_24 (M 10) 10 (fun j => wI (sp σ j 5)) := hM_30 9 _ rfl
    have hA11_n_31 : IA g H_24 (M 11) 10 (fun j => wI (sp σ j 6)) := hM_30 10 _ rfl
    have hA12_n_31 : IA g H_24 (M 12) 10 (fun j => wI ((sb σ j : Int))) := hM_30 11 _ rfl
    have hA13_n_31 : IA g H_24 (M 13) 60 (fun j => wI (so σ (j / 6) (j % 6) 0)) := hM_30 12 _ rfl
    have hA14_n_31 : IA g H_24 (M 14) 60 (fun j => wI (so σ (j / 6) (j % 6) 1)) := hM_30 13 _ rfl
    have hA15_n_31 : IA g H_24 (M 15) 60 (fun j => wI (so σ (j / 6) (j % 6) 2)) := hM_30 14 _ rfl
    exact w_irR X hr hk hS (ref_1 (by omega) rfl (ModAt.mk hO_n_31 hA1_n_31 hA2_n_31 hA3_n_31 hA5_n_31 hA6_n_31 hA7_n_31 hA8_n_31 hA9_n_31 hA10_n_31 hA11_n_31 hA12_n_31 hA13_n_31 hA14_n_31 hA15_n_31)) dX4_add_39 (Nat.le_of_ble_eq_true rfl) (Nat.le_of_ble_eq_true rfl)
  · skip
    refine w_iload_n X dX4_add_12 hl 2 rfl rfl ?_
    refine w_callS (v := .int (wI (inS 0 (a) 3))) 1 X hE (c_X4_isLand l g H_2 (a) (by omega)) hl dX4_add_13 gX4_add_X4_isLand rfl rfl (by decide +kernel) ⟨(Nat.le_of_ble_eq_true rfl), (Nat.le_of_ble_eq_true rfl)⟩ rfl (Nat.le_of_ble_eq_true rfl) ⟨(Nat.le_of_ble_eq_true rfl), (Nat.le_of_ble_eq_true rfl)⟩ ?_
    have qi_32 := inS_spec 0 (a) 3
    refine w_if_eq X 34 dX4_add_16 (by decide) (by omega) (fun c_33 => ?_) (fun c_33 => ?_)
    · skip
      refine w_aload_n X dX4_add_34 hl 0 rfl rfl ?_
      refine w_iconst X dX4_add_35 ?_
      have hM_34 : ModAt g H_2 M (0) σ := ModAt.mk ho_4 hr_7 hr_8 hr_9 hr_10 hr_11 hr_12 hr_13 hr_14 hr_15 hr_16 hr_17 hr_18 hr_19 hr_20
      refine w_ir (va_runV (As := [.int (wI (1))]) (rest := []) X (c_X4_fails l g A H_2 M hAM hMj (0) σ hM_34 hσ (1)) (cwV 1 X.2.2.2.2 gX4_add_X4_fails rfl rfl rfl (by decide +kernel) ⟨(Nat.le_of_ble_eq_true rfl), (Nat.le_of_ble_eq_true rfl)⟩) (w_prV hE hEs hS ho_4 rfl) rfl rfl hl.1 rfl (lv_room (Nat.le_of_ble_eq_true rfl)) dX4_add_36 ⟨(Nat.le_of_ble_eq_true rfl), (Nat.le_of_ble_eq_true rfl)⟩) hS (fun _ h => h) fun v_40 H_35 lo_36 hp_37 hz_38 hq_39 hS => ?_
      obtain ⟨rfl, hM_41⟩ := hp_37
      have hO_n_42 : Ob g H_35 (M 0) 5 [.int (wI (1)), .ref (M 1), .ref (M 2), .ref (M 3), .int (wI ((sn σ : Int))), .ref (M 5), .ref (M 6), .ref (M 7), .ref (M 8), .ref (M 9), .ref (M 10), .ref (M 11), .ref (M 12), .ref (M 13), .ref (M 14), .ref (M 15)] := hM_41 0 _ rfl
      have hA1_n_42 : IA g H_35 (M 1) 4 (fun j => wI (σ.1 j 0)) := hM_41 1 _ rfl
      have hA2_n_42 : IA g H_35 (M 2) 4 (fun j => wI (σ.1 j 1)) := hM_41 2 _ rfl
      have hA3_n_42 : IA g H_35 (M 3) 12 (fun j => wI (σ.1 (j / 3) (2 + j % 3))) := hM_41 3 _ rfl
      have hA5_n_42 : IA g H_35 (M 5) 10 (fun j => wI (sp σ j 0)) := hM_41 4 _ rfl
      have hA6_n_42 : IA g H_35 (M 6) 10 (fun j => wI (sp σ j 1)) := hM_41 5 _ rfl
      have hA7_n_42 : IA g H_35 (M 7) 10 (fun j => wI (sp σ j 2)) := hM_41 6 _ rfl
      have hA8_n_42 : IA g H_35 (M 8) 10 (fun j => wI (sp σ j 3)) := hM_41 7 _ rfl
      have hA9_n_42 : IA g H_35 (M 9) 10 (fun j => wI (sp σ j 4)) := hM_41 8 _ rfl
      have hA10_n_42 : IA g H_35 (M 10) 10 (fun j => wI (sp σ j 5)) := hM_41 9 _ rfl
      have hA11_n_42 : IA g H_35 (M 11) 10 (fun j => wI (sp σ j 6)) := hM_41 10 _ rfl
      have hA12_n_42 : IA g H_35 (M 12) 10 (fun j => wI ((sb σ j : Int))) := hM_41 11 _ rfl
      have hA13_n_42 : IA g H_35 (M 13) 60 (fun j => wI (so σ (j / 6) (j % 6) 0)) := hM_41 12 _ rfl
      have hA14_n_42 : IA g H_35 (M 14) 60 (fun j => wI (so σ (j / 6) (j % 6) 1)) := hM_41 13 _ rfl
      have hA15_n_42 : IA g H_35 (M 15) 60 (fun j => wI (so σ (j / 6) (j % 6) 2)) := hM_41 14 _ rfl
      exact w_irR X hr hk hS (ref_1 (by omega) rfl (ModAt.mk hO_n_42 hA1_n_42 hA2_n_42 hA3_n_42 hA5_n_42 hA6_n_42 hA7_n_42 hA8_n_42 hA9_n_42 hA10_n_42 hA11_n_42 hA12_n_42 hA13_n_42 hA14_n_42 hA15_n_42)) dX4_add_39 (Nat.le_of_ble_eq_true rfl) (Nat.le_of_ble_eq_true rfl)
    · skip
      refine w_iload_n X dX4_add_19 hl 3 rfl rfl ?_
      refine w_iconst X dX4_add_20 ?_
      refine w_ldc (v := 100000) (z := 100000) X dX4_add_21 (by decide +kernel) (by decide) ?_
      refine w_callS (v := .int (wI (inS (0) (b) (100000)))) 3 X hE (c_X4_in l g H_2 (b) (0) (100000) (by omega) (by omega) (by omega)) hl dX4_add_23 gX4_add_X4_in rfl rfl (by decide +kernel) ⟨(Nat.le_of_ble_eq_true rfl), (Nat.le_of_ble_eq_true rfl)⟩ rfl (Nat.le_of_ble_eq_true rfl) ⟨(Nat.le_of_ble_eq_true rfl), (Nat.le_of_ble_eq_true rfl)⟩ ?_
      have qi_43 := inS_spec (0) (b) (100000)
      refine w_if_eq X 34 dX4_add_26 (by decide) (by omega) (fun c_44 => ?_) (fun c_44 => ?_)
      · skip
        refine w_aload_n X dX4_add_34 hl 0 rfl rfl ?_
        refine w_iconst X dX4_add_35 ?_
        have hM_45 : ModAt g H_2 M (0) σ := ModAt.mk ho_4 hr_7 hr_8 hr_9 hr_10 hr_11 hr_12 hr_13 hr_14 hr_15 hr_16 hr_17 hr_18 hr_19 hr_20
        refine w_ir (va_runV (As := [.int (wI (1))]) (rest := []) X (c_X4_fails l g A H_2 M hAM hMj (0) σ hM_45 hσ (1)) (cwV 1 X.2.2.2.2 gX4_add_X4_fails rfl rfl rfl (by decide +kernel) ⟨(Nat.le_of_ble_eq_true rfl), (Nat.le_of_ble_eq_true rfl)⟩) (w_prV hE hEs hS ho_4 rfl) rfl rfl hl.1 rfl (lv_room (Nat.le_of_ble_eq_true rfl)) dX4_add_36 ⟨(Nat.le_of_ble_eq_true rfl), (Nat.le_of_ble_eq_true rfl)⟩) hS (fun _ h => h) fun v_51 H_46 lo_47 hp_48 hz_49 hq_50 hS => ?_
        obtain ⟨rfl, hM_52⟩ := hp_48
        have hO_n_53 : Ob g H_46 (M 0) 5 [.int (wI (1)), .ref (M 1), .ref (M 2), .ref (M 3), .int (wI ((sn σ : Int))), .ref (M 5), .ref (M 6), .ref (M 7), .ref (M 8), .ref (M 9), .ref (M 10), .ref (M 11), .ref (M 12), .ref (M 13), .ref (M 14), .ref (M 15)] := hM_52 0 _ rfl
        have hA1_n_53 : IA g H_46 (M 1) 4 (fun j => wI (σ.1 j 0)) := hM_52 1 _ rfl
        have hA2_n_53 : IA g H_46 (M 2) 4 (fun j => wI (σ.1 j 1)) := hM_52 2 _ rfl
        have hA3_n_53 : IA g H_46 (M 3) 12 (fun j => wI (σ.1 (j / 3) (2 + j % 3))) := hM_52 3 _ rfl
        have hA5_n_53 : IA g H_46 (M 5) 10 (fun j => wI (sp σ j 0)) := hM_52 4 _ rfl
        have hA6_n_53 : IA g H_46 (M 6) 10 (fun j => wI (sp σ j 1)) := hM_52 5 _ rfl
        have hA7_n_53 : IA g H_46 (M 7) 10 (fun j => wI (sp σ j 2)) := hM_52 6 _ rfl
        have hA8_n_53 : IA g H_46 (M 8) 10 (fun j => wI (sp σ j 3)) := hM_52 7 _ rfl
        have hA9_n_53 : IA g H_46 (M 9) 10 (fun j => wI (sp σ j 4)) := hM_52 8 _ rfl
        have hA10_n_53 : IA g H_46 (M 10) 10 (fun j => wI (sp σ j 5)) := hM_52 9 _ rfl
        have hA11_n_53 : IA g H_46 (M 11) 10 (fun j => wI (sp σ j 6)) := hM_52 10 _ rfl
        have hA12_n_53 : IA g H_46 (M 12) 10 (fun j => wI ((sb σ j : Int))) := hM_52 11 _ rfl
        have hA13_n_53 : IA g H_46 (M 13) 60 (fun j => wI (so σ (j / 6) (j % 6) 0)) := hM_52 12 _ rfl
        have hA14_n_53 : IA g H_46 (M 14) 60 (fun j => wI (so σ (j / 6) (j % 6) 1)) := hM_52 13 _ rfl
        have hA15_n_53 : IA g H_46 (M 15) 60 (fun j => wI (so σ (j / 6) (j % 6) 2)) := hM_52 14 _ rfl
        exact w_irR X hr hk hS (ref_1 (by omega) rfl (ModAt.mk hO_n_53 hA1_n_53 hA2_n_53 hA3_n_53 hA5_n_53 hA6_n_53 hA7_n_53 hA8_n_53 hA9_n_53 hA10_n_53 hA11_n_53 hA12_n_53 hA13_n_53 hA14_n_53 hA15_n_53)) dX4_add_39 (Nat.le_of_ble_eq_true rfl) (Nat.le_of_ble_eq_true rfl)
      · skip
        refine w_iload_n X dX4_add_29 hl 1 rfl rfl ?_
        refine w_iload_n X dX4_add_30 hl 2 rfl rfl ?_
        refine w_icmp_ne X 40 dX4_add_31 (by decide) (by omega) (by omega) (fun c_54 => ?_) (fun c_54 => ?_)
        · skip
          refine w_aload_n X dX4_add_40 hl 0 rfl rfl ?_
          refine w_get X hE ho_4 4 dX4_add_41 rfl hin_RX4 (by decide) (by decide +kernel) rfl rfl ?_
          refine w_bipush X dX4_add_44 (by decide) ?_
          refine w_icmp_ne X 55 dX4_add_46 (by decide) (by omega) (by omega) (fun c_55 => ?_) (fun c_55 => ?_)
          · skip
            refine w_aload_n X dX4_add_55 hl 0 rfl rfl ?_
            refine w_get X hE ho_4 5 dX4_add_56 rfl hin_RX4 (by decide) (by decide +kernel) rfl rfl ?_
            refine w_aload_n X dX4_add_59 hl 0 rfl rfl ?_
            refine w_get X hE ho_4 4 dX4_add_60 rfl hin_RX4 (by decide) (by decide +kernel) rfl rfl ?_
            refine w_iload_n X dX4_add_63 hl 1 rfl rfl ?_
            refine w_iast (x := wI (i)) X hE hr_10 hS (hAM 5 (by decide) (by decide)) dX4_add_64 (by omega) (by omega) (by omega) fun H_56 lo_57 hr_58 hz_59 hq_60 hS => ?_
            have ho_61 := (ho_4).kept (hq_60 _ (hMj 0 5 (by decide) (by decide) (by decide) (by decide) (by decide)))
            have hr_62 := (hr_7).kept (hq_60 _ (hMj 1 5 (by decide) (by decide) (by decide) (by decide) (by decide)))
            have hr_63 := (hr_8).kept (hq_60 _ (hMj 2 5 (by decide) (by decide) (by decide) (by decide) (by decide)))
            have hr_64 := (hr_9).kept (hq_60 _ (hMj 3 5 (by decide) (by decide) (by decide) (by decide) (by decide)))
            have hr_65 := (hr_11).kept (hq_60 _ (hMj 6 5 (by decide) (by decide) (by decide) (by decide) (by decide)))
            have hr_66 := (hr_12).kept (hq_60 _ (hMj 7 5 (by decide) (by decide) (by decide) (by decide) (by decide)))
            have hr_67 := (hr_13).kept (hq_60 _ (hMj 8 5 (by decide) (by decide) (by decide) (by decide) (by decide)))
            have hr_68 := (hr_14).kept (hq_60 _ (hMj 9 5 (by decide) (by decide) (by decide) (by decide) (by decide)))
            have hr_69 := (hr_15).kept (hq_60 _ (hMj 10 5 (by decide) (by decide) (by decide) (by decide) (by decide)))
            have hr_70 := (hr_16).kept (hq_60 _ (hMj 11 5 (by decide) (by decide) (by decide) (by decide) (by decide)))
            have hr_71 := (hr_17).kept (hq_60 _ (hMj 12 5 (by decide) (by decide) (by decide) (by decide) (by decide)))
            have hr_72 := (hr_18).kept (hq_60 _ (hMj 13 5 (by decide) (by decide) (by decide) (by decide) (by decide)))
            have hr_73 := (hr_19).kept (hq_60 _ (hMj 14 5 (by decide) (by decide) (by decide) (by decide) (by decide)))
            have hr_74 := (hr_20).kept (hq_60 _ (hMj 15 5 (by decide) (by decide) (by decide) (by decide) (by decide)))
            refine w_aload_n X dX4_add_65 hl 0 rfl rfl ?_
            refine w_get X hE ho_61 6 dX4_add_66 rfl hin_RX4 (by decide) (by decide +kernel) rfl rfl ?_
            refine w_aload_n X dX4_add_69 hl 0 rfl rfl ?_
            refine w_get X hE ho_61 4 dX4_add_70 rfl hin_RX4 (by decide) (by decide +kernel) rfl rfl ?_
            refine w_iload_n X dX4_add_73 hl 2 rfl rfl ?_
            refine w_iast (x := wI (a)) X hE hr_65 hS (hAM 6 (by decide) (by decide)) dX4_add_74 (by omega) (by omega) (by omega) fun H_75 lo_76 hr_77 hz_78 hq_79 hS => ?_
            have ho_80 := (ho_61).kept (hq_79 _ (hMj 0 6 (by decide) (by decide) (by decide) (by decide) (by decide)))
            have hr_81 := (hr_62).kept (hq_79 _ (hMj 1 6 (by decide) (by decide) (by decide) (by decide) (by decide)))
            have hr_82 := (hr_63).kept (hq_79 _ (hMj 2 6 (by decide) (by decide) (by decide) (by decide) (by decide)))
            have hr_83 := (hr_64).kept (hq_79 _ (hMj 3 6 (by decide) (by decide) (by decide) (by decide) (by decide)))
            have hr_84 := (hr_58).kept (hq_79 _ (hMj 5 6 (by decide) (by decide) (by decide) (by decide) (by decide)))
            have hr_85 := (hr_66).kept (hq_79 _ (hMj 7 6 (by decide) (by decide) (by decide) (by decide) (by decide)))
            have hr_86 := (hr_67).kept (hq_79 _ (hMj 8 6 (by decide) (by decide) (by decide) (by decide) (by decide)))
            have hr_87 := (hr_68).kept (hq_79 _ (hMj 9 6 (by decide) (by decide) (by decide) (by decide) (by decide)))
            have hr_88 := (hr_69).kept (hq_79 _ (hMj 10 6 (by decide) (by decide) (by decide) (by decide) (by decide)))
            have hr_89 := (hr_70).kept (hq_79 _ (hMj 11 6 (by decide) (by decide) (by decide) (by decide) (by decide)))
            have hr_90 := (hr_71).kept (hq_79 _ (hMj 12 6 (by decide) (by decide) (by decide) (by decide) (by decide)))
            have hr_91 := (hr_72).kept (hq_79 _ (hMj 13 6 (by decide) (by decide) (by decide) (by decide) (by decide)))
            have hr_92 := (hr_73).kept (hq_79 _ (hMj 14 6 (by decide) (by decide) (by decide) (by decide) (by decide)))
            have hr_93 := (hr_74).kept (hq_79 _ (hMj 15 6 (by decide) (by decide) (by decide) (by decide) (by decide)))
            refine w_aload_n X dX4_add_75 hl 0 rfl rfl ?_
            refine w_get X hE ho_80 7 dX4_add_76 rfl hin_RX4 (by decide) (by decide +kernel) rfl rfl ?_
            refine w_aload_n X dX4_add_79 hl 0 rfl rfl ?_
            refine w_get X hE ho_80 4 dX4_add_80 rfl hin_RX4 (by decide) (by decide +kernel) rfl rfl ?_
            refine w_iload_n X dX4_add_83 hl 3 rfl rfl ?_
            refine w_iast (x := wI (b)) X hE hr_85 hS (hAM 7 (by decide) (by decide)) dX4_add_84 (by omega) (by omega) (by omega) fun H_94 lo_95 hr_96 hz_97 hq_98 hS => ?_
            have ho_99 := (ho_80).kept (hq_98 _ (hMj 0 7 (by decide) (by decide) (by decide) (by decide) (by decide)))
            have hr_100 := (hr_81).kept (hq_98 _ (hMj 1 7 (by decide) (by decide) (by decide) (by decide) (by decide)))
            have hr_101 := (hr_82).kept (hq_98 _ (hMj 2 7 (by decide) (by decide) (by decide) (by decide) (by decide)))
            have hr_102 := (hr_83).kept (hq_98 _ (hMj 3 7 (by decide) (by decide) (by decide) (by decide) (by decide)))
            have hr_103 := (hr_84).kept (hq_98 _ (hMj 5 7 (by decide) (by decide) (by decide) (by decide) (by decide)))
            have hr_104 := (hr_77).kept (hq_98 _ (hMj 6 7 (by decide) (by decide) (by decide) (by decide) (by decide)))
            have hr_105 := (hr_86).kept (hq_98 _ (hMj 8 7 (by decide) (by decide) (by decide) (by decide) (by decide)))
            have hr_106 := (hr_87).kept (hq_98 _ (hMj 9 7 (by decide) (by decide) (by decide) (by decide) (by decide)))
            have hr_107 := (hr_88).kept (hq_98 _ (hMj 10 7 (by decide) (by decide) (by decide) (by decide) (by decide)))
            have hr_108 := (hr_89).kept (hq_98 _ (hMj 11 7 (by decide) (by decide) (by decide) (by decide) (by decide)))
            have hr_109 := (hr_90).kept (hq_98 _ (hMj 12 7 (by decide) (by decide) (by decide) (by decide) (by decide)))
            have hr_110 := (hr_91).kept (hq_98 _ (hMj 13 7 (by decide) (by decide) (by decide) (by decide) (by decide)))
            have hr_111 := (hr_92).kept (hq_98 _ (hMj 14 7 (by decide) (by decide) (by decide) (by decide) (by decide)))
            have hr_112 := (hr_93).kept (hq_98 _ (hMj 15 7 (by decide) (by decide) (by decide) (by decide) (by decide)))
            refine w_aload_n X dX4_add_85 hl 0 rfl rfl ?_
            refine w_dup X dX4_add_86 rfl ?_
            refine w_get X hE ho_99 4 dX4_add_87 rfl hin_RX4 (by decide) (by decide +kernel) rfl rfl ?_
            refine w_iconst X dX4_add_90 ?_
            refine w_iadd X dX4_add_91 fun z_113 ez_113 => ?_
            rw [show z_113 = ((sn σ + 1 : Nat) : Int) by omega]
            refine w_put (ref := "TaxEqualiserModel") (v := .int (wI (((sn σ + 1 : Nat) : Int)))) X hE ho_99 hS (hAM 0 (by decide) (by decide)) 4 dX4_add_92 rfl hin_RX4 tyX4 tyX4_ok nmX4 (by decide) (by decide +kernel) (fun _ h => h) rfl rfl rfl (Nat.le_of_ble_eq_true rfl) fun H_114 lo_115 ho_116 hz_117 hq_118 hS => ?_
            have ho_116 : Ob g H_114 (M 0) 5 [.int (wI (0)), .ref (M 1), .ref (M 2), .ref (M 3), .int (wI (((sn σ + 1 : Nat) : Int))), .ref (M 5), .ref (M 6), .ref (M 7), .ref (M 8), .ref (M 9), .ref (M 10), .ref (M 11), .ref (M 12), .ref (M 13), .ref (M 14), .ref (M 15)] := ho_116
            have hr_119 := (hr_100).kept (hq_118 _ (hMj 1 0 (by decide) (by decide) (by decide) (by decide) (by decide)))
            have hr_120 := (hr_101).kept (hq_118 _ (hMj 2 0 (by decide) (by decide) (by decide) (by decide) (by decide)))
            have hr_121 := (hr_102).kept (hq_118 _ (hMj 3 0 (by decide) (by decide) (by decide) (by decide) (by decide)))
            have hr_122 := (hr_103).kept (hq_118 _ (hMj 5 0 (by decide) (by decide) (by decide) (by decide) (by decide)))
            have hr_123 := (hr_104).kept (hq_118 _ (hMj 6 0 (by decide) (by decide) (by decide) (by decide) (by decide)))
            have hr_124 := (hr_96).kept (hq_118 _ (hMj 7 0 (by decide) (by decide) (by decide) (by decide) (by decide)))
            have hr_125 := (hr_105).kept (hq_118 _ (hMj 8 0 (by decide) (by decide) (by decide) (by decide) (by decide)))
            have hr_126 := (hr_106).kept (hq_118 _ (hMj 9 0 (by decide) (by decide) (by decide) (by decide) (by decide)))
            have hr_127 := (hr_107).kept (hq_118 _ (hMj 10 0 (by decide) (by decide) (by decide) (by decide) (by decide)))
            have hr_128 := (hr_108).kept (hq_118 _ (hMj 11 0 (by decide) (by decide) (by decide) (by decide) (by decide)))
            have hr_129 := (hr_109).kept (hq_118 _ (hMj 12 0 (by decide) (by decide) (by decide) (by decide) (by decide)))
            have hr_130 := (hr_110).kept (hq_118 _ (hMj 13 0 (by decide) (by decide) (by decide) (by decide) (by decide)))
            have hr_131 := (hr_111).kept (hq_118 _ (hMj 14 0 (by decide) (by decide) (by decide) (by decide) (by decide)))
            have hr_132 := (hr_112).kept (hq_118 _ (hMj 15 0 (by decide) (by decide) (by decide) (by decide) (by decide)))
            refine w_aload_n X dX4_add_95 hl 0 rfl rfl ?_
            refine w_get X hE ho_116 4 dX4_add_96 rfl hin_RX4 (by decide) (by decide +kernel) rfl rfl ?_
            refine w_iconst X dX4_add_99 ?_
            refine w_isub X dX4_add_100 fun z_133 ez_133 => ?_
            exact w_irR X hr hk hS (ref_y (y := z_133) (by first | trivial | omega) (by first | trivial | omega) (by first | trivial | omega) (by omega) (ModAt.mk ho_116 hr_119 hr_120 hr_121 (IA.ext hr_122 (fun j hj => (up_at (sp σ) (sn σ) (newS i a b) (fun r => wI (r 0)) j).symm)) (IA.ext hr_123 (fun j hj => (up_at (sp σ) (sn σ) (newS i a b) (fun r => wI (r 1)) j).symm)) (IA.ext hr_124 (fun j hj => (up_at (sp σ) (sn σ) (newS i a b) (fun r => wI (r 2)) j).symm)) (IA.ext hr_125 (fun j hj => (up_id (sp σ) (sn σ) (newS i a b) (fun r => wI (r 3)) (by show wI 0 = wI (sp σ (sn σ) 3); rw [(hs4 _ (Nat.le_refl _)).2.1]) j).symm)) (IA.ext hr_126 (fun j hj => (up_id (sp σ) (sn σ) (newS i a b) (fun r => wI (r 4)) (by show wI 0 = wI (sp σ (sn σ) 4); rw [(hs4 _ (Nat.le_refl _)).2.2.1]) j).symm)) (IA.ext hr_127 (fun j hj => (up_id (sp σ) (sn σ) (newS i a b) (fun r => wI (r 5)) (by show wI 0 = wI (sp σ (sn σ) 5); rw [(hs4 _ (Nat.le_refl _)).2.2.2.1]) j).symm)) (IA.ext hr_128 (fun j hj => (up_id (sp σ) (sn σ) (newS i a b) (fun r => wI (r 6)) (by show wI 0 = wI (sp σ (sn σ) 6); rw [(hs4 _ (Nat.le_refl _)).2.2.2.2]) j).symm)) hr_129 hr_130 hr_131 hr_132)) dX4_add_101 (Nat.le_of_ble_eq_true rfl) (Nat.le_of_ble_eq_true rfl)
          · skip
            refine w_aload_n X dX4_add_49 hl 0 rfl rfl ?_
            refine w_iconst X dX4_add_50 ?_
            have hM_134 : ModAt g H_2 M (0) σ := ModAt.mk ho_4 hr_7 hr_8 hr_9 hr_10 hr_11 hr_12 hr_13 hr_14 hr_15 hr_16 hr_17 hr_18 hr_19 hr_20
            refine w_ir (va_runV (As := [.int (wI (2))]) (rest := []) X (c_X4_fails l g A H_2 M hAM hMj (0) σ hM_134 hσ (2)) (cwV 1 X.2.2.2.2 gX4_add_X4_fails rfl rfl rfl (by decide +kernel) ⟨(Nat.le_of_ble_eq_true rfl), (Nat.le_of_ble_eq_true rfl)⟩) (w_prV hE hEs hS ho_4 rfl) rfl rfl hl.1 rfl (lv_room (Nat.le_of_ble_eq_true rfl)) dX4_add_51 ⟨(Nat.le_of_ble_eq_true rfl), (Nat.le_of_ble_eq_true rfl)⟩) hS (fun _ h => h) fun v_140 H_135 lo_136 hp_137 hz_138 hq_139 hS => ?_
            obtain ⟨rfl, hM_141⟩ := hp_137
            have hO_n_142 : Ob g H_135 (M 0) 5 [.int (wI (2)), .ref (M 1), .ref (M 2), .ref (M 3), .int (wI ((sn σ : Int))), .ref (M 5), .ref (M 6), .ref (M 7), .ref (M 8), .ref (M 9), .ref (M 10), .ref (M 11), .ref (M 12), .ref (M 13), .ref (M 14), .ref (M 15)] := hM_141 0 _ rfl
            have hA1_n_142 : IA g H_135 (M 1) 4 (fun j => wI (σ.1 j 0)) := hM_141 1 _ rfl
            have hA2_n_142 : IA g H_135 (M 2) 4 (fun j => wI (σ.1 j 1)) := hM_141 2 _ rfl
            have hA3_n_142 : IA g H_135 (M 3) 12 (fun j => wI (σ.1 (j / 3) (2 + j % 3))) := hM_141 3 _ rfl
            have hA5_n_142 : IA g H_135 (M 5) 10 (fun j => wI (sp σ j 0)) := hM_141 4 _ rfl
            have hA6_n_142 : IA g H_135 (M 6) 10 (fun j => wI (sp σ j 1)) := hM_141 5 _ rfl
            have hA7_n_142 : IA g H_135 (M 7) 10 (fun j => wI (sp σ j 2)) := hM_141 6 _ rfl
            have hA8_n_142 : IA g H_135 (M 8) 10 (fun j => wI (sp σ j 3)) := hM_141 7 _ rfl
            have hA9_n_142 : IA g H_135 (M 9) 10 (fun j => wI (sp σ j 4)) := hM_141 8 _ rfl
            have hA10_n_142 : IA g H_135 (M 10) 10 (fun j => wI (sp σ j 5)) := hM_141 9 _ rfl
            have hA11_n_142 : IA g H_135 (M 11) 10 (fun j => wI (sp σ j 6)) := hM_141 10 _ rfl
            have hA12_n_142 : IA g H_135 (M 12) 10 (fun j => wI ((sb σ j : Int))) := hM_141 11 _ rfl
            have hA13_n_142 : IA g H_135 (M 13) 60 (fun j => wI (so σ (j / 6) (j % 6) 0)) := hM_141 12 _ rfl
            have hA14_n_142 : IA g H_135 (M 14) 60 (fun j => wI (so σ (j / 6) (j % 6) 1)) := hM_141 13 _ rfl
            have hA15_n_142 : IA g H_135 (M 15) 60 (fun j => wI (so σ (j / 6) (j % 6) 2)) := hM_141 14 _ rfl
            exact w_irR X hr hk hS (ref_2 (by first | trivial | omega) (by omega) rfl (ModAt.mk hO_n_142 hA1_n_142 hA2_n_142 hA3_n_142 hA5_n_142 hA6_n_142 hA7_n_142 hA8_n_142 hA9_n_142 hA10_n_142 hA11_n_142 hA12_n_142 hA13_n_142 hA14_n_142 hA15_n_142)) dX4_add_54 (Nat.le_of_ble_eq_true rfl) (Nat.le_of_ble_eq_true rfl)
        · skip
          refine w_aload_n X dX4_add_34 hl 0 rfl rfl ?_
          refine w_iconst X dX4_add_35 ?_
          have hM_143 : ModAt g H_2 M (0) σ := ModAt.mk ho_4 hr_7 hr_8 hr_9 hr_10 hr_11 hr_12 hr_13 hr_14 hr_15 hr_16 hr_17 hr_18 hr_19 hr_20
          refine w_ir (va_runV (As := [.int (wI (1))]) (rest := []) X (c_X4_fails l g A H_2 M hAM hMj (0) σ hM_143 hσ (1)) (cwV 1 X.2.2.2.2 gX4_add_X4_fails rfl rfl rfl (by decide +kernel) ⟨(Nat.le_of_ble_eq_true rfl), (Nat.le_of_ble_eq_true rfl)⟩) (w_prV hE hEs hS ho_4 rfl) rfl rfl hl.1 rfl (lv_room (Nat.le_of_ble_eq_true rfl)) dX4_add_36 ⟨(Nat.le_of_ble_eq_true rfl), (Nat.le_of_ble_eq_true rfl)⟩) hS (fun _ h => h) fun v_149 H_144 lo_145 hp_146 hz_147 hq_148 hS => ?_
          obtain ⟨rfl, hM_150⟩ := hp_146
          have hO_n_151 : Ob g H_144 (M 0) 5 [.int (wI (1)), .ref (M 1), .ref (M 2), .ref (M 3), .int (wI ((sn σ : Int))), .ref (M 5), .ref (M 6), .ref (M 7), .ref (M 8), .ref (M 9), .ref (M 10), .ref (M 11), .ref (M 12), .ref (M 13), .ref (M 14), .ref (M 15)] := hM_150 0 _ rfl
          have hA1_n_151 : IA g H_144 (M 1) 4 (fun j => wI (σ.1 j 0)) := hM_150 1 _ rfl
          have hA2_n_151 : IA g H_144 (M 2) 4 (fun j => wI (σ.1 j 1)) := hM_150 2 _ rfl
          have hA3_n_151 : IA g H_144 (M 3) 12 (fun j => wI (σ.1 (j / 3) (2 + j % 3))) := hM_150 3 _ rfl
          have hA5_n_151 : IA g H_144 (M 5) 10 (fun j => wI (sp σ j 0)) := hM_150 4 _ rfl
          have hA6_n_151 : IA g H_144 (M 6) 10 (fun j => wI (sp σ j 1)) := hM_150 5 _ rfl
          have hA7_n_151 : IA g H_144 (M 7) 10 (fun j => wI (sp σ j 2)) := hM_150 6 _ rfl
          have hA8_n_151 : IA g H_144 (M 8) 10 (fun j => wI (sp σ j 3)) := hM_150 7 _ rfl
          have hA9_n_151 : IA g H_144 (M 9) 10 (fun j => wI (sp σ j 4)) := hM_150 8 _ rfl
          have hA10_n_151 : IA g H_144 (M 10) 10 (fun j => wI (sp σ j 5)) := hM_150 9 _ rfl
          have hA11_n_151 : IA g H_144 (M 11) 10 (fun j => wI (sp σ j 6)) := hM_150 10 _ rfl
          have hA12_n_151 : IA g H_144 (M 12) 10 (fun j => wI ((sb σ j : Int))) := hM_150 11 _ rfl
          have hA13_n_151 : IA g H_144 (M 13) 60 (fun j => wI (so σ (j / 6) (j % 6) 0)) := hM_150 12 _ rfl
          have hA14_n_151 : IA g H_144 (M 14) 60 (fun j => wI (so σ (j / 6) (j % 6) 1)) := hM_150 13 _ rfl
          have hA15_n_151 : IA g H_144 (M 15) 60 (fun j => wI (so σ (j / 6) (j % 6) 2)) := hM_150 14 _ rfl
          exact w_irR X hr hk hS (ref_1 (by omega) rfl (ModAt.mk hO_n_151 hA1_n_151 hA2_n_151 hA3_n_151 hA5_n_151 hA6_n_151 hA7_n_151 hA8_n_151 hA9_n_151 hA10_n_151 hA11_n_151 hA12_n_151 hA13_n_151 hA14_n_151 hA15_n_151)) dX4_add_39 (Nat.le_of_ble_eq_true rfl) (Nat.le_of_ble_eq_true rfl)

set_option maxHeartbeats 4000000 in
set_option maxRecDepth 100000 in
theorem c_X4_addBonus (l : Launch) (g : wG) (A : Nat → Prop) (H : Heap) (M : Nat → Nat) (hAM : ∀ k, k < 16 → k ≠ 4 → A (M k)) (hMj : AInj M) (th : Int) (σ : St) (hM : ModAt g H M th σ) (hσ : StGood σ) (i a b d : Int) (hi : wR i) (ha : wR a) (hb : wR b) (hd : wR d) : ImpR l g A H yX4_addBonus wsX4_addBonus 2 43 0 0 [.ref (M 0), .int (wI (i)), .int (wI (a)), .int (wI (b)), .int (wI (d))] (fun v H1 => v = .int (wI (stv (((0 : Int) ≤ i ∧ i < (sn σ : Int))) (((1 ≤ a ∧ a ≤ 500000) ∧ (0 ≤ b ∧ b ≤ 11) ∧ b + 1 ≤ d ∧ d ≤ 12)) ((sb σ i.toNat < 6)) ((sb σ i.toNat : Int)))) ∧ ModAt g H1 M (cd (((0 : Int) ≤ i ∧ i < (sn σ : Int))) (((1 ≤ a ∧ a ≤ 500000) ∧ (0 ≤ b ∧ b ≤ 11) ∧ b + 1 ≤ d ∧ d ≤ 12)) ((sb σ i.toNat < 6))) (stp (((0 : Int) ≤ i ∧ i < (sn σ : Int))) (((1 ≤ a ∧ a ≤ 500000) ∧ (0 ≤ b ∧ b ≤ 11) ∧ b + 1 ≤ d ∧ d ≤ 12)) ((sb σ i.toNat < 6)) (nxBon σ i.toNat (bonS a b d)) σ)) := by
  refine Imp.of (cc := cX4_addBonus) (maxL := 6) (ret := (some .int)) (by decide) rfl (Nat.le_of_ble_eq_true rfl) ?_
  intro p9 e s m args below meth c X hE hEs hnm hr hk hS ls hl
  have hl : lv_has ls 6 [(0, .ref (M 0)), (1, .int (wI (i))), (2, .int (wI (a))), (3, .int (wI (b))), (4, .int (wI (d)))] := hl
  have hin_RX4 : ∀ w ∈ u_ws RX4 TX4 16, w ∈ wsX4_addBonus := by decide +kernel
  have hGd := hE.dis
  obtain ⟨hs1, hs2, hs3, hs4⟩ := id hσ
  have hO_n_1 : Ob g H (M 0) 5 [.int (wI (th)), .ref (M 1), .ref (M 2), .ref (M 3), .int (wI ((sn σ : Int))), .ref (M 5), .ref (M 6), .ref (M 7), .ref (M 8), .ref (M 9), .ref (M 10), .ref (M 11), .ref (M 12), .ref (M 13), .ref (M 14), .ref (M 15)] := hM 0 _ rfl
  have hA1_n_1 : IA g H (M 1) 4 (fun j => wI (σ.1 j 0)) := hM 1 _ rfl
  have hA2_n_1 : IA g H (M 2) 4 (fun j => wI (σ.1 j 1)) := hM 2 _ rfl
  have hA3_n_1 : IA g H (M 3) 12 (fun j => wI (σ.1 (j / 3) (2 + j % 3))) := hM 3 _ rfl
  have hA5_n_1 : IA g H (M 5) 10 (fun j => wI (sp σ j 0)) := hM 4 _ rfl
  have hA6_n_1 : IA g H (M 6) 10 (fun j => wI (sp σ j 1)) := hM 5 _ rfl
  have hA7_n_1 : IA g H (M 7) 10 (fun j => wI (sp σ j 2)) := hM 6 _ rfl
  have hA8_n_1 : IA g H (M 8) 10 (fun j => wI (sp σ j 3)) := hM 7 _ rfl
  have hA9_n_1 : IA g H (M 9) 10 (fun j => wI (sp σ j 4)) := hM 8 _ rfl
  have hA10_n_1 : IA g H (M 10) 10 (fun j => wI (sp σ j 5)) := hM 9 _ rfl
  have hA11_n_1 : IA g H (M 11) 10 (fun j => wI (sp σ j 6)) := hM 10 _ rfl
  have hA12_n_1 : IA g H (M 12) 10 (fun j => wI ((sb σ j : Int))) := hM 11 _ rfl
  have hA13_n_1 : IA g H (M 13) 60 (fun j => wI (so σ (j / 6) (j % 6) 0)) := hM 12 _ rfl
  have hA14_n_1 : IA g H (M 14) 60 (fun j => wI (so σ (j / 6) (j % 6) 1)) := hM 13 _ rfl
  have hA15_n_1 : IA g H (M 15) 60 (fun j => wI (so σ (j / 6) (j % 6) 2)) := hM 14 _ rfl
  refine w_aload_n X dX4_addBonus_0 hl 0 rfl rfl ?_
  refine w_iload_n X dX4_addBonus_1 hl 1 rfl rfl ?_
  refine w_ir (va_runV (As := [.int (wI (i))]) (rest := []) X (c_X4_isAsked l g A H M hAM hMj (th) σ hM hσ (i) (by omega)) (cwV 1 X.2.2.2.2 gX4_addBonus_X4_isAsked rfl rfl rfl (by decide +kernel) ⟨(Nat.le_of_ble_eq_true rfl), (Nat.le_of_ble_eq_true rfl)⟩) (w_prV hE hEs hS hO_n_1 rfl) rfl rfl hl.1 rfl (lv_room (Nat.le_of_ble_eq_true rfl)) dX4_addBonus_2 ⟨(Nat.le_of_ble_eq_true rfl), (Nat.le_of_ble_eq_true rfl)⟩) hS (fun _ h => h) fun v_7 H_2 lo_3 hp_4 hz_5 hq_6 hS => ?_
  obtain ⟨rfl, hM_8⟩ := hp_4
  have qa_hM_8 := inS_spec 0 (i) ((sn σ : Int) - 1)
  have hO_n_9 : Ob g H_2 (M 0) 5 [.int (wI (1 - inS 0 (i) ((sn σ : Int) - 1))), .ref (M 1), .ref (M 2), .ref (M 3), .int (wI ((sn σ : Int))), .ref (M 5), .ref (M 6), .ref (M 7), .ref (M 8), .ref (M 9), .ref (M 10), .ref (M 11), .ref (M 12), .ref (M 13), .ref (M 14), .ref (M 15)] := hM_8 0 _ rfl
  have hA1_n_9 : IA g H_2 (M 1) 4 (fun j => wI (σ.1 j 0)) := hM_8 1 _ rfl
  have hA2_n_9 : IA g H_2 (M 2) 4 (fun j => wI (σ.1 j 1)) := hM_8 2 _ rfl
  have hA3_n_9 : IA g H_2 (M 3) 12 (fun j => wI (σ.1 (j / 3) (2 + j % 3))) := hM_8 3 _ rfl
  have hA5_n_9 : IA g H_2 (M 5) 10 (fun j => wI (sp σ j 0)) := hM_8 4 _ rfl
  have hA6_n_9 : IA g H_2 (M 6) 10 (fun j => wI (sp σ j 1)) := hM_8 5 _ rfl
  have hA7_n_9 : IA g H_2 (M 7) 10 (fun j => wI (sp σ j 2)) := hM_8 6 _ rfl
  have hA8_n_9 : IA g H_2 (M 8) 10 (fun j => wI (sp σ j 3)) := hM_8 7 _ rfl
  have hA9_n_9 : IA g H_2 (M 9) 10 (fun j => wI (sp σ j 4)) := hM_8 8 _ rfl
  have hA10_n_9 : IA g H_2 (M 10) 10 (fun j => wI (sp σ j 5)) := hM_8 9 _ rfl
  have hA11_n_9 : IA g H_2 (M 11) 10 (fun j => wI (sp σ j 6)) := hM_8 10 _ rfl
  have hA12_n_9 : IA g H_2 (M 12) 10 (fun j => wI ((sb σ j : Int))) := hM_8 11 _ rfl
  have hA13_n_9 : IA g H_2 (M 13) 60 (fun j => wI (so σ (j / 6) (j % 6) 0)) := hM_8 12 _ rfl
  have hA14_n_9 : IA g H_2 (M 14) 60 (fun j => wI (so σ (j / 6) (j % 6) 1)) := hM_8 13 _ rfl
  have hA15_n_9 : IA g H_2 (M 15) 60 (fun j => wI (so σ (j / 6) (j % 6) 2)) := hM_8 14 _ rfl
  refine w_if_ne X 10 dX4_addBonus_5 (by decide) (by omega) (fun c_10 => ?_) (fun c_10 => ?_)
  · skip
    refine w_iload_n X dX4_addBonus_10 hl 2 rfl rfl ?_
    refine w_iconst X dX4_addBonus_11 ?_
    refine w_ldc (v := 500000) (z := 500000) X dX4_addBonus_12 (by decide +kernel) (by decide) ?_
    refine w_callS (v := .int (wI (inS (1) (a) (500000)))) 3 X hE (c_X4_in l g H_2 (a) (1) (500000) (by omega) (by omega) (by omega)) hl dX4_addBonus_14 gX4_addBonus_X4_in rfl rfl (by decide +kernel) ⟨(Nat.le_of_ble_eq_true rfl), (Nat.le_of_ble_eq_true rfl)⟩ rfl (Nat.le_of_ble_eq_true rfl) ⟨(Nat.le_of_ble_eq_true rfl), (Nat.le_of_ble_eq_true rfl)⟩ ?_
    have qi_11 := inS_spec (1) (a) (500000)
    refine w_if_eq X 43 dX4_addBonus_17 (by decide) (by omega) (fun c_12 => ?_) (fun c_12 => ?_)
    · skip
      refine w_aload_n X dX4_addBonus_43 hl 0 rfl rfl ?_
      refine w_iconst X dX4_addBonus_44 ?_
      refine w_ir (va_runV (As := [.int (wI (2))]) (rest := []) X (c_X4_fails l g A H_2 M hAM hMj (1 - inS 0 (i) ((sn σ : Int) - 1)) σ hM_8 hσ (2)) (cwV 1 X.2.2.2.2 gX4_addBonus_X4_fails rfl rfl rfl (by decide +kernel) ⟨(Nat.le_of_ble_eq_true rfl), (Nat.le_of_ble_eq_true rfl)⟩) (w_prV hE hEs hS hO_n_9 rfl) rfl rfl hl.1 rfl (lv_room (Nat.le_of_ble_eq_true rfl)) dX4_addBonus_45 ⟨(Nat.le_of_ble_eq_true rfl), (Nat.le_of_ble_eq_true rfl)⟩) hS (fun _ h => h) fun v_18 H_13 lo_14 hp_15 hz_16 hq_17 hS => ?_
      obtain ⟨rfl, hM_19⟩ := hp_15
      have hO_n_20 : Ob g H_13 (M 0) 5 [.int (wI (2)), .ref (M 1), .ref (M 2), .ref (M 3), .int (wI ((sn σ : Int))), .ref (M 5), .ref (M 6), .ref (M 7), .ref (M 8), .ref (M 9), .ref (M 10), .ref (M 11), .ref (M 12), .ref (M 13), .ref (M 14), .ref (M 15)] := hM_19 0 _ rfl
      have hA1_n_20 : IA g H_13 (M 1) 4 (fun j => wI (σ.1 j 0)) := hM_19 1 _ rfl
      have hA2_n_20 : IA g H_13 (M 2) 4 (fun j => wI (σ.1 j 1)) := hM_19 2 _ rfl
      have hA3_n_20 : IA g H_13 (M 3) 12 (fun j => wI (σ.1 (j / 3) (2 + j % 3))) := hM_19 3 _ rfl
      have hA5_n_20 : IA g H_13 (M 5) 10 (fun j => wI (sp σ j 0)) := hM_19 4 _ rfl
      have hA6_n_20 : IA g H_13 (M 6) 10 (fun j => wI (sp σ j 1)) := hM_19 5 _ rfl
      have hA7_n_20 : IA g H_13 (M 7) 10 (fun j => wI (sp σ j 2)) := hM_19 6 _ rfl
      have hA8_n_20 : IA g H_13 (M 8) 10 (fun j => wI (sp σ j 3)) := hM_19 7 _ rfl
      have hA9_n_20 : IA g H_13 (M 9) 10 (fun j => wI (sp σ j 4)) := hM_19 8 _ rfl
      have hA10_n_20 : IA g H_13 (M 10) 10 (fun j => wI (sp σ j 5)) := hM_19 9 _ rfl
      have hA11_n_20 : IA g H_13 (M 11) 10 (fun j => wI (sp σ j 6)) := hM_19 10 _ rfl
      have hA12_n_20 : IA g H_13 (M 12) 10 (fun j => wI ((sb σ j : Int))) := hM_19 11 _ rfl
      have hA13_n_20 : IA g H_13 (M 13) 60 (fun j => wI (so σ (j / 6) (j % 6) 0)) := hM_19 12 _ rfl
      have hA14_n_20 : IA g H_13 (M 14) 60 (fun j => wI (so σ (j / 6) (j % 6) 1)) := hM_19 13 _ rfl
      have hA15_n_20 : IA g H_13 (M 15) 60 (fun j => wI (so σ (j / 6) (j % 6) 2)) := hM_19 14 _ rfl
      exact w_irR X hr hk hS (ref_2 (by first | trivial | omega) (by omega) rfl (ModAt.mk hO_n_20 hA1_n_20 hA2_n_20 hA3_n_20 hA5_n_20 hA6_n_20 hA7_n_20 hA8_n_20 hA9_n_20 hA10_n_20 hA11_n_20 hA12_n_20 hA13_n_20 hA14_n_20 hA15_n_20)) dX4_addBonus_48 (Nat.le_of_ble_eq_true rfl) (Nat.le_of_ble_eq_true rfl)
    · skip
      refine w_iload_n X dX4_addBonus_20 hl 3 rfl rfl ?_
      refine w_iconst X dX4_addBonus_21 ?_
      refine w_bipush X dX4_addBonus_22 (by decide) ?_
      refine w_callS (v := .int (wI (inS (0) (b) (11)))) 3 X hE (c_X4_in l g H_2 (b) (0) (11) (by omega) (by omega) (by omega)) hl dX4_addBonus_24 gX4_addBonus_X4_in rfl rfl (by decide +kernel) ⟨(Nat.le_of_ble_eq_true rfl), (Nat.le_of_ble_eq_true rfl)⟩ rfl (Nat.le_of_ble_eq_true rfl) ⟨(Nat.le_of_ble_eq_true rfl), (Nat.le_of_ble_eq_true rfl)⟩ ?_
      have qi_21 := inS_spec (0) (b) (11)
      refine w_if_eq X 43 dX4_addBonus_27 (by decide) (by omega) (fun c_22 => ?_) (fun c_22 => ?_)
      · skip
        refine w_aload_n X dX4_addBonus_43 hl 0 rfl rfl ?_
        refine w_iconst X dX4_addBonus_44 ?_
        refine w_ir (va_runV (As := [.int (wI (2))]) (rest := []) X (c_X4_fails l g A H_2 M hAM hMj (1 - inS 0 (i) ((sn σ : Int) - 1)) σ hM_8 hσ (2)) (cwV 1 X.2.2.2.2 gX4_addBonus_X4_fails rfl rfl rfl (by decide +kernel) ⟨(Nat.le_of_ble_eq_true rfl), (Nat.le_of_ble_eq_true rfl)⟩) (w_prV hE hEs hS hO_n_9 rfl) rfl rfl hl.1 rfl (lv_room (Nat.le_of_ble_eq_true rfl)) dX4_addBonus_45 ⟨(Nat.le_of_ble_eq_true rfl), (Nat.le_of_ble_eq_true rfl)⟩) hS (fun _ h => h) fun v_28 H_23 lo_24 hp_25 hz_26 hq_27 hS => ?_
        obtain ⟨rfl, hM_29⟩ := hp_25
        have hO_n_30 : Ob g H_23 (M 0) 5 [.int (wI (2)), .ref (M 1), .ref (M 2), .ref (M 3), .int (wI ((sn σ : Int))), .ref (M 5), .ref (M 6), .ref (M 7), .ref (M 8), .ref (M 9), .ref (M 10), .ref (M 11), .ref (M 12), .ref (M 13), .ref (M 14), .ref (M 15)] := hM_29 0 _ rfl
        have hA1_n_30 : IA g H_23 (M 1) 4 (fun j => wI (σ.1 j 0)) := hM_29 1 _ rfl
        have hA2_n_30 : IA g H_23 (M 2) 4 (fun j => wI (σ.1 j 1)) := hM_29 2 _ rfl
        have hA3_n_30 : IA g H_23 (M 3) 12 (fun j => wI (σ.1 (j / 3) (2 + j % 3))) := hM_29 3 _ rfl
        have hA5_n_30 : IA g H_23 (M 5) 10 (fun j => wI (sp σ j 0)) := hM_29 4 _ rfl
        have hA6_n_30 : IA g H_23 (M 6) 10 (fun j => wI (sp σ j 1)) := hM_29 5 _ rfl
        have hA7_n_30 : IA g H_23 (M 7) 10 (fun j => wI (sp σ j 2)) := hM_29 6 _ rfl
        have hA8_n_30 : IA g H_23 (M 8) 10 (fun j => wI (sp σ j 3)) := hM_29 7 _ rfl
        have hA9_n_30 : IA g H_23 (M 9) 10 (fun j => wI (sp σ j 4)) := hM_29 8 _ rfl
        have hA10_n_30 : IA g H_23 (M 10) 10 (fun j => wI (sp σ j 5)) := hM_29 9 _ rfl
        have hA11_n_30 : IA g H_23 (M 11) 10 (fun j => wI (sp σ j 6)) := hM_29 10 _ rfl
        have hA12_n_30 : IA g H_23 (M 12) 10 (fun j => wI ((sb σ j : Int))) := hM_29 11 _ rfl
        have hA13_n_30 : IA g H_23 (M 13) 60 (fun j => wI (so σ (j / 6) (j % 6) 0)) := hM_29 12 _ rfl
        have hA14_n_30 : IA g H_23 (M 14) 60 (fun j => wI (so σ (j / 6) (j % 6) 1)) := hM_29 13 _ rfl
        have hA15_n_30 : IA g H_23 (M 15) 60 (fun j => wI (so σ (j / 6) (j % 6) 2)) := hM_29 14 _ rfl
        exact w_irR X hr hk hS (ref_2 (by first | trivial | omega) (by omega) rfl (ModAt.mk hO_n_30 hA1_n_30 hA2_n_30 hA3_n_30 hA5_n_30 hA6_n_30 hA7_n_30 hA8_n_30 hA9_n_30 hA10_n_30 hA11_n_30 hA12_n_30 hA13_n_30 hA14_n_30 hA15_n_30)) dX4_addBonus_48 (Nat.le_of_ble_eq_true rfl) (Nat.le_of_ble_eq_true rfl)
      · skip
        refine w_iload X dX4_addBonus_30 hl 4 rfl ?_
        refine w_iload_n X dX4_addBonus_32 hl 3 rfl rfl ?_
        refine w_iconst X dX4_addBonus_33 ?_
        refine w_iadd X dX4_addBonus_34 fun z_31 ez_31 => ?_
        refine w_bipush X dX4_addBonus_35 (by decide) ?_
        refine w_callS (v := .int (wI (inS (z_31) (d) (12)))) 3 X hE (c_X4_in l g H_2 (d) (z_31) (12) (by omega) (by omega) (by omega)) hl dX4_addBonus_37 gX4_addBonus_X4_in rfl rfl (by decide +kernel) ⟨(Nat.le_of_ble_eq_true rfl), (Nat.le_of_ble_eq_true rfl)⟩ rfl (Nat.le_of_ble_eq_true rfl) ⟨(Nat.le_of_ble_eq_true rfl), (Nat.le_of_ble_eq_true rfl)⟩ ?_
        have qi_32 := inS_spec (z_31) (d) (12)
        refine w_if_ne X 49 dX4_addBonus_40 (by decide) (by omega) (fun c_33 => ?_) (fun c_33 => ?_)
        · skip
          have hsb := (hs3 i.toNat (by omega)).1.2.2.2.2.1
          refine w_aload_n X dX4_addBonus_49 hl 0 rfl rfl ?_
          refine w_get X hE hO_n_9 12 dX4_addBonus_50 rfl hin_RX4 (by decide) (by decide +kernel) rfl rfl ?_
          refine w_iload_n X dX4_addBonus_53 hl 1 rfl rfl ?_
          refine w_iald (y := wI ((sb σ (i).toNat : Int))) X hE hA12_n_9 dX4_addBonus_54 (by omega) (by omega) (by omega) rfl ?_
          refine w_bipush X dX4_addBonus_55 (by decide) ?_
          refine w_icmp_ne X 66 dX4_addBonus_57 (by decide) (by omega) (by omega) (fun c_34 => ?_) (fun c_34 => ?_)
          · skip
            refine w_bipush X dX4_addBonus_66 (by decide) ?_
            refine w_iload_n X dX4_addBonus_68 hl 1 rfl rfl ?_
            refine w_imul X dX4_addBonus_69 fun z_35 ez_35 => ?_
            refine w_aload_n X dX4_addBonus_70 hl 0 rfl rfl ?_
            refine w_get X hE hO_n_9 12 dX4_addBonus_71 rfl hin_RX4 (by decide) (by decide +kernel) rfl rfl ?_
            refine w_iload_n X dX4_addBonus_74 hl 1 rfl rfl ?_
            refine w_iald (y := wI ((sb σ (i).toNat : Int))) X hE hA12_n_9 dX4_addBonus_75 (by omega) (by omega) (by omega) rfl ?_
            refine w_iadd X dX4_addBonus_76 fun z_36 ez_36 => ?_
            refine w_istore X [(5, .int (wI (z_36))), (0, .ref (M 0)), (1, .int (wI (i))), (2, .int (wI (a))), (3, .int (wI (b))), (4, .int (wI (d)))] dX4_addBonus_77 hl (by decide) rfl fun ls hl => ?_
            refine w_aload_n X dX4_addBonus_79 hl 1 rfl rfl ?_
            refine w_get X hE hO_n_9 13 dX4_addBonus_80 rfl hin_RX4 (by decide) (by decide +kernel) rfl rfl ?_
            refine w_iload X dX4_addBonus_83 hl 0 rfl ?_
            refine w_iload_n X dX4_addBonus_85 hl 3 rfl rfl ?_
            refine w_iast (x := wI (a)) X hE hA13_n_9 hS (hAM 13 (by decide) (by decide)) dX4_addBonus_86 (by omega) (by omega) (by omega) fun H_37 lo_38 hr_39 hz_40 hq_41 hS => ?_
            have ho_42 := (hO_n_9).kept (hq_41 _ (hMj 0 13 (by decide) (by decide) (by decide) (by decide) (by decide)))
            have hr_43 := (hA1_n_9).kept (hq_41 _ (hMj 1 13 (by decide) (by decide) (by decide) (by decide) (by decide)))
            have hr_44 := (hA2_n_9).kept (hq_41 _ (hMj 2 13 (by decide) (by decide) (by decide) (by decide) (by decide)))
            have hr_45 := (hA3_n_9).kept (hq_41 _ (hMj 3 13 (by decide) (by decide) (by decide) (by decide) (by decide)))
            have hr_46 := (hA5_n_9).kept (hq_41 _ (hMj 5 13 (by decide) (by decide) (by decide) (by decide) (by decide)))
            have hr_47 := (hA6_n_9).kept (hq_41 _ (hMj 6 13 (by decide) (by decide) (by decide) (by decide) (by decide)))
            have hr_48 := (hA7_n_9).kept (hq_41 _ (hMj 7 13 (by decide) (by decide) (by decide) (by decide) (by decide)))
            have hr_49 := (hA8_n_9).kept (hq_41 _ (hMj 8 13 (by decide) (by decide) (by decide) (by decide) (by decide)))
            have hr_50 := (hA9_n_9).kept (hq_41 _ (hMj 9 13 (by decide) (by decide) (by decide) (by decide) (by decide)))
            have hr_51 := (hA10_n_9).kept (hq_41 _ (hMj 10 13 (by decide) (by decide) (by decide) (by decide) (by decide)))
            have hr_52 := (hA11_n_9).kept (hq_41 _ (hMj 11 13 (by decide) (by decide) (by decide) (by decide) (by decide)))
            have hr_53 := (hA12_n_9).kept (hq_41 _ (hMj 12 13 (by decide) (by decide) (by decide) (by decide) (by decide)))
            have hr_54 := (hA14_n_9).kept (hq_41 _ (hMj 14 13 (by decide) (by decide) (by decide) (by decide) (by decide)))
            have hr_55 := (hA15_n_9).kept (hq_41 _ (hMj 15 13 (by decide) (by decide) (by decide) (by decide) (by decide)))
            refine w_aload_n X dX4_addBonus_87 hl 1 rfl rfl ?_
            refine w_get X hE ho_42 14 dX4_addBonus_88 rfl hin_RX4 (by decide) (by decide +kernel) rfl rfl ?_
            refine w_iload X dX4_addBonus_91 hl 0 rfl ?_
            refine w_iload_n X dX4_addBonus_93 hl 4 rfl rfl ?_
            refine w_iast (x := wI (b)) X hE hr_54 hS (hAM 14 (by decide) (by decide)) dX4_addBonus_94 (by omega) (by omega) (by omega) fun H_56 lo_57 hr_58 hz_59 hq_60 hS => ?_
            have ho_61 := (ho_42).kept (hq_60 _ (hMj 0 14 (by decide) (by decide) (by decide) (by decide) (by decide)))
            have hr_62 := (hr_43).kept (hq_60 _ (hMj 1 14 (by decide) (by decide) (by decide) (by decide) (by decide)))
            have hr_63 := (hr_44).kept (hq_60 _ (hMj 2 14 (by decide) (by decide) (by decide) (by decide) (by decide)))
            have hr_64 := (hr_45).kept (hq_60 _ (hMj 3 14 (by decide) (by decide) (by decide) (by decide) (by decide)))
            have hr_65 := (hr_46).kept (hq_60 _ (hMj 5 14 (by decide) (by decide) (by decide) (by decide) (by decide)))
            have hr_66 := (hr_47).kept (hq_60 _ (hMj 6 14 (by decide) (by decide) (by decide) (by decide) (by decide)))
            have hr_67 := (hr_48).kept (hq_60 _ (hMj 7 14 (by decide) (by decide) (by decide) (by decide) (by decide)))
            have hr_68 := (hr_49).kept (hq_60 _ (hMj 8 14 (by decide) (by decide) (by decide) (by decide) (by decide)))
            have hr_69 := (hr_50).kept (hq_60 _ (hMj 9 14 (by decide) (by decide) (by decide) (by decide) (by decide)))
            have hr_70 := (hr_51).kept (hq_60 _ (hMj 10 14 (by decide) (by decide) (by decide) (by decide) (by decide)))
            have hr_71 := (hr_52).kept (hq_60 _ (hMj 11 14 (by decide) (by decide) (by decide) (by decide) (by decide)))
            have hr_72 := (hr_53).kept (hq_60 _ (hMj 12 14 (by decide) (by decide) (by decide) (by decide) (by decide)))
            have hr_73 := (hr_39).kept (hq_60 _ (hMj 13 14 (by decide) (by decide) (by decide) (by decide) (by decide)))
            have hr_74 := (hr_55).kept (hq_60 _ (hMj 15 14 (by decide) (by decide) (by decide) (by decide) (by decide)))
            refine w_aload_n X dX4_addBonus_95 hl 1 rfl rfl ?_
            refine w_get X hE ho_61 15 dX4_addBonus_96 rfl hin_RX4 (by decide) (by decide +kernel) rfl rfl ?_
            refine w_iload X dX4_addBonus_99 hl 0 rfl ?_
            refine w_iload X dX4_addBonus_101 hl 5 rfl ?_
            refine w_iast (x := wI (d)) X hE hr_74 hS (hAM 15 (by decide) (by decide)) dX4_addBonus_103 (by omega) (by omega) (by omega) fun H_75 lo_76 hr_77 hz_78 hq_79 hS => ?_
            have ho_80 := (ho_61).kept (hq_79 _ (hMj 0 15 (by decide) (by decide) (by decide) (by decide) (by decide)))
            have hr_81 := (hr_62).kept (hq_79 _ (hMj 1 15 (by decide) (by decide) (by decide) (by decide) (by decide)))
            have hr_82 := (hr_63).kept (hq_79 _ (hMj 2 15 (by decide) (by decide) (by decide) (by decide) (by decide)))
            have hr_83 := (hr_64).kept (hq_79 _ (hMj 3 15 (by decide) (by decide) (by decide) (by decide) (by decide)))
            have hr_84 := (hr_65).kept (hq_79 _ (hMj 5 15 (by decide) (by decide) (by decide) (by decide) (by decide)))
            have hr_85 := (hr_66).kept (hq_79 _ (hMj 6 15 (by decide) (by decide) (by decide) (by decide) (by decide)))
            have hr_86 := (hr_67).kept (hq_79 _ (hMj 7 15 (by decide) (by decide) (by decide) (by decide) (by decide)))
            have hr_87 := (hr_68).kept (hq_79 _ (hMj 8 15 (by decide) (by decide) (by decide) (by decide) (by decide)))
            have hr_88 := (hr_69).kept (hq_79 _ (hMj 9 15 (by decide) (by decide) (by decide) (by decide) (by decide)))
            have hr_89 := (hr_70).kept (hq_79 _ (hMj 10 15 (by decide) (by decide) (by decide) (by decide) (by decide)))
            have hr_90 := (hr_71).kept (hq_79 _ (hMj 11 15 (by decide) (by decide) (by decide) (by decide) (by decide)))
            have hr_91 := (hr_72).kept (hq_79 _ (hMj 12 15 (by decide) (by decide) (by decide) (by decide) (by decide)))
            have hr_92 := (hr_73).kept (hq_79 _ (hMj 13 15 (by decide) (by decide) (by decide) (by decide) (by decide)))
            have hr_93 := (hr_58).kept (hq_79 _ (hMj 14 15 (by decide) (by decide) (by decide) (by decide) (by decide)))
            refine w_aload_n X dX4_addBonus_104 hl 1 rfl rfl ?_
            refine w_get X hE ho_80 12 dX4_addBonus_105 rfl hin_RX4 (by decide) (by decide +kernel) rfl rfl ?_
            refine w_iload_n X dX4_addBonus_108 hl 2 rfl rfl ?_
            refine lv_dup2_11 X.1 X.2.1 dX4_addBonus_109 rfl rfl ?_
            refine w_iald (y := wI ((sb σ (i).toNat : Int))) X hE hr_91 dX4_addBonus_110 (by omega) (by omega) (by omega) rfl ?_
            refine w_iconst X dX4_addBonus_111 ?_
            refine w_iadd X dX4_addBonus_112 fun z_94 ez_94 => ?_
            rw [show z_94 = ((sb σ i.toNat + 1 : Nat) : Int) by omega]
            refine w_iast (x := wI (((sb σ i.toNat + 1 : Nat) : Int))) X hE hr_91 hS (hAM 12 (by decide) (by decide)) dX4_addBonus_113 (by omega) (by omega) (by omega) fun H_95 lo_96 hr_97 hz_98 hq_99 hS => ?_
            have ho_100 := (ho_80).kept (hq_99 _ (hMj 0 12 (by decide) (by decide) (by decide) (by decide) (by decide)))
            have hr_101 := (hr_81).kept (hq_99 _ (hMj 1 12 (by decide) (by decide) (by decide) (by decide) (by decide)))
            have hr_102 := (hr_82).kept (hq_99 _ (hMj 2 12 (by decide) (by decide) (by decide) (by decide) (by decide)))
            have hr_103 := (hr_83).kept (hq_99 _ (hMj 3 12 (by decide) (by decide) (by decide) (by decide) (by decide)))
            have hr_104 := (hr_84).kept (hq_99 _ (hMj 5 12 (by decide) (by decide) (by decide) (by decide) (by decide)))
            have hr_105 := (hr_85).kept (hq_99 _ (hMj 6 12 (by decide) (by decide) (by decide) (by decide) (by decide)))
            have hr_106 := (hr_86).kept (hq_99 _ (hMj 7 12 (by decide) (by decide) (by decide) (by decide) (by decide)))
            have hr_107 := (hr_87).kept (hq_99 _ (hMj 8 12 (by decide) (by decide) (by decide) (by decide) (by decide)))
            have hr_108 := (hr_88).kept (hq_99 _ (hMj 9 12 (by decide) (by decide) (by decide) (by decide) (by decide)))
            have hr_109 := (hr_89).kept (hq_99 _ (hMj 10 12 (by decide) (by decide) (by decide) (by decide) (by decide)))
            have hr_110 := (hr_90).kept (hq_99 _ (hMj 11 12 (by decide) (by decide) (by decide) (by decide) (by decide)))
            have hr_111 := (hr_92).kept (hq_99 _ (hMj 13 12 (by decide) (by decide) (by decide) (by decide) (by decide)))
            have hr_112 := (hr_93).kept (hq_99 _ (hMj 14 12 (by decide) (by decide) (by decide) (by decide) (by decide)))
            have hr_113 := (hr_77).kept (hq_99 _ (hMj 15 12 (by decide) (by decide) (by decide) (by decide) (by decide)))
            refine w_aload_n X dX4_addBonus_114 hl 1 rfl rfl ?_
            refine w_get X hE ho_100 12 dX4_addBonus_115 rfl hin_RX4 (by decide) (by decide +kernel) rfl rfl ?_
            refine w_iload_n X dX4_addBonus_118 hl 2 rfl rfl ?_
            refine w_iald (y := wI (((sb σ i.toNat + 1 : Nat) : Int))) X hE hr_97 dX4_addBonus_119 (by omega) (by omega) (by omega) (va_up_self _ _ _) ?_
            refine w_iconst X dX4_addBonus_120 ?_
            refine w_isub X dX4_addBonus_121 fun z_114 ez_114 => ?_
            exact w_irR X hr hk hS (ref_y (y := z_114) (by first | trivial | omega) (by first | trivial | omega) (by first | trivial | omega) (by omega) (ModAt.cast (ModAt.mk ho_100 hr_101 hr_102 hr_103 hr_104 hr_105 hr_106 hr_107 hr_108 hr_109 hr_110 (IA.ext hr_97 (fun j hj => (up_at (sb σ) i.toNat (sb σ i.toNat + 1) (fun r => wI (r : Int)) j).symm)) (IA.ext hr_111 (fun j hj => bon_up (i := i.toNat) (b := sb σ i.toNat) (bo := (bonS a b d)) (by omega) (by omega) j)) (IA.ext hr_112 (fun j hj => bon_up (i := i.toNat) (b := sb σ i.toNat) (bo := (bonS a b d)) (by omega) (by omega) j)) (IA.ext hr_113 (fun j hj => bon_up (i := i.toNat) (b := sb σ i.toNat) (bo := (bonS a b d)) (by omega) (by omega) j))) (by omega : (1 - inS 0 (i) ((sn σ : Int) - 1) : Int) = 0))) dX4_addBonus_122 (Nat.le_of_ble_eq_true rfl) (Nat.le_of_ble_eq_true rfl)
          · skip
            refine w_aload_n X dX4_addBonus_60 hl 0 rfl rfl ?_
            refine w_iconst X dX4_addBonus_61 ?_
            refine w_ir (va_runV (As := [.int (wI (3))]) (rest := []) X (c_X4_fails l g A H_2 M hAM hMj (1 - inS 0 (i) ((sn σ : Int) - 1)) σ hM_8 hσ (3)) (cwV 1 X.2.2.2.2 gX4_addBonus_X4_fails rfl rfl rfl (by decide +kernel) ⟨(Nat.le_of_ble_eq_true rfl), (Nat.le_of_ble_eq_true rfl)⟩) (w_prV hE hEs hS hO_n_9 rfl) rfl rfl hl.1 rfl (lv_room (Nat.le_of_ble_eq_true rfl)) dX4_addBonus_62 ⟨(Nat.le_of_ble_eq_true rfl), (Nat.le_of_ble_eq_true rfl)⟩) hS (fun _ h => h) fun v_120 H_115 lo_116 hp_117 hz_118 hq_119 hS => ?_
            obtain ⟨rfl, hM_121⟩ := hp_117
            have hO_n_122 : Ob g H_115 (M 0) 5 [.int (wI (3)), .ref (M 1), .ref (M 2), .ref (M 3), .int (wI ((sn σ : Int))), .ref (M 5), .ref (M 6), .ref (M 7), .ref (M 8), .ref (M 9), .ref (M 10), .ref (M 11), .ref (M 12), .ref (M 13), .ref (M 14), .ref (M 15)] := hM_121 0 _ rfl
            have hA1_n_122 : IA g H_115 (M 1) 4 (fun j => wI (σ.1 j 0)) := hM_121 1 _ rfl
            have hA2_n_122 : IA g H_115 (M 2) 4 (fun j => wI (σ.1 j 1)) := hM_121 2 _ rfl
            have hA3_n_122 : IA g H_115 (M 3) 12 (fun j => wI (σ.1 (j / 3) (2 + j % 3))) := hM_121 3 _ rfl
            have hA5_n_122 : IA g H_115 (M 5) 10 (fun j => wI (sp σ j 0)) := hM_121 4 _ rfl
            have hA6_n_122 : IA g H_115 (M 6) 10 (fun j => wI (sp σ j 1)) := hM_121 5 _ rfl
            have hA7_n_122 : IA g H_115 (M 7) 10 (fun j => wI (sp σ j 2)) := hM_121 6 _ rfl
            have hA8_n_122 : IA g H_115 (M 8) 10 (fun j => wI (sp σ j 3)) := hM_121 7 _ rfl
            have hA9_n_122 : IA g H_115 (M 9) 10 (fun j => wI (sp σ j 4)) := hM_121 8 _ rfl
            have hA10_n_122 : IA g H_115 (M 10) 10 (fun j => wI (sp σ j 5)) := hM_121 9 _ rfl
            have hA11_n_122 : IA g H_115 (M 11) 10 (fun j => wI (sp σ j 6)) := hM_121 10 _ rfl
            have hA12_n_122 : IA g H_115 (M 12) 10 (fun j => wI ((sb σ j : Int))) := hM_121 11 _ rfl
            have hA13_n_122 : IA g H_115 (M 13) 60 (fun j => wI (so σ (j / 6) (j % 6) 0)) := hM_121 12 _ rfl
            have hA14_n_122 : IA g H_115 (M 14) 60 (fun j => wI (so σ (j / 6) (j % 6) 1)) := hM_121 13 _ rfl
            have hA15_n_122 : IA g H_115 (M 15) 60 (fun j => wI (so σ (j / 6) (j % 6) 2)) := hM_121 14 _ rfl
            exact w_irR X hr hk hS (ref_3 (by first | trivial | omega) (by first | trivial | omega) (by omega) rfl (ModAt.mk hO_n_122 hA1_n_122 hA2_n_122 hA3_n_122 hA5_n_122 hA6_n_122 hA7_n_122 hA8_n_122 hA9_n_122 hA10_n_122 hA11_n_122 hA12_n_122 hA13_n_122 hA14_n_122 hA15_n_122)) dX4_addBonus_65 (Nat.le_of_ble_eq_true rfl) (Nat.le_of_ble_eq_true rfl)
        · skip
          refine w_aload_n X dX4_addBonus_43 hl 0 rfl rfl ?_
          refine w_iconst X dX4_addBonus_44 ?_
          refine w_ir (va_runV (As := [.int (wI (2))]) (rest := []) X (c_X4_fails l g A H_2 M hAM hMj (1 - inS 0 (i) ((sn σ : Int) - 1)) σ hM_8 hσ (2)) (cwV 1 X.2.2.2.2 gX4_addBonus_X4_fails rfl rfl rfl (by decide +kernel) ⟨(Nat.le_of_ble_eq_true rfl), (Nat.le_of_ble_eq_true rfl)⟩) (w_prV hE hEs hS hO_n_9 rfl) rfl rfl hl.1 rfl (lv_room (Nat.le_of_ble_eq_true rfl)) dX4_addBonus_45 ⟨(Nat.le_of_ble_eq_true rfl), (Nat.le_of_ble_eq_true rfl)⟩) hS (fun _ h => h) fun v_128 H_123 lo_124 hp_125 hz_126 hq_127 hS => ?_
          obtain ⟨rfl, hM_129⟩ := hp_125
          have hO_n_130 : Ob g H_123 (M 0) 5 [.int (wI (2)), .ref (M 1), .ref (M 2), .ref (M 3), .int (wI ((sn σ : Int))), .ref (M 5), .ref (M 6), .ref (M 7), .ref (M 8), .ref (M 9), .ref (M 10), .ref (M 11), .ref (M 12), .ref (M 13), .ref (M 14), .ref (M 15)] := hM_129 0 _ rfl
          have hA1_n_130 : IA g H_123 (M 1) 4 (fun j => wI (σ.1 j 0)) := hM_129 1 _ rfl
          have hA2_n_130 : IA g H_123 (M 2) 4 (fun j => wI (σ.1 j 1)) := hM_129 2 _ rfl
          have hA3_n_130 : IA g H_123 (M 3) 12 (fun j => wI (σ.1 (j / 3) (2 + j % 3))) := hM_129 3 _ rfl
          have hA5_n_130 : IA g H_123 (M 5) 10 (fun j => wI (sp σ j 0)) := hM_129 4 _ rfl
          have hA6_n_130 : IA g H_123 (M 6) 10 (fun j => wI (sp σ j 1)) := hM_129 5 _ rfl
          have hA7_n_130 : IA g H_123 (M 7) 10 (fun j => wI (sp σ j 2)) := hM_129 6 _ rfl
          have hA8_n_130 : IA g H_123 (M 8) 10 (fun j => wI (sp σ j 3)) := hM_129 7 _ rfl
          have hA9_n_130 : IA g H_123 (M 9) 10 (fun j => wI (sp σ j 4)) := hM_129 8 _ rfl
          have hA10_n_130 : IA g H_123 (M 10) 10 (fun j => wI (sp σ j 5)) := hM_129 9 _ rfl
          have hA11_n_130 : IA g H_123 (M 11) 10 (fun j => wI (sp σ j 6)) := hM_129 10 _ rfl
          have hA12_n_130 : IA g H_123 (M 12) 10 (fun j => wI ((sb σ j : Int))) := hM_129 11 _ rfl
          have hA13_n_130 : IA g H_123 (M 13) 60 (fun j => wI (so σ (j / 6) (j % 6) 0)) := hM_129 12 _ rfl
          have hA14_n_130 : IA g H_123 (M 14) 60 (fun j => wI (so σ (j / 6) (j % 6) 1)) := hM_129 13 _ rfl
          have hA15_n_130 : IA g H_123 (M 15) 60 (fun j => wI (so σ (j / 6) (j % 6) 2)) := hM_129 14 _ rfl
          exact w_irR X hr hk hS (ref_2 (by first | trivial | omega) (by omega) rfl (ModAt.mk hO_n_130 hA1_n_130 hA2_n_130 hA3_n_130 hA5_n_130 hA6_n_130 hA7_n_130 hA8_n_130 hA9_n_130 hA10_n_130 hA11_n_130 hA12_n_130 hA13_n_130 hA14_n_130 hA15_n_130)) dX4_addBonus_48 (Nat.le_of_ble_eq_true rfl) (Nat.le_of_ble_eq_true rfl)
  · skip
    refine w_iconst X dX4_addBonus_8 ?_
    exact w_irR X hr hk hS (ref_1 (by omega) rfl (ModAt.cast (ModAt.mk hO_n_9 hA1_n_9 hA2_n_9 hA3_n_9 hA5_n_9 hA6_n_9 hA7_n_9 hA8_n_9 hA9_n_9 hA10_n_9 hA11_n_9 hA12_n_9 hA13_n_9 hA14_n_9 hA15_n_9) (by omega : (1 - inS 0 (i) ((sn σ : Int) - 1) : Int) = 1))) dX4_addBonus_9 (Nat.le_of_ble_eq_true rfl) (Nat.le_of_ble_eq_true rfl)
