/-! the reference: people changed -/

set_option maxHeartbeats 4000000 in
set_option maxRecDepth 100000 in
theorem c_X4_setAbroad (l : Launch) (g : wG) (A : Nat → Prop) (H : Heap) (M : Nat → Nat) (hAM : ∀ k, k < 16 → k ≠ 4 → A (M k)) (hMj : AInj M) (th : Int) (σ : St) (hM : ModAt g H M th σ) (hσ : StGood σ) (i a b : Int) (hi : wR i) (ha : wR a) (hb : wR b) : ImpR l g A H yX4_setAbroad wsX4_setAbroad 2 43 0 0 [.ref (M 0), .int (wI (i)), .int (wI (a)), .int (wI (b))] (fun v H1 => v = .int (wI (stv (((0 : Int) ≤ i ∧ i < (sn σ : Int))) (((0 ≤ a ∧ a ≤ 12) ∧ a ≤ b ∧ b ≤ 12)) (True) (monS (sp σ i.toNat)))) ∧ ModAt g H1 M (cd (((0 : Int) ≤ i ∧ i < (sn σ : Int))) (((0 ≤ a ∧ a ≤ 12) ∧ a ≤ b ∧ b ≤ 12)) (True)) (stp (((0 : Int) ≤ i ∧ i < (sn σ : Int))) (((0 ≤ a ∧ a ≤ 12) ∧ a ≤ b ∧ b ≤ 12)) (True) (nxPers σ i.toNat (absS (sp σ i.toNat) a b)) σ)) := by
  refine Imp.of (cc := cX4_setAbroad) (maxL := 5) (ret := (some .int)) (by decide) rfl (Nat.le_of_ble_eq_true rfl) ?_
  intro p9 e s m args below meth c X hE hEs hnm hr hk hS ls hl
  have hl : lv_has ls 5 [(0, .ref (M 0)), (1, .int (wI (i))), (2, .int (wI (a))), (3, .int (wI (b)))] := hl
  have hin_RX4 : ∀ w ∈ u_ws RX4 TX4 16, w ∈ wsX4_setAbroad := by decide +kernel
  have hGd := hE.dis
  obtain ⟨hs1, hs2, hs3, hs4⟩ := id hσ
  have hO_n_1 : Ob g H (M 0) 5 [.int (wI (th)), .ref (M 1), .ref (M 2), .ref (M 3), .int (wI ((sn σ : Int))), .ref (M 5), .ref (M 6), .ref (M 7), .ref (M 8), .ref (M 9), .ref (M 10), .ref (M 11), .ref (M 12), .ref (M 13), .ref (M 14), .ref (M 15)] := hM 0 _ rfl
  have hA1_n_1 : IA g H (M 1) 4 (fun j => wI (σ.1 j 0)) := hM 1 _ rfl
  have hA2_n_1 : IA g H (M 2) 4 (fun j => wI (σ.1 j 1)) := hM 2 _ rfl
  have hA3_n_1 : IA g H (M 3) 12 (fun j => wI (σ.1 (j / 3) (2 + j % 3))) := hM 3 _ rfl
  have hA5_n_1 : IA g H (M 5) 10 (fun j => wI (sp σ j 0)) := hM 4 _ rfl
  have hA6_n_1 : IA g H (M 6) 10 (fun j => wI (sp σ j 1)) := hM 5 _ rfl
  have hA7_n_1 : IA g H (M 7) 10 (fun j => wI (sp σ j 2)) := hM 6 _ rfl
  have hA8_n_1 : IA g H (M 8) 10 (fun j => wI (sp σ j 3)) := hM 7 _ rfl
  have hA9_n_1 : IA g H (M 9) 10 (fun j => wI (sp σ j 4)) := hM 8 _ rfl
  have hA10_n_1 : IA g H (M 10) 10 (fun j => wI (sp σ j 5)) := hM 9 _ rfl
  have hA11_n_1 : IA g H (M 11) 10 (fun j => wI (sp σ j 6)) := hM 10 _ rfl
  have hA12_n_1 : IA g H (M 12) 10 (fun j => wI ((sb σ j : Int))) := hM 11 _ rfl
  have hA13_n_1 : IA g H (M 13) 60 (fun j => wI (so σ (j / 6) (j % 6) 0)) := hM 12 _ rfl
  have hA14_n_1 : IA g H (M 14) 60 (fun j => wI (so σ (j / 6) (j % 6) 1)) := hM 13 _ rfl
  have hA15_n_1 : IA g H (M 15) 60 (fun j => wI (so σ (j / 6) (j % 6) 2)) := hM 14 _ rfl
  refine w_aload_n X dX4_setAbroad_0 hl 0 rfl rfl ?_
  refine w_iload_n X dX4_setAbroad_1 hl 1 rfl rfl ?_
  refine w_ir (va_runV (As := [.int (wI (i))]) (rest := []) X (c_X4_isAsked l g A H M hAM hMj (th) σ hM hσ (i) (by omega)) (cwV 1 X.2.2.2.2 gX4_setAbroad_X4_isAsked rfl rfl rfl (by decide +kernel) ⟨(Nat.le_of_ble_eq_true rfl), (Nat.le_of_ble_eq_true rfl)⟩) (w_prV hE hEs hS hO_n_1 rfl) rfl rfl hl.1 rfl (lv_room (Nat.le_of_ble_eq_true rfl)) dX4_setAbroad_2 ⟨(Nat.le_of_ble_eq_true rfl), (Nat.le_of_ble_eq_true rfl)⟩) hS (fun _ h => h) fun v_7 H_2 lo_3 hp_4 hz_5 hq_6 hS => ?_
  obtain ⟨rfl, hM_8⟩ := hp_4
  have qa_hM_8 := inS_spec 0 (i) ((sn σ : Int) - 1)
  have hO_n_9 : Ob g H_2 (M 0) 5 [.int (wI (1 - inS 0 (i) ((sn σ : Int) - 1))), .ref (M 1), .ref (M 2), .ref (M 3), .int (wI ((sn σ : Int))), .ref (M 5), .ref (M 6), .ref (M 7), .ref (M 8), .ref (M 9), .ref (M 10), .ref (M 11), .ref (M 12), .ref (M 13), .ref (M 14), .ref (M 15)] := hM_8 0 _ rfl
  have hA1_n_9 : IA g H_2 (M 1) 4 (fun j => wI (σ.1 j 0)) := hM_8 1 _ rfl
  have hA2_n_9 : IA g H_2 (M 2) 4 (fun j => wI (σ.1 j 1)) := hM_8 2 _ rfl
  have hA3_n_9 : IA g H_2 (M 3) 12 (fun j => wI (σ.1 (j / 3) (2 + j % 3))) := hM_8 3 _ rfl
  have hA5_n_9 : IA g H_2 (M 5) 10 (fun j => wI (sp σ j 0)) := hM_8 4 _ rfl
  have hA6_n_9 : IA g H_2 (M 6) 10 (fun j => wI (sp σ j 1)) := hM_8 5 _ rfl
  have hA7_n_9 : IA g H_2 (M 7) 10 (fun j => wI (sp σ j 2)) := hM_8 6 _ rfl
  have hA8_n_9 : IA g H_2 (M 8) 10 (fun j => wI (sp σ j 3)) := hM_8 7 _ rfl
  have hA9_n_9 : IA g H_2 (M 9) 10 (fun j => wI (sp σ j 4)) := hM_8 8 _ rfl
  have hA10_n_9 : IA g H_2 (M 10) 10 (fun j => wI (sp σ j 5)) := hM_8 9 _ rfl
  have hA11_n_9 : IA g H_2 (M 11) 10 (fun j => wI (sp σ j 6)) := hM_8 10 _ rfl
  have hA12_n_9 : IA g H_2 (M 12) 10 (fun j => wI ((sb σ j : Int))) := hM_8 11 _ rfl
  have hA13_n_9 : IA g H_2 (M 13) 60 (fun j => wI (so σ (j / 6) (j % 6) 0)) := hM_8 12 _ rfl
  have hA14_n_9 : IA g H_2 (M 14) 60 (fun j => wI (so σ (j / 6) (j % 6) 1)) := hM_8 13 _ rfl
  have hA15_n_9 : IA g H_2 (M 15) 60 (fun j => wI (so σ (j / 6) (j % 6) 2)) := hM_8 14 _ rfl
  refine w_if_ne X 10 dX4_setAbroad_5 (by decide) (by omega) (fun c_10 => ?_) (fun c_10 => ?_)
  · skip
    refine w_iload_n X dX4_setAbroad_10 hl 2 rfl rfl ?_
    refine w_iconst X dX4_setAbroad_11 ?_
    refine w_bipush X dX4_setAbroad_12 (by decide) ?_
    refine w_callS (v := .int (wI (inS (0) (a) (12)))) 3 X hE (c_X4_in l g H_2 (a) (0) (12) (by omega) (by omega) (by omega)) hl dX4_setAbroad_14 gX4_setAbroad_X4_in rfl rfl (by decide +kernel) ⟨(Nat.le_of_ble_eq_true rfl), (Nat.le_of_ble_eq_true rfl)⟩ rfl (Nat.le_of_ble_eq_true rfl) ⟨(Nat.le_of_ble_eq_true rfl), (Nat.le_of_ble_eq_true rfl)⟩ ?_
    have qi_11 := inS_spec (0) (a) (12)
    refine w_if_eq X 30 dX4_setAbroad_17 (by decide) (by omega) (fun c_12 => ?_) (fun c_12 => ?_)
    · skip
      refine w_aload_n X dX4_setAbroad_30 hl 0 rfl rfl ?_
      refine w_iconst X dX4_setAbroad_31 ?_
      refine w_ir (va_runV (As := [.int (wI (2))]) (rest := []) X (c_X4_fails l g A H_2 M hAM hMj (1 - inS 0 (i) ((sn σ : Int) - 1)) σ hM_8 hσ (2)) (cwV 1 X.2.2.2.2 gX4_setAbroad_X4_fails rfl rfl rfl (by decide +kernel) ⟨(Nat.le_of_ble_eq_true rfl), (Nat.le_of_ble_eq_true rfl)⟩) (w_prV hE hEs hS hO_n_9 rfl) rfl rfl hl.1 rfl (lv_room (Nat.le_of_ble_eq_true rfl)) dX4_setAbroad_32 ⟨(Nat.le_of_ble_eq_true rfl), (Nat.le_of_ble_eq_true rfl)⟩) hS (fun _ h => h) fun v_18 H_13 lo_14 hp_15 hz_16 hq_17 hS => ?_
      obtain ⟨rfl, hM_19⟩ := hp_15
      have hO_n_20 : Ob g H_13 (M 0) 5 [.int (wI (2)), .ref (M 1), .ref (M 2), .ref (M 3), .int (wI ((sn σ : Int))), .ref (M 5), .ref (M 6), .ref (M 7), .ref (M 8), .ref (M 9), .ref (M 10), .ref (M 11), .ref (M 12), .ref (M 13), .ref (M 14), .ref (M 15)] := hM_19 0 _ rfl
      have hA1_n_20 : IA g H_13 (M 1) 4 (fun j => wI (σ.1 j 0)) := hM_19 1 _ rfl
      have hA2_n_20 : IA g H_13 (M 2) 4 (fun j => wI (σ.1 j 1)) := hM_19 2 _ rfl
      have hA3_n_20 : IA g H_13 (M 3) 12 (fun j => wI (σ.1 (j / 3) (2 + j % 3))) := hM_19 3 _ rfl
      have hA5_n_20 : IA g H_13 (M 5) 10 (fun j => wI (sp σ j 0)) := hM_19 4 _ rfl
      have hA6_n_20 : IA g H_13 (M 6) 10 (fun j => wI (sp σ j 1)) := hM_19 5 _ rfl
      have hA7_n_20 : IA g H_13 (M 7) 10 (fun j => wI (sp σ j 2)) := hM_19 6 _ rfl
      have hA8_n_20 : IA g H_13 (M 8) 10 (fun j => wI (sp σ j 3)) := hM_19 7 _ rfl
      have hA9_n_20 : IA g H_13 (M 9) 10 (fun j => wI (sp σ j 4)) := hM_19 8 _ rfl
      have hA10_n_20 : IA g H_13 (M 10) 10 (fun j => wI (sp σ j 5)) := hM_19 9 _ rfl
      have hA11_n_20 : IA g H_13 (M 11) 10 (fun j => wI (sp σ j 6)) := hM_19 10 _ rfl
      have hA12_n_20 : IA g H_13 (M 12) 10 (fun j => wI ((sb σ j : Int))) := hM_19 11 _ rfl
      have hA13_n_20 : IA g H_13 (M 13) 60 (fun j => wI (so σ (j / 6) (j % 6) 0)) := hM_19 12 _ rfl
      have hA14_n_20 : IA g H_13 (M 14) 60 (fun j => wI (so σ (j / 6) (j % 6) 1)) := hM_19 13 _ rfl
      have hA15_n_20 : IA g H_13 (M 15) 60 (fun j => wI (so σ (j / 6) (j % 6) 2)) := hM_19 14 _ rfl
      exact w_irR X hr hk hS (ref_2 (by first | trivial | omega) (by omega) rfl (ModAt.mk hO_n_20 hA1_n_20 hA2_n_20 hA3_n_20 hA5_n_20 hA6_n_20 hA7_n_20 hA8_n_20 hA9_n_20 hA10_n_20 hA11_n_20 hA12_n_20 hA13_n_20 hA14_n_20 hA15_n_20)) dX4_setAbroad_35 (Nat.le_of_ble_eq_true rfl) (Nat.le_of_ble_eq_true rfl)
    · skip
      refine w_iload_n X dX4_setAbroad_20 hl 3 rfl rfl ?_
      refine w_iload_n X dX4_setAbroad_21 hl 2 rfl rfl ?_
      refine w_bipush X dX4_setAbroad_22 (by decide) ?_
      refine w_callS (v := .int (wI (inS (a) (b) (12)))) 3 X hE (c_X4_in l g H_2 (b) (a) (12) (by omega) (by omega) (by omega)) hl dX4_setAbroad_24 gX4_setAbroad_X4_in rfl rfl (by decide +kernel) ⟨(Nat.le_of_ble_eq_true rfl), (Nat.le_of_ble_eq_true rfl)⟩ rfl (Nat.le_of_ble_eq_true rfl) ⟨(Nat.le_of_ble_eq_true rfl), (Nat.le_of_ble_eq_true rfl)⟩ ?_
      have qi_21 := inS_spec (a) (b) (12)
      refine w_if_ne X 36 dX4_setAbroad_27 (by decide) (by omega) (fun c_22 => ?_) (fun c_22 => ?_)
      · skip
        refine w_aload_n X dX4_setAbroad_36 hl 0 rfl rfl ?_
        refine w_get X hE hO_n_9 9 dX4_setAbroad_37 rfl hin_RX4 (by decide) (by decide +kernel) rfl rfl ?_
        refine w_iload_n X dX4_setAbroad_40 hl 1 rfl rfl ?_
        refine w_iald (y := wI (sp σ (i).toNat 4)) X hE hA9_n_9 dX4_setAbroad_41 (by omega) (by omega) (by omega) rfl ?_
        refine w_aload_n X dX4_setAbroad_42 hl 0 rfl rfl ?_
        refine w_get X hE hO_n_9 8 dX4_setAbroad_43 rfl hin_RX4 (by decide) (by decide +kernel) rfl rfl ?_
        refine w_iload_n X dX4_setAbroad_46 hl 1 rfl rfl ?_
        refine w_iald (y := wI (sp σ (i).toNat 3)) X hE hA8_n_9 dX4_setAbroad_47 (by omega) (by omega) (by omega) rfl ?_
        refine w_isub X dX4_setAbroad_48 fun z_23 ez_23 => ?_
        refine w_istore X [(4, .int (wI (z_23))), (0, .ref (M 0)), (1, .int (wI (i))), (2, .int (wI (a))), (3, .int (wI (b)))] dX4_setAbroad_49 hl (by decide) rfl fun ls hl => ?_
        refine w_aload_n X dX4_setAbroad_51 hl 1 rfl rfl ?_
        refine w_get X hE hO_n_9 8 dX4_setAbroad_52 rfl hin_RX4 (by decide) (by decide +kernel) rfl rfl ?_
        refine w_iload_n X dX4_setAbroad_55 hl 2 rfl rfl ?_
        refine w_iload_n X dX4_setAbroad_56 hl 3 rfl rfl ?_
        refine w_iast (x := wI (a)) X hE hA8_n_9 hS (hAM 8 (by decide) (by decide)) dX4_setAbroad_57 (by omega) (by omega) (by omega) fun H_24 lo_25 hr_26 hz_27 hq_28 hS => ?_
        have ho_29 := (hO_n_9).kept (hq_28 _ (hMj 0 8 (by decide) (by decide) (by decide) (by decide) (by decide)))
        have hr_30 := (hA1_n_9).kept (hq_28 _ (hMj 1 8 (by decide) (by decide) (by decide) (by decide) (by decide)))
        have hr_31 := (hA2_n_9).kept (hq_28 _ (hMj 2 8 (by decide) (by decide) (by decide) (by decide) (by decide)))
        have hr_32 := (hA3_n_9).kept (hq_28 _ (hMj 3 8 (by decide) (by decide) (by decide) (by decide) (by decide)))
        have hr_33 := (hA5_n_9).kept (hq_28 _ (hMj 5 8 (by decide) (by decide) (by decide) (by decide) (by decide)))
        have hr_34 := (hA6_n_9).kept (hq_28 _ (hMj 6 8 (by decide) (by decide) (by decide) (by decide) (by decide)))
        have hr_35 := (hA7_n_9).kept (hq_28 _ (hMj 7 8 (by decide) (by decide) (by decide) (by decide) (by decide)))
        have hr_36 := (hA9_n_9).kept (hq_28 _ (hMj 9 8 (by decide) (by decide) (by decide) (by decide) (by decide)))
        have hr_37 := (hA10_n_9).kept (hq_28 _ (hMj 10 8 (by decide) (by decide) (by decide) (by decide) (by decide)))
        have hr_38 := (hA11_n_9).kept (hq_28 _ (hMj 11 8 (by decide) (by decide) (by decide) (by decide) (by decide)))
        have hr_39 := (hA12_n_9).kept (hq_28 _ (hMj 12 8 (by decide) (by decide) (by decide) (by decide) (by decide)))
        have hr_40 := (hA13_n_9).kept (hq_28 _ (hMj 13 8 (by decide) (by decide) (by decide) (by decide) (by decide)))
        have hr_41 := (hA14_n_9).kept (hq_28 _ (hMj 14 8 (by decide) (by decide) (by decide) (by decide) (by decide)))
        have hr_42 := (hA15_n_9).kept (hq_28 _ (hMj 15 8 (by decide) (by decide) (by decide) (by decide) (by decide)))
        refine w_aload_n X dX4_setAbroad_58 hl 1 rfl rfl ?_
        refine w_get X hE ho_29 9 dX4_setAbroad_59 rfl hin_RX4 (by decide) (by decide +kernel) rfl rfl ?_
        refine w_iload_n X dX4_setAbroad_62 hl 2 rfl rfl ?_
        refine w_iload_n X dX4_setAbroad_63 hl 4 rfl rfl ?_
        refine w_iast (x := wI (b)) X hE hr_36 hS (hAM 9 (by decide) (by decide)) dX4_setAbroad_64 (by omega) (by omega) (by omega) fun H_43 lo_44 hr_45 hz_46 hq_47 hS => ?_
        have ho_48 := (ho_29).kept (hq_47 _ (hMj 0 9 (by decide) (by decide) (by decide) (by decide) (by decide)))
        have hr_49 := (hr_30).kept (hq_47 _ (hMj 1 9 (by decide) (by decide) (by decide) (by decide) (by decide)))
        have hr_50 := (hr_31).kept (hq_47 _ (hMj 2 9 (by decide) (by decide) (by decide) (by decide) (by decide)))
        have hr_51 := (hr_32).kept (hq_47 _ (hMj 3 9 (by decide) (by decide) (by decide) (by decide) (by decide)))
        have hr_52 := (hr_33).kept (hq_47 _ (hMj 5 9 (by decide) (by decide) (by decide) (by decide) (by decide)))
        have hr_53 := (hr_34).kept (hq_47 _ (hMj 6 9 (by decide) (by decide) (by decide) (by decide) (by decide)))
        have hr_54 := (hr_35).kept (hq_47 _ (hMj 7 9 (by decide) (by decide) (by decide) (by decide) (by decide)))
        have hr_55 := (hr_26).kept (hq_47 _ (hMj 8 9 (by decide) (by decide) (by decide) (by decide) (by decide)))
        have hr_56 := (hr_37).kept (hq_47 _ (hMj 10 9 (by decide) (by decide) (by decide) (by decide) (by decide)))
        have hr_57 := (hr_38).kept (hq_47 _ (hMj 11 9 (by decide) (by decide) (by decide) (by decide) (by decide)))
        have hr_58 := (hr_39).kept (hq_47 _ (hMj 12 9 (by decide) (by decide) (by decide) (by decide) (by decide)))
        have hr_59 := (hr_40).kept (hq_47 _ (hMj 13 9 (by decide) (by decide) (by decide) (by decide) (by decide)))
        have hr_60 := (hr_41).kept (hq_47 _ (hMj 14 9 (by decide) (by decide) (by decide) (by decide) (by decide)))
        have hr_61 := (hr_42).kept (hq_47 _ (hMj 15 9 (by decide) (by decide) (by decide) (by decide) (by decide)))
        refine w_iload X dX4_setAbroad_65 hl 0 rfl ?_
        exact w_irR X hr hk hS (ref_y (y := z_23) (by first | trivial | omega) (by first | trivial | omega) (by first | trivial | omega) (by unfold monS; omega) (ModAt.cast (ModAt.mk ho_48 hr_49 hr_50 hr_51 (IA.ext hr_52 (fun j hj => (up_id (sp σ) i.toNat (absS (sp σ i.toNat) a b) (fun r => wI (r 0)) rfl j).symm)) (IA.ext hr_53 (fun j hj => (up_id (sp σ) i.toNat (absS (sp σ i.toNat) a b) (fun r => wI (r 1)) rfl j).symm)) (IA.ext hr_54 (fun j hj => (up_id (sp σ) i.toNat (absS (sp σ i.toNat) a b) (fun r => wI (r 2)) rfl j).symm)) (IA.ext hr_55 (fun j hj => (up_at (sp σ) i.toNat (absS (sp σ i.toNat) a b) (fun r => wI (r 3)) j).symm)) (IA.ext hr_45 (fun j hj => (up_at (sp σ) i.toNat (absS (sp σ i.toNat) a b) (fun r => wI (r 4)) j).symm)) (IA.ext hr_56 (fun j hj => (up_id (sp σ) i.toNat (absS (sp σ i.toNat) a b) (fun r => wI (r 5)) rfl j).symm)) (IA.ext hr_57 (fun j hj => (up_id (sp σ) i.toNat (absS (sp σ i.toNat) a b) (fun r => wI (r 6)) rfl j).symm)) hr_58 hr_59 hr_60 hr_61) (by omega : (1 - inS 0 (i) ((sn σ : Int) - 1) : Int) = 0))) dX4_setAbroad_67 (Nat.le_of_ble_eq_true rfl) (Nat.le_of_ble_eq_true rfl)
      · skip
        refine w_aload_n X dX4_setAbroad_30 hl 0 rfl rfl ?_
        refine w_iconst X dX4_setAbroad_31 ?_
        refine w_ir (va_runV (As := [.int (wI (2))]) (rest := []) X (c_X4_fails l g A H_2 M hAM hMj (1 - inS 0 (i) ((sn σ : Int) - 1)) σ hM_8 hσ (2)) (cwV 1 X.2.2.2.2 gX4_setAbroad_X4_fails rfl rfl rfl (by decide +kernel) ⟨(Nat.le_of_ble_eq_true rfl), (Nat.le_of_ble_eq_true rfl)⟩) (w_prV hE hEs hS hO_n_9 rfl) rfl rfl hl.1 rfl (lv_room (Nat.le_of_ble_eq_true rfl)) dX4_setAbroad_32 ⟨(Nat.le_of_ble_eq_true rfl), (Nat.le_of_ble_eq_true rfl)⟩) hS (fun _ h => h) fun v_67 H_62 lo_63 hp_64 hz_65 hq_66 hS => ?_
        obtain ⟨rfl, hM_68⟩ := hp_64
        have hO_n_69 : Ob g H_62 (M 0) 5 [.int (wI (2)), .ref (M 1), .ref (M 2), .ref (M 3), .int (wI ((sn σ : Int))), .ref (M 5), .ref (M 6), .ref (M 7), .ref (M 8), .ref (M 9), .ref (M 10), .ref (M 11), .ref (M 12), .ref (M 13), .ref (M 14), .ref (M 15)] := hM_68 0 _ rfl
        have hA1_n_69 : IA g H_62 (M 1) 4 (fun j => wI (σ.1 j 0)) := hM_68 1 _ rfl
        have hA2_n_69 : IA g H_62 (M 2) 4 (fun j => wI (σ.1 j 1)) := hM_68 2 _ rfl
        have hA3_n_69 : IA g H_62 (M 3) 12 (fun j => wI (σ.1 (j / 3) (2 + j % 3))) := hM_68 3 _ rfl
        have hA5_n_69 : IA g H_62 (M 5) 10 (fun j => wI (sp σ j 0)) := hM_68 4 _ rfl
        have hA6_n_69 : IA g H_62 (M 6) 10 (fun j => wI (sp σ j 1)) := hM_68 5 _ rfl
        have hA7_n_69 : IA g H_62 (M 7) 10 (fun j => wI (sp σ j 2)) := hM_68 6 _ rfl
        have hA8_n_69 : IA g H_62 (M 8) 10 (fun j => wI (sp σ j 3)) := hM_68 7 _ rfl
        have hA9_n_69 : IA g H_62 (M 9) 10 (fun j => wI (sp σ j 4)) := hM_68 8 _ rfl
        have hA10_n_69 : IA g H_62 (M 10) 10 (fun j => wI (sp σ j 5)) := hM_68 9 _ rfl
        have hA11_n_69 : IA g H_62 (M 11) 10 (fun j => wI (sp σ j 6)) := hM_68 10 _ rfl
        have hA12_n_69 : IA g H_62 (M 12) 10 (fun j => wI ((sb σ j : Int))) := hM_68 11 _ rfl
        have hA13_n_69 : IA g H_62 (M 13) 60 (fun j => wI (so σ (j / 6) (j % 6) 0)) := hM_68 12 _ rfl
        have hA14_n_69 : IA g H_62 (M 14) 60 (fun j => wI (so σ (j / 6) (j % 6) 1)) := hM_68 13 _ rfl
        have hA15_n_69 : IA g H_62 (M 15) 60 (fun j => wI (so σ (j / 6) (j % 6) 2)) := hM_68 14 _ rfl
        exact w_irR X hr hk hS (ref_2 (by first | trivial | omega) (by omega) rfl (ModAt.mk hO_n_69 hA1_n_69 hA2_n_69 hA3_n_69 hA5_n_69 hA6_n_69 hA7_n_69 hA8_n_69 hA9_n_69 hA10_n_69 hA11_n_69 hA12_n_69 hA13_n_69 hA14_n_69 hA15_n_69)) dX4_setAbroad_35 (Nat.le_of_ble_eq_true rfl) (Nat.le_of_ble_eq_true rfl)
  · skip
    refine w_iconst X dX4_setAbroad_8 ?_
    exact w_irR X hr hk hS (ref_1 (by omega) rfl (ModAt.cast (ModAt.mk hO_n_9 hA1_n_9 hA2_n_9 hA3_n_9 hA5_n_9 hA6_n_9 hA7_n_9 hA8_n_9 hA9_n_9 hA10_n_9 hA11_n_9 hA12_n_9 hA13_n_9 hA14_n_9 hA15_n_9) (by omega : (1 - inS 0 (i) ((sn σ : Int) - 1) : Int) = 1))) dX4_setAbroad_9 (Nat.le_of_ble_eq_true rfl) (Nat.le_of_ble_eq_true rfl)

set_option maxHeartbeats 4000000 in
set_option maxRecDepth 100000 in
theorem c_X4_setPay (l : Launch) (g : wG) (A : Nat → Prop) (H : Heap) (M : Nat → Nat) (hAM : ∀ k, k < 16 → k ≠ 4 → A (M k)) (hMj : AInj M) (th : Int) (σ : St) (hM : ModAt g H M th σ) (hσ : StGood σ) (i a : Int) (hi : wR i) (ha : wR a) : ImpR l g A H yX4_setPay wsX4_setPay 2 43 0 0 [.ref (M 0), .int (wI (i)), .int (wI (a))] (fun v H1 => v = .int (wI (stv (((0 : Int) ≤ i ∧ i < (sn σ : Int))) ((0 ≤ a ∧ a ≤ 100000)) (True) (sp σ i.toNat 2))) ∧ ModAt g H1 M (cd (((0 : Int) ≤ i ∧ i < (sn σ : Int))) ((0 ≤ a ∧ a ≤ 100000)) (True)) (stp (((0 : Int) ≤ i ∧ i < (sn σ : Int))) ((0 ≤ a ∧ a ≤ 100000)) (True) (nxPers σ i.toNat (payS (sp σ i.toNat) a)) σ)) := by
  refine Imp.of (cc := cX4_setPay) (maxL := 4) (ret := (some .int)) (by decide) rfl (Nat.le_of_ble_eq_true rfl) ?_
  intro p9 e s m args below meth c X hE hEs hnm hr hk hS ls hl
  have hl : lv_has ls 4 [(0, .ref (M 0)), (1, .int (wI (i))), (2, .int (wI (a)))] := hl
  have hin_RX4 : ∀ w ∈ u_ws RX4 TX4 16, w ∈ wsX4_setPay := by decide +kernel
  have hGd := hE.dis
  obtain ⟨hs1, hs2, hs3, hs4⟩ := id hσ
  have hO_n_1 : Ob g H (M 0) 5 [.int (wI (th)), .ref (M 1), .ref (M 2), .ref (M 3), .int (wI ((sn σ : Int))), .ref (M 5), .ref (M 6), .ref (M 7), .ref (M 8), .ref (M 9), .ref (M 10), .ref (M 11), .ref (M 12), .ref (M 13), .ref (M 14), .ref (M 15)] := hM 0 _ rfl
  have hA1_n_1 : IA g H (M 1) 4 (fun j => wI (σ.1 j 0)) := hM 1 _ rfl
  have hA2_n_1 : IA g H (M 2) 4 (fun j => wI (σ.1 j 1)) := hM 2 _ rfl
  have hA3_n_1 : IA g H (M 3) 12 (fun j => wI (σ.1 (j / 3) (2 + j % 3))) := hM 3 _ rfl
  have hA5_n_1 : IA g H (M 5) 10 (fun j => wI (sp σ j 0)) := hM 4 _ rfl
  have hA6_n_1 : IA g H (M 6) 10 (fun j => wI (sp σ j 1)) := hM 5 _ rfl
  have hA7_n_1 : IA g H (M 7) 10 (fun j => wI (sp σ j 2)) := hM 6 _ rfl
  have hA8_n_1 : IA g H (M 8) 10 (fun j => wI (sp σ j 3)) := hM 7 _ rfl
  have hA9_n_1 : IA g H (M 9) 10 (fun j => wI (sp σ j 4)) := hM 8 _ rfl
  have hA10_n_1 : IA g H (M 10) 10 (fun j => wI (sp σ j 5)) := hM 9 _ rfl
  have hA11_n_1 : IA g H (M 11) 10 (fun j => wI (sp σ j 6)) := hM 10 _ rfl
  have hA12_n_1 : IA g H (M 12) 10 (fun j => wI ((sb σ j : Int))) := hM 11 _ rfl
  have hA13_n_1 : IA g H (M 13) 60 (fun j => wI (so σ (j / 6) (j % 6) 0)) := hM 12 _ rfl
  have hA14_n_1 : IA g H (M 14) 60 (fun j => wI (so σ (j / 6) (j % 6) 1)) := hM 13 _ rfl
  have hA15_n_1 : IA g H (M 15) 60 (fun j => wI (so σ (j / 6) (j % 6) 2)) := hM 14 _ rfl
  refine w_aload_n X dX4_setPay_0 hl 0 rfl rfl ?_
  refine w_iload_n X dX4_setPay_1 hl 1 rfl rfl ?_
  refine w_ir (va_runV (As := [.int (wI (i))]) (rest := []) X (c_X4_isAsked l g A H M hAM hMj (th) σ hM hσ (i) (by omega)) (cwV 1 X.2.2.2.2 gX4_setPay_X4_isAsked rfl rfl rfl (by decide +kernel) ⟨(Nat.le_of_ble_eq_true rfl), (Nat.le_of_ble_eq_true rfl)⟩) (w_prV hE hEs hS hO_n_1 rfl) rfl rfl hl.1 rfl (lv_room (Nat.le_of_ble_eq_true rfl)) dX4_setPay_2 ⟨(Nat.le_of_ble_eq_true rfl), (Nat.le_of_ble_eq_true rfl)⟩) hS (fun _ h => h) fun v_7 H_2 lo_3 hp_4 hz_5 hq_6 hS => ?_
  obtain ⟨rfl, hM_8⟩ := hp_4
  have qa_hM_8 := inS_spec 0 (i) ((sn σ : Int) - 1)
  have hO_n_9 : Ob g H_2 (M 0) 5 [.int (wI (1 - inS 0 (i) ((sn σ : Int) - 1))), .ref (M 1), .ref (M 2), .ref (M 3), .int (wI ((sn σ : Int))), .ref (M 5), .ref (M 6), .ref (M 7), .ref (M 8), .ref (M 9), .ref (M 10), .ref (M 11), .ref (M 12), .ref (M 13), .ref (M 14), .ref (M 15)] := hM_8 0 _ rfl
  have hA1_n_9 : IA g H_2 (M 1) 4 (fun j => wI (σ.1 j 0)) := hM_8 1 _ rfl
  have hA2_n_9 : IA g H_2 (M 2) 4 (fun j => wI (σ.1 j 1)) := hM_8 2 _ rfl
  have hA3_n_9 : IA g H_2 (M 3) 12 (fun j => wI (σ.1 (j / 3) (2 + j % 3))) := hM_8 3 _ rfl
  have hA5_n_9 : IA g H_2 (M 5) 10 (fun j => wI (sp σ j 0)) := hM_8 4 _ rfl
  have hA6_n_9 : IA g H_2 (M 6) 10 (fun j => wI (sp σ j 1)) := hM_8 5 _ rfl
  have hA7_n_9 : IA g H_2 (M 7) 10 (fun j => wI (sp σ j 2)) := hM_8 6 _ rfl
  have hA8_n_9 : IA g H_2 (M 8) 10 (fun j => wI (sp σ j 3)) := hM_8 7 _ rfl
  have hA9_n_9 : IA g H_2 (M 9) 10 (fun j => wI (sp σ j 4)) := hM_8 8 _ rfl
  have hA10_n_9 : IA g H_2 (M 10) 10 (fun j => wI (sp σ j 5)) := hM_8 9 _ rfl
  have hA11_n_9 : IA g H_2 (M 11) 10 (fun j => wI (sp σ j 6)) := hM_8 10 _ rfl
  have hA12_n_9 : IA g H_2 (M 12) 10 (fun j => wI ((sb σ j : Int))) := hM_8 11 _ rfl
  have hA13_n_9 : IA g H_2 (M 13) 60 (fun j => wI (so σ (j / 6) (j % 6) 0)) := hM_8 12 _ rfl
  have hA14_n_9 : IA g H_2 (M 14) 60 (fun j => wI (so σ (j / 6) (j % 6) 1)) := hM_8 13 _ rfl
  have hA15_n_9 : IA g H_2 (M 15) 60 (fun j => wI (so σ (j / 6) (j % 6) 2)) := hM_8 14 _ rfl
  refine w_if_ne X 10 dX4_setPay_5 (by decide) (by omega) (fun c_10 => ?_) (fun c_10 => ?_)
  · skip
    refine w_iload_n X dX4_setPay_10 hl 2 rfl rfl ?_
    refine w_iconst X dX4_setPay_11 ?_
    refine w_ldc (v := 100000) (z := 100000) X dX4_setPay_12 (by decide +kernel) (by decide) ?_
    refine w_callS (v := .int (wI (inS (0) (a) (100000)))) 3 X hE (c_X4_in l g H_2 (a) (0) (100000) (by omega) (by omega) (by omega)) hl dX4_setPay_14 gX4_setPay_X4_in rfl rfl (by decide +kernel) ⟨(Nat.le_of_ble_eq_true rfl), (Nat.le_of_ble_eq_true rfl)⟩ rfl (Nat.le_of_ble_eq_true rfl) ⟨(Nat.le_of_ble_eq_true rfl), (Nat.le_of_ble_eq_true rfl)⟩ ?_
    have qi_11 := inS_spec (0) (a) (100000)
    refine w_if_ne X 26 dX4_setPay_17 (by decide) (by omega) (fun c_12 => ?_) (fun c_12 => ?_)
    · skip
      refine w_aload_n X dX4_setPay_26 hl 0 rfl rfl ?_
      refine w_get X hE hO_n_9 7 dX4_setPay_27 rfl hin_RX4 (by decide) (by decide +kernel) rfl rfl ?_
      refine w_iload_n X dX4_setPay_30 hl 1 rfl rfl ?_
      refine w_iald (y := wI (sp σ (i).toNat 2)) X hE hA7_n_9 dX4_setPay_31 (by omega) (by omega) (by omega) rfl ?_
      refine w_istore_n X [(3, .int (wI (sp σ (i).toNat 2))), (0, .ref (M 0)), (1, .int (wI (i))), (2, .int (wI (a)))] dX4_setPay_32 hl rfl (by decide) rfl fun ls hl => ?_
      refine w_aload_n X dX4_setPay_33 hl 1 rfl rfl ?_
      refine w_get X hE hO_n_9 7 dX4_setPay_34 rfl hin_RX4 (by decide) (by decide +kernel) rfl rfl ?_
      refine w_iload_n X dX4_setPay_37 hl 2 rfl rfl ?_
      refine w_iload_n X dX4_setPay_38 hl 3 rfl rfl ?_
      refine w_iast (x := wI (a)) X hE hA7_n_9 hS (hAM 7 (by decide) (by decide)) dX4_setPay_39 (by omega) (by omega) (by omega) fun H_13 lo_14 hr_15 hz_16 hq_17 hS => ?_
      have ho_18 := (hO_n_9).kept (hq_17 _ (hMj 0 7 (by decide) (by decide) (by decide) (by decide) (by decide)))
      have hr_19 := (hA1_n_9).kept (hq_17 _ (hMj 1 7 (by decide) (by decide) (by decide) (by decide) (by decide)))
      have hr_20 := (hA2_n_9).kept (hq_17 _ (hMj 2 7 (by decide) (by decide) (by decide) (by decide) (by decide)))
      have hr_21 := (hA3_n_9).kept (hq_17 _ (hMj 3 7 (by decide) (by decide) (by decide) (by decide) (by decide)))
      have hr_22 := (hA5_n_9).kept (hq_17 _ (hMj 5 7 (by decide) (by decide) (by decide) (by decide) (by decide)))
      have hr_23 := (hA6_n_9).kept (hq_17 _ (hMj 6 7 (by decide) (by decide) (by decide) (by decide) (by decide)))
      have hr_24 := (hA8_n_9).kept (hq_17 _ (hMj 8 7 (by decide) (by decide) (by decide) (by decide) (by decide)))
      have hr_25 := (hA9_n_9).kept (hq_17 _ (hMj 9 7 (by decide) (by decide) (by decide) (by decide) (by decide)))
      have hr_26 := (hA10_n_9).kept (hq_17 _ (hMj 10 7 (by decide) (by decide) (by decide) (by decide) (by decide)))
      have hr_27 := (hA11_n_9).kept (hq_17 _ (hMj 11 7 (by decide) (by decide) (by decide) (by decide) (by decide)))
      have hr_28 := (hA12_n_9).kept (hq_17 _ (hMj 12 7 (by decide) (by decide) (by decide) (by decide) (by decide)))
      have hr_29 := (hA13_n_9).kept (hq_17 _ (hMj 13 7 (by decide) (by decide) (by decide) (by decide) (by decide)))
      have hr_30 := (hA14_n_9).kept (hq_17 _ (hMj 14 7 (by decide) (by decide) (by decide) (by decide) (by decide)))
      have hr_31 := (hA15_n_9).kept (hq_17 _ (hMj 15 7 (by decide) (by decide) (by decide) (by decide) (by decide)))
      refine w_iload_n X dX4_setPay_40 hl 0 rfl rfl ?_
      exact w_irR X hr hk hS (ref_y (y := sp σ (i).toNat 2) (by first | trivial | omega) (by first | trivial | omega) (by first | trivial | omega) rfl (ModAt.cast (ModAt.mk ho_18 hr_19 hr_20 hr_21 (IA.ext hr_22 (fun j hj => (up_id (sp σ) i.toNat (payS (sp σ i.toNat) a) (fun r => wI (r 0)) rfl j).symm)) (IA.ext hr_23 (fun j hj => (up_id (sp σ) i.toNat (payS (sp σ i.toNat) a) (fun r => wI (r 1)) rfl j).symm)) (IA.ext hr_15 (fun j hj => (up_at (sp σ) i.toNat (payS (sp σ i.toNat) a) (fun r => wI (r 2)) j).symm)) (IA.ext hr_24 (fun j hj => (up_id (sp σ) i.toNat (payS (sp σ i.toNat) a) (fun r => wI (r 3)) rfl j).symm)) (IA.ext hr_25 (fun j hj => (up_id (sp σ) i.toNat (payS (sp σ i.toNat) a) (fun r => wI (r 4)) rfl j).symm)) (IA.ext hr_26 (fun j hj => (up_id (sp σ) i.toNat (payS (sp σ i.toNat) a) (fun r => wI (r 5)) rfl j).symm)) (IA.ext hr_27 (fun j hj => (up_id (sp σ) i.toNat (payS (sp σ i.toNat) a) (fun r => wI (r 6)) rfl j).symm)) hr_28 hr_29 hr_30 hr_31) (by omega : (1 - inS 0 (i) ((sn σ : Int) - 1) : Int) = 0))) dX4_setPay_41 (Nat.le_of_ble_eq_true rfl) (Nat.le_of_ble_eq_true rfl)
    · skip
      refine w_aload_n X dX4_setPay_20 hl 0 rfl rfl ?_
      refine w_iconst X dX4_setPay_21 ?_
      refine w_ir (va_runV (As := [.int (wI (2))]) (rest := []) X (c_X4_fails l g A H_2 M hAM hMj (1 - inS 0 (i) ((sn σ : Int) - 1)) σ hM_8 hσ (2)) (cwV 1 X.2.2.2.2 gX4_setPay_X4_fails rfl rfl rfl (by decide +kernel) ⟨(Nat.le_of_ble_eq_true rfl), (Nat.le_of_ble_eq_true rfl)⟩) (w_prV hE hEs hS hO_n_9 rfl) rfl rfl hl.1 rfl (lv_room (Nat.le_of_ble_eq_true rfl)) dX4_setPay_22 ⟨(Nat.le_of_ble_eq_true rfl), (Nat.le_of_ble_eq_true rfl)⟩) hS (fun _ h => h) fun v_37 H_32 lo_33 hp_34 hz_35 hq_36 hS => ?_
      obtain ⟨rfl, hM_38⟩ := hp_34
      have hO_n_39 : Ob g H_32 (M 0) 5 [.int (wI (2)), .ref (M 1), .ref (M 2), .ref (M 3), .int (wI ((sn σ : Int))), .ref (M 5), .ref (M 6), .ref (M 7), .ref (M 8), .ref (M 9), .ref (M 10), .ref (M 11), .ref (M 12), .ref (M 13), .ref (M 14), .ref (M 15)] := hM_38 0 _ rfl
      have hA1_n_39 : IA g H_32 (M 1) 4 (fun j => wI (σ.1 j 0)) := hM_38 1 _ rfl
      have hA2_n_39 : IA g H_32 (M 2) 4 (fun j => wI (σ.1 j 1)) := hM_38 2 _ rfl
      have hA3_n_39 : IA g H_32 (M 3) 12 (fun j => wI (σ.1 (j / 3) (2 + j % 3))) := hM_38 3 _ rfl
      have hA5_n_39 : IA g H_32 (M 5) 10 (fun j => wI (sp σ j 0)) := hM_38 4 _ rfl
      have hA6_n_39 : IA g H_32 (M 6) 10 (fun j => wI (sp σ j 1)) := hM_38 5 _ rfl
      have hA7_n_39 : IA g H_32 (M 7) 10 (fun j => wI (sp σ j 2)) := hM_38 6 _ rfl
      have hA8_n_39 : IA g H_32 (M 8) 10 (fun j => wI (sp σ j 3)) := hM_38 7 _ rfl
      have hA9_n_39 : IA g H_32 (M 9) 10 (fun j => wI (sp σ j 4)) := hM_38 8 _ rfl
      have hA10_n_39 : IA g H_32 (M 10) 10 (fun j => wI (sp σ j 5)) := hM_38 9 _ rfl
      have hA11_n_39 : IA g H_32 (M 11) 10 (fun j => wI (sp σ j 6)) := hM_38 10 _ rfl
      have hA12_n_39 : IA g H_32 (M 12) 10 (fun j => wI ((sb σ j : Int))) := hM_38 11 _ rfl
      have hA13_n_39 : IA g H_32 (M 13) 60 (fun j => wI (so σ (j / 6) (j % 6) 0)) := hM_38 12 _ rfl
      have hA14_n_39 : IA g H_32 (M 14) 60 (fun j => wI (so σ (j / 6) (j % 6) 1)) := hM_38 13 _ rfl
      have hA15_n_39 : IA g H_32 (M 15) 60 (fun j => wI (so σ (j / 6) (j % 6) 2)) := hM_38 14 _ rfl
      exact w_irR X hr hk hS (ref_2 (by first | trivial | omega) (by omega) rfl (ModAt.mk hO_n_39 hA1_n_39 hA2_n_39 hA3_n_39 hA5_n_39 hA6_n_39 hA7_n_39 hA8_n_39 hA9_n_39 hA10_n_39 hA11_n_39 hA12_n_39 hA13_n_39 hA14_n_39 hA15_n_39)) dX4_setPay_25 (Nat.le_of_ble_eq_true rfl) (Nat.le_of_ble_eq_true rfl)
  · skip
    refine w_iconst X dX4_setPay_8 ?_
    exact w_irR X hr hk hS (ref_1 (by omega) rfl (ModAt.cast (ModAt.mk hO_n_9 hA1_n_9 hA2_n_9 hA3_n_9 hA5_n_9 hA6_n_9 hA7_n_9 hA8_n_9 hA9_n_9 hA10_n_9 hA11_n_9 hA12_n_9 hA13_n_9 hA14_n_9 hA15_n_9) (by omega : (1 - inS 0 (i) ((sn σ : Int) - 1) : Int) = 1))) dX4_setPay_9 (Nat.le_of_ble_eq_true rfl) (Nat.le_of_ble_eq_true rfl)

set_option maxHeartbeats 4000000 in
set_option maxRecDepth 100000 in
theorem c_X4_setHousing (l : Launch) (g : wG) (A : Nat → Prop) (H : Heap) (M : Nat → Nat) (hAM : ∀ k, k < 16 → k ≠ 4 → A (M k)) (hMj : AInj M) (th : Int) (σ : St) (hM : ModAt g H M th σ) (hσ : StGood σ) (i a b : Int) (hi : wR i) (ha : wR a) (hb : wR b) : ImpR l g A H yX4_setHousing wsX4_setHousing 2 43 0 0 [.ref (M 0), .int (wI (i)), .int (wI (a)), .int (wI (b))] (fun v H1 => v = .int (wI (stv (((0 : Int) ≤ i ∧ i < (sn σ : Int))) (((0 ≤ a ∧ a ≤ 50000) ∧ 0 ≤ b ∧ b ≤ 40)) (True) (ownS (renS (sp σ i.toNat) a b)))) ∧ ModAt g H1 M (cd (((0 : Int) ≤ i ∧ i < (sn σ : Int))) (((0 ≤ a ∧ a ≤ 50000) ∧ 0 ≤ b ∧ b ≤ 40)) (True)) (stp (((0 : Int) ≤ i ∧ i < (sn σ : Int))) (((0 ≤ a ∧ a ≤ 50000) ∧ 0 ≤ b ∧ b ≤ 40)) (True) (nxPers σ i.toNat (renS (sp σ i.toNat) a b)) σ)) := by
  refine Imp.of (cc := cX4_setHousing) (maxL := 4) (ret := (some .int)) (by decide) rfl (Nat.le_of_ble_eq_true rfl) ?_
  intro p9 e s m args below meth c X hE hEs hnm hr hk hS ls hl
  have hl : lv_has ls 4 [(0, .ref (M 0)), (1, .int (wI (i))), (2, .int (wI (a))), (3, .int (wI (b)))] := hl
  have hin_RX4 : ∀ w ∈ u_ws RX4 TX4 16, w ∈ wsX4_setHousing := by decide +kernel
  have hGd := hE.dis
  obtain ⟨hs1, hs2, hs3, hs4⟩ := id hσ
  have hO_n_1 : Ob g H (M 0) 5 [.int (wI (th)), .ref (M 1), .ref (M 2), .ref (M 3), .int (wI ((sn σ : Int))), .ref (M 5), .ref (M 6), .ref (M 7), .ref (M 8), .ref (M 9), .ref (M 10), .ref (M 11), .ref (M 12), .ref (M 13), .ref (M 14), .ref (M 15)] := hM 0 _ rfl
  have hA1_n_1 : IA g H (M 1) 4 (fun j => wI (σ.1 j 0)) := hM 1 _ rfl
  have hA2_n_1 : IA g H (M 2) 4 (fun j => wI (σ.1 j 1)) := hM 2 _ rfl
  have hA3_n_1 : IA g H (M 3) 12 (fun j => wI (σ.1 (j / 3) (2 + j % 3))) := hM 3 _ rfl
  have hA5_n_1 : IA g H (M 5) 10 (fun j => wI (sp σ j 0)) := hM 4 _ rfl
  have hA6_n_1 : IA g H (M 6) 10 (fun j => wI (sp σ j 1)) := hM 5 _ rfl
  have hA7_n_1 : IA g H (M 7) 10 (fun j => wI (sp σ j 2)) := hM 6 _ rfl
  have hA8_n_1 : IA g H (M 8) 10 (fun j => wI (sp σ j 3)) := hM 7 _ rfl
  have hA9_n_1 : IA g H (M 9) 10 (fun j => wI (sp σ j 4)) := hM 8 _ rfl
  have hA10_n_1 : IA g H (M 10) 10 (fun j => wI (sp σ j 5)) := hM 9 _ rfl
  have hA11_n_1 : IA g H (M 11) 10 (fun j => wI (sp σ j 6)) := hM 10 _ rfl
  have hA12_n_1 : IA g H (M 12) 10 (fun j => wI ((sb σ j : Int))) := hM 11 _ rfl
  have hA13_n_1 : IA g H (M 13) 60 (fun j => wI (so σ (j / 6) (j % 6) 0)) := hM 12 _ rfl
  have hA14_n_1 : IA g H (M 14) 60 (fun j => wI (so σ (j / 6) (j % 6) 1)) := hM 13 _ rfl
  have hA15_n_1 : IA g H (M 15) 60 (fun j => wI (so σ (j / 6) (j % 6) 2)) := hM 14 _ rfl
  refine w_aload_n X dX4_setHousing_0 hl 0 rfl rfl ?_
  refine w_iload_n X dX4_setHousing_1 hl 1 rfl rfl ?_
  refine w_ir (va_runV (As := [.int (wI (i))]) (rest := []) X (c_X4_isAsked l g A H M hAM hMj (th) σ hM hσ (i) (by omega)) (cwV 1 X.2.2.2.2 gX4_setHousing_X4_isAsked rfl rfl rfl (by decide +kernel) ⟨(Nat.le_of_ble_eq_true rfl), (Nat.le_of_ble_eq_true rfl)⟩) (w_prV hE hEs hS hO_n_1 rfl) rfl rfl hl.1 rfl (lv_room (Nat.le_of_ble_eq_true rfl)) dX4_setHousing_2 ⟨(Nat.le_of_ble_eq_true rfl), (Nat.le_of_ble_eq_true rfl)⟩) hS (fun _ h => h) fun v_7 H_2 lo_3 hp_4 hz_5 hq_6 hS => ?_
  obtain ⟨rfl, hM_8⟩ := hp_4
  have qa_hM_8 := inS_spec 0 (i) ((sn σ : Int) - 1)
  have hO_n_9 : Ob g H_2 (M 0) 5 [.int (wI (1 - inS 0 (i) ((sn σ : Int) - 1))), .ref (M 1), .ref (M 2), .ref (M 3), .int (wI ((sn σ : Int))), .ref (M 5), .ref (M 6), .ref (M 7), .ref (M 8), .ref (M 9), .ref (M 10), .ref (M 11), .ref (M 12), .ref (M 13), .ref (M 14), .ref (M 15)] := hM_8 0 _ rfl
  have hA1_n_9 : IA g H_2 (M 1) 4 (fun j => wI (σ.1 j 0)) := hM_8 1 _ rfl
  have hA2_n_9 : IA g H_2 (M 2) 4 (fun j => wI (σ.1 j 1)) := hM_8 2 _ rfl
  have hA3_n_9 : IA g H_2 (M 3) 12 (fun j => wI (σ.1 (j / 3) (2 + j % 3))) := hM_8 3 _ rfl
  have hA5_n_9 : IA g H_2 (M 5) 10 (fun j => wI (sp σ j 0)) := hM_8 4 _ rfl
  have hA6_n_9 : IA g H_2 (M 6) 10 (fun j => wI (sp σ j 1)) := hM_8 5 _ rfl
  have hA7_n_9 : IA g H_2 (M 7) 10 (fun j => wI (sp σ j 2)) := hM_8 6 _ rfl
  have hA8_n_9 : IA g H_2 (M 8) 10 (fun j => wI (sp σ j 3)) := hM_8 7 _ rfl
  have hA9_n_9 : IA g H_2 (M 9) 10 (fun j => wI (sp σ j 4)) := hM_8 8 _ rfl
  have hA10_n_9 : IA g H_2 (M 10) 10 (fun j => wI (sp σ j 5)) := hM_8 9 _ rfl
  have hA11_n_9 : IA g H_2 (M 11) 10 (fun j => wI (sp σ j 6)) := hM_8 10 _ rfl
  have hA12_n_9 : IA g H_2 (M 12) 10 (fun j => wI ((sb σ j : Int))) := hM_8 11 _ rfl
  have hA13_n_9 : IA g H_2 (M 13) 60 (fun j => wI (so σ (j / 6) (j % 6) 0)) := hM_8 12 _ rfl
  have hA14_n_9 : IA g H_2 (M 14) 60 (fun j => wI (so σ (j / 6) (j % 6) 1)) := hM_8 13 _ rfl
  have hA15_n_9 : IA g H_2 (M 15) 60 (fun j => wI (so σ (j / 6) (j % 6) 2)) := hM_8 14 _ rfl
  refine w_if_ne X 10 dX4_setHousing_5 (by decide) (by omega) (fun c_10 => ?_) (fun c_10 => ?_)
  · skip
    refine w_iload_n X dX4_setHousing_10 hl 2 rfl rfl ?_
    refine w_iconst X dX4_setHousing_11 ?_
    refine w_ldc (v := 50000) (z := 50000) X dX4_setHousing_12 (by decide +kernel) (by decide) ?_
    refine w_callS (v := .int (wI (inS (0) (a) (50000)))) 3 X hE (c_X4_in l g H_2 (a) (0) (50000) (by omega) (by omega) (by omega)) hl dX4_setHousing_14 gX4_setHousing_X4_in rfl rfl (by decide +kernel) ⟨(Nat.le_of_ble_eq_true rfl), (Nat.le_of_ble_eq_true rfl)⟩ rfl (Nat.le_of_ble_eq_true rfl) ⟨(Nat.le_of_ble_eq_true rfl), (Nat.le_of_ble_eq_true rfl)⟩ ?_
    have qi_11 := inS_spec (0) (a) (50000)
    refine w_if_eq X 30 dX4_setHousing_17 (by decide) (by omega) (fun c_12 => ?_) (fun c_12 => ?_)
    · skip
      refine w_aload_n X dX4_setHousing_30 hl 0 rfl rfl ?_
      refine w_iconst X dX4_setHousing_31 ?_
      refine w_ir (va_runV (As := [.int (wI (2))]) (rest := []) X (c_X4_fails l g A H_2 M hAM hMj (1 - inS 0 (i) ((sn σ : Int) - 1)) σ hM_8 hσ (2)) (cwV 1 X.2.2.2.2 gX4_setHousing_X4_fails rfl rfl rfl (by decide +kernel) ⟨(Nat.le_of_ble_eq_true rfl), (Nat.le_of_ble_eq_true rfl)⟩) (w_prV hE hEs hS hO_n_9 rfl) rfl rfl hl.1 rfl (lv_room (Nat.le_of_ble_eq_true rfl)) dX4_setHousing_32 ⟨(Nat.le_of_ble_eq_true rfl), (Nat.le_of_ble_eq_true rfl)⟩) hS (fun _ h => h) fun v_18 H_13 lo_14 hp_15 hz_16 hq_17 hS => ?_
      obtain ⟨rfl, hM_19⟩ := hp_15
      have hO_n_20 : Ob g H_13 (M 0) 5 [.int (wI (2)), .ref (M 1), .ref (M 2), .ref (M 3), .int (wI ((sn σ : Int))), .ref (M 5), .ref (M 6), .ref (M 7), .ref (M 8), .ref (M 9), .ref (M 10), .ref (M 11), .ref (M 12), .ref (M 13), .ref (M 14), .ref (M 15)] := hM_19 0 _ rfl
      have hA1_n_20 : IA g H_13 (M 1) 4 (fun j => wI (σ.1 j 0)) := hM_19 1 _ rfl
      have hA2_n_20 : IA g H_13 (M 2) 4 (fun j => wI (σ.1 j 1)) := hM_19 2 _ rfl
      have hA3_n_20 : IA g H_13 (M 3) 12 (fun j => wI (σ.1 (j / 3) (2 + j % 3))) := hM_19 3 _ rfl
      have hA5_n_20 : IA g H_13 (M 5) 10 (fun j => wI (sp σ j 0)) := hM_19 4 _ rfl
      have hA6_n_20 : IA g H_13 (M 6) 10 (fun j => wI (sp σ j 1)) := hM_19 5 _ rfl
      have hA7_n_20 : IA g H_13 (M 7) 10 (fun j => wI (sp σ j 2)) := hM_19 6 _ rfl
      have hA8_n_20 : IA g H_13 (M 8) 10 (fun j => wI (sp σ j 3)) := hM_19 7 _ rfl
      have hA9_n_20 : IA g H_13 (M 9) 10 (fun j => wI (sp σ j 4)) := hM_19 8 _ rfl
      have hA10_n_20 : IA g H_13 (M 10) 10 (fun j => wI (sp σ j 5)) := hM_19 9 _ rfl
      have hA11_n_20 : IA g H_13 (M 11) 10 (fun j => wI (sp σ j 6)) := hM_19 10 _ rfl
      have hA12_n_20 : IA g H_13 (M 12) 10 (fun j => wI ((sb σ j : Int))) := hM_19 11 _ rfl
      have hA13_n_20 : IA g H_13 (M 13) 60 (fun j => wI (so σ (j / 6) (j % 6) 0)) := hM_19 12 _ rfl
      have hA14_n_20 : IA g H_13 (M 14) 60 (fun j => wI (so σ (j / 6) (j % 6) 1)) := hM_19 13 _ rfl
      have hA15_n_20 : IA g H_13 (M 15) 60 (fun j => wI (so σ (j / 6) (j % 6) 2)) := hM_19 14 _ rfl
      exact w_irR X hr hk hS (ref_2 (by first | trivial | omega) (by omega) rfl (ModAt.mk hO_n_20 hA1_n_20 hA2_n_20 hA3_n_20 hA5_n_20 hA6_n_20 hA7_n_20 hA8_n_20 hA9_n_20 hA10_n_20 hA11_n_20 hA12_n_20 hA13_n_20 hA14_n_20 hA15_n_20)) dX4_setHousing_35 (Nat.le_of_ble_eq_true rfl) (Nat.le_of_ble_eq_true rfl)
    · skip
      refine w_iload_n X dX4_setHousing_20 hl 3 rfl rfl ?_
      refine w_iconst X dX4_setHousing_21 ?_
      refine w_bipush X dX4_setHousing_22 (by decide) ?_
      refine w_callS (v := .int (wI (inS (0) (b) (40)))) 3 X hE (c_X4_in l g H_2 (b) (0) (40) (by omega) (by omega) (by omega)) hl dX4_setHousing_24 gX4_setHousing_X4_in rfl rfl (by decide +kernel) ⟨(Nat.le_of_ble_eq_true rfl), (Nat.le_of_ble_eq_true rfl)⟩ rfl (Nat.le_of_ble_eq_true rfl) ⟨(Nat.le_of_ble_eq_true rfl), (Nat.le_of_ble_eq_true rfl)⟩ ?_
      have qi_21 := inS_spec (0) (b) (40)
      refine w_if_ne X 36 dX4_setHousing_27 (by decide) (by omega) (fun c_22 => ?_) (fun c_22 => ?_)
      · skip
        refine w_aload_n X dX4_setHousing_36 hl 0 rfl rfl ?_
        refine w_get X hE hO_n_9 10 dX4_setHousing_37 rfl hin_RX4 (by decide) (by decide +kernel) rfl rfl ?_
        refine w_iload_n X dX4_setHousing_40 hl 1 rfl rfl ?_
        refine w_iload_n X dX4_setHousing_41 hl 2 rfl rfl ?_
        refine w_iast (x := wI (a)) X hE hA10_n_9 hS (hAM 10 (by decide) (by decide)) dX4_setHousing_42 (by omega) (by omega) (by omega) fun H_23 lo_24 hr_25 hz_26 hq_27 hS => ?_
        have ho_28 := (hO_n_9).kept (hq_27 _ (hMj 0 10 (by decide) (by decide) (by decide) (by decide) (by decide)))
        have hr_29 := (hA1_n_9).kept (hq_27 _ (hMj 1 10 (by decide) (by decide) (by decide) (by decide) (by decide)))
        have hr_30 := (hA2_n_9).kept (hq_27 _ (hMj 2 10 (by decide) (by decide) (by decide) (by decide) (by decide)))
        have hr_31 := (hA3_n_9).kept (hq_27 _ (hMj 3 10 (by decide) (by decide) (by decide) (by decide) (by decide)))
        have hr_32 := (hA5_n_9).kept (hq_27 _ (hMj 5 10 (by decide) (by decide) (by decide) (by decide) (by decide)))
        have hr_33 := (hA6_n_9).kept (hq_27 _ (hMj 6 10 (by decide) (by decide) (by decide) (by decide) (by decide)))
        have hr_34 := (hA7_n_9).kept (hq_27 _ (hMj 7 10 (by decide) (by decide) (by decide) (by decide) (by decide)))
        have hr_35 := (hA8_n_9).kept (hq_27 _ (hMj 8 10 (by decide) (by decide) (by decide) (by decide) (by decide)))
        have hr_36 := (hA9_n_9).kept (hq_27 _ (hMj 9 10 (by decide) (by decide) (by decide) (by decide) (by decide)))
        have hr_37 := (hA11_n_9).kept (hq_27 _ (hMj 11 10 (by decide) (by decide) (by decide) (by decide) (by decide)))
        have hr_38 := (hA12_n_9).kept (hq_27 _ (hMj 12 10 (by decide) (by decide) (by decide) (by decide) (by decide)))
        have hr_39 := (hA13_n_9).kept (hq_27 _ (hMj 13 10 (by decide) (by decide) (by decide) (by decide) (by decide)))
        have hr_40 := (hA14_n_9).kept (hq_27 _ (hMj 14 10 (by decide) (by decide) (by decide) (by decide) (by decide)))
        have hr_41 := (hA15_n_9).kept (hq_27 _ (hMj 15 10 (by decide) (by decide) (by decide) (by decide) (by decide)))
        refine w_aload_n X dX4_setHousing_43 hl 0 rfl rfl ?_
        refine w_get X hE ho_28 11 dX4_setHousing_44 rfl hin_RX4 (by decide) (by decide +kernel) rfl rfl ?_
        refine w_iload_n X dX4_setHousing_47 hl 1 rfl rfl ?_
        refine w_iload_n X dX4_setHousing_48 hl 3 rfl rfl ?_
        refine w_iast (x := wI (b)) X hE hr_37 hS (hAM 11 (by decide) (by decide)) dX4_setHousing_49 (by omega) (by omega) (by omega) fun H_42 lo_43 hr_44 hz_45 hq_46 hS => ?_
        have ho_47 := (ho_28).kept (hq_46 _ (hMj 0 11 (by decide) (by decide) (by decide) (by decide) (by decide)))
        have hr_48 := (hr_29).kept (hq_46 _ (hMj 1 11 (by decide) (by decide) (by decide) (by decide) (by decide)))
        have hr_49 := (hr_30).kept (hq_46 _ (hMj 2 11 (by decide) (by decide) (by decide) (by decide) (by decide)))
        have hr_50 := (hr_31).kept (hq_46 _ (hMj 3 11 (by decide) (by decide) (by decide) (by decide) (by decide)))
        have hr_51 := (hr_32).kept (hq_46 _ (hMj 5 11 (by decide) (by decide) (by decide) (by decide) (by decide)))
        have hr_52 := (hr_33).kept (hq_46 _ (hMj 6 11 (by decide) (by decide) (by decide) (by decide) (by decide)))
        have hr_53 := (hr_34).kept (hq_46 _ (hMj 7 11 (by decide) (by decide) (by decide) (by decide) (by decide)))
        have hr_54 := (hr_35).kept (hq_46 _ (hMj 8 11 (by decide) (by decide) (by decide) (by decide) (by decide)))
        have hr_55 := (hr_36).kept (hq_46 _ (hMj 9 11 (by decide) (by decide) (by decide) (by decide) (by decide)))
        have hr_56 := (hr_25).kept (hq_46 _ (hMj 10 11 (by decide) (by decide) (by decide) (by decide) (by decide)))
        have hr_57 := (hr_38).kept (hq_46 _ (hMj 12 11 (by decide) (by decide) (by decide) (by decide) (by decide)))
        have hr_58 := (hr_39).kept (hq_46 _ (hMj 13 11 (by decide) (by decide) (by decide) (by decide) (by decide)))
        have hr_59 := (hr_40).kept (hq_46 _ (hMj 14 11 (by decide) (by decide) (by decide) (by decide) (by decide)))
        have hr_60 := (hr_41).kept (hq_46 _ (hMj 15 11 (by decide) (by decide) (by decide) (by decide) (by decide)))
        refine w_aload_n X dX4_setHousing_50 hl 0 rfl rfl ?_
        refine w_iload_n X dX4_setHousing_51 hl 1 rfl rfl ?_
        have hg0 := (hs3 i.toNat (by omega)).1
        have hgN : StGood (nxPers σ i.toNat (renS (sp σ i.toNat) a b)) := hσ.pers (by omega) ⟨hg0.1, hg0.2.1, (by omega : 0 ≤ a ∧ a ≤ 50000), (by omega : 0 ≤ b ∧ b ≤ 40), hg0.2.2.2.2⟩ rfl rfl
        have hMN : ModAt g H_42 M (1 - inS 0 (i) ((sn σ : Int) - 1)) (nxPers σ i.toNat (renS (sp σ i.toNat) a b)) := ModAt.mk ho_47 hr_48 hr_49 hr_50 (IA.ext hr_51 (fun j hj => (up_id (sp σ) i.toNat (renS (sp σ i.toNat) a b) (fun r => wI (r 0)) rfl j).symm)) (IA.ext hr_52 (fun j hj => (up_id (sp σ) i.toNat (renS (sp σ i.toNat) a b) (fun r => wI (r 1)) rfl j).symm)) (IA.ext hr_53 (fun j hj => (up_id (sp σ) i.toNat (renS (sp σ i.toNat) a b) (fun r => wI (r 2)) rfl j).symm)) (IA.ext hr_54 (fun j hj => (up_id (sp σ) i.toNat (renS (sp σ i.toNat) a b) (fun r => wI (r 3)) rfl j).symm)) (IA.ext hr_55 (fun j hj => (up_id (sp σ) i.toNat (renS (sp σ i.toNat) a b) (fun r => wI (r 4)) rfl j).symm)) (IA.ext hr_56 (fun j hj => (up_at (sp σ) i.toNat (renS (sp σ i.toNat) a b) (fun r => wI (r 5)) j).symm)) (IA.ext hr_44 (fun j hj => (up_at (sp σ) i.toNat (renS (sp σ i.toNat) a b) (fun r => wI (r 6)) j).symm)) hr_57 hr_58 hr_59 hr_60
        refine w_callV (v := .int (wI (ownS (sp (nxPers σ i.toNat (renS (sp σ i.toNat) a b)) i.toNat)))) 1 X hE (c_X4_own l g H_42 M (1 - inS 0 (i) ((sn σ : Int) - 1)) _ hMN hgN (i) (by show _ ∧ _ < ((sn σ : Nat) : Int); omega)) ho_47 hl dX4_setHousing_52 gX4_setHousing_X4_own rfl rfl (by decide +kernel) ⟨(Nat.le_of_ble_eq_true rfl), (Nat.le_of_ble_eq_true rfl)⟩ rfl rfl (Nat.le_of_ble_eq_true rfl) ⟨(Nat.le_of_ble_eq_true rfl), (Nat.le_of_ble_eq_true rfl)⟩ ?_
        exact w_irR X hr hk hS (ref_y (y := ownS (sp (nxPers σ i.toNat (renS (sp σ i.toNat) a b)) i.toNat)) (by first | trivial | omega) (by first | trivial | omega) (by first | trivial | omega) (by rw [show sp (nxPers σ i.toNat (renS (sp σ i.toNat) a b)) i.toNat = (renS (sp σ i.toNat) a b) from va_up_self _ _ _]) (ModAt.cast (ModAt.mk ho_47 hr_48 hr_49 hr_50 (IA.ext hr_51 (fun j hj => (up_id (sp σ) i.toNat (renS (sp σ i.toNat) a b) (fun r => wI (r 0)) rfl j).symm)) (IA.ext hr_52 (fun j hj => (up_id (sp σ) i.toNat (renS (sp σ i.toNat) a b) (fun r => wI (r 1)) rfl j).symm)) (IA.ext hr_53 (fun j hj => (up_id (sp σ) i.toNat (renS (sp σ i.toNat) a b) (fun r => wI (r 2)) rfl j).symm)) (IA.ext hr_54 (fun j hj => (up_id (sp σ) i.toNat (renS (sp σ i.toNat) a b) (fun r => wI (r 3)) rfl j).symm)) (IA.ext hr_55 (fun j hj => (up_id (sp σ) i.toNat (renS (sp σ i.toNat) a b) (fun r => wI (r 4)) rfl j).symm)) (IA.ext hr_56 (fun j hj => (up_at (sp σ) i.toNat (renS (sp σ i.toNat) a b) (fun r => wI (r 5)) j).symm)) (IA.ext hr_44 (fun j hj => (up_at (sp σ) i.toNat (renS (sp σ i.toNat) a b) (fun r => wI (r 6)) j).symm)) hr_57 hr_58 hr_59 hr_60) (by omega : (1 - inS 0 (i) ((sn σ : Int) - 1) : Int) = 0))) dX4_setHousing_55 (Nat.le_of_ble_eq_true rfl) (Nat.le_of_ble_eq_true rfl)
      · skip
        refine w_aload_n X dX4_setHousing_30 hl 0 rfl rfl ?_
        refine w_iconst X dX4_setHousing_31 ?_
        refine w_ir (va_runV (As := [.int (wI (2))]) (rest := []) X (c_X4_fails l g A H_2 M hAM hMj (1 - inS 0 (i) ((sn σ : Int) - 1)) σ hM_8 hσ (2)) (cwV 1 X.2.2.2.2 gX4_setHousing_X4_fails rfl rfl rfl (by decide +kernel) ⟨(Nat.le_of_ble_eq_true rfl), (Nat.le_of_ble_eq_true rfl)⟩) (w_prV hE hEs hS hO_n_9 rfl) rfl rfl hl.1 rfl (lv_room (Nat.le_of_ble_eq_true rfl)) dX4_setHousing_32 ⟨(Nat.le_of_ble_eq_true rfl), (Nat.le_of_ble_eq_true rfl)⟩) hS (fun _ h => h) fun v_66 H_61 lo_62 hp_63 hz_64 hq_65 hS => ?_
        obtain ⟨rfl, hM_67⟩ := hp_63
        have hO_n_68 : Ob g H_61 (M 0) 5 [.int (wI (2)), .ref (M 1), .ref (M 2), .ref (M 3), .int (wI ((sn σ : Int))), .ref (M 5), .ref (M 6), .ref (M 7), .ref (M 8), .ref (M 9), .ref (M 10), .ref (M 11), .ref (M 12), .ref (M 13), .ref (M 14), .ref (M 15)] := hM_67 0 _ rfl
        have hA1_n_68 : IA g H_61 (M 1) 4 (fun j => wI (σ.1 j 0)) := hM_67 1 _ rfl
        have hA2_n_68 : IA g H_61 (M 2) 4 (fun j => wI (σ.1 j 1)) := hM_67 2 _ rfl
        have hA3_n_68 : IA g H_61 (M 3) 12 (fun j => wI (σ.1 (j / 3) (2 + j % 3))) := hM_67 3 _ rfl
        have hA5_n_68 : IA g H_61 (M 5) 10 (fun j => wI (sp σ j 0)) := hM_67 4 _ rfl
        have hA6_n_68 : IA g H_61 (M 6) 10 (fun j => wI (sp σ j 1)) := hM_67 5 _ rfl
        have hA7_n_68 : IA g H_61 (M 7) 10 (fun j => wI (sp σ j 2)) := hM_67 6 _ rfl
        have hA8_n_68 : IA g H_61 (M 8) 10 (fun j => wI (sp σ j 3)) := hM_67 7 _ rfl
        have hA9_n_68 : IA g H_61 (M 9) 10 (fun j => wI (sp σ j 4)) := hM_67 8 _ rfl
        have hA10_n_68 : IA g H_61 (M 10) 10 (fun j => wI (sp σ j 5)) := hM_67 9 _ rfl
        have hA11_n_68 : IA g H_61 (M 11) 10 (fun j => wI (sp σ j 6)) := hM_67 10 _ rfl
        have hA12_n_68 : IA g H_61 (M 12) 10 (fun j => wI ((sb σ j : Int))) := hM_67 11 _ rfl
        have hA13_n_68 : IA g H_61 (M 13) 60 (fun j => wI (so σ (j / 6) (j % 6) 0)) := hM_67 12 _ rfl
        have hA14_n_68 : IA g H_61 (M 14) 60 (fun j => wI (so σ (j / 6) (j % 6) 1)) := hM_67 13 _ rfl
        have hA15_n_68 : IA g H_61 (M 15) 60 (fun j => wI (so σ (j / 6) (j % 6) 2)) := hM_67 14 _ rfl
        exact w_irR X hr hk hS (ref_2 (by first | trivial | omega) (by omega) rfl (ModAt.mk hO_n_68 hA1_n_68 hA2_n_68 hA3_n_68 hA5_n_68 hA6_n_68 hA7_n_68 hA8_n_68 hA9_n_68 hA10_n_68 hA11_n_68 hA12_n_68 hA13_n_68 hA14_n_68 hA15_n_68)) dX4_setHousing_35 (Nat.le_of_ble_eq_true rfl) (Nat.le_of_ble_eq_true rfl)
  · skip
    refine w_iconst X dX4_setHousing_8 ?_
    exact w_irR X hr hk hS (ref_1 (by omega) rfl (ModAt.cast (ModAt.mk hO_n_9 hA1_n_9 hA2_n_9 hA3_n_9 hA5_n_9 hA6_n_9 hA7_n_9 hA8_n_9 hA9_n_9 hA10_n_9 hA11_n_9 hA12_n_9 hA13_n_9 hA14_n_9 hA15_n_9) (by omega : (1 - inS 0 (i) ((sn σ : Int) - 1) : Int) = 1))) dX4_setHousing_9 (Nat.le_of_ble_eq_true rfl) (Nat.le_of_ble_eq_true rfl)
