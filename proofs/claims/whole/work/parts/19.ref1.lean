/-! the reference: what it answers, what it notes, what it keeps -/

set_option maxHeartbeats 4000000 in
set_option maxRecDepth 100000 in
theorem c_X4_fails (l : Launch) (g : wG) (A : Nat → Prop) (H : Heap) (M : Nat → Nat) (hAM : ∀ k, k < 16 → k ≠ 4 → A (M k)) (hMj : AInj M) (th : Int) (σ : St) (hM : ModAt g H M th σ) (hσ : StGood σ) (k : Int) : ImpR l g A H yX4_fails wsX4_fails 0 0 0 0 [.ref (M 0), .int (wI (k))] (fun v H1 => v = .int (wI 0) ∧ ModAt g H1 M k σ) := by
  refine Imp.of (cc := cX4_fails) (maxL := 2) (ret := (some .int)) (by decide) rfl (Nat.le_of_ble_eq_true rfl) ?_
  intro p9 e s m args below meth c X hE hEs hnm hr hk hS ls hl
  have hl : lv_has ls 2 [(0, .ref (M 0)), (1, .int (wI (k)))] := hl
  have hin_RX4 : ∀ w ∈ u_ws RX4 TX4 16, w ∈ wsX4_fails := by decide +kernel
  have hGd := hE.dis
  have hO_n_1 : Ob g H (M 0) 5 [.int (wI (th)), .ref (M 1), .ref (M 2), .ref (M 3), .int (wI ((sn σ : Int))), .ref (M 5), .ref (M 6), .ref (M 7), .ref (M 8), .ref (M 9), .ref (M 10), .ref (M 11), .ref (M 12), .ref (M 13), .ref (M 14), .ref (M 15)] := hM 0 _ rfl
  have hA1_n_1 : IA g H (M 1) 4 (fun j => wI (σ.1 j 0)) := hM 1 _ rfl
  have hA2_n_1 : IA g H (M 2) 4 (fun j => wI (σ.1 j 1)) := hM 2 _ rfl
  have hA3_n_1 : IA g H (M 3) 12 (fun j => wI (σ.1 (j / 3) (2 + j % 3))) := hM 3 _ rfl
  have hA5_n_1 : IA g H (M 5) 10 (fun j => wI (sp σ j 0)) := hM 4 _ rfl
  have hA6_n_1 : IA g H (M 6) 10 (fun j => wI (sp σ j 1)) := hM 5 _ rfl
  have hA7_n_1 : IA g H (M 7) 10 (fun j => wI (sp σ j 2)) := hM 6 _ rfl
  have hA8_n_1 : IA g H (M 8) 10 (fun j => wI (sp σ j 3)) := hM 7 _ rfl
  have hA9_n_1 : IA g H (M 9) 10 (fun j => wI (sp σ j 4)) := hM 8 _ rfl
  have hA10_n_1 : IA g H (M 10) 10 (fun j => wI (sp σ j 5)) := hM 9 _ rfl
  have hA11_n_1 : IA g H (M 11) 10 (fun j => wI (sp σ j 6)) := hM 10 _ rfl
  have hA12_n_1 : IA g H (M 12) 10 (fun j => wI ((sb σ j : Int))) := hM 11 _ rfl
  have hA13_n_1 : IA g H (M 13) 60 (fun j => wI (so σ (j / 6) (j % 6) 0)) := hM 12 _ rfl
  have hA14_n_1 : IA g H (M 14) 60 (fun j => wI (so σ (j / 6) (j % 6) 1)) := hM 13 _ rfl
  have hA15_n_1 : IA g H (M 15) 60 (fun j => wI (so σ (j / 6) (j % 6) 2)) := hM 14 _ rfl
  refine w_aload_n X dX4_fails_0 hl 0 rfl rfl ?_
  refine w_iload_n X dX4_fails_1 hl 1 rfl rfl ?_
  refine w_put (ref := "TaxEqualiserModel") (v := .int (wI (k))) X hE hO_n_1 hS (hAM 0 (by decide) (by decide)) 0 dX4_fails_2 rfl hin_RX4 tyX4 tyX4_ok nmX4 (by decide) (by decide +kernel) (fun _ h => h) rfl rfl rfl (Nat.le_of_ble_eq_true rfl) fun H_2 lo_3 ho_4 hz_5 hq_6 hS => ?_
  have ho_4 : Ob g H_2 (M 0) 5 [.int (wI (k)), .ref (M 1), .ref (M 2), .ref (M 3), .int (wI ((sn σ : Int))), .ref (M 5), .ref (M 6), .ref (M 7), .ref (M 8), .ref (M 9), .ref (M 10), .ref (M 11), .ref (M 12), .ref (M 13), .ref (M 14), .ref (M 15)] := ho_4
  have hr_7 := (hA1_n_1).kept (hq_6 _ (hMj 1 0 (by decide) (by decide) (by decide) (by decide) (by decide)))
  have hr_8 := (hA2_n_1).kept (hq_6 _ (hMj 2 0 (by decide) (by decide) (by decide) (by decide) (by decide)))
  have hr_9 := (hA3_n_1).kept (hq_6 _ (hMj 3 0 (by decide) (by decide) (by decide) (by decide) (by decide)))
  have hr_10 := (hA5_n_1).kept (hq_6 _ (hMj 5 0 (by decide) (by decide) (by decide) (by decide) (by decide)))
  have hr_11 := (hA6_n_1).kept (hq_6 _ (hMj 6 0 (by decide) (by decide) (by decide) (by decide) (by decide)))
  have hr_12 := (hA7_n_1).kept (hq_6 _ (hMj 7 0 (by decide) (by decide) (by decide) (by decide) (by decide)))
  have hr_13 := (hA8_n_1).kept (hq_6 _ (hMj 8 0 (by decide) (by decide) (by decide) (by decide) (by decide)))
  have hr_14 := (hA9_n_1).kept (hq_6 _ (hMj 9 0 (by decide) (by decide) (by decide) (by decide) (by decide)))
  have hr_15 := (hA10_n_1).kept (hq_6 _ (hMj 10 0 (by decide) (by decide) (by decide) (by decide) (by decide)))
  have hr_16 := (hA11_n_1).kept (hq_6 _ (hMj 11 0 (by decide) (by decide) (by decide) (by decide) (by decide)))
  have hr_17 := (hA12_n_1).kept (hq_6 _ (hMj 12 0 (by decide) (by decide) (by decide) (by decide) (by decide)))
  have hr_18 := (hA13_n_1).kept (hq_6 _ (hMj 13 0 (by decide) (by decide) (by decide) (by decide) (by decide)))
  have hr_19 := (hA14_n_1).kept (hq_6 _ (hMj 14 0 (by decide) (by decide) (by decide) (by decide) (by decide)))
  have hr_20 := (hA15_n_1).kept (hq_6 _ (hMj 15 0 (by decide) (by decide) (by decide) (by decide) (by decide)))
  refine w_iconst X dX4_fails_5 ?_
  exact w_irR X hr hk hS ⟨rfl, ModAt.mk ho_4 hr_7 hr_8 hr_9 hr_10 hr_11 hr_12 hr_13 hr_14 hr_15 hr_16 hr_17 hr_18 hr_19 hr_20⟩ dX4_fails_6 (Nat.le_of_ble_eq_true rfl) (Nat.le_of_ble_eq_true rfl)

set_option maxHeartbeats 4000000 in
set_option maxRecDepth 100000 in
theorem c_X4_isAsked (l : Launch) (g : wG) (A : Nat → Prop) (H : Heap) (M : Nat → Nat) (hAM : ∀ k, k < 16 → k ≠ 4 → A (M k)) (hMj : AInj M) (th : Int) (σ : St) (hM : ModAt g H M th σ) (hσ : StGood σ) (i : Int) (hi : wR i) : ImpR l g A H yX4_isAsked wsX4_isAsked 1 22 0 0 [.ref (M 0), .int (wI (i))] (fun v H1 => v = .int (wI (inS 0 i ((sn σ : Int) - 1))) ∧ ModAt g H1 M (1 - inS 0 i ((sn σ : Int) - 1)) σ) := by
  refine Imp.of (cc := cX4_isAsked) (maxL := 2) (ret := (some .boolean)) (by decide) rfl (Nat.le_of_ble_eq_true rfl) ?_
  intro p9 e s m args below meth c X hE hEs hnm hr hk hS ls hl
  have hl : lv_has ls 2 [(0, .ref (M 0)), (1, .int (wI (i)))] := hl
  have hin_RX4 : ∀ w ∈ u_ws RX4 TX4 16, w ∈ wsX4_isAsked := by decide +kernel
  have hGd := hE.dis
  have hs2 := hσ.2.1
  have hO_n_1 : Ob g H (M 0) 5 [.int (wI (th)), .ref (M 1), .ref (M 2), .ref (M 3), .int (wI ((sn σ : Int))), .ref (M 5), .ref (M 6), .ref (M 7), .ref (M 8), .ref (M 9), .ref (M 10), .ref (M 11), .ref (M 12), .ref (M 13), .ref (M 14), .ref (M 15)] := hM 0 _ rfl
  have hA1_n_1 : IA g H (M 1) 4 (fun j => wI (σ.1 j 0)) := hM 1 _ rfl
  have hA2_n_1 : IA g H (M 2) 4 (fun j => wI (σ.1 j 1)) := hM 2 _ rfl
  have hA3_n_1 : IA g H (M 3) 12 (fun j => wI (σ.1 (j / 3) (2 + j % 3))) := hM 3 _ rfl
  have hA5_n_1 : IA g H (M 5) 10 (fun j => wI (sp σ j 0)) := hM 4 _ rfl
  have hA6_n_1 : IA g H (M 6) 10 (fun j => wI (sp σ j 1)) := hM 5 _ rfl
  have hA7_n_1 : IA g H (M 7) 10 (fun j => wI (sp σ j 2)) := hM 6 _ rfl
  have hA8_n_1 : IA g H (M 8) 10 (fun j => wI (sp σ j 3)) := hM 7 _ rfl
  have hA9_n_1 : IA g H (M 9) 10 (fun j => wI (sp σ j 4)) := hM 8 _ rfl
  have hA10_n_1 : IA g H (M 10) 10 (fun j => wI (sp σ j 5)) := hM 9 _ rfl
  have hA11_n_1 : IA g H (M 11) 10 (fun j => wI (sp σ j 6)) := hM 10 _ rfl
  have hA12_n_1 : IA g H (M 12) 10 (fun j => wI ((sb σ j : Int))) := hM 11 _ rfl
  have hA13_n_1 : IA g H (M 13) 60 (fun j => wI (so σ (j / 6) (j % 6) 0)) := hM 12 _ rfl
  have hA14_n_1 : IA g H (M 14) 60 (fun j => wI (so σ (j / 6) (j % 6) 1)) := hM 13 _ rfl
  have hA15_n_1 : IA g H (M 15) 60 (fun j => wI (so σ (j / 6) (j % 6) 2)) := hM 14 _ rfl
  refine w_aload_n X dX4_isAsked_0 hl 0 rfl rfl ?_
  refine w_iload_n X dX4_isAsked_1 hl 1 rfl rfl ?_
  refine w_iconst X dX4_isAsked_2 ?_
  refine w_aload_n X dX4_isAsked_3 hl 0 rfl rfl ?_
  refine w_get X hE hO_n_1 4 dX4_isAsked_4 rfl hin_RX4 (by decide) (by decide +kernel) rfl rfl ?_
  refine w_iconst X dX4_isAsked_7 ?_
  refine w_isub X dX4_isAsked_8 fun z_2 ez_2 => ?_
  rw [show z_2 = (sn σ : Int) - 1 by omega]
  refine w_callS (v := .int (wI (inS (0) (i) ((sn σ : Int) - 1)))) 3 X hE (c_X4_in l g H (i) (0) ((sn σ : Int) - 1) (by omega) (by omega) (by omega)) hl dX4_isAsked_9 gX4_isAsked_X4_in rfl rfl (by decide +kernel) ⟨(Nat.le_of_ble_eq_true rfl), (Nat.le_of_ble_eq_true rfl)⟩ rfl (Nat.le_of_ble_eq_true rfl) ⟨(Nat.le_of_ble_eq_true rfl), (Nat.le_of_ble_eq_true rfl)⟩ ?_
  have qi_3 := inS_spec (0) (i) ((sn σ : Int) - 1)
  refine w_if_eq X 19 dX4_isAsked_12 (by decide) (by omega) (fun c_4 => ?_) (fun c_4 => ?_)
  · skip
    refine w_iconst X dX4_isAsked_19 ?_
    refine w_put (ref := "TaxEqualiserModel") (v := .int (wI (1))) X hE hO_n_1 hS (hAM 0 (by decide) (by decide)) 0 dX4_isAsked_20 rfl hin_RX4 tyX4 tyX4_ok nmX4 (by decide) (by decide +kernel) (fun _ h => h) rfl rfl rfl (Nat.le_of_ble_eq_true rfl) fun H_5 lo_6 ho_7 hz_8 hq_9 hS => ?_
    have ho_7 : Ob g H_5 (M 0) 5 [.int (wI (1)), .ref (M 1), .ref (M 2), .ref (M 3), .int (wI ((sn σ : Int))), .ref (M 5), .ref (M 6), .ref (M 7), .ref (M 8), .ref (M 9), .ref (M 10), .ref (M 11), .ref (M 12), .ref (M 13), .ref (M 14), .ref (M 15)] := ho_7
    have hr_10 := (hA1_n_1).kept (hq_9 _ (hMj 1 0 (by decide) (by decide) (by decide) (by decide) (by decide)))
    have hr_11 := (hA2_n_1).kept (hq_9 _ (hMj 2 0 (by decide) (by decide) (by decide) (by decide) (by decide)))
    have hr_12 := (hA3_n_1).kept (hq_9 _ (hMj 3 0 (by decide) (by decide) (by decide) (by decide) (by decide)))
    have hr_13 := (hA5_n_1).kept (hq_9 _ (hMj 5 0 (by decide) (by decide) (by decide) (by decide) (by decide)))
    have hr_14 := (hA6_n_1).kept (hq_9 _ (hMj 6 0 (by decide) (by decide) (by decide) (by decide) (by decide)))
    have hr_15 := (hA7_n_1).kept (hq_9 _ (hMj 7 0 (by decide) (by decide) (by decide) (by decide) (by decide)))
    have hr_16 := (hA8_n_1).kept (hq_9 _ (hMj 8 0 (by decide) (by decide) (by decide) (by decide) (by decide)))
    have hr_17 := (hA9_n_1).kept (hq_9 _ (hMj 9 0 (by decide) (by decide) (by decide) (by decide) (by decide)))
    have hr_18 := (hA10_n_1).kept (hq_9 _ (hMj 10 0 (by decide) (by decide) (by decide) (by decide) (by decide)))
    have hr_19 := (hA11_n_1).kept (hq_9 _ (hMj 11 0 (by decide) (by decide) (by decide) (by decide) (by decide)))
    have hr_20 := (hA12_n_1).kept (hq_9 _ (hMj 12 0 (by decide) (by decide) (by decide) (by decide) (by decide)))
    have hr_21 := (hA13_n_1).kept (hq_9 _ (hMj 13 0 (by decide) (by decide) (by decide) (by decide) (by decide)))
    have hr_22 := (hA14_n_1).kept (hq_9 _ (hMj 14 0 (by decide) (by decide) (by decide) (by decide) (by decide)))
    have hr_23 := (hA15_n_1).kept (hq_9 _ (hMj 15 0 (by decide) (by decide) (by decide) (by decide) (by decide)))
    refine w_aload_n X dX4_isAsked_23 hl 0 rfl rfl ?_
    refine w_get X hE ho_7 0 dX4_isAsked_24 rfl hin_RX4 (by decide) (by decide +kernel) rfl rfl ?_
    refine w_if_ne X 34 dX4_isAsked_27 (by decide) (by omega) (fun c_24 => ?_) (fun c_24 => ?_)
    · skip
      refine w_iconst X dX4_isAsked_34 ?_
      exact w_zrR X hr hk hS (by omega) ⟨congrArg (fun t => Value.int (wI t)) (by omega : (0 : Int) = inS 0 i ((sn σ : Int) - 1)), ModAt.cast (ModAt.mk ho_7 hr_10 hr_11 hr_12 hr_13 hr_14 hr_15 hr_16 hr_17 hr_18 hr_19 hr_20 hr_21 hr_22 hr_23) (by omega : (1 : Int) = 1 - inS 0 i ((sn σ : Int) - 1))⟩ dX4_isAsked_35 (Nat.le_of_ble_eq_true rfl) (Nat.le_of_ble_eq_true rfl)
    · skip
      exact absurd c_24 (by omega)
  · skip
    refine w_iconst X dX4_isAsked_15 ?_
    refine w_goto X 20 dX4_isAsked_16 (by decide) ?_
    refine w_put (ref := "TaxEqualiserModel") (v := .int (wI (0))) X hE hO_n_1 hS (hAM 0 (by decide) (by decide)) 0 dX4_isAsked_20 rfl hin_RX4 tyX4 tyX4_ok nmX4 (by decide) (by decide +kernel) (fun _ h => h) rfl rfl rfl (Nat.le_of_ble_eq_true rfl) fun H_25 lo_26 ho_27 hz_28 hq_29 hS => ?_
    have ho_27 : Ob g H_25 (M 0) 5 [.int (wI (0)), .ref (M 1), .ref (M 2), .ref (M 3), .int (wI ((sn σ : Int))), .ref (M 5), .ref (M 6), .ref (M 7), .ref (M 8), .ref (M 9), .ref (M 10), .ref (M 11), .ref (M 12), .ref (M 13), .ref (M 14), .ref (M 15)] := ho_27
    have hr_30 := (hA1_n_1).kept (hq_29 _ (hMj 1 0 (by decide) (by decide) (by decide) (by decide) (by decide)))
    have hr_31 := (hA2_n_1).kept (hq_29 _ (hMj 2 0 (by decide) (by decide) (by decide) (by decide) (by decide)))
    have hr_32 := (hA3_n_1).kept (hq_29 _ (hMj 3 0 (by decide) (by decide) (by decide) (by decide) (by decide)))
    have hr_33 := (hA5_n_1).kept (hq_29 _ (hMj 5 0 (by decide) (by decide) (by decide) (by decide) (by decide)))
    have hr_34 := (hA6_n_1).kept (hq_29 _ (hMj 6 0 (by decide) (by decide) (by decide) (by decide) (by decide)))
    have hr_35 := (hA7_n_1).kept (hq_29 _ (hMj 7 0 (by decide) (by decide) (by decide) (by decide) (by decide)))
    have hr_36 := (hA8_n_1).kept (hq_29 _ (hMj 8 0 (by decide) (by decide) (by decide) (by decide) (by decide)))
    have hr_37 := (hA9_n_1).kept (hq_29 _ (hMj 9 0 (by decide) (by decide) (by decide) (by decide) (by decide)))
    have hr_38 := (hA10_n_1).kept (hq_29 _ (hMj 10 0 (by decide) (by decide) (by decide) (by decide) (by decide)))
    have hr_39 := (hA11_n_1).kept (hq_29 _ (hMj 11 0 (by decide) (by decide) (by decide) (by decide) (by decide)))
    have hr_40 := (hA12_n_1).kept (hq_29 _ (hMj 12 0 (by decide) (by decide) (by decide) (by decide) (by decide)))
    have hr_41 := (hA13_n_1).kept (hq_29 _ (hMj 13 0 (by decide) (by decide) (by decide) (by decide) (by decide)))
    have hr_42 := (hA14_n_1).kept (hq_29 _ (hMj 14 0 (by decide) (by decide) (by decide) (by decide) (by decide)))
    have hr_43 := (hA15_n_1).kept (hq_29 _ (hMj 15 0 (by decide) (by decide) (by decide) (by decide) (by decide)))
    refine w_aload_n X dX4_isAsked_23 hl 0 rfl rfl ?_
    refine w_get X hE ho_27 0 dX4_isAsked_24 rfl hin_RX4 (by decide) (by decide +kernel) rfl rfl ?_
    refine w_if_ne X 34 dX4_isAsked_27 (by decide) (by omega) (fun c_44 => ?_) (fun c_44 => ?_)
    · skip
      exact absurd c_44 (by omega)
    · skip
      refine w_iconst X dX4_isAsked_30 ?_
      refine w_goto X 35 dX4_isAsked_31 (by decide) ?_
      exact w_zrR X hr hk hS (by omega) ⟨congrArg (fun t => Value.int (wI t)) (by omega : (1 : Int) = inS 0 i ((sn σ : Int) - 1)), ModAt.cast (ModAt.mk ho_27 hr_30 hr_31 hr_32 hr_33 hr_34 hr_35 hr_36 hr_37 hr_38 hr_39 hr_40 hr_41 hr_42 hr_43) (by omega : (0 : Int) = 1 - inS 0 i ((sn σ : Int) - 1))⟩ dX4_isAsked_35 (Nat.le_of_ble_eq_true rfl) (Nat.le_of_ble_eq_true rfl)

set_option maxHeartbeats 4000000 in
set_option maxRecDepth 100000 in
theorem c_X4_thrown (l : Launch) (g : wG) (H : Heap) (M : Nat → Nat) (th : Int) (σ : St) (hM : ModAt g H M th σ) : Pur l g H yX4_thrown wsX4_thrown 0 0 [.ref (M 0)] (.int (wI th)) := by
  refine Pur.of (cc := cX4_thrown) (maxL := 1) (ret := (some .int)) (by decide) rfl (Nat.le_of_ble_eq_true rfl) ?_
  intro p9 e s m args below meth c X hE hr hk ls hl
  have hl : lv_has ls 1 [(0, .ref (M 0))] := hl
  have hin_RX4 : ∀ w ∈ u_ws RX4 TX4 16, w ∈ wsX4_thrown := by decide +kernel
  refine w_aload_n X dX4_thrown_0 hl 0 rfl rfl ?_
  refine w_get X hE (hM 0 _ rfl) 0 dX4_thrown_1 rfl hin_RX4 (by decide) (by decide +kernel) rfl rfl ?_
  exact w_iret X hr hk dX4_thrown_4 rfl

set_option maxHeartbeats 4000000 in
set_option maxRecDepth 100000 in
theorem c_X4_people (l : Launch) (g : wG) (A : Nat → Prop) (H : Heap) (M : Nat → Nat) (hAM : ∀ k, k < 16 → k ≠ 4 → A (M k)) (hMj : AInj M) (th : Int) (σ : St) (hM : ModAt g H M th σ) (hσ : StGood σ) : ImpR l g A H yX4_people wsX4_people 0 0 0 0 [.ref (M 0)] (fun v H1 => v = .int (wI (sn σ : Int)) ∧ ModAt g H1 M 0 σ) := by
  refine Imp.of (cc := cX4_people) (maxL := 1) (ret := (some .int)) (by decide) rfl (Nat.le_of_ble_eq_true rfl) ?_
  intro p9 e s m args below meth c X hE hEs hnm hr hk hS ls hl
  have hl : lv_has ls 1 [(0, .ref (M 0))] := hl
  have hin_RX4 : ∀ w ∈ u_ws RX4 TX4 16, w ∈ wsX4_people := by decide +kernel
  have hGd := hE.dis
  have hO_n_1 : Ob g H (M 0) 5 [.int (wI (th)), .ref (M 1), .ref (M 2), .ref (M 3), .int (wI ((sn σ : Int))), .ref (M 5), .ref (M 6), .ref (M 7), .ref (M 8), .ref (M 9), .ref (M 10), .ref (M 11), .ref (M 12), .ref (M 13), .ref (M 14), .ref (M 15)] := hM 0 _ rfl
  have hA1_n_1 : IA g H (M 1) 4 (fun j => wI (σ.1 j 0)) := hM 1 _ rfl
  have hA2_n_1 : IA g H (M 2) 4 (fun j => wI (σ.1 j 1)) := hM 2 _ rfl
  have hA3_n_1 : IA g H (M 3) 12 (fun j => wI (σ.1 (j / 3) (2 + j % 3))) := hM 3 _ rfl
  have hA5_n_1 : IA g H (M 5) 10 (fun j => wI (sp σ j 0)) := hM 4 _ rfl
  have hA6_n_1 : IA g H (M 6) 10 (fun j => wI (sp σ j 1)) := hM 5 _ rfl
  have hA7_n_1 : IA g H (M 7) 10 (fun j => wI (sp σ j 2)) := hM 6 _ rfl
  have hA8_n_1 : IA g H (M 8) 10 (fun j => wI (sp σ j 3)) := hM 7 _ rfl
  have hA9_n_1 : IA g H (M 9) 10 (fun j => wI (sp σ j 4)) := hM 8 _ rfl
  have hA10_n_1 : IA g H (M 10) 10 (fun j => wI (sp σ j 5)) := hM 9 _ rfl
  have hA11_n_1 : IA g H (M 11) 10 (fun j => wI (sp σ j 6)) := hM 10 _ rfl
  have hA12_n_1 : IA g H (M 12) 10 (fun j => wI ((sb σ j : Int))) := hM 11 _ rfl
  have hA13_n_1 : IA g H (M 13) 60 (fun j => wI (so σ (j / 6) (j % 6) 0)) := hM 12 _ rfl
  have hA14_n_1 : IA g H (M 14) 60 (fun j => wI (so σ (j / 6) (j % 6) 1)) := hM 13 _ rfl
  have hA15_n_1 : IA g H (M 15) 60 (fun j => wI (so σ (j / 6) (j % 6) 2)) := hM 14 _ rfl
  refine w_aload_n X dX4_people_0 hl 0 rfl rfl ?_
  refine w_iconst X dX4_people_1 ?_
  refine w_put (ref := "TaxEqualiserModel") (v := .int (wI (0))) X hE hO_n_1 hS (hAM 0 (by decide) (by decide)) 0 dX4_people_2 rfl hin_RX4 tyX4 tyX4_ok nmX4 (by decide) (by decide +kernel) (fun _ h => h) rfl rfl rfl (Nat.le_of_ble_eq_true rfl) fun H_2 lo_3 ho_4 hz_5 hq_6 hS => ?_
  have ho_4 : Ob g H_2 (M 0) 5 [.int (wI (0)), .ref (M 1), .ref (M 2), .ref (M 3), .int (wI ((sn σ : Int))), .ref (M 5), .ref (M 6), .ref (M 7), .ref (M 8), .ref (M 9), .ref (M 10), .ref (M 11), .ref (M 12), .ref (M 13), .ref (M 14), .ref (M 15)] := ho_4
  have hr_7 := (hA1_n_1).kept (hq_6 _ (hMj 1 0 (by decide) (by decide) (by decide) (by decide) (by decide)))
  have hr_8 := (hA2_n_1).kept (hq_6 _ (hMj 2 0 (by decide) (by decide) (by decide) (by decide) (by decide)))
  have hr_9 := (hA3_n_1).kept (hq_6 _ (hMj 3 0 (by decide) (by decide) (by decide) (by decide) (by decide)))
  have hr_10 := (hA5_n_1).kept (hq_6 _ (hMj 5 0 (by decide) (by decide) (by decide) (by decide) (by decide)))
  have hr_11 := (hA6_n_1).kept (hq_6 _ (hMj 6 0 (by decide) (by decide) (by decide) (by decide) (by decide)))
  have hr_12 := (hA7_n_1).kept (hq_6 _ (hMj 7 0 (by decide) (by decide) (by decide) (by decide) (by decide)))
  have hr_13 := (hA8_n_1).kept (hq_6 _ (hMj 8 0 (by decide) (by decide) (by decide) (by decide) (by decide)))
  have hr_14 := (hA9_n_1).kept (hq_6 _ (hMj 9 0 (by decide) (by decide) (by decide) (by decide) (by decide)))
  have hr_15 := (hA10_n_1).kept (hq_6 _ (hMj 10 0 (by decide) (by decide) (by decide) (by decide) (by decide)))
  have hr_16 := (hA11_n_1).kept (hq_6 _ (hMj 11 0 (by decide) (by decide) (by decide) (by decide) (by decide)))
  have hr_17 := (hA12_n_1).kept (hq_6 _ (hMj 12 0 (by decide) (by decide) (by decide) (by decide) (by decide)))
  have hr_18 := (hA13_n_1).kept (hq_6 _ (hMj 13 0 (by decide) (by decide) (by decide) (by decide) (by decide)))
  have hr_19 := (hA14_n_1).kept (hq_6 _ (hMj 14 0 (by decide) (by decide) (by decide) (by decide) (by decide)))
  have hr_20 := (hA15_n_1).kept (hq_6 _ (hMj 15 0 (by decide) (by decide) (by decide) (by decide) (by decide)))
  refine w_aload_n X dX4_people_5 hl 0 rfl rfl ?_
  refine w_get X hE ho_4 4 dX4_people_6 rfl hin_RX4 (by decide) (by decide +kernel) rfl rfl ?_
  exact w_irR X hr hk hS ⟨rfl, ModAt.mk ho_4 hr_7 hr_8 hr_9 hr_10 hr_11 hr_12 hr_13 hr_14 hr_15 hr_16 hr_17 hr_18 hr_19 hr_20⟩ dX4_people_9 (Nat.le_of_ble_eq_true rfl) (Nat.le_of_ble_eq_true rfl)

set_option maxHeartbeats 4000000 in
set_option maxRecDepth 100000 in
theorem c_X4_tax (l : Launch) (g : wG) (A : Nat → Prop) (H : Heap) (M : Nat → Nat) (hAM : ∀ k, k < 16 → k ≠ 4 → A (M k)) (hMj : AInj M) (th : Int) (σ : St) (hM : ModAt g H M th σ) (hσ : StGood σ) (i a : Int) (hi : wR i) (ha : wR a) : ImpR l g A H yX4_tax wsX4_tax 2 42 0 0 [.ref (M 0), .int (wI (i)), .int (wI (a))] (fun v H1 => v = .int (wI (stv (((0 ≤ i ∧ i < 4) ∧ 0 ≤ a ∧ a ≤ 10000000)) (True) (True) (taxS (σ.1 i.toNat) a))) ∧ ModAt g H1 M (cd (((0 ≤ i ∧ i < 4) ∧ 0 ≤ a ∧ a ≤ 10000000)) (True) (True)) (stp (((0 ≤ i ∧ i < 4) ∧ 0 ≤ a ∧ a ≤ 10000000)) (True) (True) (σ) σ)) := by
  refine Imp.of (cc := cX4_tax) (maxL := 3) (ret := (some .int)) (by decide) rfl (Nat.le_of_ble_eq_true rfl) ?_
  intro p9 e s m args below meth c X hE hEs hnm hr hk hS ls hl
  have hl : lv_has ls 3 [(0, .ref (M 0)), (1, .int (wI (i))), (2, .int (wI (a)))] := hl
  have hin_RX4 : ∀ w ∈ u_ws RX4 TX4 16, w ∈ wsX4_tax := by decide +kernel
  have hGd := hE.dis
  obtain ⟨hs1, hs2, hs3, hs4⟩ := id hσ
  have hO_n_1 : Ob g H (M 0) 5 [.int (wI (th)), .ref (M 1), .ref (M 2), .ref (M 3), .int (wI ((sn σ : Int))), .ref (M 5), .ref (M 6), .ref (M 7), .ref (M 8), .ref (M 9), .ref (M 10), .ref (M 11), .ref (M 12), .ref (M 13), .ref (M 14), .ref (M 15)] := hM 0 _ rfl
  have hA1_n_1 : IA g H (M 1) 4 (fun j => wI (σ.1 j 0)) := hM 1 _ rfl
  have hA2_n_1 : IA g H (M 2) 4 (fun j => wI (σ.1 j 1)) := hM 2 _ rfl
  have hA3_n_1 : IA g H (M 3) 12 (fun j => wI (σ.1 (j / 3) (2 + j % 3))) := hM 3 _ rfl
  have hA5_n_1 : IA g H (M 5) 10 (fun j => wI (sp σ j 0)) := hM 4 _ rfl
  have hA6_n_1 : IA g H (M 6) 10 (fun j => wI (sp σ j 1)) := hM 5 _ rfl
  have hA7_n_1 : IA g H (M 7) 10 (fun j => wI (sp σ j 2)) := hM 6 _ rfl
  have hA8_n_1 : IA g H (M 8) 10 (fun j => wI (sp σ j 3)) := hM 7 _ rfl
  have hA9_n_1 : IA g H (M 9) 10 (fun j => wI (sp σ j 4)) := hM 8 _ rfl
  have hA10_n_1 : IA g H (M 10) 10 (fun j => wI (sp σ j 5)) := hM 9 _ rfl
  have hA11_n_1 : IA g H (M 11) 10 (fun j => wI (sp σ j 6)) := hM 10 _ rfl
  have hA12_n_1 : IA g H (M 12) 10 (fun j => wI ((sb σ j : Int))) := hM 11 _ rfl
  have hA13_n_1 : IA g H (M 13) 60 (fun j => wI (so σ (j / 6) (j % 6) 0)) := hM 12 _ rfl
  have hA14_n_1 : IA g H (M 14) 60 (fun j => wI (so σ (j / 6) (j % 6) 1)) := hM 13 _ rfl
  have hA15_n_1 : IA g H (M 15) 60 (fun j => wI (so σ (j / 6) (j % 6) 2)) := hM 14 _ rfl
  refine w_aload_n X dX4_tax_0 hl 0 rfl rfl ?_
  refine w_iconst X dX4_tax_1 ?_
  refine w_put (ref := "TaxEqualiserModel") (v := .int (wI (0))) X hE hO_n_1 hS (hAM 0 (by decide) (by decide)) 0 dX4_tax_2 rfl hin_RX4 tyX4 tyX4_ok nmX4 (by decide) (by decide +kernel) (fun _ h => h) rfl rfl rfl (Nat.le_of_ble_eq_true rfl) fun H_2 lo_3 ho_4 hz_5 hq_6 hS => ?_
  have ho_4 : Ob g H_2 (M 0) 5 [.int (wI (0)), .ref (M 1), .ref (M 2), .ref (M 3), .int (wI ((sn σ : Int))), .ref (M 5), .ref (M 6), .ref (M 7), .ref (M 8), .ref (M 9), .ref (M 10), .ref (M 11), .ref (M 12), .ref (M 13), .ref (M 14), .ref (M 15)] := ho_4
  have hr_7 := (hA1_n_1).kept (hq_6 _ (hMj 1 0 (by decide) (by decide) (by decide) (by decide) (by decide)))
  have hr_8 := (hA2_n_1).kept (hq_6 _ (hMj 2 0 (by decide) (by decide) (by decide) (by decide) (by decide)))
  have hr_9 := (hA3_n_1).kept (hq_6 _ (hMj 3 0 (by decide) (by decide) (by decide) (by decide) (by decide)))
  have hr_10 := (hA5_n_1).kept (hq_6 _ (hMj 5 0 (by decide) (by decide) (by decide) (by decide) (by decide)))
  have hr_11 := (hA6_n_1).kept (hq_6 _ (hMj 6 0 (by decide) (by decide) (by decide) (by decide) (by decide)))
  have hr_12 := (hA7_n_1).kept (hq_6 _ (hMj 7 0 (by decide) (by decide) (by decide) (by decide) (by decide)))
  have hr_13 := (hA8_n_1).kept (hq_6 _ (hMj 8 0 (by decide) (by decide) (by decide) (by decide) (by decide)))
  have hr_14 := (hA9_n_1).kept (hq_6 _ (hMj 9 0 (by decide) (by decide) (by decide) (by decide) (by decide)))
  have hr_15 := (hA10_n_1).kept (hq_6 _ (hMj 10 0 (by decide) (by decide) (by decide) (by decide) (by decide)))
  have hr_16 := (hA11_n_1).kept (hq_6 _ (hMj 11 0 (by decide) (by decide) (by decide) (by decide) (by decide)))
  have hr_17 := (hA12_n_1).kept (hq_6 _ (hMj 12 0 (by decide) (by decide) (by decide) (by decide) (by decide)))
  have hr_18 := (hA13_n_1).kept (hq_6 _ (hMj 13 0 (by decide) (by decide) (by decide) (by decide) (by decide)))
  have hr_19 := (hA14_n_1).kept (hq_6 _ (hMj 14 0 (by decide) (by decide) (by decide) (by decide) (by decide)))
  have hr_20 := (hA15_n_1).kept (hq_6 _ (hMj 15 0 (by decide) (by decide) (by decide) (by decide) (by decide)))
  refine w_iload_n X dX4_tax_5 hl 1 rfl rfl ?_
  refine w_callS (v := .int (wI (inS 0 (i) 3))) 1 X hE (c_X4_isLand l g H_2 (i) (by omega)) hl dX4_tax_6 gX4_tax_X4_isLand rfl rfl (by decide +kernel) ⟨(Nat.le_of_ble_eq_true rfl), (Nat.le_of_ble_eq_true rfl)⟩ rfl (Nat.le_of_ble_eq_true rfl) ⟨(Nat.le_of_ble_eq_true rfl), (Nat.le_of_ble_eq_true rfl)⟩ ?_
  have qi_21 := inS_spec 0 (i) 3
  refine w_if_eq X 33 dX4_tax_9 (by decide) (by omega) (fun c_22 => ?_) (fun c_22 => ?_)
  · skip
    refine w_aload_n X dX4_tax_33 hl 0 rfl rfl ?_
    refine w_iconst X dX4_tax_34 ?_
    have hM_23 : ModAt g H_2 M (0) σ := ModAt.mk ho_4 hr_7 hr_8 hr_9 hr_10 hr_11 hr_12 hr_13 hr_14 hr_15 hr_16 hr_17 hr_18 hr_19 hr_20
    refine w_ir (va_runV (As := [.int (wI (1))]) (rest := []) X (c_X4_fails l g A H_2 M hAM hMj (0) σ hM_23 hσ (1)) (cwV 1 X.2.2.2.2 gX4_tax_X4_fails rfl rfl rfl (by decide +kernel) ⟨(Nat.le_of_ble_eq_true rfl), (Nat.le_of_ble_eq_true rfl)⟩) (w_prV hE hEs hS ho_4 rfl) rfl rfl hl.1 rfl (lv_room (Nat.le_of_ble_eq_true rfl)) dX4_tax_35 ⟨(Nat.le_of_ble_eq_true rfl), (Nat.le_of_ble_eq_true rfl)⟩) hS (fun _ h => h) fun v_29 H_24 lo_25 hp_26 hz_27 hq_28 hS => ?_
    obtain ⟨rfl, hM_30⟩ := hp_26
    have hO_n_31 : Ob g H_24 (M 0) 5 [.int (wI (1)), .ref (M 1), .ref (M 2), .ref (M 3), .int (wI ((sn σ : Int))), .ref (M 5), .ref (M 6), .ref (M 7), .ref (M 8), .ref (M 9), .ref (M 10), .ref (M 11), .ref (M 12), .ref (M 13), .ref (M 14), .ref (M 15)] := hM_30 0 _ rfl
    have hA1_n_31 : IA g H_24 (M 1) 4 (fun j => wI (σ.1 j 0)) := hM_30 1 _ rfl
    have hA2_n_31 : IA g H_24 (M 2) 4 (fun j => wI (σ.1 j 1)) := hM_30 2 _ rfl
    have hA3_n_31 : IA g H_24 (M 3) 12 (fun j => wI (σ.1 (j / 3) (2 + j % 3))) := hM_30 3 _ rfl
    have hA5_n_31 : IA g H_24 (M 5) 10 (fun j => wI (sp σ j 0)) := hM_30 4 _ rfl
    have hA6_n_31 : IA g H_24 (M 6) 10 (fun j => wI (sp σ j 1)) := hM_30 5 _ rfl
    have hA7_n_31 : IA g H_24 (M 7) 10 (fun j => wI (sp σ j 2)) := hM_30 6 _ rfl
    have hA8_n_31 : IA g H_24 (M 8) 10 (fun j => wI (sp σ j 3)) := hM_30 7 _ rfl
    have hA9_n_31 : IA g H_24 (M 9) 10 (fun j => wI (sp σ j 4)) := hM_30 8 _ rfl
    have hA10_n_31 : IA g H_24 (M 10) 10 (fun j => wI (sp σ j 5)) := hM_30 9 _ rfl
    have hA11_n_31 : IA g H_24 (M 11) 10 (fun j => wI (sp σ j 6)) := hM_30 10 _ rfl
    have hA12_n_31 : IA g H_24 (M 12) 10 (fun j => wI ((sb σ j : Int))) := hM_30 11 _ rfl
    have hA13_n_31 : IA g H_24 (M 13) 60 (fun j => wI (so σ (j / 6) (j % 6) 0)) := hM_30 12 _ rfl
    have hA14_n_31 : IA g H_24 (M 14) 60 (fun j => wI (so σ (j / 6) (j % 6) 1)) := hM_30 13 _ rfl
    have hA15_n_31 : IA g H_24 (M 15) 60 (fun j => wI (so σ (j / 6) (j % 6) 2)) := hM_30 14 _ rfl
    exact w_irR X hr hk hS (ref_1 (by omega) rfl (ModAt.mk hO_n_31 hA1_n_31 hA2_n_31 hA3_n_31 hA5_n_31 hA6_n_31 hA7_n_31 hA8_n_31 hA9_n_31 hA10_n_31 hA11_n_31 hA12_n_31 hA13_n_31 hA14_n_31 hA15_n_31)) dX4_tax_38 (Nat.le_of_ble_eq_true rfl) (Nat.le_of_ble_eq_true rfl)
  · skip
    refine w_iload_n X dX4_tax_12 hl 2 rfl rfl ?_
    refine w_iconst X dX4_tax_13 ?_
    refine w_ldc (v := 10000000) (z := 10000000) X dX4_tax_14 (by decide +kernel) (by decide) ?_
    refine w_callS (v := .int (wI (inS (0) (a) (10000000)))) 3 X hE (c_X4_in l g H_2 (a) (0) (10000000) (by omega) (by omega) (by omega)) hl dX4_tax_16 gX4_tax_X4_in rfl rfl (by decide +kernel) ⟨(Nat.le_of_ble_eq_true rfl), (Nat.le_of_ble_eq_true rfl)⟩ rfl (Nat.le_of_ble_eq_true rfl) ⟨(Nat.le_of_ble_eq_true rfl), (Nat.le_of_ble_eq_true rfl)⟩ ?_
    have qi_32 := inS_spec (0) (a) (10000000)
    refine w_if_eq X 33 dX4_tax_19 (by decide) (by omega) (fun c_33 => ?_) (fun c_33 => ?_)
    · skip
      refine w_aload_n X dX4_tax_33 hl 0 rfl rfl ?_
      refine w_iconst X dX4_tax_34 ?_
      have hM_34 : ModAt g H_2 M (0) σ := ModAt.mk ho_4 hr_7 hr_8 hr_9 hr_10 hr_11 hr_12 hr_13 hr_14 hr_15 hr_16 hr_17 hr_18 hr_19 hr_20
      refine w_ir (va_runV (As := [.int (wI (1))]) (rest := []) X (c_X4_fails l g A H_2 M hAM hMj (0) σ hM_34 hσ (1)) (cwV 1 X.2.2.2.2 gX4_tax_X4_fails rfl rfl rfl (by decide +kernel) ⟨(Nat.le_of_ble_eq_true rfl), (Nat.le_of_ble_eq_true rfl)⟩) (w_prV hE hEs hS ho_4 rfl) rfl rfl hl.1 rfl (lv_room (Nat.le_of_ble_eq_true rfl)) dX4_tax_35 ⟨(Nat.le_of_ble_eq_true rfl), (Nat.le_of_ble_eq_true rfl)⟩) hS (fun _ h => h) fun v_40 H_35 lo_36 hp_37 hz_38 hq_39 hS => ?_
      obtain ⟨rfl, hM_41⟩ := hp_37
      have hO_n_42 : Ob g H_35 (M 0) 5 [.int (wI (1)), .ref (M 1), .ref (M 2), .ref (M 3), .int (wI ((sn σ : Int))), .ref (M 5), .ref (M 6), .ref (M 7), .ref (M 8), .ref (M 9), .ref (M 10), .ref (M 11), .ref (M 12), .ref (M 13), .ref (M 14), .ref (M 15)] := hM_41 0 _ rfl
      have hA1_n_42 : IA g H_35 (M 1) 4 (fun j => wI (σ.1 j 0)) := hM_41 1 _ rfl
      have hA2_n_42 : IA g H_35 (M 2) 4 (fun j => wI (σ.1 j 1)) := hM_41 2 _ rfl
      have hA3_n_42 : IA g H_35 (M 3) 12 (fun j => wI (σ.1 (j / 3) (2 + j % 3))) := hM_41 3 _ rfl
      have hA5_n_42 : IA g H_35 (M 5) 10 (fun j => wI (sp σ j 0)) := hM_41 4 _ rfl
      have hA6_n_42 : IA g H_35 (M 6) 10 (fun j => wI (sp σ j 1)) := hM_41 5 _ rfl
      have hA7_n_42 : IA g H_35 (M 7) 10 (fun j => wI (sp σ j 2)) := hM_41 6 _ rfl
      have hA8_n_42 : IA g H_35 (M 8) 10 (fun j => wI (sp σ j 3)) := hM_41 7 _ rfl
      have hA9_n_42 : IA g H_35 (M 9) 10 (fun j => wI (sp σ j 4)) := hM_41 8 _ rfl
      have hA10_n_42 : IA g H_35 (M 10) 10 (fun j => wI (sp σ j 5)) := hM_41 9 _ rfl
      have hA11_n_42 : IA g H_35 (M 11) 10 (fun j => wI (sp σ j 6)) := hM_41 10 _ rfl
      have hA12_n_42 : IA g H_35 (M 12) 10 (fun j => wI ((sb σ j : Int))) := hM_41 11 _ rfl
      have hA13_n_42 : IA g H_35 (M 13) 60 (fun j => wI (so σ (j / 6) (j % 6) 0)) := hM_41 12 _ rfl
      have hA14_n_42 : IA g H_35 (M 14) 60 (fun j => wI (so σ (j / 6) (j % 6) 1)) := hM_41 13 _ rfl
      have hA15_n_42 : IA g H_35 (M 15) 60 (fun j => wI (so σ (j / 6) (j % 6) 2)) := hM_41 14 _ rfl
      exact w_irR X hr hk hS (ref_1 (by omega) rfl (ModAt.mk hO_n_42 hA1_n_42 hA2_n_42 hA3_n_42 hA5_n_42 hA6_n_42 hA7_n_42 hA8_n_42 hA9_n_42 hA10_n_42 hA11_n_42 hA12_n_42 hA13_n_42 hA14_n_42 hA15_n_42)) dX4_tax_38 (Nat.le_of_ble_eq_true rfl) (Nat.le_of_ble_eq_true rfl)
    · skip
      refine w_aload_n X dX4_tax_22 hl 0 rfl rfl ?_
      refine w_iload_n X dX4_tax_23 hl 1 rfl rfl ?_
      refine w_iload_n X dX4_tax_24 hl 2 rfl rfl ?_
      refine w_i2l X dX4_tax_25 (by omega) ?_
      have hM_43 : ModAt g H_2 M (0) σ := ModAt.mk ho_4 hr_7 hr_8 hr_9 hr_10 hr_11 hr_12 hr_13 hr_14 hr_15 hr_16 hr_17 hr_18 hr_19 hr_20
      refine w_callV (v := .long (wJ (taxS (σ.1 (i).toNat) (a)))) 2 X hE (c_X4_taxOf l g H_2 M (0) σ hM_43 hσ (i) (by omega) (a) (by omega)) ho_4 hl dX4_tax_26 gX4_tax_X4_taxOf rfl rfl (by decide +kernel) ⟨(Nat.le_of_ble_eq_true rfl), (Nat.le_of_ble_eq_true rfl)⟩ rfl rfl (Nat.le_of_ble_eq_true rfl) ⟨(Nat.le_of_ble_eq_true rfl), (Nat.le_of_ble_eq_true rfl)⟩ ?_
      refine w_l2i X dX4_tax_29 ?_
      refine w_goto X 38 dX4_tax_30 (by decide) ?_
      exact w_irR X hr hk hS (ref_y (y := taxS (σ.1 (i).toNat) (a)) (by first | trivial | omega) (by first | trivial | omega) (by first | trivial | omega) rfl (ModAt.mk ho_4 hr_7 hr_8 hr_9 hr_10 hr_11 hr_12 hr_13 hr_14 hr_15 hr_16 hr_17 hr_18 hr_19 hr_20)) dX4_tax_38 (Nat.le_of_ble_eq_true rfl) (Nat.le_of_ble_eq_true rfl)

set_option maxHeartbeats 4000000 in
set_option maxRecDepth 100000 in
theorem c_X4_grossTax (l : Launch) (g : wG) (A : Nat → Prop) (H : Heap) (M : Nat → Nat) (hAM : ∀ k, k < 16 → k ≠ 4 → A (M k)) (hMj : AInj M) (th : Int) (σ : St) (hM : ModAt g H M th σ) (hσ : StGood σ) (i a : Int) (hi : wR i) (ha : wR a) : ImpR l g A H yX4_grossTax wsX4_grossTax 2 56 0 0 [.ref (M 0), .int (wI (i)), .int (wI (a))] (fun v H1 => v = .int (wI (stv (((0 ≤ i ∧ i < 4) ∧ 0 ≤ a ∧ a ≤ 10000000)) (True) (True) (grossS (σ.1 i.toNat) a))) ∧ ModAt g H1 M (cd (((0 ≤ i ∧ i < 4) ∧ 0 ≤ a ∧ a ≤ 10000000)) (True) (True)) (stp (((0 ≤ i ∧ i < 4) ∧ 0 ≤ a ∧ a ≤ 10000000)) (True) (True) (σ) σ)) := by
  refine Imp.of (cc := cX4_grossTax) (maxL := 3) (ret := (some .int)) (by decide) rfl (Nat.le_of_ble_eq_true rfl) ?_
  intro p9 e s m args below meth c X hE hEs hnm hr hk hS ls hl
  have hl : lv_has ls 3 [(0, .ref (M 0)), (1, .int (wI (i))), (2, .int (wI (a)))] := hl
  have hin_RX4 : ∀ w ∈ u_ws RX4 TX4 16, w ∈ wsX4_grossTax := by decide +kernel
  have hGd := hE.dis
  obtain ⟨hs1, hs2, hs3, hs4⟩ := id hσ
  have hO_n_1 : Ob g H (M 0) 5 [.int (wI (th)), .ref (M 1), .ref (M 2), .ref (M 3), .int (wI ((sn σ : Int))), .ref (M 5), .ref (M 6), .ref (M 7), .ref (M 8), .ref (M 9), .ref (M 10), .ref (M 11), .ref (M 12), .ref (M 13), .ref (M 14), .ref (M 15)] := hM 0 _ rfl
  have hA1_n_1 : IA g H (M 1) 4 (fun j => wI (σ.1 j 0)) := hM 1 _ rfl
  have hA2_n_1 : IA g H (M 2) 4 (fun j => wI (σ.1 j 1)) := hM 2 _ rfl
  have hA3_n_1 : IA g H (M 3) 12 (fun j => wI (σ.1 (j / 3) (2 + j % 3))) := hM 3 _ rfl
  have hA5_n_1 : IA g H (M 5) 10 (fun j => wI (sp σ j 0)) := hM 4 _ rfl
  have hA6_n_1 : IA g H (M 6) 10 (fun j => wI (sp σ j 1)) := hM 5 _ rfl
  have hA7_n_1 : IA g H (M 7) 10 (fun j => wI (sp σ j 2)) := hM 6 _ rfl
  have hA8_n_1 : IA g H (M 8) 10 (fun j => wI (sp σ j 3)) := hM 7 _ rfl
  have hA9_n_1 : IA g H (M 9) 10 (fun j => wI (sp σ j 4)) := hM 8 _ rfl
  have hA10_n_1 : IA g H (M 10) 10 (fun j => wI (sp σ j 5)) := hM 9 _ rfl
  have hA11_n_1 : IA g H (M 11) 10 (fun j => wI (sp σ j 6)) := hM 10 _ rfl
  have hA12_n_1 : IA g H (M 12) 10 (fun j => wI ((sb σ j : Int))) := hM 11 _ rfl
  have hA13_n_1 : IA g H (M 13) 60 (fun j => wI (so σ (j / 6) (j % 6) 0)) := hM 12 _ rfl
  have hA14_n_1 : IA g H (M 14) 60 (fun j => wI (so σ (j / 6) (j % 6) 1)) := hM 13 _ rfl
  have hA15_n_1 : IA g H (M 15) 60 (fun j => wI (so σ (j / 6) (j % 6) 2)) := hM 14 _ rfl
  refine w_aload_n X dX4_grossTax_0 hl 0 rfl rfl ?_
  refine w_iconst X dX4_grossTax_1 ?_
  refine w_put (ref := "TaxEqualiserModel") (v := .int (wI (0))) X hE hO_n_1 hS (hAM 0 (by decide) (by decide)) 0 dX4_grossTax_2 rfl hin_RX4 tyX4 tyX4_ok nmX4 (by decide) (by decide +kernel) (fun _ h => h) rfl rfl rfl (Nat.le_of_ble_eq_true rfl) fun H_2 lo_3 ho_4 hz_5 hq_6 hS => ?_
  have ho_4 : Ob g H_2 (M 0) 5 [.int (wI (0)), .ref (M 1), .ref (M 2), .ref (M 3), .int (wI ((sn σ : Int))), .ref (M 5), .ref (M 6), .ref (M 7), .ref (M 8), .ref (M 9), .ref (M 10), .ref (M 11), .ref (M 12), .ref (M 13), .ref (M 14), .ref (M 15)] := ho_4
  have hr_7 := (hA1_n_1).kept (hq_6 _ (hMj 1 0 (by decide) (by decide) (by decide) (by decide) (by decide)))
  have hr_8 := (hA2_n_1).kept (hq_6 _ (hMj 2 0 (by decide) (by decide) (by decide) (by decide) (by decide)))
  have hr_9 := (hA3_n_1).kept (hq_6 _ (hMj 3 0 (by decide) (by decide) (by decide) (by decide) (by decide)))
  have hr_10 := (hA5_n_1).kept (hq_6 _ (hMj 5 0 (by decide) (by decide) (by decide) (by decide) (by decide)))
  have hr_11 := (hA6_n_1).kept (hq_6 _ (hMj 6 0 (by decide) (by decide) (by decide) (by decide) (by decide)))
  have hr_12 := (hA7_n_1).kept (hq_6 _ (hMj 7 0 (by decide) (by decide) (by decide) (by decide) (by decide)))
  have hr_13 := (hA8_n_1).kept (hq_6 _ (hMj 8 0 (by decide) (by decide) (by decide) (by decide) (by decide)))
  have hr_14 := (hA9_n_1).kept (hq_6 _ (hMj 9 0 (by decide) (by decide) (by decide) (by decide) (by decide)))
  have hr_15 := (hA10_n_1).kept (hq_6 _ (hMj 10 0 (by decide) (by decide) (by decide) (by decide) (by decide)))
  have hr_16 := (hA11_n_1).kept (hq_6 _ (hMj 11 0 (by decide) (by decide) (by decide) (by decide) (by decide)))
  have hr_17 := (hA12_n_1).kept (hq_6 _ (hMj 12 0 (by decide) (by decide) (by decide) (by decide) (by decide)))
  have hr_18 := (hA13_n_1).kept (hq_6 _ (hMj 13 0 (by decide) (by decide) (by decide) (by decide) (by decide)))
  have hr_19 := (hA14_n_1).kept (hq_6 _ (hMj 14 0 (by decide) (by decide) (by decide) (by decide) (by decide)))
  have hr_20 := (hA15_n_1).kept (hq_6 _ (hMj 15 0 (by decide) (by decide) (by decide) (by decide) (by decide)))
  refine w_iload_n X dX4_grossTax_5 hl 1 rfl rfl ?_
  refine w_callS (v := .int (wI (inS 0 (i) 3))) 1 X hE (c_X4_isLand l g H_2 (i) (by omega)) hl dX4_grossTax_6 gX4_grossTax_X4_isLand rfl rfl (by decide +kernel) ⟨(Nat.le_of_ble_eq_true rfl), (Nat.le_of_ble_eq_true rfl)⟩ rfl (Nat.le_of_ble_eq_true rfl) ⟨(Nat.le_of_ble_eq_true rfl), (Nat.le_of_ble_eq_true rfl)⟩ ?_
  have qi_21 := inS_spec 0 (i) 3
  refine w_if_eq X 32 dX4_grossTax_9 (by decide) (by omega) (fun c_22 => ?_) (fun c_22 => ?_)
  · skip
    refine w_aload_n X dX4_grossTax_32 hl 0 rfl rfl ?_
    refine w_iconst X dX4_grossTax_33 ?_
    have hM_23 : ModAt g H_2 M (0) σ := ModAt.mk ho_4 hr_7 hr_8 hr_9 hr_10 hr_11 hr_12 hr_13 hr_14 hr_15 hr_16 hr_17 hr_18 hr_19 hr_20
    refine w_ir (va_runV (As := [.int (wI (1))]) (rest := []) X (c_X4_fails l g A H_2 M hAM hMj (0) σ hM_23 hσ (1)) (cwV 1 X.2.2.2.2 gX4_grossTax_X4_fails rfl rfl rfl (by decide +kernel) ⟨(Nat.le_of_ble_eq_true rfl), (Nat.le_of_ble_eq_true rfl)⟩) (w_prV hE hEs hS ho_4 rfl) rfl rfl hl.1 rfl (lv_room (Nat.le_of_ble_eq_true rfl)) dX4_grossTax_34 ⟨(Nat.le_of_ble_eq_true rfl), (Nat.le_of_ble_eq_true rfl)⟩) hS (fun _ h => h) fun v_29 H_24 lo_25 hp_26 hz_27 hq_28 hS => ?_
    obtain ⟨rfl, hM_30⟩ := hp_26
    have hO_n_31 : Ob g H_24 (M 0) 5 [.int (wI (1)), .ref (M 1), .ref (M 2), .ref (M 3), .int (wI ((sn σ : Int))), .ref (M 5), .ref (M 6), .ref (M 7), .ref (M 8), .ref (M 9), .ref (M 10), .ref (M 11), .ref (M 12), .ref (M 13), .ref (M 14), .ref (M 15)] := hM_30 0 _ rfl
    have hA1_n_31 : IA g H_24 (M 1) 4 (fun j => wI (σ.1 j 0)) := hM_30 1 _ rfl
    have hA2_n_31 : IA g H_24 (M 2) 4 (fun j => wI (σ.1 j 1)) := hM_30 2 _ rfl
    have hA3_n_31 : IA g H_24 (M 3) 12 (fun j => wI (σ.1 (j / 3) (2 + j % 3))) := hM_30 3 _ rfl
    have hA5_n_31 : IA g H_24 (M 5) 10 (fun j => wI (sp σ j 0)) := hM_30 4 _ rfl
    have hA6_n_31 : IA g H_24 (M 6) 10 (fun j => wI (sp σ j 1)) := hM_30 5 _ rfl
    have hA7_n_31 : IA g H_24 (M 7) 10 (fun j => wI (sp σ j 2)) := hM_30 6 _ rfl
    have hA8_n_31 : IA g H_24 (M 8) 10 (fun j => wI (sp σ j 3)) := hM_30 7 _ rfl
    have hA9_n_31 : IA g H_24 (M 9) 10 (fun j => wI (sp σ j 4)) := hM_30 8 _ rfl
    have hA10_n_31 : IA g H_24 (M 10) 10 (fun j => wI (sp σ j 5)) := hM_30 9 _ rfl
    have hA11_n_31 : IA g H_24 (M 11) 10 (fun j => wI (sp σ j 6)) := hM_30 10 _ rfl
    have hA12_n_31 : IA g H_24 (M 12) 10 (fun j => wI ((sb σ j : Int))) := hM_30 11 _ rfl
    have hA13_n_31 : IA g H_24 (M 13) 60 (fun j => wI (so σ (j / 6) (j % 6) 0)) := hM_30 12 _ rfl
    have hA14_n_31 : IA g H_24 (M 14) 60 (fun j => wI (so σ (j / 6) (j % 6) 1)) := hM_30 13 _ rfl
    have hA15_n_31 : IA g H_24 (M 15) 60 (fun j => wI (so σ (j / 6) (j % 6) 2)) := hM_30 14 _ rfl
    exact w_irR X hr hk hS (ref_1 (by omega) rfl (ModAt.mk hO_n_31 hA1_n_31 hA2_n_31 hA3_n_31 hA5_n_31 hA6_n_31 hA7_n_31 hA8_n_31 hA9_n_31 hA10_n_31 hA11_n_31 hA12_n_31 hA13_n_31 hA14_n_31 hA15_n_31)) dX4_grossTax_37 (Nat.le_of_ble_eq_true rfl) (Nat.le_of_ble_eq_true rfl)
  · skip
    refine w_iload_n X dX4_grossTax_12 hl 2 rfl rfl ?_
    refine w_iconst X dX4_grossTax_13 ?_
    refine w_ldc (v := 10000000) (z := 10000000) X dX4_grossTax_14 (by decide +kernel) (by decide) ?_
    refine w_callS (v := .int (wI (inS (0) (a) (10000000)))) 3 X hE (c_X4_in l g H_2 (a) (0) (10000000) (by omega) (by omega) (by omega)) hl dX4_grossTax_16 gX4_grossTax_X4_in rfl rfl (by decide +kernel) ⟨(Nat.le_of_ble_eq_true rfl), (Nat.le_of_ble_eq_true rfl)⟩ rfl (Nat.le_of_ble_eq_true rfl) ⟨(Nat.le_of_ble_eq_true rfl), (Nat.le_of_ble_eq_true rfl)⟩ ?_
    have qi_32 := inS_spec (0) (a) (10000000)
    refine w_if_eq X 32 dX4_grossTax_19 (by decide) (by omega) (fun c_33 => ?_) (fun c_33 => ?_)
    · skip
      refine w_aload_n X dX4_grossTax_32 hl 0 rfl rfl ?_
      refine w_iconst X dX4_grossTax_33 ?_
      have hM_34 : ModAt g H_2 M (0) σ := ModAt.mk ho_4 hr_7 hr_8 hr_9 hr_10 hr_11 hr_12 hr_13 hr_14 hr_15 hr_16 hr_17 hr_18 hr_19 hr_20
      refine w_ir (va_runV (As := [.int (wI (1))]) (rest := []) X (c_X4_fails l g A H_2 M hAM hMj (0) σ hM_34 hσ (1)) (cwV 1 X.2.2.2.2 gX4_grossTax_X4_fails rfl rfl rfl (by decide +kernel) ⟨(Nat.le_of_ble_eq_true rfl), (Nat.le_of_ble_eq_true rfl)⟩) (w_prV hE hEs hS ho_4 rfl) rfl rfl hl.1 rfl (lv_room (Nat.le_of_ble_eq_true rfl)) dX4_grossTax_34 ⟨(Nat.le_of_ble_eq_true rfl), (Nat.le_of_ble_eq_true rfl)⟩) hS (fun _ h => h) fun v_40 H_35 lo_36 hp_37 hz_38 hq_39 hS => ?_
      obtain ⟨rfl, hM_41⟩ := hp_37
      have hO_n_42 : Ob g H_35 (M 0) 5 [.int (wI (1)), .ref (M 1), .ref (M 2), .ref (M 3), .int (wI ((sn σ : Int))), .ref (M 5), .ref (M 6), .ref (M 7), .ref (M 8), .ref (M 9), .ref (M 10), .ref (M 11), .ref (M 12), .ref (M 13), .ref (M 14), .ref (M 15)] := hM_41 0 _ rfl
      have hA1_n_42 : IA g H_35 (M 1) 4 (fun j => wI (σ.1 j 0)) := hM_41 1 _ rfl
      have hA2_n_42 : IA g H_35 (M 2) 4 (fun j => wI (σ.1 j 1)) := hM_41 2 _ rfl
      have hA3_n_42 : IA g H_35 (M 3) 12 (fun j => wI (σ.1 (j / 3) (2 + j % 3))) := hM_41 3 _ rfl
      have hA5_n_42 : IA g H_35 (M 5) 10 (fun j => wI (sp σ j 0)) := hM_41 4 _ rfl
      have hA6_n_42 : IA g H_35 (M 6) 10 (fun j => wI (sp σ j 1)) := hM_41 5 _ rfl
      have hA7_n_42 : IA g H_35 (M 7) 10 (fun j => wI (sp σ j 2)) := hM_41 6 _ rfl
      have hA8_n_42 : IA g H_35 (M 8) 10 (fun j => wI (sp σ j 3)) := hM_41 7 _ rfl
      have hA9_n_42 : IA g H_35 (M 9) 10 (fun j => wI (sp σ j 4)) := hM_41 8 _ rfl
      have hA10_n_42 : IA g H_35 (M 10) 10 (fun j => wI (sp σ j 5)) := hM_41 9 _ rfl
      have hA11_n_42 : IA g H_35 (M 11) 10 (fun j => wI (sp σ j 6)) := hM_41 10 _ rfl
      have hA12_n_42 : IA g H_35 (M 12) 10 (fun j => wI ((sb σ j : Int))) := hM_41 11 _ rfl
      have hA13_n_42 : IA g H_35 (M 13) 60 (fun j => wI (so σ (j / 6) (j % 6) 0)) := hM_41 12 _ rfl
      have hA14_n_42 : IA g H_35 (M 14) 60 (fun j => wI (so σ (j / 6) (j % 6) 1)) := hM_41 13 _ rfl
      have hA15_n_42 : IA g H_35 (M 15) 60 (fun j => wI (so σ (j / 6) (j % 6) 2)) := hM_41 14 _ rfl
      exact w_irR X hr hk hS (ref_1 (by omega) rfl (ModAt.mk hO_n_42 hA1_n_42 hA2_n_42 hA3_n_42 hA5_n_42 hA6_n_42 hA7_n_42 hA8_n_42 hA9_n_42 hA10_n_42 hA11_n_42 hA12_n_42 hA13_n_42 hA14_n_42 hA15_n_42)) dX4_grossTax_37 (Nat.le_of_ble_eq_true rfl) (Nat.le_of_ble_eq_true rfl)
    · skip
      refine w_aload_n X dX4_grossTax_22 hl 0 rfl rfl ?_
      refine w_iload_n X dX4_grossTax_23 hl 1 rfl rfl ?_
      refine w_iload_n X dX4_grossTax_24 hl 2 rfl rfl ?_
      refine w_i2l X dX4_grossTax_25 (by omega) ?_
      have hM_43 : ModAt g H_2 M (0) σ := ModAt.mk ho_4 hr_7 hr_8 hr_9 hr_10 hr_11 hr_12 hr_13 hr_14 hr_15 hr_16 hr_17 hr_18 hr_19 hr_20
      refine w_callV (v := .int (wI (grossS (σ.1 (i).toNat) (a)))) 2 X hE (c_X4_gross l g H_2 M (0) σ hM_43 hσ (i) (by omega) (a) (by omega)) ho_4 hl dX4_grossTax_26 gX4_grossTax_X4_gross rfl rfl (by decide +kernel) ⟨(Nat.le_of_ble_eq_true rfl), (Nat.le_of_ble_eq_true rfl)⟩ rfl rfl (Nat.le_of_ble_eq_true rfl) ⟨(Nat.le_of_ble_eq_true rfl), (Nat.le_of_ble_eq_true rfl)⟩ ?_
      refine w_goto X 37 dX4_grossTax_29 (by decide) ?_
      exact w_irR X hr hk hS (ref_y (y := grossS (σ.1 (i).toNat) (a)) (by first | trivial | omega) (by first | trivial | omega) (by first | trivial | omega) rfl (ModAt.mk ho_4 hr_7 hr_8 hr_9 hr_10 hr_11 hr_12 hr_13 hr_14 hr_15 hr_16 hr_17 hr_18 hr_19 hr_20)) dX4_grossTax_37 (Nat.le_of_ble_eq_true rfl) (Nat.le_of_ble_eq_true rfl)

set_option maxHeartbeats 4000000 in
set_option maxRecDepth 100000 in
theorem c_X4_grossTaxByTrying (l : Launch) (g : wG) (A : Nat → Prop) (H : Heap) (M : Nat → Nat) (hAM : ∀ k, k < 16 → k ≠ 4 → A (M k)) (hMj : AInj M) (th : Int) (σ : St) (hM : ModAt g H M th σ) (hσ : StGood σ) (i a : Int) (hi : wR i) (ha : wR a) : ImpR l g A H yX4_grossTaxByTrying wsX4_grossTaxByTrying 2 56 0 0 [.ref (M 0), .int (wI (i)), .int (wI (a))] (fun v H1 => v = .int (wI (stv (((0 ≤ i ∧ i < 4) ∧ 0 ≤ a ∧ a ≤ 20000)) (True) (True) (grossS (σ.1 i.toNat) a))) ∧ ModAt g H1 M (cd (((0 ≤ i ∧ i < 4) ∧ 0 ≤ a ∧ a ≤ 20000)) (True) (True)) (stp (((0 ≤ i ∧ i < 4) ∧ 0 ≤ a ∧ a ≤ 20000)) (True) (True) (σ) σ)) := by
  refine Imp.of (cc := cX4_grossTaxByTrying) (maxL := 3) (ret := (some .int)) (by decide) rfl (Nat.le_of_ble_eq_true rfl) ?_
  intro p9 e s m args below meth c X hE hEs hnm hr hk hS ls hl
  have hl : lv_has ls 3 [(0, .ref (M 0)), (1, .int (wI (i))), (2, .int (wI (a)))] := hl
  have hin_RX4 : ∀ w ∈ u_ws RX4 TX4 16, w ∈ wsX4_grossTaxByTrying := by decide +kernel
  have hGd := hE.dis
  obtain ⟨hs1, hs2, hs3, hs4⟩ := id hσ
  have hO_n_1 : Ob g H (M 0) 5 [.int (wI (th)), .ref (M 1), .ref (M 2), .ref (M 3), .int (wI ((sn σ : Int))), .ref (M 5), .ref (M 6), .ref (M 7), .ref (M 8), .ref (M 9), .ref (M 10), .ref (M 11), .ref (M 12), .ref (M 13), .ref (M 14), .ref (M 15)] := hM 0 _ rfl
  have hA1_n_1 : IA g H (M 1) 4 (fun j => wI (σ.1 j 0)) := hM 1 _ rfl
  have hA2_n_1 : IA g H (M 2) 4 (fun j => wI (σ.1 j 1)) := hM 2 _ rfl
  have hA3_n_1 : IA g H (M 3) 12 (fun j => wI (σ.1 (j / 3) (2 + j % 3))) := hM 3 _ rfl
  have hA5_n_1 : IA g H (M 5) 10 (fun j => wI (sp σ j 0)) := hM 4 _ rfl
  have hA6_n_1 : IA g H (M 6) 10 (fun j => wI (sp σ j 1)) := hM 5 _ rfl
  have hA7_n_1 : IA g H (M 7) 10 (fun j => wI (sp σ j 2)) := hM 6 _ rfl
  have hA8_n_1 : IA g H (M 8) 10 (fun j => wI (sp σ j 3)) := hM 7 _ rfl
  have hA9_n_1 : IA g H (M 9) 10 (fun j => wI (sp σ j 4)) := hM 8 _ rfl
  have hA10_n_1 : IA g H (M 10) 10 (fun j => wI (sp σ j 5)) := hM 9 _ rfl
  have hA11_n_1 : IA g H (M 11) 10 (fun j => wI (sp σ j 6)) := hM 10 _ rfl
  have hA12_n_1 : IA g H (M 12) 10 (fun j => wI ((sb σ j : Int))) := hM 11 _ rfl
  have hA13_n_1 : IA g H (M 13) 60 (fun j => wI (so σ (j / 6) (j % 6) 0)) := hM 12 _ rfl
  have hA14_n_1 : IA g H (M 14) 60 (fun j => wI (so σ (j / 6) (j % 6) 1)) := hM 13 _ rfl
  have hA15_n_1 : IA g H (M 15) 60 (fun j => wI (so σ (j / 6) (j % 6) 2)) := hM 14 _ rfl
  refine w_aload_n X dX4_grossTaxByTrying_0 hl 0 rfl rfl ?_
  refine w_iconst X dX4_grossTaxByTrying_1 ?_
  refine w_put (ref := "TaxEqualiserModel") (v := .int (wI (0))) X hE hO_n_1 hS (hAM 0 (by decide) (by decide)) 0 dX4_grossTaxByTrying_2 rfl hin_RX4 tyX4 tyX4_ok nmX4 (by decide) (by decide +kernel) (fun _ h => h) rfl rfl rfl (Nat.le_of_ble_eq_true rfl) fun H_2 lo_3 ho_4 hz_5 hq_6 hS => ?_
  have ho_4 : Ob g H_2 (M 0) 5 [.int (wI (0)), .ref (M 1), .ref (M 2), .ref (M 3), .int (wI ((sn σ : Int))), .ref (M 5), .ref (M 6), .ref (M 7), .ref (M 8), .ref (M 9), .ref (M 10), .ref (M 11), .ref (M 12), .ref (M 13), .ref (M 14), .ref (M 15)] := ho_4
  have hr_7 := (hA1_n_1).kept (hq_6 _ (hMj 1 0 (by decide) (by decide) (by decide) (by decide) (by decide)))
  have hr_8 := (hA2_n_1).kept (hq_6 _ (hMj 2 0 (by decide) (by decide) (by decide) (by decide) (by decide)))
  have hr_9 := (hA3_n_1).kept (hq_6 _ (hMj 3 0 (by decide) (by decide) (by decide) (by decide) (by decide)))
  have hr_10 := (hA5_n_1).kept (hq_6 _ (hMj 5 0 (by decide) (by decide) (by decide) (by decide) (by decide)))
  have hr_11 := (hA6_n_1).kept (hq_6 _ (hMj 6 0 (by decide) (by decide) (by decide) (by decide) (by decide)))
  have hr_12 := (hA7_n_1).kept (hq_6 _ (hMj 7 0 (by decide) (by decide) (by decide) (by decide) (by decide)))
  have hr_13 := (hA8_n_1).kept (hq_6 _ (hMj 8 0 (by decide) (by decide) (by decide) (by decide) (by decide)))
  have hr_14 := (hA9_n_1).kept (hq_6 _ (hMj 9 0 (by decide) (by decide) (by decide) (by decide) (by decide)))
  have hr_15 := (hA10_n_1).kept (hq_6 _ (hMj 10 0 (by decide) (by decide) (by decide) (by decide) (by decide)))
  have hr_16 := (hA11_n_1).kept (hq_6 _ (hMj 11 0 (by decide) (by decide) (by decide) (by decide) (by decide)))
  have hr_17 := (hA12_n_1).kept (hq_6 _ (hMj 12 0 (by decide) (by decide) (by decide) (by decide) (by decide)))
  have hr_18 := (hA13_n_1).kept (hq_6 _ (hMj 13 0 (by decide) (by decide) (by decide) (by decide) (by decide)))
  have hr_19 := (hA14_n_1).kept (hq_6 _ (hMj 14 0 (by decide) (by decide) (by decide) (by decide) (by decide)))
  have hr_20 := (hA15_n_1).kept (hq_6 _ (hMj 15 0 (by decide) (by decide) (by decide) (by decide) (by decide)))
  refine w_iload_n X dX4_grossTaxByTrying_5 hl 1 rfl rfl ?_
  refine w_callS (v := .int (wI (inS 0 (i) 3))) 1 X hE (c_X4_isLand l g H_2 (i) (by omega)) hl dX4_grossTaxByTrying_6 gX4_grossTaxByTrying_X4_isLand rfl rfl (by decide +kernel) ⟨(Nat.le_of_ble_eq_true rfl), (Nat.le_of_ble_eq_true rfl)⟩ rfl (Nat.le_of_ble_eq_true rfl) ⟨(Nat.le_of_ble_eq_true rfl), (Nat.le_of_ble_eq_true rfl)⟩ ?_
  have qi_21 := inS_spec 0 (i) 3
  refine w_if_eq X 33 dX4_grossTaxByTrying_9 (by decide) (by omega) (fun c_22 => ?_) (fun c_22 => ?_)
  · skip
    refine w_aload_n X dX4_grossTaxByTrying_33 hl 0 rfl rfl ?_
    refine w_iconst X dX4_grossTaxByTrying_34 ?_
    have hM_23 : ModAt g H_2 M (0) σ := ModAt.mk ho_4 hr_7 hr_8 hr_9 hr_10 hr_11 hr_12 hr_13 hr_14 hr_15 hr_16 hr_17 hr_18 hr_19 hr_20
    refine w_ir (va_runV (As := [.int (wI (1))]) (rest := []) X (c_X4_fails l g A H_2 M hAM hMj (0) σ hM_23 hσ (1)) (cwV 1 X.2.2.2.2 gX4_grossTaxByTrying_X4_fails rfl rfl rfl (by decide +kernel) ⟨(Nat.le_of_ble_eq_true rfl), (Nat.le_of_ble_eq_true rfl)⟩) (w_prV hE hEs hS ho_4 rfl) rfl rfl hl.1 rfl (lv_room (Nat.le_of_ble_eq_true rfl)) dX4_grossTaxByTrying_35 ⟨(Nat.le_of_ble_eq_true rfl), (Nat.le_of_ble_eq_true rfl)⟩) hS (fun _ h => h) fun v_29 H_24 lo_25 hp_26 hz_27 hq_28 hS => ?_
    obtain ⟨rfl, hM_30⟩ := hp_26
    have hO_n_31 : Ob g H_24 (M 0) 5 [.int (wI (1)), .ref (M 1), .ref (M 2), .ref (M 3), .int (wI ((sn σ : Int))), .ref (M 5), .ref (M 6), .ref (M 7), .ref (M 8), .ref (M 9), .ref (M 10), .ref (M 11), .ref (M 12), .ref (M 13), .ref (M 14), .ref (M 15)] := hM_30 0 _ rfl
    have hA1_n_31 : IA g H_24 (M 1) 4 (fun j => wI (σ.1 j 0)) := hM_30 1 _ rfl
    have hA2_n_31 : IA g H_24 (M 2) 4 (fun j => wI (σ.1 j 1)) := hM_30 2 _ rfl
    have hA3_n_31 : IA g H_24 (M 3) 12 (fun j => wI (σ.1 (j / 3) (2 + j % 3))) := hM_30 3 _ rfl
    have hA5_n_31 : IA g H_24 (M 5) 10 (fun j => wI (sp σ j 0)) := hM_30 4 _ rfl
    have hA6_n_31 : IA g H_24 (M 6) 10 (fun j => wI (sp σ j 1)) := hM_30 5 _ rfl
    have hA7_n_31 : IA g H_24 (M 7) 10 (fun j => wI (sp σ j 2)) := hM_30 6 _ rfl
    have hA8_n_31 : IA g H_24 (M 8) 10 (fun j => wI (sp σ j 3)) := hM_30 7 _ rfl
    have hA9_n_31 : IA g H_24 (M 9) 10 (fun j => wI (sp σ j 4)) := hM_30 8 _ rfl
    have hA10_n_31 : IA g H_24 (M 10) 10 (fun j => wI (sp σ j 5)) := hM_30 9 _ rfl
    have hA11_n_31 : IA g H_24 (M 11) 10 (fun j => wI (sp σ j 6)) := hM_30 10 _ rfl
    have hA12_n_31 : IA g H_24 (M 12) 10 (fun j => wI ((sb σ j : Int))) := hM_30 11 _ rfl
    have hA13_n_31 : IA g H_24 (M 13) 60 (fun j => wI (so σ (j / 6) (j % 6) 0)) := hM_30 12 _ rfl
    have hA14_n_31 : IA g H_24 (M 14) 60 (fun j => wI (so σ (j / 6) (j % 6) 1)) := hM_30 13 _ rfl
    have hA15_n_31 : IA g H_24 (M 15) 60 (fun j => wI (so σ (j / 6) (j % 6) 2)) := hM_30 14 _ rfl
    exact w_irR X hr hk hS (ref_1 (by omega) rfl (ModAt.mk hO_n_31 hA1_n_31 hA2_n_31 hA3_n_31 hA5_n_31 hA6_n_31 hA7_n_31 hA8_n_31 hA9_n_31 hA10_n_31 hA11_n_31 hA12_n_31 hA13_n_31 hA14_n_31 hA15_n_31)) dX4_grossTaxByTrying_38 (Nat.le_of_ble_eq_true rfl) (Nat.le_of_ble_eq_true rfl)
  · skip
    refine w_iload_n X dX4_grossTaxByTrying_12 hl 2 rfl rfl ?_
    refine w_iconst X dX4_grossTaxByTrying_13 ?_
    refine w_sipush X dX4_grossTaxByTrying_14 (by decide) ?_
    refine w_callS (v := .int (wI (inS (0) (a) (20000)))) 3 X hE (c_X4_in l g H_2 (a) (0) (20000) (by omega) (by omega) (by omega)) hl dX4_grossTaxByTrying_17 gX4_grossTaxByTrying_X4_in rfl rfl (by decide +kernel) ⟨(Nat.le_of_ble_eq_true rfl), (Nat.le_of_ble_eq_true rfl)⟩ rfl (Nat.le_of_ble_eq_true rfl) ⟨(Nat.le_of_ble_eq_true rfl), (Nat.le_of_ble_eq_true rfl)⟩ ?_
    have qi_32 := inS_spec (0) (a) (20000)
    refine w_if_eq X 33 dX4_grossTaxByTrying_20 (by decide) (by omega) (fun c_33 => ?_) (fun c_33 => ?_)
    · skip
      refine w_aload_n X dX4_grossTaxByTrying_33 hl 0 rfl rfl ?_
      refine w_iconst X dX4_grossTaxByTrying_34 ?_
      have hM_34 : ModAt g H_2 M (0) σ := ModAt.mk ho_4 hr_7 hr_8 hr_9 hr_10 hr_11 hr_12 hr_13 hr_14 hr_15 hr_16 hr_17 hr_18 hr_19 hr_20
      refine w_ir (va_runV (As := [.int (wI (1))]) (rest := []) X (c_X4_fails l g A H_2 M hAM hMj (0) σ hM_34 hσ (1)) (cwV 1 X.2.2.2.2 gX4_grossTaxByTrying_X4_fails rfl rfl rfl (by decide +kernel) ⟨(Nat.le_of_ble_eq_true rfl), (Nat.le_of_ble_eq_true rfl)⟩) (w_prV hE hEs hS ho_4 rfl) rfl rfl hl.1 rfl (lv_room (Nat.le_of_ble_eq_true rfl)) dX4_grossTaxByTrying_35 ⟨(Nat.le_of_ble_eq_true rfl), (Nat.le_of_ble_eq_true rfl)⟩) hS (fun _ h => h) fun v_40 H_35 lo_36 hp_37 hz_38 hq_39 hS => ?_
      obtain ⟨rfl, hM_41⟩ := hp_37
      have hO_n_42 : Ob g H_35 (M 0) 5 [.int (wI (1)), .ref (M 1), .ref (M 2), .ref (M 3), .int (wI ((sn σ : Int))), .ref (M 5), .ref (M 6), .ref (M 7), .ref (M 8), .ref (M 9), .ref (M 10), .ref (M 11), .ref (M 12), .ref (M 13), .ref (M 14), .ref (M 15)] := hM_41 0 _ rfl
      have hA1_n_42 : IA g H_35 (M 1) 4 (fun j => wI (σ.1 j 0)) := hM_41 1 _ rfl
      have hA2_n_42 : IA g H_35 (M 2) 4 (fun j => wI (σ.1 j 1)) := hM_41 2 _ rfl
      have hA3_n_42 : IA g H_35 (M 3) 12 (fun j => wI (σ.1 (j / 3) (2 + j % 3))) := hM_41 3 _ rfl
      have hA5_n_42 : IA g H_35 (M 5) 10 (fun j => wI (sp σ j 0)) := hM_41 4 _ rfl
      have hA6_n_42 : IA g H_35 (M 6) 10 (fun j => wI (sp σ j 1)) := hM_41 5 _ rfl
      have hA7_n_42 : IA g H_35 (M 7) 10 (fun j => wI (sp σ j 2)) := hM_41 6 _ rfl
      have hA8_n_42 : IA g H_35 (M 8) 10 (fun j => wI (sp σ j 3)) := hM_41 7 _ rfl
      have hA9_n_42 : IA g H_35 (M 9) 10 (fun j => wI (sp σ j 4)) := hM_41 8 _ rfl
      have hA10_n_42 : IA g H_35 (M 10) 10 (fun j => wI (sp σ j 5)) := hM_41 9 _ rfl
      have hA11_n_42 : IA g H_35 (M 11) 10 (fun j => wI (sp σ j 6)) := hM_41 10 _ rfl
      have hA12_n_42 : IA g H_35 (M 12) 10 (fun j => wI ((sb σ j : Int))) := hM_41 11 _ rfl
      have hA13_n_42 : IA g H_35 (M 13) 60 (fun j => wI (so σ (j / 6) (j % 6) 0)) := hM_41 12 _ rfl
      have hA14_n_42 : IA g H_35 (M 14) 60 (fun j => wI (so σ (j / 6) (j % 6) 1)) := hM_41 13 _ rfl
      have hA15_n_42 : IA g H_35 (M 15) 60 (fun j => wI (so σ (j / 6) (j % 6) 2)) := hM_41 14 _ rfl
      exact w_irR X hr hk hS (ref_1 (by omega) rfl (ModAt.mk hO_n_42 hA1_n_42 hA2_n_42 hA3_n_42 hA5_n_42 hA6_n_42 hA7_n_42 hA8_n_42 hA9_n_42 hA10_n_42 hA11_n_42 hA12_n_42 hA13_n_42 hA14_n_42 hA15_n_42)) dX4_grossTaxByTrying_38 (Nat.le_of_ble_eq_true rfl) (Nat.le_of_ble_eq_true rfl)
    · skip
      refine w_aload_n X dX4_grossTaxByTrying_23 hl 0 rfl rfl ?_
      refine w_iload_n X dX4_grossTaxByTrying_24 hl 1 rfl rfl ?_
      refine w_iload_n X dX4_grossTaxByTrying_25 hl 2 rfl rfl ?_
      refine w_i2l X dX4_grossTaxByTrying_26 (by omega) ?_
      have hM_43 : ModAt g H_2 M (0) σ := ModAt.mk ho_4 hr_7 hr_8 hr_9 hr_10 hr_11 hr_12 hr_13 hr_14 hr_15 hr_16 hr_17 hr_18 hr_19 hr_20
      refine w_callV (v := .int (wI (grossS (σ.1 (i).toNat) (a)))) 2 X hE (c_X4_gross l g H_2 M (0) σ hM_43 hσ (i) (by omega) (a) (by omega)) ho_4 hl dX4_grossTaxByTrying_27 gX4_grossTaxByTrying_X4_gross rfl rfl (by decide +kernel) ⟨(Nat.le_of_ble_eq_true rfl), (Nat.le_of_ble_eq_true rfl)⟩ rfl rfl (Nat.le_of_ble_eq_true rfl) ⟨(Nat.le_of_ble_eq_true rfl), (Nat.le_of_ble_eq_true rfl)⟩ ?_
      refine w_goto X 38 dX4_grossTaxByTrying_30 (by decide) ?_
      exact w_irR X hr hk hS (ref_y (y := grossS (σ.1 (i).toNat) (a)) (by first | trivial | omega) (by first | trivial | omega) (by first | trivial | omega) rfl (ModAt.mk ho_4 hr_7 hr_8 hr_9 hr_10 hr_11 hr_12 hr_13 hr_14 hr_15 hr_16 hr_17 hr_18 hr_19 hr_20)) dX4_grossTaxByTrying_38 (Nat.le_of_ble_eq_true rfl) (Nat.le_of_ble_eq_true rfl)
