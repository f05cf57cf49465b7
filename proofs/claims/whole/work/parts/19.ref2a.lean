/-! the reference: what it changes -/
theorem rate_up {f : Nat → Nat → Int} {i k1 k2 k3 : Nat} {a b d : Int} (e1 : k1 = 3 * i) (e2 : k2 = 3 * i + 1) (e3 : k3 = 3 * i + 2) (j : Nat) : va_up (va_up (va_up (fun j => wI (f (j / 3) (2 + j % 3))) k1 (wI a)) k2 (wI b)) k3 (wI d) j = wI (up f i (ratS (f i) a b d) (j / 3) (2 + j % 3)) := by
  subst e1 e2 e3
  by_cases q : j / 3 = i
  · rw [q, show up f i (ratS (f i) a b d) i = ratS (f i) a b d from va_up_self _ _ _]
    rcases (by omega : j % 3 = 0 ∨ j % 3 = 1 ∨ j % 3 = 2) with r | r | r
    · rw [r, va_up_ne _ _ (by omega), va_up_ne _ _ (by omega), show j = 3 * i by omega, va_up_self]
      rfl
    · rw [r, va_up_ne _ _ (by omega), show j = 3 * i + 1 by omega, va_up_self]
      rfl
    · rw [r, show j = 3 * i + 2 by omega, va_up_self]
      rfl
  · rw [va_up_ne _ _ (by omega), va_up_ne _ _ (by omega), va_up_ne _ _ (by omega), show up f i (ratS (f i) a b d) (j / 3) = f (j / 3) from va_up_ne _ _ q]
theorem bon_up {f : Nat → Nat → Nat → Int} {i b k c : Nat} {bo : Nat → Int} (hk : k = 6 * i + b) (hb : b < 6) (j : Nat) : va_up (fun j => wI (f (j / 6) (j % 6) c)) k (wI (bo c)) j = wI (up f i (up (f i) b bo) (j / 6) (j % 6) c) := by
  subst hk
  by_cases q : j = 6 * i + b
  · subst q
    rw [va_up_self, show (6 * i + b) / 6 = i by omega, show (6 * i + b) % 6 = b by omega, show up f i (up (f i) b bo) i = up (f i) b bo from va_up_self _ _ _, show up (f i) b bo b = bo from va_up_self _ _ _]
  · rw [va_up_ne _ _ q]
    by_cases r : j / 6 = i
    · rw [r, show up f i (up (f i) b bo) i = up (f i) b bo from va_up_self _ _ _, show up (f i) b bo (j % 6) = f i (j % 6) from va_up_ne _ _ (by omega)]
    · rw [show up f i (up (f i) b bo) (j / 6) = f (j / 6) from va_up_ne _ _ r]

set_option maxHeartbeats 4000000 in
set_option maxRecDepth 100000 in
theorem c_X4_setLimits (l : Launch) (g : wG) (A : Nat → Prop) (H : Heap) (M : Nat → Nat) (hAM : ∀ k, k < 16 → k ≠ 4 → A (M k)) (hMj : AInj M) (th : Int) (σ : St) (hM : ModAt g H M th σ) (hσ : StGood σ) (i a b : Int) (hi : wR i) (ha : wR a) (hb : wR b) : ImpV l g A H yX4_setLimits wsX4_setLimits 2 42 0 0 [.ref (M 0), .int (wI (i)), .int (wI (a)), .int (wI (b))] (fun H1 => ModAt g H1 M (cd (((0 ≤ i ∧ i < 4) ∧ (0 ≤ a ∧ a ≤ 1000000) ∧ (a ≤ b ∧ b ≤ 1000000))) (True) (True)) (stp (((0 ≤ i ∧ i < 4) ∧ (0 ≤ a ∧ a ≤ 1000000) ∧ (a ≤ b ∧ b ≤ 1000000))) (True) (True) (nxLand σ i.toNat (limS (σ.1 i.toNat) a b)) σ)) := by
  refine Imp.of (cc := cX4_setLimits) (maxL := 4) (ret := none) (by decide) rfl (Nat.le_of_ble_eq_true rfl) ?_
  intro p9 e s m args below meth c X hE hEs hnm hr hk hS ls hl
  have hl : lv_has ls 4 [(0, .ref (M 0)), (1, .int (wI (i))), (2, .int (wI (a))), (3, .int (wI (b)))] := hl
  have hin_RX4 : ∀ w ∈ u_ws RX4 TX4 16, w ∈ wsX4_setLimits := by decide +kernel
  have hGd := hE.dis
  obtain ⟨hs1, hs2, hs3, hs4⟩ := id hσ
  have hO_n_1 : Ob g H (M 0) 5 [.int (wI (th)), .ref (M 1), .ref (M 2), .ref (M 3), .int (wI ((sn σ : Int))), .ref (M 5), .ref (M 6), .ref (M 7), .ref (M 8), .ref (M 9), .ref (M 10), .ref (M 11), .ref (M 12), .ref (M 13), .ref (M 14), .ref (M 15)] := hM 0 _ rfl
  have hA1_n_1 : IA g H (M 1) 4 (fun j => wI (σ.1 j 0)) := hM 1 _ rfl
  have hA2_n_1 : IA g H (M 2) 4 (fun j => wI (σ.1 j 1)) := hM 2 _ rfl
  have hA3_n_1 : IA g H (M 3) 12 (fun j => wI (σ.1 (j / 3) (2 + j % 3))) := hM 3 _ rfl
  have hA5_n_1 : IA g H (M 5) 10 (fun j => wI (sp σ j 0)) := hM 4 _ rfl
  have hA6_n_1 : IA g H (M 6) 10 (fun j => wI (sp σ j 1)) := hM 5 _ rfl
  have hA7_n_1 : IA g H (M 7) 10 (fun j => wI (sp σ j 2)) := hM 6 _ rfl
  have hA8_n_1 : IA g H (M 8) 10 (fun j => wI (sp σ j 3)) := hM 7 _ rfl
  have hA9_n_1 : IA g H (M 9) 10 (fun j => wI (sp σ j 4)) := hM 8 _ rfl
  have hA10_n_1 : IA g H (M 10) 10 (fun j => wI (sp σ j 5)) := hM 9 _ rfl
  have hA11_n_1 : IA g H (M 11) 10 (fun j => wI (sp σ j 6)) := hM 10 _ rfl
  have hA12_n_1 : IA g H (M 12) 10 (fun j => wI ((sb σ j : Int))) := hM 11 _ rfl
  have hA13_n_1 : IA g H (M 13) 60 (fun j => wI (so σ (j / 6) (j % 6) 0)) := hM 12 _ rfl
  have hA14_n_1 : IA g H (M 14) 60 (fun j => wI (so σ (j / 6) (j % 6) 1)) := hM 13 _ rfl
  have hA15_n_1 : IA g H (M 15) 60 (fun j => wI (so σ (j / 6) (j % 6) 2)) := hM 14 _ rfl
  refine w_aload_n X dX4_setLimits_0 hl 0 rfl rfl ?_
  refine w_iload_n X dX4_setLimits_1 hl 1 rfl rfl ?_
  refine w_callS (v := .int (wI (inS 0 (i) 3))) 1 X hE (c_X4_isLand l g H (i) (by omega)) hl dX4_setLimits_2 gX4_setLimits_X4_isLand rfl rfl (by decide +kernel) ⟨(Nat.le_of_ble_eq_true rfl), (Nat.le_of_ble_eq_true rfl)⟩ rfl (Nat.le_of_ble_eq_true rfl) ⟨(Nat.le_of_ble_eq_true rfl), (Nat.le_of_ble_eq_true rfl)⟩ ?_
  have qi_2 := inS_spec 0 (i) 3
  refine w_if_eq X 32 dX4_setLimits_5 (by decide) (by omega) (fun c_3 => ?_) (fun c_3 => ?_)
  · skip
    refine w_iconst X dX4_setLimits_32 ?_
    refine w_put (ref := "TaxEqualiserModel") (v := .int (wI (1))) X hE hO_n_1 hS (hAM 0 (by decide) (by decide)) 0 dX4_setLimits_33 rfl hin_RX4 tyX4 tyX4_ok nmX4 (by decide) (by decide +kernel) (fun _ h => h) rfl rfl rfl (Nat.le_of_ble_eq_true rfl) fun H_4 lo_5 ho_6 hz_7 hq_8 hS => ?_
    have ho_6 : Ob g H_4 (M 0) 5 [.int (wI (1)), .ref (M 1), .ref (M 2), .ref (M 3), .int (wI ((sn σ : Int))), .ref (M 5), .ref (M 6), .ref (M 7), .ref (M 8), .ref (M 9), .ref (M 10), .ref (M 11), .ref (M 12), .ref (M 13), .ref (M 14), .ref (M 15)] := ho_6
    have hr_9 := (hA1_n_1).kept (hq_8 _ (hMj 1 0 (by decide) (by decide) (by decide) (by decide) (by decide)))
    have hr_10 := (hA2_n_1).kept (hq_8 _ (hMj 2 0 (by decide) (by decide) (by decide) (by decide) (by decide)))
    have hr_11 := (hA3_n_1).kept (hq_8 _ (hMj 3 0 (by decide) (by decide) (by decide) (by decide) (by decide)))
    have hr_12 := (hA5_n_1).kept (hq_8 _ (hMj 5 0 (by decide) (by decide) (by decide) (by decide) (by decide)))
    have hr_13 := (hA6_n_1).kept (hq_8 _ (hMj 6 0 (by decide) (by decide) (by decide) (by decide) (by decide)))
    have hr_14 := (hA7_n_1).kept (hq_8 _ (hMj 7 0 (by decide) (by decide) (by decide) (by decide) (by decide)))
    have hr_15 := (hA8_n_1).kept (hq_8 _ (hMj 8 0 (by decide) (by decide) (by decide) (by decide) (by decide)))
    have hr_16 := (hA9_n_1).kept (hq_8 _ (hMj 9 0 (by decide) (by decide) (by decide) (by decide) (by decide)))
    have hr_17 := (hA10_n_1).kept (hq_8 _ (hMj 10 0 (by decide) (by decide) (by decide) (by decide) (by decide)))
    have hr_18 := (hA11_n_1).kept (hq_8 _ (hMj 11 0 (by decide) (by decide) (by decide) (by decide) (by decide)))
    have hr_19 := (hA12_n_1).kept (hq_8 _ (hMj 12 0 (by decide) (by decide) (by decide) (by decide) (by decide)))
    have hr_20 := (hA13_n_1).kept (hq_8 _ (hMj 13 0 (by decide) (by decide) (by decide) (by decide) (by decide)))
    have hr_21 := (hA14_n_1).kept (hq_8 _ (hMj 14 0 (by decide) (by decide) (by decide) (by decide) (by decide)))
    have hr_22 := (hA15_n_1).kept (hq_8 _ (hMj 15 0 (by decide) (by decide) (by decide) (by decide) (by decide)))
    refine w_aload_n X dX4_setLimits_36 hl 0 rfl rfl ?_
    refine w_get X hE ho_6 0 dX4_setLimits_37 rfl hin_RX4 (by decide) (by decide +kernel) rfl rfl ?_
    refine w_if_ne X 57 dX4_setLimits_40 (by decide) (by omega) (fun c_23 => ?_) (fun c_23 => ?_)
    · skip
      exact w_vrV X hr hk hS (ref_1 (y := 0) (z := 0) (P1 := ((0 ≤ i ∧ i < 4) ∧ (0 ≤ a ∧ a ≤ 1000000) ∧ (a ≤ b ∧ b ≤ 1000000))) (P2 := True) (P3 := True) (σ := σ) (σ' := nxLand σ i.toNat (limS (σ.1 i.toNat) a b)) (by omega) rfl (ModAt.mk ho_6 hr_9 hr_10 hr_11 hr_12 hr_13 hr_14 hr_15 hr_16 hr_17 hr_18 hr_19 hr_20 hr_21 hr_22)).2 dX4_setLimits_57 (Nat.le_of_ble_eq_true rfl) (Nat.le_of_ble_eq_true rfl)
    · skip
      exact absurd c_23 (by omega)
  · skip
    refine w_iload_n X dX4_setLimits_8 hl 2 rfl rfl ?_
    refine w_iconst X dX4_setLimits_9 ?_
    refine w_ldc (v := 1000000) (z := 1000000) X dX4_setLimits_10 (by decide +kernel) (by decide) ?_
    refine w_callS (v := .int (wI (inS (0) (a) (1000000)))) 3 X hE (c_X4_in l g H (a) (0) (1000000) (by omega) (by omega) (by omega)) hl dX4_setLimits_12 gX4_setLimits_X4_in rfl rfl (by decide +kernel) ⟨(Nat.le_of_ble_eq_true rfl), (Nat.le_of_ble_eq_true rfl)⟩ rfl (Nat.le_of_ble_eq_true rfl) ⟨(Nat.le_of_ble_eq_true rfl), (Nat.le_of_ble_eq_true rfl)⟩ ?_
    have qi_24 := inS_spec (0) (a) (1000000)
    refine w_if_eq X 32 dX4_setLimits_15 (by decide) (by omega) (fun c_25 => ?_) (fun c_25 => ?_)
    · skip
      refine w_iconst X dX4_setLimits_32 ?_
      refine w_put (ref := "TaxEqualiserModel") (v := .int (wI (1))) X hE hO_n_1 hS (hAM 0 (by decide) (by decide)) 0 dX4_setLimits_33 rfl hin_RX4 tyX4 tyX4_ok nmX4 (by decide) (by decide +kernel) (fun _ h => h) rfl rfl rfl (Nat.le_of_ble_eq_true rfl) fun H_26 lo_27 ho_28 hz_29 hq_30 hS => ?_
      have ho_28 : Ob g H_26 (M 0) 5 [.int (wI (1)), .ref (M 1), .ref (M 2), .ref (M 3), .int (wI ((sn σ : Int))), .ref (M 5), .ref (M 6), .ref (M 7), .ref (M 8), .ref (M 9), .ref (M 10), .ref (M 11), .ref (M 12), .ref (M 13), .ref (M 14), .ref (M 15)] := ho_28
      have hr_31 := (hA1_n_1).kept (hq_30 _ (hMj 1 0 (by decide) (by decide) (by decide) (by decide) (by decide)))
      have hr_32 := (hA2_n_1).kept (hq_30 _ (hMj 2 0 (by decide) (by decide) (by decide) (by decide) (by decide)))
      have hr_33 := (hA3_n_1).kept (hq_30 _ (hMj 3 0 (by decide) (by decide) (by decide) (by decide) (by decide)))
      have hr_34 := (hA5_n_1).kept (hq_30 _ (hMj 5 0 (by decide) (by decide) (by decide) (by decide) (by decide)))
      have hr_35 := (hA6_n_1).kept (hq_30 _ (hMj 6 0 (by decide) (by decide) (by decide) (by decide) (by decide)))
      have hr_36 := (hA7_n_1).kept (hq_30 _ (hMj 7 0 (by decide) (by decide) (by decide) (by decide) (by decide)))
      have hr_37 := (hA8_n_1).kept (hq_30 _ (hMj 8 0 (by decide) (by decide) (by decide) (by decide) (by decide)))
      have hr_38 := (hA9_n_1).kept (hq_30 _ (hMj 9 0 (by decide) (by decide) (by decide) (by decide) (by decide)))
      have hr_39 := (hA10_n_1).kept (hq_30 _ (hMj 10 0 (by decide) (by decide) (by decide) (by decide) (by decide)))
      have hr_40 := (hA11_n_1).kept (hq_30 _ (hMj 11 0 (by decide) (by decide) (by decide) (by decide) (by decide)))
      have hr_41 := (hA12_n_1).kept (hq_30 _ (hMj 12 0 (by decide) (by decide) (by decide) (by decide) (by decide)))
      have hr_42 := (hA13_n_1).kept (hq_30 _ (hMj 13 0 (by decide) (by decide) (by decide) (by decide) (by decide)))
      have hr_43 := (hA14_n_1).kept (hq_30 _ (hMj 14 0 (by decide) (by decide) (by decide) (by decide) (by decide)))
      have hr_44 := (hA15_n_1).kept (hq_30 _ (hMj 15 0 (by decide) (by decide) (by decide) (by decide) (by decide)))
      refine w_aload_n X dX4_setLimits_36 hl 0 rfl rfl ?_
      refine w_get X hE ho_28 0 dX4_setLimits_37 rfl hin_RX4 (by decide) (by decide +kernel) rfl rfl ?_
      refine w_if_ne X 57 dX4_setLimits_40 (by decide) (by omega) (fun c_45 => ?_) (fun c_45 => ?_)
      · skip
        exact w_vrV X hr hk hS (ref_1 (y := 0) (z := 0) (P1 := ((0 ≤ i ∧ i < 4) ∧ (0 ≤ a ∧ a ≤ 1000000) ∧ (a ≤ b ∧ b ≤ 1000000))) (P2 := True) (P3 := True) (σ := σ) (σ' := nxLand σ i.toNat (limS (σ.1 i.toNat) a b)) (by omega) rfl (ModAt.mk ho_28 hr_31 hr_32 hr_33 hr_34 hr_35 hr_36 hr_37 hr_38 hr_39 hr_40 hr_41 hr_42 hr_43 hr_44)).2 dX4_setLimits_57 (Nat.le_of_ble_eq_true rfl) (Nat.le_of_ble_eq_true rfl)
      · skip
        exact absurd c_45 (by omega)
    · skip
      refine w_iload_n X dX4_setLimits_18 hl 3 rfl rfl ?_
      refine w_iload_n X dX4_setLimits_19 hl 2 rfl rfl ?_
      refine w_ldc (v := 1000000) (z := 1000000) X dX4_setLimits_20 (by decide +kernel) (by decide) ?_
      refine w_callS (v := .int (wI (inS (a) (b) (1000000)))) 3 X hE (c_X4_in l g H (b) (a) (1000000) (by omega) (by omega) (by omega)) hl dX4_setLimits_22 gX4_setLimits_X4_in rfl rfl (by decide +kernel) ⟨(Nat.le_of_ble_eq_true rfl), (Nat.le_of_ble_eq_true rfl)⟩ rfl (Nat.le_of_ble_eq_true rfl) ⟨(Nat.le_of_ble_eq_true rfl), (Nat.le_of_ble_eq_true rfl)⟩ ?_
      have qi_46 := inS_spec (a) (b) (1000000)
      refine w_if_eq X 32 dX4_setLimits_25 (by decide) (by omega) (fun c_47 => ?_) (fun c_47 => ?_)
      · skip
        refine w_iconst X dX4_setLimits_32 ?_
        refine w_put (ref := "TaxEqualiserModel") (v := .int (wI (1))) X hE hO_n_1 hS (hAM 0 (by decide) (by decide)) 0 dX4_setLimits_33 rfl hin_RX4 tyX4 tyX4_ok nmX4 (by decide) (by decide +kernel) (fun _ h => h) rfl rfl rfl (Nat.le_of_ble_eq_true rfl) fun H_48 lo_49 ho_50 hz_51 hq_52 hS => ?_
        have ho_50 : Ob g H_48 (M 0) 5 [.int (wI (1)), .ref (M 1), .ref (M 2), .ref (M 3), .int (wI ((sn σ : Int))), .ref (M 5), .ref (M 6), .ref (M 7), .ref (M 8), .ref (M 9), .ref (M 10), .ref (M 11), .ref (M 12), .ref (M 13), .ref (M 14), .ref (M 15)] := ho_50
        have hr_53 := (hA1_n_1).kept (hq_52 _ (hMj 1 0 (by decide) (by decide) (by decide) (by decide) (by decide)))
        have hr_54 := (hA2_n_1).kept (hq_52 _ (hMj 2 0 (by decide) (by decide) (by decide) (by decide) (by decide)))
        have hr_55 := (hA3_n_1).kept (hq_52 _ (hMj 3 0 (by decide) (by decide) (by decide) (by decide) (by decide)))
        have hr_56 := (hA5_n_1).kept (hq_52 _ (hMj 5 0 (by decide) (by decide) (by decide) (by decide) (by decide)))
        have hr_57 := (hA6_n_1).kept (hq_52 _ (hMj 6 0 (by decide) (by decide) (by decide) (by decide) (by decide)))
        have hr_58 := (hA7_n_1).kept (hq_52 _ (hMj 7 0 (by decide) (by decide) (by decide) (by decide) (by decide)))
        have hr_59 := (hA8_n_1).kept (hq_52 _ (hMj 8 0 (by decide) (by decide) (by decide) (by decide) (by decide)))
        have hr_60 := (hA9_n_1).kept (hq_52 _ (hMj 9 0 (by decide) (by decide) (by decide) (by decide) (by decide)))
        have hr_61 := (hA10_n_1).kept (hq_52 _ (hMj 10 0 (by decide) (by decide) (by decide) (by decide) (by decide)))
        have hr_62 := (hA11_n_1).kept (hq_52 _ (hMj 11 0 (by decide) (by decide) (by decide) (by decide) (by decide)))
        have hr_63 := (hA12_n_1).kept (hq_52 _ (hMj 12 0 (by decide) (by decide) (by decide) (by decide) (by decide)))
        have hr_64 := (hA13_n_1).kept (hq_52 _ (hMj 13 0 (by decide) (by decide) (by decide) (by decide) (by decide)))
        have hr_65 := (hA14_n_1).kept (hq_52 _ (hMj 14 0 (by decide) (by decide) (by decide) (by decide) (by decide)))
        have hr_66 := (hA15_n_1).kept (hq_52 _ (hMj 15 0 (by decide) (by decide) (by decide) (by decide) (by decide)))
        refine w_aload_n X dX4_setLimits_36 hl 0 rfl rfl ?_
        refine w_get X hE ho_50 0 dX4_setLimits_37 rfl hin_RX4 (by decide) (by decide +kernel) rfl rfl ?_
        refine w_if_ne X 57 dX4_setLimits_40 (by decide) (by omega) (fun c_67 => ?_) (fun c_67 => ?_)
        · skip
          exact w_vrV X hr hk hS (ref_1 (y := 0) (z := 0) (P1 := ((0 ≤ i ∧ i < 4) ∧ (0 ≤ a ∧ a ≤ 1000000) ∧ (a ≤ b ∧ b ≤ 1000000))) (P2 := True) (P3 := True) (σ := σ) (σ' := nxLand σ i.toNat (limS (σ.1 i.toNat) a b)) (by omega) rfl (ModAt.mk ho_50 hr_53 hr_54 hr_55 hr_56 hr_57 hr_58 hr_59 hr_60 hr_61 hr_62 hr_63 hr_64 hr_65 hr_66)).2 dX4_setLimits_57 (Nat.le_of_ble_eq_true rfl) (Nat.le_of_ble_eq_true rfl)
        · skip
          exact absurd c_67 (by omega)
      · skip
        refine w_iconst X dX4_setLimits_28 ?_
        refine w_goto X 33 dX4_setLimits_29 (by decide) ?_
        refine w_put (ref := "TaxEqualiserModel") (v := .int (wI (0))) X hE hO_n_1 hS (hAM 0 (by decide) (by decide)) 0 dX4_setLimits_33 rfl hin_RX4 tyX4 tyX4_ok nmX4 (by decide) (by decide +kernel) (fun _ h => h) rfl rfl rfl (Nat.le_of_ble_eq_true rfl) fun H_68 lo_69 ho_70 hz_71 hq_72 hS => ?_
        have ho_70 : Ob g H_68 (M 0) 5 [.int (wI (0)), .ref (M 1), .ref (M 2), .ref (M 3), .int (wI ((sn σ : Int))), .ref (M 5), .ref (M 6), .ref (M 7), .ref (M 8), .ref (M 9), .ref (M 10), .ref (M 11), .ref (M 12), .ref (M 13), .ref (M 14), .ref (M 15)] := ho_70
        have hr_73 := (hA1_n_1).kept (hq_72 _ (hMj 1 0 (by decide) (by decide) (by decide) (by decide) (by decide)))
        have hr_74 := (hA2_n_1).kept (hq_72 _ (hMj 2 0 (by decide) (by decide) (by decide) (by decide) (by decide)))
        have hr_75 := (hA3_n_1).kept (hq_72 _ (hMj 3 0 (by decide) (by decide) (by decide) (by decide) (by decide)))
        have hr_76 := (hA5_n_1).kept (hq_72 _ (hMj 5 0 (by decide) (by decide) (by decide) (by decide) (by decide)))
        have hr_77 := (hA6_n_1).kept (hq_72 _ (hMj 6 0 (by decide) (by decide) (by decide) (by decide) (by decide)))
        have hr_78 := (hA7_n_1).kept (hq_72 _ (hMj 7 0 (by decide) (by decide) (by decide) (by decide) (by decide)))
        have hr_79 := (hA8_n_1).kept (hq_72 _ (hMj 8 0 (by decide) (by decide) (by decide) (by decide) (by decide)))
        have hr_80 := (hA9_n_1).kept (hq_72 _ (hMj 9 0 (by decide) (by decide) (by decide) (by decide) (by decide)))
        have hr_81 := (hA10_n_1).kept (hq_72 _ (hMj 10 0 (by decide) (by decide) (by decide) (by decide) (by decide)))
        have hr_82 := (hA11_n_1).kept (hq_72 _ (hMj 11 0 (by decide) (by decide) (by decide) (by decide) (by decide)))
        have hr_83 := (hA12_n_1).kept (hq_72 _ (hMj 12 0 (by decide) (by decide) (by decide) (by decide) (by decide)))
        have hr_84 := (hA13_n_1).kept (hq_72 _ (hMj 13 0 (by decide) (by decide) (by decide) (by decide) (by decide)))
        have hr_85 := (hA14_n_1).kept (hq_72 _ (hMj 14 0 (by decide) (by decide) (by decide) (by decide) (by decide)))
        have hr_86 := (hA15_n_1).kept (hq_72 _ (hMj 15 0 (by decide) (by decide) (by decide) (by decide) (by decide)))
        refine w_aload_n X dX4_setLimits_36 hl 0 rfl rfl ?_
        refine w_get X hE ho_70 0 dX4_setLimits_37 rfl hin_RX4 (by decide) (by decide +kernel) rfl rfl ?_
        refine w_if_ne X 57 dX4_setLimits_40 (by decide) (by omega) (fun c_87 => ?_) (fun c_87 => ?_)
        · skip
          exact absurd c_87 (by omega)
        · skip
          refine w_aload_n X dX4_setLimits_43 hl 0 rfl rfl ?_
          refine w_get X hE ho_70 1 dX4_setLimits_44 rfl hin_RX4 (by decide) (by decide +kernel) rfl rfl ?_
          refine w_iload_n X dX4_setLimits_47 hl 1 rfl rfl ?_
          refine w_iload_n X dX4_setLimits_48 hl 2 rfl rfl ?_
          refine w_iast (x := wI (a)) X hE hr_73 hS (hAM 1 (by decide) (by decide)) dX4_setLimits_49 (by omega) (by omega) (by omega) fun H_88 lo_89 hr_90 hz_91 hq_92 hS => ?_
          have ho_93 := (ho_70).kept (hq_92 _ (hMj 0 1 (by decide) (by decide) (by decide) (by decide) (by decide)))
          have hr_94 := (hr_74).kept (hq_92 _ (hMj 2 1 (by decide) (by decide) (by decide) (by decide) (by decide)))
          have hr_95 := (hr_75).kept (hq_92 _ (hMj 3 1 (by decide) (by decide) (by decide) (by decide) (by decide)))
          have hr_96 := (hr_76).kept (hq_92 _ (hMj 5 1 (by decide) (by decide) (by decide) (by decide) (by decide)))
          have hr_97 := (hr_77).kept (hq_92 _ (hMj 6 1 (by decide) (by decide) (by decide) (by decide) (by decide)))
          have hr_98 := (hr_78).kept (hq_92 _ (hMj 7 1 (by decide) (by decide) (by decide) (by decide) (by decide)))
          have hr_99 := (hr_79).kept (hq_92 _ (hMj 8 1 (by decide) (by decide) (by decide) (by decide) (by decide)))
          have hr_100 := (hr_80).kept (hq_92 _ (hMj 9 1 (by decide) (by decide) (by decide) (by decide) (by decide)))
          have hr_101 := (hr_81).kept (hq_92 _ (hMj 10 1 (by decide) (by decide) (by decide) (by decide) (by decide)))
          have hr_102 := (hr_82).kept (hq_92 _ (hMj 11 1 (by decide) (by decide) (by decide) (by decide) (by decide)))
          have hr_103 := (hr_83).kept (hq_92 _ (hMj 12 1 (by decide) (by decide) (by decide) (by decide) (by decide)))
          have hr_104 := (hr_84).kept (hq_92 _ (hMj 13 1 (by decide) (by decide) (by decide) (by decide) (by decide)))
          have hr_105 := (hr_85).kept (hq_92 _ (hMj 14 1 (by decide) (by decide) (by decide) (by decide) (by decide)))
          have hr_106 := (hr_86).kept (hq_92 _ (hMj 15 1 (by decide) (by decide) (by decide) (by decide) (by decide)))
          refine w_aload_n X dX4_setLimits_50 hl 0 rfl rfl ?_
          refine w_get X hE ho_93 2 dX4_setLimits_51 rfl hin_RX4 (by decide) (by decide +kernel) rfl rfl ?_
          refine w_iload_n X dX4_setLimits_54 hl 1 rfl rfl ?_
          refine w_iload_n X dX4_setLimits_55 hl 3 rfl rfl ?_
          refine w_iast (x := wI (b)) X hE hr_94 hS (hAM 2 (by decide) (by decide)) dX4_setLimits_56 (by omega) (by omega) (by omega) fun H_107 lo_108 hr_109 hz_110 hq_111 hS => ?_
          have ho_112 := (ho_93).kept (hq_111 _ (hMj 0 2 (by decide) (by decide) (by decide) (by decide) (by decide)))
          have hr_113 := (hr_90).kept (hq_111 _ (hMj 1 2 (by decide) (by decide) (by decide) (by decide) (by decide)))
          have hr_114 := (hr_95).kept (hq_111 _ (hMj 3 2 (by decide) (by decide) (by decide) (by decide) (by decide)))
          have hr_115 := (hr_96).kept (hq_111 _ (hMj 5 2 (by decide) (by decide) (by decide) (by decide) (by decide)))
          have hr_116 := (hr_97).kept (hq_111 _ (hMj 6 2 (by decide) (by decide) (by decide) (by decide) (by decide)))
          have hr_117 := (hr_98).kept (hq_111 _ (hMj 7 2 (by decide) (by decide) (by decide) (by decide) (by decide)))
          have hr_118 := (hr_99).kept (hq_111 _ (hMj 8 2 (by decide) (by decide) (by decide) (by decide) (by decide)))
          have hr_119 := (hr_100).kept (hq_111 _ (hMj 9 2 (by decide) (by decide) (by decide) (by decide) (by decide)))
          have hr_120 := (hr_101).kept (hq_111 _ (hMj 10 2 (by decide) (by decide) (by decide) (by decide) (by decide)))
          have hr_121 := (hr_102).kept (hq_111 _ (hMj 11 2 (by decide) (by decide) (by decide) (by decide) (by decide)))
          have hr_122 := (hr_103).kept (hq_111 _ (hMj 12 2 (by decide) (by decide) (by decide) (by decide) (by decide)))
          have hr_123 := (hr_104).kept (hq_111 _ (hMj 13 2 (by decide) (by decide) (by decide) (by decide) (by decide)))
          have hr_124 := (hr_105).kept (hq_111 _ (hMj 14 2 (by decide) (by decide) (by decide) (by decide) (by decide)))
          have hr_125 := (hr_106).kept (hq_111 _ (hMj 15 2 (by decide) (by decide) (by decide) (by decide) (by decide)))
          exact w_vrV X hr hk hS (ref_y (y := 0) (z := 0) (P1 := ((0 ≤ i ∧ i < 4) ∧ (0 ≤ a ∧ a ≤ 1000000) ∧ (a ≤ b ∧ b ≤ 1000000))) (P2 := True) (P3 := True) (σ := σ) (σ' := nxLand σ i.toNat (limS (σ.1 i.toNat) a b)) (by first | trivial | omega) (by first | trivial | omega) (by first | trivial | omega) rfl (ModAt.mk ho_112 (IA.ext hr_113 (fun j hj => (up_at σ.1 i.toNat (limS (σ.1 i.toNat) a b) (fun r => wI (r 0)) j).symm)) (IA.ext hr_109 (fun j hj => (up_at σ.1 i.toNat (limS (σ.1 i.toNat) a b) (fun r => wI (r 1)) j).symm)) (IA.ext hr_114 (fun j hj => (up_id σ.1 i.toNat (limS (σ.1 i.toNat) a b) (fun r => wI (r (2 + j % 3))) (by show wI (limS _ a b (2 + j % 3)) = _; rw [Nat.add_comm]; rfl) (j / 3)).symm)) hr_115 hr_116 hr_117 hr_118 hr_119 hr_120 hr_121 hr_122 hr_123 hr_124 hr_125)).2 dX4_setLimits_57 (Nat.le_of_ble_eq_true rfl) (Nat.le_of_ble_eq_true rfl)

set_option maxHeartbeats 4000000 in
set_option maxRecDepth 100000 in
theorem c_X4_setRates (l : Launch) (g : wG) (A : Nat → Prop) (H : Heap) (M : Nat → Nat) (hAM : ∀ k, k < 16 → k ≠ 4 → A (M k)) (hMj : AInj M) (th : Int) (σ : St) (hM : ModAt g H M th σ) (hσ : StGood σ) (i a b d : Int) (hi : wR i) (ha : wR a) (hb : wR b) (hd : wR d) : ImpV l g A H yX4_setRates wsX4_setRates 2 42 0 0 [.ref (M 0), .int (wI (i)), .int (wI (a)), .int (wI (b)), .int (wI (d))] (fun H1 => ModAt g H1 M (cd (((0 ≤ i ∧ i < 4) ∧ (0 ≤ a ∧ a ≤ 60) ∧ (0 ≤ b ∧ b ≤ 60) ∧ (0 ≤ d ∧ d ≤ 60))) (True) (True)) (stp (((0 ≤ i ∧ i < 4) ∧ (0 ≤ a ∧ a ≤ 60) ∧ (0 ≤ b ∧ b ≤ 60) ∧ (0 ≤ d ∧ d ≤ 60))) (True) (True) (nxLand σ i.toNat (ratS (σ.1 i.toNat) a b d)) σ)) := by
  refine Imp.of (cc := cX4_setRates) (maxL := 5) (ret := none) (by decide) rfl (Nat.le_of_ble_eq_true rfl) ?_
  intro p9 e s m args below meth c X hE hEs hnm hr hk hS ls hl
  have hl : lv_has ls 5 [(0, .ref (M 0)), (1, .int (wI (i))), (2, .int (wI (a))), (3, .int (wI (b))), (4, .int (wI (d)))] := hl
  have hin_RX4 : ∀ w ∈ u_ws RX4 TX4 16, w ∈ wsX4_setRates := by decide +kernel
  have hGd := hE.dis
  obtain ⟨hs1, hs2, hs3, hs4⟩ := id hσ
  have hO_n_1 : Ob g H (M 0) 5 [.int (wI (th)), .ref (M 1), .ref (M 2), .ref (M 3), .int (wI ((sn σ : Int))), .ref (M 5), .ref (M 6), .ref (M 7), .ref (M 8), .ref (M 9), .ref (M 10), .ref (M 11), .ref (M 12), .ref (M 13), .ref (M 14), .ref (M 15)] := hM 0 _ rfl
  have hA1_n_1 : IA g H (M 1) 4 (fun j => wI (σ.1 j 0)) := hM 1 _ rfl
  have hA2_n_1 : IA g H (M 2) 4 (fun j => wI (σ.1 j 1)) := hM 2 _ rfl
  have hA3_n_1 : IA g H (M 3) 12 (fun j => wI (σ.1 (j / 3) (2 + j % 3))) := hM 3 _ rfl
  have hA5_n_1 : IA g H (M 5) 10 (fun j => wI (sp σ j 0)) := hM 4 _ rfl
  have hA6_n_1 : IA g H (M 6) 10 (fun j => wI (sp σ j 1)) := hM 5 _ rfl
  have hA7_n_1 : IA g H (M 7) 10 (fun j => wI (sp σ j 2)) := hM 6 _ rfl
  have hA8_n_1 : IA g H (M 8) 10 (fun j => wI (sp σ j 3)) := hM 7 _ rfl
  have hA9_n_1 : IA g H (M 9) 10 (fun j => wI (sp σ j 4)) := hM 8 _ rfl
  have hA10_n_1 : IA g H (M 10) 10 (fun j => wI (sp σ j 5)) := hM 9 _ rfl
  have hA11_n_1 : IA g H (M 11) 10 (fun j => wI (sp σ j 6)) := hM 10 _ rfl
  have hA12_n_1 : IA g H (M 12) 10 (fun j => wI ((sb σ j : Int))) := hM 11 _ rfl
  have hA13_n_1 : IA g H (M 13) 60 (fun j => wI (so σ (j / 6) (j % 6) 0)) := hM 12 _ rfl
  have hA14_n_1 : IA g H (M 14) 60 (fun j => wI (so σ (j / 6) (j % 6) 1)) := hM 13 _ rfl
  have hA15_n_1 : IA g H (M 15) 60 (fun j => wI (so σ (j / 6) (j % 6) 2)) := hM 14 _ rfl
  refine w_aload_n X dX4_setRates_0 hl 0 rfl rfl ?_
  refine w_iload_n X dX4_setRates_1 hl 1 rfl rfl ?_
  refine w_callS (v := .int (wI (inS 0 (i) 3))) 1 X hE (c_X4_isLand l g H (i) (by omega)) hl dX4_setRates_2 gX4_setRates_X4_isLand rfl rfl (by decide +kernel) ⟨(Nat.le_of_ble_eq_true rfl), (Nat.le_of_ble_eq_true rfl)⟩ rfl (Nat.le_of_ble_eq_true rfl) ⟨(Nat.le_of_ble_eq_true rfl), (Nat.le_of_ble_eq_true rfl)⟩ ?_
  have qi_2 := inS_spec 0 (i) 3
  refine w_if_eq X 43 dX4_setRates_5 (by decide) (by omega) (fun c_3 => ?_) (fun c_3 => ?_)
  · skip
    refine w_iconst X dX4_setRates_43 ?_
    refine w_put (ref := "TaxEqualiserModel") (v := .int (wI (1))) X hE hO_n_1 hS (hAM 0 (by decide) (by decide)) 0 dX4_setRates_44 rfl hin_RX4 tyX4 tyX4_ok nmX4 (by decide) (by decide +kernel) (fun _ h => h) rfl rfl rfl (Nat.le_of_ble_eq_true rfl) fun H_4 lo_5 ho_6 hz_7 hq_8 hS => ?_
    have ho_6 : Ob g H_4 (M 0) 5 [.int (wI (1)), .ref (M 1), .ref (M 2), .ref (M 3), .int (wI ((sn σ : Int))), .ref (M 5), .ref (M 6), .ref (M 7), .ref (M 8), .ref (M 9), .ref (M 10), .ref (M 11), .ref (M 12), .ref (M 13), .ref (M 14), .ref (M 15)] := ho_6
    have hr_9 := (hA1_n_1).kept (hq_8 _ (hMj 1 0 (by decide) (by decide) (by decide) (by decide) (by decide)))
    have hr_10 := (hA2_n_1).kept (hq_8 _ (hMj 2 0 (by decide) (by decide) (by decide) (by decide) (by decide)))
    have hr_11 := (hA3_n_1).kept (hq_8 _ (hMj 3 0 (by decide) (by decide) (by decide) (by decide) (by decide)))
    have hr_12 := (hA5_n_1).kept (hq_8 _ (hMj 5 0 (by decide) (by decide) (by decide) (by decide) (by decide)))
    have hr_13 := (hA6_n_1).kept (hq_8 _ (hMj 6 0 (by decide) (by decide) (by decide) (by decide) (by decide)))
    have hr_14 := (hA7_n_1).kept (hq_8 _ (hMj 7 0 (by decide) (by decide) (by decide) (by decide) (by decide)))
    have hr_15 := (hA8_n_1).kept (hq_8 _ (hMj 8 0 (by decide) (by decide) (by decide) (by decide) (by decide)))
    have hr_16 := (hA9_n_1).kept (hq_8 _ (hMj 9 0 (by decide) (by decide) (by decide) (by decide) (by decide)))
    have hr_17 := (hA10_n_1).kept (hq_8 _ (hMj 10 0 (by decide) (by decide) (by decide) (by decide) (by decide)))
    have hr_18 := (hA11_n_1).kept (hq_8 _ (hMj 11 0 (by decide) (by decide) (by decide) (by decide) (by decide)))
    have hr_19 := (hA12_n_1).kept (hq_8 _ (hMj 12 0 (by decide) (by decide) (by decide) (by decide) (by decide)))
    have hr_20 := (hA13_n_1).kept (hq_8 _ (hMj 13 0 (by decide) (by decide) (by decide) (by decide) (by decide)))
    have hr_21 := (hA14_n_1).kept (hq_8 _ (hMj 14 0 (by decide) (by decide) (by decide) (by decide) (by decide)))
    have hr_22 := (hA15_n_1).kept (hq_8 _ (hMj 15 0 (by decide) (by decide) (by decide) (by decide) (by decide)))
    refine w_aload_n X dX4_setRates_47 hl 0 rfl rfl ?_
    refine w_get X hE ho_6 0 dX4_setRates_48 rfl hin_RX4 (by decide) (by decide +kernel) rfl rfl ?_
    refine w_if_ne X 86 dX4_setRates_51 (by decide) (by omega) (fun c_23 => ?_) (fun c_23 => ?_)
    · skip
      exact w_vrV X hr hk hS (ref_1 (y := 0) (z := 0) (P1 := ((0 ≤ i ∧ i < 4) ∧ (0 ≤ a ∧ a ≤ 60) ∧ (0 ≤ b ∧ b ≤ 60) ∧ (0 ≤ d ∧ d ≤ 60))) (P2 := True) (P3 := True) (σ := σ) (σ' := nxLand σ i.toNat (ratS (σ.1 i.toNat) a b d)) (by omega) rfl (ModAt.mk ho_6 hr_9 hr_10 hr_11 hr_12 hr_13 hr_14 hr_15 hr_16 hr_17 hr_18 hr_19 hr_20 hr_21 hr_22)).2 dX4_setRates_86 (Nat.le_of_ble_eq_true rfl) (Nat.le_of_ble_eq_true rfl)
    · skip
      exact absurd c_23 (by omega)
  · skip
    refine w_iload_n X dX4_setRates_8 hl 2 rfl rfl ?_
    refine w_iconst X dX4_setRates_9 ?_
    refine w_bipush X dX4_setRates_10 (by decide) ?_
    refine w_callS (v := .int (wI (inS (0) (a) (60)))) 3 X hE (c_X4_in l g H (a) (0) (60) (by omega) (by omega) (by omega)) hl dX4_setRates_12 gX4_setRates_X4_in rfl rfl (by decide +kernel) ⟨(Nat.le_of_ble_eq_true rfl), (Nat.le_of_ble_eq_true rfl)⟩ rfl (Nat.le_of_ble_eq_true rfl) ⟨(Nat.le_of_ble_eq_true rfl), (Nat.le_of_ble_eq_true rfl)⟩ ?_
    have qi_24 := inS_spec (0) (a) (60)
    refine w_if_eq X 43 dX4_setRates_15 (by decide) (by omega) (fun c_25 => ?_) (fun c_25 => ?_)
    · skip
      refine w_iconst X dX4_setRates_43 ?_
      refine w_put (ref := "TaxEqualiserModel") (v := .int (wI (1))) X hE hO_n_1 hS (hAM 0 (by decide) (by decide)) 0 dX4_setRates_44 rfl hin_RX4 tyX4 tyX4_ok nmX4 (by decide) (by decide +kernel) (fun _ h => h) rfl rfl rfl (Nat.le_of_ble_eq_true rfl) fun H_26 lo_27 ho_28 hz_29 hq_30 hS => ?_
      have ho_28 : Ob g H_26 (M 0) 5 [.int (wI (1)), .ref (M 1), .ref (M 2), .ref (M 3), .int (wI ((sn σ : Int))), .ref (M 5), .ref (M 6), .ref (M 7), .ref (M 8), .ref (M 9), .ref (M 10), .ref (M 11), .ref (M 12), .ref (M 13), .ref (M 14), .ref (M 15)] := ho_28
      have hr_31 := (hA1_n_1).kept (hq_30 _ (hMj 1 0 (by decide) (by decide) (by decide) (by decide) (by decide)))
      have hr_32 := (hA2_n_1).kept (hq_30 _ (hMj 2 0 (by decide) (by decide) (by decide) (by decide) (by decide)))
      have hr_33 := (hA3_n_1).kept (hq_30 _ (hMj 3 0 (by decide) (by decide) (by decide) (by decide) (by decide)))
      have hr_34 := (hA5_n_1).kept (hq_30 _ (hMj 5 0 (by decide) (by decide) (by decide) (by decide) (by decide)))
      have hr_35 := (hA6_n_1).kept (hq_30 _ (hMj 6 0 (by decide) (by decide) (by decide) (by decide) (by decide)))
      have hr_36 := (hA7_n_1).kept (hq_30 _ (hMj 7 0 (by decide) (by decide) (by decide) (by decide) (by decide)))
      have hr_37 := (hA8_n_1).kept (hq_30 _ (hMj 8 0 (by decide) (by decide) (by decide) (by decide) (by decide)))
      have hr_38 := (hA9_n_1).kept (hq_30 _ (hMj 9 0 (by decide) (by decide) (by decide) (by decide) (by decide)))
      have hr_39 := (hA10_n_1).kept (hq_30 _ (hMj 10 0 (by decide) (by decide) (by decide) (by decide) (by decide)))
      have hr_40 := (hA11_n_1).kept (hq_30 _ (hMj 11 0 (by decide) (by decide) (by decide) (by decide) (by decide)))
      have hr_41 := (hA12_n_1).kept (hq_30 _ (hMj 12 0 (by decide) (by decide) (by decide) (by decide) (by decide)))
      have hr_42 := (hA13_n_1).kept (hq_30 _ (hMj 13 0 (by decide) (by decide) (by decide) (by decide) (by decide)))
      have hr_43 := (hA14_n_1).kept (hq_30 _ (hMj 14 0 (by decide) (by decide) (by decide) (by decide) (by decide)))
      have hr_44 := (hA15_n_1).kept (hq_30 _ (hMj 15 0 (by decide) (by decide) (by decide) (by decide) (by decide)))
      refine w_aload_n X dX4_setRates_47 hl 0 rfl rfl ?_
      refine w_get X hE ho_28 0 dX4_setRates_48 rfl hin_RX4 (by decide) (by decide +kernel) rfl rfl ?_
      refine w_if_ne X 86 dX4_setRates_51 (by decide) (by omega) (fun c_45 => ?_) (fun c_45 => ?_)
      · skip
        exact w_vrV X hr hk hS (ref_1 (y := 0) (z := 0) (P1 := ((0 ≤ i ∧ i < 4) ∧ (0 ≤ a ∧ a ≤ 60) ∧ (0 ≤ b ∧ b ≤ 60) ∧ (0 ≤ d ∧ d ≤ 60))) (P2 := True) (P3 := True) (σ := σ) (σ' := nxLand σ i.toNat (ratS (σ.1 i.toNat) a b d)) (by omega) rfl (ModAt.mk ho_28 hr_31 hr_32 hr_33 hr_34 hr_35 hr_36 hr_37 hr_38 hr_39 hr_40 hr_41 hr_42 hr_43 hr_44)).2 dX4_setRates_86 (Nat.le_of_ble_eq_true rfl) (Nat.le_of_ble_eq_true rfl)
      · skip
        exact absurd c_45 (by omega)
    · skip
      refine w_iload_n X dX4_setRates_18 hl 3 rfl rfl ?_
      refine w_iconst X dX4_setRates_19 ?_
      refine w_bipush X dX4_setRates_20 (by decide) ?_
      refine w_callS (v := .int (wI (inS (0) (b) (60)))) 3 X hE (c_X4_in l g H (b) (0) (60) (by omega) (by omega) (by omega)) hl dX4_setRates_22 gX4_setRates_X4_in rfl rfl (by decide +kernel) ⟨(Nat.le_of_ble_eq_true rfl), (Nat.le_of_ble_eq_true rfl)⟩ rfl (Nat.le_of_ble_eq_true rfl) ⟨(Nat.le_of_ble_eq_true rfl), (Nat.le_of_ble_eq_true rfl)⟩ ?_
      have qi_46 := inS_spec (0) (b) (60)
      refine w_if_eq X 43 dX4_setRates_25 (by decide) (by omega) (fun c_47 => ?_) (fun c_47 => ?_)
      · skip
        refine w_iconst X dX4_setRates_43 ?_
        refine w_put (ref := "TaxEqualiserModel") (v := .int (wI (1))) X hE hO_n_1 hS (hAM 0 (by decide) (by decide)) 0 dX4_setRates_44 rfl hin_RX4 tyX4 tyX4_ok nmX4 (by decide) (by decide +kernel) (fun _ h => h) rfl rfl rfl (Nat.le_of_ble_eq_true rfl) fun H_48 lo_49 ho_50 hz_51 hq_52 hS => ?_
        have ho_50 : Ob g H_48 (M 0) 5 [.int (wI (1)), .ref (M 1), .ref (M 2), .ref (M 3), .int (wI ((sn σ : Int))), .ref (M 5), .ref (M 6), .ref (M 7), .ref (M 8), .ref (M 9), .ref (M 10), .ref (M 11), .ref (M 12), .ref (M 13), .ref (M 14), .ref (M 15)] := ho_50
        have hr_53 := (hA1_n_1).kept (hq_52 _ (hMj 1 0 (by decide) (by decide) (by decide) (by decide) (by decide)))
        have hr_54 := (hA2_n_1).kept (hq_52 _ (hMj 2 0 (by decide) (by decide) (by decide) (by decide) (by decide)))
        have hr_55 := (hA3_n_1).kept (hq_52 _ (hMj 3 0 (by decide) (by decide) (by decide) (by decide) (by decide)))
        have hr_56 := (hA5_n_1).kept (hq_52 _ (hMj 5 0 (by decide) (by decide) (by decide) (by decide) (by decide)))
        have hr_57 := (hA6_n_1).kept (hq_52 _ (hMj 6 0 (by decide) (by decide) (by decide) (by decide) (by decide)))
        have hr_58 := (hA7_n_1).kept (hq_52 _ (hMj 7 0 (by decide) (by decide) (by decide) (by decide) (by decide)))
        have hr_59 := (hA8_n_1).kept (hq_52 _ (hMj 8 0 (by decide) (by decide) (by decide) (by decide) (by decide)))
        have hr_60 := (hA9_n_1).kept (hq_52 _ (hMj 9 0 (by decide) (by decide) (by decide) (by decide) (by decide)))
        have hr_61 := (hA10_n_1).kept (hq_52 _ (hMj 10 0 (by decide) (by decide) (by decide) (by decide) (by decide)))
        have hr_62 := (hA11_n_1).kept (hq_52 _ (hMj 11 0 (by decide) (by decide) (by decide) (by decide) (by decide)))
        have hr_63 := (hA12_n_1).kept (hq_52 _ (hMj 12 0 (by decide) (by decide) (by decide) (by decide) (by decide)))
        have hr_64 := (hA13_n_1).kept (hq_52 _ (hMj 13 0 (by decide) (by decide) (by decide) (by decide) (by decide)))
        have hr_65 := (hA14_n_1).kept (hq_52 _ (hMj 14 0 (by decide) (by decide) (by decide) (by decide) (by decide)))
        have hr_66 := (hA15_n_1).kept (hq_52 _ (hMj 15 0 (by decide) (by decide) (by decide) (by decide) (by decide)))
        refine w_aload_n X dX4_setRates_47 hl 0 rfl rfl ?_
        refine w_get X hE ho_50 0 dX4_setRates_48 rfl hin_RX4 (by decide) (by decide +kernel) rfl rfl ?_
        refine w_if_ne X 86 dX4_setRates_51 (by decide) (by omega) (fun c_67 => ?_) (fun c_67 => ?_)
        · skip
          exact w_vrV X hr hk hS (ref_1 (y := 0) (z := 0) (P1 := ((0 ≤ i ∧ i < 4) ∧ (0 ≤ a ∧ a ≤ 60) ∧ (0 ≤ b ∧ b ≤ 60) ∧ (0 ≤ d ∧ d ≤ 60))) (P2 := True) (P3 := True) (σ := σ) (σ' := nxLand σ i.toNat (ratS (σ.1 i.toNat) a b d)) (by omega) rfl (ModAt.mk ho_50 hr_53 hr_54 hr_55 hr_56 hr_57 hr_58 hr_59 hr_60 hr_61 hr_62 hr_63 hr_64 hr_65 hr_66)).2 dX4_setRates_86 (Nat.le_of_ble_eq_true rfl) (Nat.le_of_ble_eq_true rfl)
        · skip
          exact absurd c_67 (by omega)
      · skip
        refine w_iload X dX4_setRates_28 hl 4 rfl ?_
        refine w_iconst X dX4_setRates_30 ?_
        refine w_bipush X dX4_setRates_31 (by decide) ?_
        refine w_callS (v := .int (wI (inS (0) (d) (60)))) 3 X hE (c_X4_in l g H (d) (0) (60) (by omega) (by omega) (by omega)) hl dX4_setRates_33 gX4_setRates_X4_in rfl rfl (by decide +kernel) ⟨(Nat.le_of_ble_eq_true rfl), (Nat.le_of_ble_eq_true rfl)⟩ rfl (Nat.le_of_ble_eq_true rfl) ⟨(Nat.le_of_ble_eq_true rfl), (Nat.le_of_ble_eq_true rfl)⟩ ?_
        have qi_68 := inS_spec (0) (d) (60)
        refine w_if_eq X 43 dX4_setRates_36 (by decide) (by omega) (fun c_69 => ?_) (fun c_69 => ?_)
        · skip
          refine w_iconst X dX4_setRates_43 ?_
          refine w_put (ref := "TaxEqualiserModel") (v := .int (wI (1))) X hE hO_n_1 hS (hAM 0 (by decide) (by decide)) 0 dX4_setRates_44 rfl hin_RX4 tyX4 tyX4_ok nmX4 (by decide) (by decide +kernel) (fun _ h => h) rfl rfl rfl (Nat.le_of_ble_eq_true rfl) fun H_70 lo_71 ho_72 hz_73 hq_74 hS => ?_
          have ho_72 : Ob g H_70 (M 0) 5 [.int (wI (1)), .ref (M 1), .ref (M 2), .ref (M 3), .int (wI ((sn σ : Int))), .ref (M 5), .ref (M 6), .ref (M 7), .ref (M 8), .ref (M 9), .ref (M 10), .ref (M 11), .ref (M 12), .ref (M 13), .ref (M 14), .ref (M 15)] := ho_72
          have hr_75 := (hA1_n_1).kept (hq_74 _ (hMj 1 0 (by decide) (by decide) (by decide) (by decide) (by decide)))
          have hr_76 := (hA2_n_1).kept (hq_74 _ (hMj 2 0 (by decide) (by decide) (by decide) (by decide) (by decide)))
          have hr_77 := (hA3_n_1).kept (hq_74 _ (hMj 3 0 (by decide) (by decide) (by decide) (by decide) (by decide)))
          have hr_78 := (hA5_n_1).kept (hq_74 _ (hMj 5 0 (by decide) (by decide) (by decide) (by decide) (by decide)))
          have hr_79 := (hA6_n_1).kept (hq_74 _ (hMj 6 0 (by decide) (by decide) (by decide) (by decide) (by decide)))
          have hr_80 := (hA7_n_1).kept (hq_74 _ (hMj 7 0 (by decide) (by decide) (by decide) (by decide) (by decide)))
          have hr_81 := (hA8_n_1).kept (hq_74 _ (hMj 8 0 (by decide) (by decide) (by decide) (by decide) (by decide)))
          have hr_82 := (hA9_n_1).kept (hq_74 _ (hMj 9 0 (by decide) (by decide) (by decide) (by decide) (by decide)))
          have hr_83 := (hA10_n_1).kept (hq_74 _ (hMj 10 0 (by decide) (by decide) (by decide) (by decide) (by decide)))
          have hr_84 := (hA11_n_1).kept (hq_74 _ (hMj 11 0 (by decide) (by decide) (by decide) (by decide) (by decide)))
          have hr_85 := (hA12_n_1).kept (hq_74 _ (hMj 12 0 (by decide) (by decide) (by decide) (by decide) (by decide)))
          have hr_86 := (hA13_n_1).kept (hq_74 _ (hMj 13 0 (by decide) (by decide) (by decide) (by decide) (by decide)))
          have hr_87 := (hA14_n_1).kept (hq_74 _ (hMj 14 0 (by decide) (by decide) (by decide) (by decide) (by decide)))
          have hr_88 := (hA15_n_1).kept (hq_74 _ (hMj 15 0 (by decide) (by decide) (by decide) (by decide) (by decide)))
          refine w_aload_n X dX4_setRates_47 hl 0 rfl rfl ?_
          refine w_get X hE ho_72 0 dX4_setRates_48 rfl hin_RX4 (by decide) (by decide +kernel) rfl rfl ?_
          refine w_if_ne X 86 dX4_setRates_51 (by decide) (by omega) (fun c_89 => ?_) (fun c_89 => ?_)
          · skip
            exact w_vrV X hr hk hS (ref_1 (y := 0) (z := 0) (P1 := ((0 ≤ i ∧ i < 4) ∧ (0 ≤ a ∧ a ≤ 60) ∧ (0 ≤ b ∧ b ≤ 60) ∧ (0 ≤ d ∧ d ≤ 60))) (P2 := True) (P3 := True) (σ := σ) (σ' := nxLand σ i.toNat (ratS (σ.1 i.toNat) a b d)) (by omega) rfl (ModAt.mk ho_72 hr_75 hr_76 hr_77 hr_78 hr_79 hr_80 hr_81 hr_82 hr_83 hr_84 hr_85 hr_86 hr_87 hr_88)).2 dX4_setRates_86 (Nat.le_of_ble_eq_true rfl) (Nat.le_of_ble_eq_true rfl)
          · skip
            exact absurd c_89 (by omega)
        · skip
          refine w_iconst X dX4_setRates_39 ?_
          refine w_goto X 44 dX4_setRates_40 (by decide) ?_
          refine w_put (ref := "TaxEqualiserModel") (v := .int (wI (0))) X hE hO_n_1 hS (hAM 0 (by decide) (by decide)) 0 dX4_setRates_44 rfl hin_RX4 tyX4 tyX4_ok nmX4 (by decide) (by decide +kernel) (fun _ h => h) rfl rfl rfl (Nat.le_of_ble_eq_true rfl) fun H_90 lo_91 ho_92 hz_93 hq_94 hS => ?_
          have ho_92 : Ob g H_90 (M 0) 5 [.int (wI (0)), .ref (M 1), .ref (M 2), .ref (M 3), .int (wI ((sn σ : Int))), .ref (M 5), .ref (M 6), .ref (M 7), .ref (M 8), .ref (M 9), .ref (M 10), .ref (M 11), .ref (M 12), .ref (M 13), .ref (M 14), .ref (M 15)] := ho_92
          have hr_95 := (hA1_n_1).kept (hq_94 _ (hMj 1 0 (by decide) (by decide) (by decide) (by decide) (by decide)))
          have hr_96 := (hA2_n_1).kept (hq_94 _ (hMj 2 0 (by decide) (by decide) (by decide) (by decide) (by decide)))
          have hr_97 := (hA3_n_1).kept (hq_94 _ (hMj 3 0 (by decide) (by decide) (by decide) (by decide) (by decide)))
          have hr_98 := (hA5_n_1).kept (hq_94 _ (hMj 5 0 (by decide) (by decide) (by decide) (by decide) (by decide)))
          have hr_99 := (hA6_n_1).kept (hq_94 _ (hMj 6 0 (by decide) (by decide) (by decide) (by decide) (by decide)))
          have hr_100 := (hA7_n_1).kept (hq_94 _ (hMj 7 0 (by decide) (by decide) (by decide) (by decide) (by decide)))
          have hr_101 := (hA8_n_1).kept (hq_94 _ (hMj 8 0 (by decide) (by decide) (by decide) (by decide) (by decide)))
          have hr_102 := (hA9_n_1).kept (hq_94 _ (hMj 9 0 (by decide) (by decide) (by decide) (by decide) (by decide)))
          have hr_103 := (hA10_n_1).kept (hq_94 _ (hMj 10 0 (by decide) (by decide) (by decide) (by decide) (by decide)))
          have hr_104 := (hA11_n_1).kept (hq_94 _ (hMj 11 0 (by decide) (by decide) (by decide) (by decide) (by decide)))
          have hr_105 := (hA12_n_1).kept (hq_94 _ (hMj 12 0 (by decide) (by decide) (by decide) (by decide) (by decide)))
          have hr_106 := (hA13_n_1).kept (hq_94 _ (hMj 13 0 (by decide) (by decide) (by decide) (by decide) (by decide)))
          have hr_107 := (hA14_n_1).kept (hq_94 _ (hMj 14 0 (by decide) (by decide) (by decide) (by decide) (by decide)))
          have hr_108 := (hA15_n_1).kept (hq_94 _ (hMj 15 0 (by decide) (by decide) (by decide) (by decide) (by decide)))
          refine w_aload_n X dX4_setRates_47 hl 0 rfl rfl ?_
          refine w_get X hE ho_92 0 dX4_setRates_48 rfl hin_RX4 (by decide) (by decide +kernel) rfl rfl ?_
          refine w_if_ne X 86 dX4_setRates_51 (by decide) (by omega) (fun c_109 => ?_) (fun c_109 => ?_)
          · skip
            exact absurd c_109 (by omega)
          · skip
            refine w_aload_n X dX4_setRates_54 hl 0 rfl rfl ?_
            refine w_get X hE ho_92 3 dX4_setRates_55 rfl hin_RX4 (by decide) (by decide +kernel) rfl rfl ?_
            refine w_iconst X dX4_setRates_58 ?_
            refine w_iload_n X dX4_setRates_59 hl 1 rfl rfl ?_
            refine w_imul X dX4_setRates_60 fun z_110 ez_110 => ?_
            refine w_iload_n X dX4_setRates_61 hl 2 rfl rfl ?_
            refine w_iast (x := wI (a)) X hE hr_97 hS (hAM 3 (by decide) (by decide)) dX4_setRates_62 (by omega) (by omega) (by omega) fun H_111 lo_112 hr_113 hz_114 hq_115 hS => ?_
            have ho_116 := (ho_92).kept (hq_115 _ (hMj 0 3 (by decide) (by decide) (by decide) (by decide) (by decide)))
            have hr_117 := (hr_95).kept (hq_115 _ (hMj 1 3 (by decide) (by decide) (by decide) (by decide) (by decide)))
            have hr_118 := (hr_96).kept (hq_115 _ (hMj 2 3 (by decide) (by decide) (by decide) (by decide) (by decide)))
            have hr_119 := (hr_98).kept (hq_115 _ (hMj 5 3 (by decide) (by decide) (by decide) (by decide) (by decide)))
            have hr_120 := (hr_99).kept (hq_115 _ (hMj 6 3 (by decide) (by decide) (by decide) (by decide) (by decide)))
            have hr_121 := (hr_100).kept (hq_115 _ (hMj 7 3 (by decide) (by decide) (by decide) (by decide) (by decide)))
            have hr_122 := (hr_101).kept (hq_115 _ (hMj 8 3 (by decide) (by decide) (by decide) (by decide) (by decide)))
            have hr_123 := (hr_102).kept (hq_115 _ (hMj 9 3 (by decide) (by decide) (by decide) (by decide) (by decide)))
            have hr_124 := (hr_103).kept (hq_115 _ (hMj 10 3 (by decide) (by decide) (by decide) (by decide) (by decide)))
            have hr_125 := (hr_104).kept (hq_115 _ (hMj 11 3 (by decide) (by decide) (by decide) (by decide) (by decide)))
            have hr_126 := (hr_105).kept (hq_115 _ (hMj 12 3 (by decide) (by decide) (by decide) (by decide) (by decide)))
            have hr_127 := (hr_106).kept (hq_115 _ (hMj 13 3 (by decide) (by decide) (by decide) (by decide) (by decide)))
            have hr_128 := (hr_107).kept (hq_115 _ (hMj 14 3 (by decide) (by decide) (by decide) (by decide) (by decide)))
            have hr_129 := (hr_108).kept (hq_115 _ (hMj 15 3 (by decide) (by decide) (by decide) (by decide) (by decide)))
            refine w_aload_n X dX4_setRates_63 hl 0 rfl rfl ?_
            refine w_get X hE ho_116 3 dX4_setRates_64 rfl hin_RX4 (by decide) (by decide +kernel) rfl rfl ?_
            refine w_iconst X dX4_setRates_67 ?_
            refine w_iload_n X dX4_setRates_68 hl 1 rfl rfl ?_
            refine w_imul X dX4_setRates_69 fun z_130 ez_130 => ?_
            refine w_iconst X dX4_setRates_70 ?_
            refine w_iadd X dX4_setRates_71 fun z_131 ez_131 => ?_
            refine w_iload_n X dX4_setRates_72 hl 3 rfl rfl ?_
            refine w_iast (x := wI (b)) X hE hr_113 hS (hAM 3 (by decide) (by decide)) dX4_setRates_73 (by omega) (by omega) (by omega) fun H_132 lo_133 hr_134 hz_135 hq_136 hS => ?_
            have ho_137 := (ho_116).kept (hq_136 _ (hMj 0 3 (by decide) (by decide) (by decide) (by decide) (by decide)))
            have hr_138 := (hr_117).kept (hq_136 _ (hMj 1 3 (by decide) (by decide) (by decide) (by decide) (by decide)))
            have hr_139 := (hr_118).kept (hq_136 _ (hMj 2 3 (by decide) (by decide) (by decide) (by decide) (by decide)))
            have hr_140 := (hr_119).kept (hq_136 _ (hMj 5 3 (by decide) (by decide) (by decide) (by decide) (by decide)))
            have hr_141 := (hr_120).kept (hq_136 _ (hMj 6 3 (by decide) (by decide) (by decide) (by decide) (by decide)))
            have hr_142 := (hr_121).kept (hq_136 _ (hMj 7 3 (by decide) (by decide) (by decide) (by decide) (by decide)))
            have hr_143 := (hr_122).kept (hq_136 _ (hMj 8 3 (by decide) (by decide) (by decide) (by decide) (by decide)))
            have hr_144 := (hr_123).kept (hq_136 _ (hMj 9 3 (by decide) (by decide) (by decide) (by decide) (by decide)))
            have hr_145 := (hr_124).kept (hq_136 _ (hMj 10 3 (by decide) (by decide) (by decide) (by decide) (by decide)))
            have hr_146 := (hr_125).kept (hq_136 _ (hMj 11 3 (by decide) (by decide) (by decide) (by decide) (by decide)))
            have hr_147 := (hr_126).kept (hq_136 _ (hMj 12 3 (by decide) (by decide) (by decide) (by decide) (by decide)))
            have hr_148 := (hr_127).kept (hq_136 _ (hMj 13 3 (by decide) (by decide) (by decide) (by decide) (by decide)))
            have hr_149 := (hr_128).kept (hq_136 _ (hMj 14 3 (by decide) (by decide) (by decide) (by decide) (by decide)))
            have hr_150 := (hr_129).kept (hq_136 _ (hMj 15 3 (by decide) (by decide) (by decide) (by decide) (by decide)))
            refine w_aload_n X dX4_setRates_74 hl 0 rfl rfl ?_
            refine w_get X hE ho_137 3 dX4_setRates_75 rfl hin_RX4 (by decide) (by decide +kernel) rfl rfl ?_
            refine w_iconst X dX4_setRates_78 ?_
            refine w_iload_n X dX4_setRates_79 hl 1 rfl rfl ?_
            refine w_imul X dX4_setRates_80 fun z_151 ez_151 => ?_
            refine w_iconst X dX4_setRates_81 ?_
            refine w_iadd X dX4_setRates_82 fun z_152 ez_152 => ?_
            refine w_iload X dX4_setRates_83 hl 4 rfl ?_
            refine w_iast (x := wI (d)) X hE hr_134 hS (hAM 3 (by decide) (by decide)) dX4_setRates_85 (by omega) (by omega) (by omega) fun H_153 lo_154 hr_155 hz_156 hq_157 hS => ?_
            have ho_158 := (ho_137).kept (hq_157 _ (hMj 0 3 (by decide) (by decide) (by decide) (by decide) (by decide)))
            have hr_159 := (hr_138).kept (hq_157 _ (hMj 1 3 (by decide) (by decide) (by decide) (by decide) (by decide)))
            have hr_160 := (hr_139).kept (hq_157 _ (hMj 2 3 (by decide) (by decide) (by decide) (by decide) (by decide)))
            have hr_161 := (hr_140).kept (hq_157 _ (hMj 5 3 (by decide) (by decide) (by decide) (by decide) (by decide)))
            have hr_162 := (hr_141).kept (hq_157 _ (hMj 6 3 (by decide) (by decide) (by decide) (by decide) (by decide)))
            have hr_163 := (hr_142).kept (hq_157 _ (hMj 7 3 (by decide) (by decide) (by decide) (by decide) (by decide)))
            have hr_164 := (hr_143).kept (hq_157 _ (hMj 8 3 (by decide) (by decide) (by decide) (by decide) (by decide)))
            have hr_165 := (hr_144).kept (hq_157 _ (hMj 9 3 (by decide) (by decide) (by decide) (by decide) (by decide)))
            have hr_166 := (hr_145).kept (hq_157 _ (hMj 10 3 (by decide) (by decide) (by decide) (by decide) (by decide)))
            have hr_167 := (hr_146).kept (hq_157 _ (hMj 11 3 (by decide) (by decide) (by decide) (by decide) (by decide)))
            have hr_168 := (hr_147).kept (hq_157 _ (hMj 12 3 (by decide) (by decide) (by decide) (by decide) (by decide)))
            have hr_169 := (hr_148).kept (hq_157 _ (hMj 13 3 (by decide) (by decide) (by decide) (by decide) (by decide)))
            have hr_170 := (hr_149).kept (hq_157 _ (hMj 14 3 (by decide) (by decide) (by decide) (by decide) (by decide)))
            have hr_171 := (hr_150).kept (hq_157 _ (hMj 15 3 (by decide) (by decide) (by decide) (by decide) (by decide)))
            exact w_vrV X hr hk hS (ref_y (y := 0) (z := 0) (P1 := ((0 ≤ i ∧ i < 4) ∧ (0 ≤ a ∧ a ≤ 60) ∧ (0 ≤ b ∧ b ≤ 60) ∧ (0 ≤ d ∧ d ≤ 60))) (P2 := True) (P3 := True) (σ := σ) (σ' := nxLand σ i.toNat (ratS (σ.1 i.toNat) a b d)) (by first | trivial | omega) (by first | trivial | omega) (by first | trivial | omega) rfl (ModAt.mk ho_158 (IA.ext hr_159 (fun j hj => (up_id σ.1 i.toNat (ratS (σ.1 i.toNat) a b d) (fun r => wI (r 0)) rfl j).symm)) (IA.ext hr_160 (fun j hj => (up_id σ.1 i.toNat (ratS (σ.1 i.toNat) a b d) (fun r => wI (r 1)) rfl j).symm)) (IA.ext hr_155 (fun j hj => rate_up (by omega) (by omega) (by omega) j)) hr_161 hr_162 hr_163 hr_164 hr_165 hr_166 hr_167 hr_168 hr_169 hr_170 hr_171)).2 dX4_setRates_86 (Nat.le_of_ble_eq_true rfl) (Nat.le_of_ble_eq_true rfl)
