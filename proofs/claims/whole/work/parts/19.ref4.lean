/-! the reference: the dearest -/

/-- the last of those from k on who cost most -/
def IsLast (σ : St) (n k : Nat) (v : Int) : Prop := (k = n ∧ v = -1) ∨ ((k : Int) ≤ v ∧ v < n ∧ (∀ j : Nat, k ≤ j → (j : Int) < v → cst σ j < cst σ v.toNat) ∧ ∀ j : Nat, v < j → j < n → cst σ j ≤ cst σ v.toNat)
theorem IsLast.best {σ : St} {n : Nat} {v : Int} (h : IsLast σ n 0 v) : IsBest σ n v := by
  rcases h with ⟨h1, h2⟩ | ⟨h1, h2, h3, h4⟩
  · exact Or.inl ⟨h1.symm, h2⟩
  · exact Or.inr ⟨h1, h2, fun j hj => h3 j (Nat.zero_le _) hj, h4⟩
theorem IsLast.take {σ : St} {n k : Nat} {v : Int} (hk : k < n) (h : IsLast σ n (k + 1) v) (hv : v < 0 ∨ cst σ v.toNat ≤ cst σ k) : IsLast σ n k k := by
  refine Or.inr ⟨Int.le_refl _, by omega, fun j h1 h2 => absurd h2 (by omega), fun j h1 h2 => ?_⟩
  rw [show ((k : Int)).toNat = k from rfl]
  rcases h with ⟨q1, q2⟩ | ⟨q1, q2, q3, q4⟩
  · omega
  · have hv := hv.resolve_left (by omega)
    rcases Int.lt_trichotomy (j : Int) v with q | q | q
    · have := q3 j (by omega) q
      omega
    · rw [show j = v.toNat by omega]
      exact hv
    · have := q4 j q h2
      omega
theorem IsLast.keep {σ : St} {n k : Nat} {v : Int} (h : IsLast σ n (k + 1) v) (h0 : 0 ≤ v) (hv : cst σ k < cst σ v.toNat) : IsLast σ n k v := by
  rcases h with ⟨q1, q2⟩ | ⟨q1, q2, q3, q4⟩
  · omega
  · refine Or.inr ⟨by omega, q2, fun j h1 h2 => ?_, q4⟩
    rcases Nat.lt_or_ge k j with r | r
    · exact q3 j (by omega) h2
    · rw [show j = k by omega]
      exact hv

set_option maxHeartbeats 4000000 in
set_option maxRecDepth 100000 in
theorem c_X4_dearest (l : Launch) (g : wG) (A : Nat → Prop) (H : Heap) (M : Nat → Nat) (hAM : ∀ k, k < 16 → k ≠ 4 → A (M k)) (hMj : AInj M) (th : Int) (σ : St) (hM : ModAt g H M th σ) (hσ : StGood σ) : ImpR l g A H yX4_dearest wsX4_dearest 6 133 0 0 [.ref (M 0)] (fun v H1 => v = .int (wI (dearS σ)) ∧ ModAt g H1 M 0 σ) := by
  refine Imp.of (cc := cX4_dearest) (maxL := 3) (ret := (some .int)) (by decide) rfl (Nat.le_of_ble_eq_true rfl) ?_
  intro p9 e s m args below meth c X hE hEs hnm hr hk hS ls hl
  have hl : lv_has ls 3 [(0, .ref (M 0))] := hl
  obtain ⟨hs1, hs2, hs3, hs4⟩ := id hσ
  have hin_RX4 : ∀ w ∈ u_ws RX4 TX4 16, w ∈ wsX4_dearest := by decide +kernel
  have hGd := hE.dis
  have hO_n_1 : Ob g H (M 0) 5 [.int (wI (th)), .ref (M 1), .ref (M 2), .ref (M 3), .int (wI ((sn σ : Int))), .ref (M 5), .ref (M 6), .ref (M 7), .ref (M 8), .ref (M 9), .ref (M 10), .ref (M 11), .ref (M 12), .ref (M 13), .ref (M 14), .ref (M 15)] := hM 0 _ rfl
  have hA1_n_1 : IA g H (M 1) 4 (fun j => wI (σ.1 j 0)) := hM 1 _ rfl
  have hA2_n_1 : IA g H (M 2) 4 (fun j => wI (σ.1 j 1)) := hM 2 _ rfl
  have hA3_n_1 : IA g H (M 3) 12 (fun j => wI (σ.1 (j / 3) (2 + j % 3))) := hM 3 _ rfl
  have hA5_n_1 : IA g H (M 5) 10 (fun j => wI (sp σ j 0)) := hM 4 _ rfl
  have hA6_n_1 : IA g H (M 6) 10 (fun j => wI (sp σ j 1)) := hM 5 _ rfl
  have hA7_n_1 : IA g H (M 7) 10 (fun j => wI (sp σ j 2)) := hM 6 _ rfl
  have hA8_n_1 : IA g H (M 8) 10 (fun j => wI (sp σ j 3)) := hM 7 _ rfl
  have hA9_n_1 : IA g H (M 9) 10 (fun j => wI (sp σ j 4)) := hM 8 _ rfl
  have hA10_n_1 : IA g H (M 10) 10 (fun j => wI (sp σ j 5)) := hM 9 _ rfl
  have hA11_n_1 : IA g H (M 11) 10 (fun j => wI (sp σ j 6)) := hM 10 _ rfl
  have hA12_n_1 : IA g H (M 12) 10 (fun j => wI ((sb σ j : Int))) := hM 11 _ rfl
  have hA13_n_1 : IA g H (M 13) 60 (fun j => wI (so σ (j / 6) (j % 6) 0)) := hM 12 _ rfl
  have hA14_n_1 : IA g H (M 14) 60 (fun j => wI (so σ (j / 6) (j % 6) 1)) := hM 13 _ rfl
  have hA15_n_1 : IA g H (M 15) 60 (fun j => wI (so σ (j / 6) (j % 6) 2)) := hM 14 _ rfl
  refine w_aload_n X dX4_dearest_0 hl 0 rfl rfl ?_
  refine w_iconst X dX4_dearest_1 ?_
  refine w_put (ref := "TaxEqualiserModel") (v := .int (wI (0))) X hE hO_n_1 hS (hAM 0 (by decide) (by decide)) 0 dX4_dearest_2 rfl hin_RX4 tyX4 tyX4_ok nmX4 (by decide) (by decide +kernel) (fun _ h => h) rfl rfl rfl (Nat.le_of_ble_eq_true rfl) fun H_2 lo_3 ho_4 hz_5 hq_6 hS => ?_
  have ho_4 : Ob g H_2 (M 0) 5 [.int (wI (0)), .ref (M 1), .ref (M 2), .ref (M 3), .int (wI ((sn σ : Int))), .ref (M 5), .ref (M 6), .ref (M 7), .ref (M 8), .ref (M 9), .ref (M 10), .ref (M 11), .ref (M 12), .ref (M 13), .ref (M 14), .ref (M 15)] := ho_4
  have hr_7 := (hA1_n_1).kept (hq_6 _ (hMj 1 0 (by decide) (by decide) (by decide) (by decide) (by decide)))
  have hr_8 := (hA2_n_1).kept (hq_6 _ (hMj 2 0 (by decide) (by decide) (by decide) (by decide) (by decide)))
  have hr_9 := (hA3_n_1).kept (hq_6 _ (hMj 3 0 (by decide) (by decide) (by decide) (by decide) (by decide)))
  have hr_10 := (hA5_n_1).kept (hq_6 _ (hMj 5 0 (by decide) (by decide) (by decide) (by decide) (by decide)))
  have hr_11 := (hA6_n_1).kept (hq_6 _ (hMj 6 0 (by decide) (by decide) (by decide) (by decide) (by decide)))
  have hr_12 := (hA7_n_1).kept (hq_6 _ (hMj 7 0 (by decide) (by decide) (by decide) (by decide) (by decide)))
  have hr_13 := (hA8_n_1).kept (hq_6 _ (hMj 8 0 (by decide) (by decide) (by decide) (by decide) (by decide)))
  have hr_14 := (hA9_n_1).kept (hq_6 _ (hMj 9 0 (by decide) (by decide) (by decide) (by decide) (by decide)))
  have hr_15 := (hA10_n_1).kept (hq_6 _ (hMj 10 0 (by decide) (by decide) (by decide) (by decide) (by decide)))
  have hr_16 := (hA11_n_1).kept (hq_6 _ (hMj 11 0 (by decide) (by decide) (by decide) (by decide) (by decide)))
  have hr_17 := (hA12_n_1).kept (hq_6 _ (hMj 12 0 (by decide) (by decide) (by decide) (by decide) (by decide)))
  have hr_18 := (hA13_n_1).kept (hq_6 _ (hMj 13 0 (by decide) (by decide) (by decide) (by decide) (by decide)))
  have hr_19 := (hA14_n_1).kept (hq_6 _ (hMj 14 0 (by decide) (by decide) (by decide) (by decide) (by decide)))
  have hr_20 := (hA15_n_1).kept (hq_6 _ (hMj 15 0 (by decide) (by decide) (by decide) (by decide) (by decide)))
  refine w_iconst X dX4_dearest_5 ?_
  refine w_istore_n X [(1, .int (wI (-1))), (0, .ref (M 0))] dX4_dearest_6 hl rfl (by decide) rfl fun ls hl => ?_
  refine w_aload_n X dX4_dearest_7 hl 1 rfl rfl ?_
  refine w_get X hE ho_4 4 dX4_dearest_8 rfl hin_RX4 (by decide) (by decide +kernel) rfl rfl ?_
  refine w_iconst X dX4_dearest_11 ?_
  refine w_isub X dX4_dearest_12 fun z_21 ez_21 => ?_
  refine w_istore_n X [(2, .int (wI (z_21))), (1, .int (wI (-1))), (0, .ref (M 0))] dX4_dearest_13 hl rfl (by decide) rfl fun ls hl => ?_
  have hM_22 : ModAt g H_2 M (0) σ := ModAt.mk ho_4 hr_7 hr_8 hr_9 hr_10 hr_11 hr_12 hr_13 hr_14 hr_15 hr_16 hr_17 hr_18 hr_19 hr_20
  have loop : ∀ (k : Nat) (v : Int), k ≤ sn σ → IsLast σ (sn σ) k v → (-1 ≤ v ∧ v < sn σ) → ∀ ls : Array Slot, lv_has ls 3 [(2, .int (wI ((k : Int) - 1))), (1, .int (wI (v))), (0, .ref (M 0))] → W p9 l e { frames := 6, cells := 0, slots := 0, locals := 133 } s m args below meth c H_2 lo_3 0 0 (MQ below (IQr A (fun v H1 => v = .int (wI (dearS σ)) ∧ ModAt g H1 M 0 σ)) args s 0 0 A) (F0 m 14 ls []) := by
    intro k
    induction k with
    | zero =>
      intro v hkn hB hvb ls hl
      refine w_iload_n X dX4_dearest_14 hl 0 rfl rfl ?_
      refine w_if_lt X 47 dX4_dearest_15 (by decide) (by omega) (fun c_523 => ?_) (fun c_523 => ?_)
      · skip
        refine w_iload_n X dX4_dearest_47 hl 1 rfl rfl ?_
        exact w_irR X hr hk hS ⟨congrArg (fun t => Value.int (wI t)) (dearS_eq (IsLast.best hB)).symm, hM_22⟩ dX4_dearest_48 (Nat.le_of_ble_eq_true rfl) (Nat.le_of_ble_eq_true rfl)
      · skip
        exact absurd c_523 (by omega)
    | succ k ih =>
      intro v hkn hB hvb ls hl
      refine w_iload_n X dX4_dearest_14 hl 0 rfl rfl ?_
      refine w_if_lt X 47 dX4_dearest_15 (by decide) (by omega) (fun c_523 => ?_) (fun c_523 => ?_)
      · skip
        exact absurd c_523 (by omega)
      · skip
        refine w_iload_n X dX4_dearest_18 hl 1 rfl rfl ?_
        refine w_if_lt X 35 dX4_dearest_19 (by decide) (by omega) (fun c_524 => ?_) (fun c_524 => ?_)
        · skip
          refine w_iload_n X dX4_dearest_35 hl 0 rfl rfl ?_
          refine w_goto X 40 dX4_dearest_36 (by decide) ?_
          refine w_istore_n X [(1, .int (wI (((k + 1 : Nat) : Int) - 1))), (2, .int (wI (((k + 1 : Nat) : Int) - 1))), (0, .ref (M 0))] dX4_dearest_40 hl rfl (by decide) rfl fun ls hl => ?_
          refine w_iinc X (fun z_525 => [(2, .int (wI (z_525))), (1, .int (wI (((k + 1 : Nat) : Int) - 1))), (0, .ref (M 0))]) dX4_dearest_41 hl 1 rfl (by decide) (fun _ => rfl) fun z_525 ez_525 ls hl => ?_
          refine w_goto X 14 dX4_dearest_44 (by decide) ?_
          have ez9 : z_525 = (k : Int) - 1 := by omega
          rw [ez9] at hl
          rw [show ((k + 1 : Nat) : Int) - 1 = (k : Int) by omega] at *
          have ek9 : cst σ ((k : Int)).toNat = cst σ k := rfl
          exact ih (k : Int) (by omega) (IsLast.take (by omega) hB (by first | exact Or.inl (by omega) | exact Or.inr (by omega))) (by omega) ls (lv_sub hl [0, 1, 2] rfl)
        · skip
          refine w_aload_n X dX4_dearest_22 hl 2 rfl rfl ?_
          refine w_iload_n X dX4_dearest_23 hl 0 rfl rfl ?_
          refine w_callV (v := .int (wI (cst σ (((k + 1 : Nat) : Int) - 1).toNat))) 1 X hE (c_X4_costOf l g H_2 M 0 σ hM_22 hσ (((k + 1 : Nat) : Int) - 1) (by omega)) ho_4 hl dX4_dearest_24 gX4_dearest_X4_costOf rfl rfl (by decide +kernel) ⟨(Nat.le_of_ble_eq_true rfl), (Nat.le_of_ble_eq_true rfl)⟩ rfl rfl (Nat.le_of_ble_eq_true rfl) ⟨(Nat.le_of_ble_eq_true rfl), (Nat.le_of_ble_eq_true rfl)⟩ ?_
          have qc_525 : -100000000 ≤ cst σ (((k + 1 : Nat) : Int) - 1).toNat ∧ cst σ (((k + 1 : Nat) : Int) - 1).toNat ≤ 100000000 := cos_bd (hs1 _ (by have := hs3 (((k + 1 : Nat) : Int) - 1).toNat (by omega); omega)) (hs1 _ (by have := hs3 (((k + 1 : Nat) : Int) - 1).toNat (by omega); omega)) (hs3 (((k + 1 : Nat) : Int) - 1).toNat (by omega)).1
          refine w_aload_n X dX4_dearest_27 hl 2 rfl rfl ?_
          refine w_iload_n X dX4_dearest_28 hl 1 rfl rfl ?_
          refine w_callV (v := .int (wI (cst σ (v).toNat))) 1 X hE (c_X4_costOf l g H_2 M 0 σ hM_22 hσ (v) (by omega)) ho_4 hl dX4_dearest_29 gX4_dearest_X4_costOf rfl rfl (by decide +kernel) ⟨(Nat.le_of_ble_eq_true rfl), (Nat.le_of_ble_eq_true rfl)⟩ rfl rfl (Nat.le_of_ble_eq_true rfl) ⟨(Nat.le_of_ble_eq_true rfl), (Nat.le_of_ble_eq_true rfl)⟩ ?_
          have qc_525 : -100000000 ≤ cst σ (v).toNat ∧ cst σ (v).toNat ≤ 100000000 := cos_bd (hs1 _ (by have := hs3 (v).toNat (by omega); omega)) (hs1 _ (by have := hs3 (v).toNat (by omega); omega)) (hs3 (v).toNat (by omega)).1
          refine w_icmp_lt X 39 dX4_dearest_32 (by decide) (by omega) (by omega) (fun c_526 => ?_) (fun c_526 => ?_)
          · skip
            refine w_iload_n X dX4_dearest_39 hl 1 rfl rfl ?_
            refine w_istore_n X [(1, .int (wI (v))), (2, .int (wI (((k + 1 : Nat) : Int) - 1))), (0, .ref (M 0))] dX4_dearest_40 hl rfl (by decide) rfl fun ls hl => ?_
            refine w_iinc X (fun z_527 => [(2, .int (wI (z_527))), (1, .int (wI (v))), (0, .ref (M 0))]) dX4_dearest_41 hl 1 rfl (by decide) (fun _ => rfl) fun z_527 ez_527 ls hl => ?_
            refine w_goto X 14 dX4_dearest_44 (by decide) ?_
            have ez9 : z_527 = (k : Int) - 1 := by omega
            rw [ez9] at hl
            rw [show (((k + 1 : Nat) : Int) - 1).toNat = k by omega] at *
            exact ih v (by omega) (hB.keep (by omega) (by omega)) (by omega) ls (lv_sub hl [0, 1, 2] rfl)
          · skip
            refine w_iload_n X dX4_dearest_35 hl 0 rfl rfl ?_
            refine w_goto X 40 dX4_dearest_36 (by decide) ?_
            refine w_istore_n X [(1, .int (wI (((k + 1 : Nat) : Int) - 1))), (2, .int (wI (((k + 1 : Nat) : Int) - 1))), (0, .ref (M 0))] dX4_dearest_40 hl rfl (by decide) rfl fun ls hl => ?_
            refine w_iinc X (fun z_528 => [(2, .int (wI (z_528))), (1, .int (wI (((k + 1 : Nat) : Int) - 1))), (0, .ref (M 0))]) dX4_dearest_41 hl 1 rfl (by decide) (fun _ => rfl) fun z_528 ez_528 ls hl => ?_
            refine w_goto X 14 dX4_dearest_44 (by decide) ?_
            have ez9 : z_528 = (k : Int) - 1 := by omega
            rw [ez9] at hl
            rw [show ((k + 1 : Nat) : Int) - 1 = (k : Int) by omega] at *
            have ek9 : cst σ ((k : Int)).toNat = cst σ k := rfl
            exact ih (k : Int) (by omega) (IsLast.take (by omega) hB (by first | exact Or.inl (by omega) | exact Or.inr (by omega))) (by omega) ls (lv_sub hl [0, 1, 2] rfl)
  rw [show z_21 = (sn σ : Int) - 1 by omega] at hl
  exact loop (sn σ) (-1) (Nat.le_refl _) (Or.inl ⟨rfl, rfl⟩) (by omega) ls (lv_sub hl [0, 1, 2] rfl)
