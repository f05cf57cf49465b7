/-! the law: the dearest -/
theorem cst_bd {σ : St} (hσ : StGood σ) {i : Nat} (hi : i < sn σ) : -100000000 ≤ cst σ i ∧ cst σ i ≤ 100000000 := by
  obtain ⟨hg, hh0, hh1⟩ := hσ.2.2.1 i hi
  exact cos_bd (hσ.1 _ (by omega)) (hσ.1 _ (by omega)) hg

set_option maxHeartbeats 4000000 in
set_option maxRecDepth 100000 in
theorem c_L_dearest (l : Launch) (hl9 : l.stackTraces = false) (g : wG) (AX : Nat → Prop) (H : Heap) (hAn : ∀ q, H.size ≤ q → AX q) (x : Nat) (σ : St) (hσ : StGood σ) (hXv : XInv g AX x σ H) (hs3 : sn σ ≤ 3) (hs1 : 1 ≤ sn σ) : WrpR l g AX H yL_dearest wsL_dearest 9 192 6 36 [.ref x, .int (wI (sn σ : Int))] (fun w H1 => w = .int (wI 1) ∧ XInv g AX x σ H1) := by
  refine Imp2.of (cc := cL_dearest) (maxL := 5) (ret := (some .boolean)) (by decide) rfl (Nat.le_of_ble_eq_true rfl) ?_
  intro p e s m args below meth c X hE hEs hNx hr hk hS ls hl
  have hl : lv_has ls 5 [(0, .ref x), (1, .int (wI (sn σ : Int)))] := hl
  have hN : ∀ q, AX q → AX q := fun _ h => h
  rcases dear_is σ with ⟨d1, -⟩ | ⟨d1, d2, d3, d4⟩
  · exact absurd d1 (by omega)
  have fd := cst_bd hσ (i := (dearS σ).toNat) (by omega)
  have loop : ∀ (r n : Nat), n + r = sn σ → ∀ (H : Heap) (locs : List Loc), XInv g AX x σ H → (∀ q, H.size ≤ q → AX q) → va_S AX s.heap H locs → ∀ ls : Array Slot, lv_has ls 5 [(4, .int (wI ((n : Int)))), (3, .int (wI (1))), (2, .int (wI (dearS σ))), (1, .int (wI ((sn σ : Int)))), (0, .ref x)] → W p l e { frames := 9, cells := 6, slots := 36, locals := 192 } s m args below meth c H locs (2 * n) (12 * n) (MQ below (IQr AX (fun w H1 => w = .int (wI 1) ∧ XInv g AX x σ H1)) args s 6 36 AX) (F0 m 40 ls []) := by
    intro r
    induction r with
    | zero =>
      intro n hr9 H locs hXv hAn hS ls hl
      refine w_iload X dL_dearest_40 hl 0 rfl ?_
      refine w_iload_n X dL_dearest_42 hl 3 rfl rfl ?_
      refine w_icmp_ge X 104 dL_dearest_43 (by decide) (by omega) (by omega) (fun c_1 => ?_) (fun c_1 => ?_)
      · skip
        refine w_iload_n X dL_dearest_104 hl 1 rfl rfl ?_
        exact w_zrR X hr hk hS (Or.inr rfl) ⟨rfl, hXv⟩ dL_dearest_105 (by omega) (by omega)
      · skip
        exact absurd c_1 (by omega)
    | succ r ih =>
      intro n hr9 H locs hXv hAn hS ls hl
      obtain ⟨hAx, fs9, hxO⟩ := hXv.ob
      have fn := cst_bd hσ (i := n) (by omega)
      have q3 := d3 n
      have q4 : ¬ (n : Int) < dearS σ → cst σ n ≤ cst σ (dearS σ).toNat := fun h => by
        rcases Int.lt_or_le (dearS σ) n with q | q
        · exact d4 n q (by omega)
        · rw [show (dearS σ).toNat = n by omega]; exact Int.le_refl _
      refine w_iload X dL_dearest_40 hl 0 rfl ?_
      refine w_iload_n X dL_dearest_42 hl 3 rfl rfl ?_
      refine w_icmp_ge X 104 dL_dearest_43 (by decide) (by omega) (by omega) (fun c_1 => ?_) (fun c_1 => ?_)
      · skip
        exact absurd c_1 (by omega)
      · skip
        refine w_iload_n X dL_dearest_46 hl 1 rfl rfl ?_
        refine w_if_eq X 104 dL_dearest_47 (by decide) (by omega) (fun c_2 => ?_) (fun c_2 => ?_)
        · skip
          exact absurd c_2 (by omega)
        · skip
          refine w_iload X dL_dearest_50 hl 0 rfl ?_
          refine w_iload_n X dL_dearest_52 hl 2 rfl rfl ?_
          refine w_icmp_ge X 78 dL_dearest_53 (by decide) (by omega) (by omega) (fun c_3 => ?_) (fun c_3 => ?_)
          · skip
            refine w_aload_n X dL_dearest_78 hl 4 rfl rfl ?_
            refine w_iload X dL_dearest_79 hl 0 rfl ?_
            refine w_xr (vx_runV (As := [.int (wI ((n : Int)))]) (rest := []) X (c_X3_cost l hl9 g AX H x σ hσ hXv ((n : Int)) (by omega)) (cwV 1 X.2.2.2.2 gL_dearest_X3_cost rfl rfl rfl (by decide +kernel) ⟨(Nat.le_of_ble_eq_true rfl), (Nat.le_of_ble_eq_true rfl)⟩) (w_prVN hE hEs hS hN hxO rfl) rfl rfl hl.1 rfl (lv_room (Nat.le_of_ble_eq_true rfl)) dL_dearest_81 ⟨by show _ ≤ 6; omega, by show _ ≤ 36; omega⟩) hS hN ?_ fun v_9 H_4 lo_5 hp_6 hz_7 hq_8 hS => ?_
            · exact fun E ce q9 H9 lo9 hxp hz9 hq9 hS9 hce hcv hcl => absurd hxp.1.2 (by omega)
            obtain ⟨-, rfl, hXv⟩ := hp_6
            obtain ⟨hAx, fs9, hxO⟩ := hXv.ob
            have hAn : ∀ q, H_4.size ≤ q → AX q := fun q h => hAn q (by omega)
            obtain ⟨y_10, ey_10, hy_10⟩ : ∃ y : Int, cosS (sH σ ((n : Int)).toNat) (sT σ ((n : Int)).toNat) (sp σ ((n : Int)).toNat) (sb σ ((n : Int)).toNat) (so σ ((n : Int)).toNat) = y ∧ y = cst σ n := ⟨_, rfl, rfl⟩
            rw [ey_10]
            refine w_aload_n X dL_dearest_84 hl 4 rfl rfl ?_
            refine w_iload_n X dL_dearest_85 hl 2 rfl rfl ?_
            refine w_xr (vx_runV (As := [.int (wI (dearS σ))]) (rest := [.int (wI (y_10))]) X (c_X3_cost l hl9 g AX H_4 x σ hσ hXv (dearS σ) (by omega)) (cwV 1 X.2.2.2.2 gL_dearest_X3_cost rfl rfl rfl (by decide +kernel) ⟨(Nat.le_of_ble_eq_true rfl), (Nat.le_of_ble_eq_true rfl)⟩) (w_prVN hE hEs hS hN hxO rfl) rfl rfl hl.1 rfl (lv_room (Nat.le_of_ble_eq_true rfl)) dL_dearest_86 ⟨by show _ ≤ 6; omega, by show _ ≤ 36; omega⟩) hS hN ?_ fun v_16 H_11 lo_12 hp_13 hz_14 hq_15 hS => ?_
            · exact fun E ce q9 H9 lo9 hxp hz9 hq9 hS9 hce hcv hcl => absurd hxp.1.2 (by omega)
            obtain ⟨-, rfl, hXv⟩ := hp_13
            obtain ⟨hAx, fs9, hxO⟩ := hXv.ob
            have hAn : ∀ q, H_11.size ≤ q → AX q := fun q h => hAn q (by omega)
            obtain ⟨y_17, ey_17, hy_17⟩ : ∃ y : Int, cosS (sH σ (dearS σ).toNat) (sT σ (dearS σ).toNat) (sp σ (dearS σ).toNat) (sb σ (dearS σ).toNat) (so σ (dearS σ).toNat) = y ∧ y = cst σ (dearS σ).toNat := ⟨_, rfl, rfl⟩
            rw [ey_17]
            refine w_icmp_gt X 96 dL_dearest_89 (by decide) (by omega) (by omega) (fun c_18 => ?_) (fun c_18 => ?_)
            · skip
              exact absurd c_18 (by omega)
            · skip
              refine w_iconst X dL_dearest_92 ?_
              refine w_goto X 97 dL_dearest_93 (by decide) ?_
              refine w_istore_n X [(3, .int (wI (1))), (4, .int (wI ((n : Int)))), (2, .int (wI (dearS σ))), (1, .int (wI ((sn σ : Int)))), (0, .ref x)] dL_dearest_97 hl rfl (by decide) rfl fun ls hl => ?_
              refine w_iinc X (fun z_19 => [(4, .int (wI (z_19))), (3, .int (wI (1))), (2, .int (wI (dearS σ))), (1, .int (wI ((sn σ : Int)))), (0, .ref x)]) dL_dearest_98 hl 1 rfl (by decide) (fun _ => rfl) fun z_19 ez_19 ls hl => ?_
              refine w_goto X 40 dL_dearest_101 (by decide) ?_
              rw [show z_19 = ((n + 1 : Nat) : Int) by omega] at hl
              refine W.widen (k := 2 * (n + 1)) (n := 12 * (n + 1)) (by omega) (by omega) ?_
              exact ih (n + 1) (by omega) H_11 _ hXv hAn hS ls (lv_sub hl [0, 1, 2, 3, 4] rfl)
          · skip
            refine w_aload_n X dL_dearest_56 hl 4 rfl rfl ?_
            refine w_iload X dL_dearest_57 hl 0 rfl ?_
            refine w_xr (vx_runV (As := [.int (wI ((n : Int)))]) (rest := []) X (c_X3_cost l hl9 g AX H x σ hσ hXv ((n : Int)) (by omega)) (cwV 1 X.2.2.2.2 gL_dearest_X3_cost rfl rfl rfl (by decide +kernel) ⟨(Nat.le_of_ble_eq_true rfl), (Nat.le_of_ble_eq_true rfl)⟩) (w_prVN hE hEs hS hN hxO rfl) rfl rfl hl.1 rfl (lv_room (Nat.le_of_ble_eq_true rfl)) dL_dearest_59 ⟨by show _ ≤ 6; omega, by show _ ≤ 36; omega⟩) hS hN ?_ fun v_25 H_20 lo_21 hp_22 hz_23 hq_24 hS => ?_
            · exact fun E ce q9 H9 lo9 hxp hz9 hq9 hS9 hce hcv hcl => absurd hxp.1.2 (by omega)
            obtain ⟨-, rfl, hXv⟩ := hp_22
            obtain ⟨hAx, fs9, hxO⟩ := hXv.ob
            have hAn : ∀ q, H_20.size ≤ q → AX q := fun q h => hAn q (by omega)
            obtain ⟨y_26, ey_26, hy_26⟩ : ∃ y : Int, cosS (sH σ ((n : Int)).toNat) (sT σ ((n : Int)).toNat) (sp σ ((n : Int)).toNat) (sb σ ((n : Int)).toNat) (so σ ((n : Int)).toNat) = y ∧ y = cst σ n := ⟨_, rfl, rfl⟩
            rw [ey_26]
            refine w_aload_n X dL_dearest_62 hl 4 rfl rfl ?_
            refine w_iload_n X dL_dearest_63 hl 2 rfl rfl ?_
            refine w_xr (vx_runV (As := [.int (wI (dearS σ))]) (rest := [.int (wI (y_26))]) X (c_X3_cost l hl9 g AX H_20 x σ hσ hXv (dearS σ) (by omega)) (cwV 1 X.2.2.2.2 gL_dearest_X3_cost rfl rfl rfl (by decide +kernel) ⟨(Nat.le_of_ble_eq_true rfl), (Nat.le_of_ble_eq_true rfl)⟩) (w_prVN hE hEs hS hN hxO rfl) rfl rfl hl.1 rfl (lv_room (Nat.le_of_ble_eq_true rfl)) dL_dearest_64 ⟨by show _ ≤ 6; omega, by show _ ≤ 36; omega⟩) hS hN ?_ fun v_32 H_27 lo_28 hp_29 hz_30 hq_31 hS => ?_
            · exact fun E ce q9 H9 lo9 hxp hz9 hq9 hS9 hce hcv hcl => absurd hxp.1.2 (by omega)
            obtain ⟨-, rfl, hXv⟩ := hp_29
            obtain ⟨hAx, fs9, hxO⟩ := hXv.ob
            have hAn : ∀ q, H_27.size ≤ q → AX q := fun q h => hAn q (by omega)
            obtain ⟨y_33, ey_33, hy_33⟩ : ∃ y : Int, cosS (sH σ (dearS σ).toNat) (sT σ (dearS σ).toNat) (sp σ (dearS σ).toNat) (sb σ (dearS σ).toNat) (so σ (dearS σ).toNat) = y ∧ y = cst σ (dearS σ).toNat := ⟨_, rfl, rfl⟩
            rw [ey_33]
            refine w_icmp_ge X 74 dL_dearest_67 (by decide) (by omega) (by omega) (fun c_34 => ?_) (fun c_34 => ?_)
            · skip
              exact absurd c_34 (by omega)
            · skip
              refine w_iconst X dL_dearest_70 ?_
              refine w_goto X 97 dL_dearest_71 (by decide) ?_
              refine w_istore_n X [(3, .int (wI (1))), (4, .int (wI ((n : Int)))), (2, .int (wI (dearS σ))), (1, .int (wI ((sn σ : Int)))), (0, .ref x)] dL_dearest_97 hl rfl (by decide) rfl fun ls hl => ?_
              refine w_iinc X (fun z_35 => [(4, .int (wI (z_35))), (3, .int (wI (1))), (2, .int (wI (dearS σ))), (1, .int (wI ((sn σ : Int)))), (0, .ref x)]) dL_dearest_98 hl 1 rfl (by decide) (fun _ => rfl) fun z_35 ez_35 ls hl => ?_
              refine w_goto X 40 dL_dearest_101 (by decide) ?_
              rw [show z_35 = ((n + 1 : Nat) : Int) by omega] at hl
              refine W.widen (k := 2 * (n + 1)) (n := 12 * (n + 1)) (by omega) (by omega) ?_
              exact ih (n + 1) (by omega) H_27 _ hXv hAn hS ls (lv_sub hl [0, 1, 2, 3, 4] rfl)
  obtain ⟨hAx, fs9, hxO⟩ := hXv.ob
  refine w_aload_n X dL_dearest_0 hl 0 rfl rfl ?_
  refine w_callV (v := .int (wI (dearS σ))) 0 X hE (c_X3_dearest l g H AX x σ hσ hXv) hxO hl dL_dearest_1 gL_dearest_X3_dearest rfl rfl (by decide +kernel) ⟨(Nat.le_of_ble_eq_true rfl), (Nat.le_of_ble_eq_true rfl)⟩ rfl rfl (Nat.le_of_ble_eq_true rfl) ⟨by show _ ≤ 6; omega, by show _ ≤ 36; omega⟩ ?_
  refine w_istore_n X [(2, .int (wI (dearS σ))), (0, .ref x), (1, .int (wI ((sn σ : Int))))] dL_dearest_4 hl rfl (by decide) rfl fun ls hl => ?_
  refine w_iload_n X dL_dearest_5 hl 2 rfl rfl ?_
  refine w_if_ne X 22 dL_dearest_6 (by decide) (by omega) (fun c_1 => ?_) (fun c_1 => ?_)
  · skip
    refine w_iload_n X dL_dearest_22 hl 0 rfl rfl ?_
    refine w_if_lt X 35 dL_dearest_23 (by decide) (by omega) (fun c_2 => ?_) (fun c_2 => ?_)
    · skip
      exact absurd c_2 (by omega)
    · skip
      refine w_iload_n X dL_dearest_26 hl 0 rfl rfl ?_
      refine w_iload_n X dL_dearest_27 hl 2 rfl rfl ?_
      refine w_icmp_ge X 35 dL_dearest_28 (by decide) (by omega) (by omega) (fun c_3 => ?_) (fun c_3 => ?_)
      · skip
        exact absurd c_3 (by omega)
      · skip
        refine w_iconst X dL_dearest_31 ?_
        refine w_goto X 36 dL_dearest_32 (by decide) ?_
        refine w_istore_n X [(3, .int (wI (1))), (2, .int (wI (dearS σ))), (0, .ref x), (1, .int (wI ((sn σ : Int))))] dL_dearest_36 hl rfl (by decide) rfl fun ls hl => ?_
        refine w_iconst X dL_dearest_37 ?_
        refine w_istore X [(4, .int (wI (0))), (3, .int (wI (1))), (2, .int (wI (dearS σ))), (0, .ref x), (1, .int (wI ((sn σ : Int))))] dL_dearest_38 hl (by decide) rfl fun ls hl => ?_
        refine W.widen (k := 2 * 0) (n := 12 * 0) (by omega) (by omega) ?_
        exact loop (sn σ) 0 (by omega) H _ hXv hAn hS ls (lv_sub hl [0, 1, 2, 4, 3] rfl)
  · skip
    exact absurd c_1 (by omega)
