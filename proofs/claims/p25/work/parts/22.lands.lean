/-! the law: lands -/

set_option maxHeartbeats 4000000 in
set_option maxRecDepth 100000 in
theorem c_L_isLand (l : Launch) (hl9 : l.stackTraces = false) (g : wG) (AX : Nat → Prop) (H : Heap) (hAn : ∀ q, H.size ≤ q → AX q) (x : Nat) (σ : St) (hσ : StGood σ) (hXv : XInv g AX x σ H) (al : Nat) (fl : Nat → Int32) (hAl : IA g H al 20 fl) (hLA : LA σ fl) (hnl : ¬ AX al) (z : Int32) : WrpR l g (AX) H yL_isLand wsL_isLand 8 137 6 36 [.ref x, .int (z), .ref al] (fun w H1 => w = .int (wI 1) ∧ XInv g AX x σ H1) := by
  refine Imp2.of (cc := cL_isLand) (maxL := 7) (ret := (some .boolean)) (by decide) rfl (Nat.le_of_ble_eq_true rfl) ?_
  intro p e s m args below meth c X hE hEs hNx hr hk hS ls hl
  have hl : lv_has ls 7 [(0, .ref x), (1, .int (z)), (2, .ref al)] := hl
  obtain ⟨hAx, fs9, hxO⟩ := hXv.ob
  have hN : ∀ q, AX q → AX q := fun _ h => h
  refine w_iload_n X dL_isLand_0 hl 1 rfl rfl ?_
  refine w_iconst X dL_isLand_1 ?_
  refine w_low X hE (by omega) hl dL_isLand_2 gL_isLand_L_low ⟨(Nat.le_of_ble_eq_true rfl), (Nat.le_of_ble_eq_true rfl)⟩ (Nat.le_of_ble_eq_true rfl) ⟨(Nat.le_of_ble_eq_true rfl), (Nat.le_of_ble_eq_true rfl)⟩ fun y_1 hy_1a hy_1b => ?_
  refine w_istore_n X [(3, .int (wI (y_1))), (0, .ref x), (1, .int (z)), (2, .ref al)] dL_isLand_5 hl rfl (by decide) rfl fun ls hl => ?_
  refine w_iload_n X dL_isLand_6 hl 2 rfl rfl ?_
  refine w_iconst X dL_isLand_7 ?_
  refine w_ishr X dL_isLand_8 fun v_2 => ?_
  refine w_iload_n X dL_isLand_9 hl 2 rfl rfl ?_
  refine w_bipush X dL_isLand_10 (by decide) ?_
  refine w_ishr X dL_isLand_12 fun v_3 => ?_
  refine w_iconst X dL_isLand_13 ?_
  refine w_low X hE (by omega) hl dL_isLand_14 gL_isLand_L_low ⟨(Nat.le_of_ble_eq_true rfl), (Nat.le_of_ble_eq_true rfl)⟩ (Nat.le_of_ble_eq_true rfl) ⟨(Nat.le_of_ble_eq_true rfl), (Nat.le_of_ble_eq_true rfl)⟩ fun y_4 hy_4a hy_4b => ?_
  refine w_if_ne X 25 dL_isLand_17 (by decide) (by omega) (fun c_5 => ?_) (fun c_5 => ?_)
  · skip
    refine w_ldc (v := 60000) (z := 60000) X dL_isLand_25 (by decide +kernel) (by decide) ?_
    refine w_low X hE (by omega) hl dL_isLand_27 gL_isLand_L_low ⟨(Nat.le_of_ble_eq_true rfl), (Nat.le_of_ble_eq_true rfl)⟩ (Nat.le_of_ble_eq_true rfl) ⟨(Nat.le_of_ble_eq_true rfl), (Nat.le_of_ble_eq_true rfl)⟩ fun y_6 hy_6a hy_6b => ?_
    refine w_istore X [(4, .int (wI (y_6))), (3, .int (wI (y_1))), (0, .ref x), (1, .int (z)), (2, .ref al)] dL_isLand_30 hl (by decide) rfl fun ls hl => ?_
    refine w_aload_n X dL_isLand_32 hl 2 rfl rfl ?_
    refine w_iload_n X dL_isLand_33 hl 1 rfl rfl ?_
    refine w_iload X dL_isLand_34 hl 0 rfl ?_
    refine w_xr (vx_runV (As := [.int (wI (y_1)), .int (wI (y_6))]) (rest := []) X (c_X3_tax l hl9 g AX H x σ hσ hXv (y_1) (y_6) (by omega) (by omega)) (cwV 2 X.2.2.2.2 gL_isLand_X3_tax rfl rfl rfl (by decide +kernel) ⟨(Nat.le_of_ble_eq_true rfl), (Nat.le_of_ble_eq_true rfl)⟩) (w_prVN hE hEs hS hN hxO rfl) rfl rfl hl.1 rfl (lv_room (Nat.le_of_ble_eq_true rfl)) dL_isLand_36 ⟨(Nat.le_of_ble_eq_true rfl), (Nat.le_of_ble_eq_true rfl)⟩) hS hN ?_ fun v_12 H_7 lo_8 hp_9 hz_10 hq_11 hS => ?_
    · exact fun E ce q9 H9 lo9 hxp hz9 hq9 hS9 hce hcv hcl => absurd hxp.1.2 (by omega)
    obtain ⟨-, rfl, hXv⟩ := hp_9
    obtain ⟨hAx, fs9, hxO⟩ := hXv.ob
    have hAl := hAl.kept (hq_11 _ hAl.lt hnl)
    have hAn : ∀ q, H_7.size ≤ q → AX q := fun q h => hAn q (by omega)
    have ft := taxS_bd (hσ.1 (y_1).toNat (by omega)) (n := y_6) (by omega)
    refine w_i2l X dL_isLand_39 (by omega) ?_
    refine w_iload_n X dL_isLand_40 hl 1 rfl rfl ?_
    refine w_iload X dL_isLand_41 hl 0 rfl ?_
    refine w_i2l X dL_isLand_43 (by omega) ?_
    refine w_aload_n X dL_isLand_44 hl 4 rfl rfl ?_
    refine w_callS (v := .long (wJ (taxS (σ.1 (y_1).toNat) (y_6)))) 3 X hE (c_L_tax l g H_7 σ hσ al _ hAl hLA (y_1) (by omega) (y_6) (by omega)) hl dL_isLand_45 gL_isLand_L_tax rfl rfl (by decide +kernel) ⟨(Nat.le_of_ble_eq_true rfl), (Nat.le_of_ble_eq_true rfl)⟩ rfl (Nat.le_of_ble_eq_true rfl) ⟨(Nat.le_of_ble_eq_true rfl), (Nat.le_of_ble_eq_true rfl)⟩ ?_
    refine w_lcmp X dL_isLand_48 (by omega) (by omega) fun z_13 ez_13a ez_13b ez_13c ez_13d => ?_
    refine w_if_ne X 76 dL_isLand_49 (by decide) (by omega) (fun c_14 => ?_) (fun c_14 => ?_)
    · skip
      exact absurd c_14 (by omega)
    · skip
      refine w_aload_n X dL_isLand_52 hl 2 rfl rfl ?_
      refine w_iload_n X dL_isLand_53 hl 1 rfl rfl ?_
      refine w_iload X dL_isLand_54 hl 0 rfl ?_
      refine w_xr (vx_runV (As := [.int (wI (y_1)), .int (wI (y_6))]) (rest := []) X (c_X3_grossTax l hl9 g AX H_7 x σ hσ hXv (y_1) (y_6) (by omega) (by omega)) (cwV 2 X.2.2.2.2 gL_isLand_X3_grossTax rfl rfl rfl (by decide +kernel) ⟨(Nat.le_of_ble_eq_true rfl), (Nat.le_of_ble_eq_true rfl)⟩) (w_prVN hE hEs hS hN hxO rfl) rfl rfl hl.1 rfl (lv_room (Nat.le_of_ble_eq_true rfl)) dL_isLand_56 ⟨(Nat.le_of_ble_eq_true rfl), (Nat.le_of_ble_eq_true rfl)⟩) hS hN ?_ fun v_20 H_15 lo_16 hp_17 hz_18 hq_19 hS => ?_
      · exact fun E ce q9 H9 lo9 hxp hz9 hq9 hS9 hce hcv hcl => absurd hxp.1.2 (by omega)
      obtain ⟨-, rfl, hXv⟩ := hp_17
      obtain ⟨hAx, fs9, hxO⟩ := hXv.ob
      have hAl := hAl.kept (hq_19 _ hAl.lt hnl)
      have hAn : ∀ q, H_15.size ≤ q → AX q := fun q h => hAn q (by omega)
      have fg := gross_bd (hσ.1 (y_1).toNat (by omega)) (n := y_6) (by omega)
      refine w_i2l X dL_isLand_59 (by omega) ?_
      refine w_iload_n X dL_isLand_60 hl 1 rfl rfl ?_
      refine w_iload X dL_isLand_61 hl 0 rfl ?_
      refine w_i2l X dL_isLand_63 (by omega) ?_
      refine w_aload_n X dL_isLand_64 hl 4 rfl rfl ?_
      refine w_callS (v := .long (wJ (grossS (σ.1 (y_1).toNat) (y_6)))) 3 X hE (c_L_gross l g H_15 σ hσ al _ hAl hLA (y_1) (by omega) (y_6) (by omega)) hl dL_isLand_65 gL_isLand_L_gross rfl rfl (by decide +kernel) ⟨(Nat.le_of_ble_eq_true rfl), (Nat.le_of_ble_eq_true rfl)⟩ rfl (Nat.le_of_ble_eq_true rfl) ⟨(Nat.le_of_ble_eq_true rfl), (Nat.le_of_ble_eq_true rfl)⟩ ?_
      refine w_lcmp X dL_isLand_68 (by omega) (by omega) fun z_21 ez_21a ez_21b ez_21c ez_21d => ?_
      refine w_if_ne X 76 dL_isLand_69 (by decide) (by omega) (fun c_22 => ?_) (fun c_22 => ?_)
      · skip
        exact absurd c_22 (by omega)
      · skip
        refine w_iconst X dL_isLand_72 ?_
        refine w_goto X 77 dL_isLand_73 (by decide) ?_
        refine w_istore X [(5, .int (wI (1))), (4, .int (wI (y_6))), (3, .int (wI (y_1))), (0, .ref x), (1, .int (z)), (2, .ref al)] dL_isLand_77 hl (by decide) rfl fun ls hl => ?_
        refine w_iload_n X dL_isLand_79 hl 4 rfl rfl ?_
        refine w_iconst X dL_isLand_80 ?_
        refine w_ishr X dL_isLand_81 fun v_23 => ?_
        refine w_sipush X dL_isLand_82 (by decide) ?_
        refine w_low X hE (by omega) hl dL_isLand_85 gL_isLand_L_low ⟨(Nat.le_of_ble_eq_true rfl), (Nat.le_of_ble_eq_true rfl)⟩ (Nat.le_of_ble_eq_true rfl) ⟨(Nat.le_of_ble_eq_true rfl), (Nat.le_of_ble_eq_true rfl)⟩ fun y_24 hy_24a hy_24b => ?_
        refine w_istore X [(6, .int (wI (y_24))), (5, .int (wI (1))), (4, .int (wI (y_6))), (3, .int (wI (y_1))), (0, .ref x), (1, .int (z)), (2, .ref al)] dL_isLand_88 hl (by decide) rfl fun ls hl => ?_
        refine w_iload X dL_isLand_90 hl 1 rfl ?_
        refine w_if_eq X 130 dL_isLand_92 (by decide) (by omega) (fun c_25 => ?_) (fun c_25 => ?_)
        · skip
          exact absurd c_25 (by omega)
        · skip
          refine w_iload_n X dL_isLand_95 hl 5 rfl rfl ?_
          refine w_iconst X dL_isLand_96 ?_
          refine w_ishr X dL_isLand_97 fun v_26 => ?_
          refine w_bipush X dL_isLand_98 (by decide) ?_
          refine w_low X hE (by omega) hl dL_isLand_100 gL_isLand_L_low ⟨(Nat.le_of_ble_eq_true rfl), (Nat.le_of_ble_eq_true rfl)⟩ (Nat.le_of_ble_eq_true rfl) ⟨(Nat.le_of_ble_eq_true rfl), (Nat.le_of_ble_eq_true rfl)⟩ fun y_27 hy_27a hy_27b => ?_
          refine w_if_gt X 126 dL_isLand_103 (by decide) (by omega) (fun c_28 => ?_) (fun c_28 => ?_)
          · skip
            refine w_iconst X dL_isLand_126 ?_
            refine w_goto X 131 dL_isLand_127 (by decide) ?_
            exact w_zrR X hr hk hS (Or.inr rfl) ⟨rfl, hXv⟩ dL_isLand_131 (Nat.le_of_ble_eq_true rfl) (Nat.le_of_ble_eq_true rfl)
          · skip
            refine w_aload_n X dL_isLand_106 hl 4 rfl rfl ?_
            refine w_iload_n X dL_isLand_107 hl 3 rfl rfl ?_
            refine w_iload X dL_isLand_108 hl 0 rfl ?_
            refine w_xr (vx_runV (As := [.int (wI (y_1)), .int (wI (y_24))]) (rest := []) X (c_X3_grossTaxByTrying l hl9 g AX H_15 x σ hσ hXv (y_1) (y_24) (by omega) (by omega)) (cwV 2 X.2.2.2.2 gL_isLand_X3_grossTaxByTrying rfl rfl rfl (by decide +kernel) ⟨(Nat.le_of_ble_eq_true rfl), (Nat.le_of_ble_eq_true rfl)⟩) (w_prVN hE hEs hS hN hxO rfl) rfl rfl hl.1 rfl (lv_room (Nat.le_of_ble_eq_true rfl)) dL_isLand_110 ⟨(Nat.le_of_ble_eq_true rfl), (Nat.le_of_ble_eq_true rfl)⟩) hS hN ?_ fun v_34 H_29 lo_30 hp_31 hz_32 hq_33 hS => ?_
            · exact fun E ce q9 H9 lo9 hxp hz9 hq9 hS9 hce hcv hcl => absurd hxp.1.2 (by omega)
            obtain ⟨-, rfl, hXv⟩ := hp_31
            obtain ⟨hAx, fs9, hxO⟩ := hXv.ob
            have hAl := hAl.kept (hq_33 _ hAl.lt hnl)
            have hAn : ∀ q, H_29.size ≤ q → AX q := fun q h => hAn q (by omega)
            have fg := gross_bd (hσ.1 (y_1).toNat (by omega)) (n := y_24) (by omega)
            refine w_i2l X dL_isLand_113 (by omega) ?_
            refine w_iload_n X dL_isLand_114 hl 3 rfl rfl ?_
            refine w_iload X dL_isLand_115 hl 0 rfl ?_
            refine w_i2l X dL_isLand_117 (by omega) ?_
            refine w_aload_n X dL_isLand_118 hl 6 rfl rfl ?_
            refine w_callS (v := .long (wJ (grossS (σ.1 (y_1).toNat) (y_24)))) 3 X hE (c_L_gross l g H_29 σ hσ al _ hAl hLA (y_1) (by omega) (y_24) (by omega)) hl dL_isLand_119 gL_isLand_L_gross rfl rfl (by decide +kernel) ⟨(Nat.le_of_ble_eq_true rfl), (Nat.le_of_ble_eq_true rfl)⟩ rfl (Nat.le_of_ble_eq_true rfl) ⟨(Nat.le_of_ble_eq_true rfl), (Nat.le_of_ble_eq_true rfl)⟩ ?_
            refine w_lcmp X dL_isLand_122 (by omega) (by omega) fun z_35 ez_35a ez_35b ez_35c ez_35d => ?_
            refine w_if_ne X 130 dL_isLand_123 (by decide) (by omega) (fun c_36 => ?_) (fun c_36 => ?_)
            · skip
              exact absurd c_36 (by omega)
            · skip
              refine w_iconst X dL_isLand_126 ?_
              refine w_goto X 131 dL_isLand_127 (by decide) ?_
              exact w_zrR X hr hk hS (Or.inr rfl) ⟨rfl, hXv⟩ dL_isLand_131 (Nat.le_of_ble_eq_true rfl) (Nat.le_of_ble_eq_true rfl)
  · skip
    refine w_ldc (v := 10000001) (z := 10000001) X dL_isLand_20 (by decide +kernel) (by decide) ?_
    refine w_goto X 27 dL_isLand_22 (by decide) ?_
    refine w_low X hE (by omega) hl dL_isLand_27 gL_isLand_L_low ⟨(Nat.le_of_ble_eq_true rfl), (Nat.le_of_ble_eq_true rfl)⟩ (Nat.le_of_ble_eq_true rfl) ⟨(Nat.le_of_ble_eq_true rfl), (Nat.le_of_ble_eq_true rfl)⟩ fun y_37 hy_37a hy_37b => ?_
    refine w_istore X [(4, .int (wI (y_37))), (3, .int (wI (y_1))), (0, .ref x), (1, .int (z)), (2, .ref al)] dL_isLand_30 hl (by decide) rfl fun ls hl => ?_
    refine w_aload_n X dL_isLand_32 hl 2 rfl rfl ?_
    refine w_iload_n X dL_isLand_33 hl 1 rfl rfl ?_
    refine w_iload X dL_isLand_34 hl 0 rfl ?_
    refine w_xr (vx_runV (As := [.int (wI (y_1)), .int (wI (y_37))]) (rest := []) X (c_X3_tax l hl9 g AX H x σ hσ hXv (y_1) (y_37) (by omega) (by omega)) (cwV 2 X.2.2.2.2 gL_isLand_X3_tax rfl rfl rfl (by decide +kernel) ⟨(Nat.le_of_ble_eq_true rfl), (Nat.le_of_ble_eq_true rfl)⟩) (w_prVN hE hEs hS hN hxO rfl) rfl rfl hl.1 rfl (lv_room (Nat.le_of_ble_eq_true rfl)) dL_isLand_36 ⟨(Nat.le_of_ble_eq_true rfl), (Nat.le_of_ble_eq_true rfl)⟩) hS hN ?_ fun v_43 H_38 lo_39 hp_40 hz_41 hq_42 hS => ?_
    · exact fun E ce q9 H9 lo9 hxp hz9 hq9 hS9 hce hcv hcl => absurd hxp.1.2 (by omega)
    obtain ⟨-, rfl, hXv⟩ := hp_40
    obtain ⟨hAx, fs9, hxO⟩ := hXv.ob
    have hAl := hAl.kept (hq_42 _ hAl.lt hnl)
    have hAn : ∀ q, H_38.size ≤ q → AX q := fun q h => hAn q (by omega)
    have ft := taxS_bd (hσ.1 (y_1).toNat (by omega)) (n := y_37) (by omega)
    refine w_i2l X dL_isLand_39 (by omega) ?_
    refine w_iload_n X dL_isLand_40 hl 1 rfl rfl ?_
    refine w_iload X dL_isLand_41 hl 0 rfl ?_
    refine w_i2l X dL_isLand_43 (by omega) ?_
    refine w_aload_n X dL_isLand_44 hl 4 rfl rfl ?_
    refine w_callS (v := .long (wJ (taxS (σ.1 (y_1).toNat) (y_37)))) 3 X hE (c_L_tax l g H_38 σ hσ al _ hAl hLA (y_1) (by omega) (y_37) (by omega)) hl dL_isLand_45 gL_isLand_L_tax rfl rfl (by decide +kernel) ⟨(Nat.le_of_ble_eq_true rfl), (Nat.le_of_ble_eq_true rfl)⟩ rfl (Nat.le_of_ble_eq_true rfl) ⟨(Nat.le_of_ble_eq_true rfl), (Nat.le_of_ble_eq_true rfl)⟩ ?_
    refine w_lcmp X dL_isLand_48 (by omega) (by omega) fun z_44 ez_44a ez_44b ez_44c ez_44d => ?_
    refine w_if_ne X 76 dL_isLand_49 (by decide) (by omega) (fun c_45 => ?_) (fun c_45 => ?_)
    · skip
      exact absurd c_45 (by omega)
    · skip
      refine w_aload_n X dL_isLand_52 hl 2 rfl rfl ?_
      refine w_iload_n X dL_isLand_53 hl 1 rfl rfl ?_
      refine w_iload X dL_isLand_54 hl 0 rfl ?_
      refine w_xr (vx_runV (As := [.int (wI (y_1)), .int (wI (y_37))]) (rest := []) X (c_X3_grossTax l hl9 g AX H_38 x σ hσ hXv (y_1) (y_37) (by omega) (by omega)) (cwV 2 X.2.2.2.2 gL_isLand_X3_grossTax rfl rfl rfl (by decide +kernel) ⟨(Nat.le_of_ble_eq_true rfl), (Nat.le_of_ble_eq_true rfl)⟩) (w_prVN hE hEs hS hN hxO rfl) rfl rfl hl.1 rfl (lv_room (Nat.le_of_ble_eq_true rfl)) dL_isLand_56 ⟨(Nat.le_of_ble_eq_true rfl), (Nat.le_of_ble_eq_true rfl)⟩) hS hN ?_ fun v_51 H_46 lo_47 hp_48 hz_49 hq_50 hS => ?_
      · exact fun E ce q9 H9 lo9 hxp hz9 hq9 hS9 hce hcv hcl => absurd hxp.1.2 (by omega)
      obtain ⟨-, rfl, hXv⟩ := hp_48
      obtain ⟨hAx, fs9, hxO⟩ := hXv.ob
      have hAl := hAl.kept (hq_50 _ hAl.lt hnl)
      have hAn : ∀ q, H_46.size ≤ q → AX q := fun q h => hAn q (by omega)
      have fg := gross_bd (hσ.1 (y_1).toNat (by omega)) (n := y_37) (by omega)
      refine w_i2l X dL_isLand_59 (by omega) ?_
      refine w_iload_n X dL_isLand_60 hl 1 rfl rfl ?_
      refine w_iload X dL_isLand_61 hl 0 rfl ?_
      refine w_i2l X dL_isLand_63 (by omega) ?_
      refine w_aload_n X dL_isLand_64 hl 4 rfl rfl ?_
      refine w_callS (v := .long (wJ (grossS (σ.1 (y_1).toNat) (y_37)))) 3 X hE (c_L_gross l g H_46 σ hσ al _ hAl hLA (y_1) (by omega) (y_37) (by omega)) hl dL_isLand_65 gL_isLand_L_gross rfl rfl (by decide +kernel) ⟨(Nat.le_of_ble_eq_true rfl), (Nat.le_of_ble_eq_true rfl)⟩ rfl (Nat.le_of_ble_eq_true rfl) ⟨(Nat.le_of_ble_eq_true rfl), (Nat.le_of_ble_eq_true rfl)⟩ ?_
      refine w_lcmp X dL_isLand_68 (by omega) (by omega) fun z_52 ez_52a ez_52b ez_52c ez_52d => ?_
      refine w_if_ne X 76 dL_isLand_69 (by decide) (by omega) (fun c_53 => ?_) (fun c_53 => ?_)
      · skip
        exact absurd c_53 (by omega)
      · skip
        refine w_iconst X dL_isLand_72 ?_
        refine w_goto X 77 dL_isLand_73 (by decide) ?_
        refine w_istore X [(5, .int (wI (1))), (4, .int (wI (y_37))), (3, .int (wI (y_1))), (0, .ref x), (1, .int (z)), (2, .ref al)] dL_isLand_77 hl (by decide) rfl fun ls hl => ?_
        refine w_iload_n X dL_isLand_79 hl 4 rfl rfl ?_
        refine w_iconst X dL_isLand_80 ?_
        refine w_ishr X dL_isLand_81 fun v_54 => ?_
        refine w_sipush X dL_isLand_82 (by decide) ?_
        refine w_low X hE (by omega) hl dL_isLand_85 gL_isLand_L_low ⟨(Nat.le_of_ble_eq_true rfl), (Nat.le_of_ble_eq_true rfl)⟩ (Nat.le_of_ble_eq_true rfl) ⟨(Nat.le_of_ble_eq_true rfl), (Nat.le_of_ble_eq_true rfl)⟩ fun y_55 hy_55a hy_55b => ?_
        refine w_istore X [(6, .int (wI (y_55))), (5, .int (wI (1))), (4, .int (wI (y_37))), (3, .int (wI (y_1))), (0, .ref x), (1, .int (z)), (2, .ref al)] dL_isLand_88 hl (by decide) rfl fun ls hl => ?_
        refine w_iload X dL_isLand_90 hl 1 rfl ?_
        refine w_if_eq X 130 dL_isLand_92 (by decide) (by omega) (fun c_56 => ?_) (fun c_56 => ?_)
        · skip
          exact absurd c_56 (by omega)
        · skip
          refine w_iload_n X dL_isLand_95 hl 5 rfl rfl ?_
          refine w_iconst X dL_isLand_96 ?_
          refine w_ishr X dL_isLand_97 fun v_57 => ?_
          refine w_bipush X dL_isLand_98 (by decide) ?_
          refine w_low X hE (by omega) hl dL_isLand_100 gL_isLand_L_low ⟨(Nat.le_of_ble_eq_true rfl), (Nat.le_of_ble_eq_true rfl)⟩ (Nat.le_of_ble_eq_true rfl) ⟨(Nat.le_of_ble_eq_true rfl), (Nat.le_of_ble_eq_true rfl)⟩ fun y_58 hy_58a hy_58b => ?_
          refine w_if_gt X 126 dL_isLand_103 (by decide) (by omega) (fun c_59 => ?_) (fun c_59 => ?_)
          · skip
            refine w_iconst X dL_isLand_126 ?_
            refine w_goto X 131 dL_isLand_127 (by decide) ?_
            exact w_zrR X hr hk hS (Or.inr rfl) ⟨rfl, hXv⟩ dL_isLand_131 (Nat.le_of_ble_eq_true rfl) (Nat.le_of_ble_eq_true rfl)
          · skip
            refine w_aload_n X dL_isLand_106 hl 4 rfl rfl ?_
            refine w_iload_n X dL_isLand_107 hl 3 rfl rfl ?_
            refine w_iload X dL_isLand_108 hl 0 rfl ?_
            refine w_xr (vx_runV (As := [.int (wI (y_1)), .int (wI (y_55))]) (rest := []) X (c_X3_grossTaxByTrying l hl9 g AX H_46 x σ hσ hXv (y_1) (y_55) (by omega) (by omega)) (cwV 2 X.2.2.2.2 gL_isLand_X3_grossTaxByTrying rfl rfl rfl (by decide +kernel) ⟨(Nat.le_of_ble_eq_true rfl), (Nat.le_of_ble_eq_true rfl)⟩) (w_prVN hE hEs hS hN hxO rfl) rfl rfl hl.1 rfl (lv_room (Nat.le_of_ble_eq_true rfl)) dL_isLand_110 ⟨(Nat.le_of_ble_eq_true rfl), (Nat.le_of_ble_eq_true rfl)⟩) hS hN ?_ fun v_65 H_60 lo_61 hp_62 hz_63 hq_64 hS => ?_
            · exact fun E ce q9 H9 lo9 hxp hz9 hq9 hS9 hce hcv hcl => absurd hxp.1.2 (by omega)
            obtain ⟨-, rfl, hXv⟩ := hp_62
            obtain ⟨hAx, fs9, hxO⟩ := hXv.ob
            have hAl := hAl.kept (hq_64 _ hAl.lt hnl)
            have hAn : ∀ q, H_60.size ≤ q → AX q := fun q h => hAn q (by omega)
            have fg := gross_bd (hσ.1 (y_1).toNat (by omega)) (n := y_55) (by omega)
            refine w_i2l X dL_isLand_113 (by omega) ?_
            refine w_iload_n X dL_isLand_114 hl 3 rfl rfl ?_
            refine w_iload X dL_isLand_115 hl 0 rfl ?_
            refine w_i2l X dL_isLand_117 (by omega) ?_
            refine w_aload_n X dL_isLand_118 hl 6 rfl rfl ?_
            refine w_callS (v := .long (wJ (grossS (σ.1 (y_1).toNat) (y_55)))) 3 X hE (c_L_gross l g H_60 σ hσ al _ hAl hLA (y_1) (by omega) (y_55) (by omega)) hl dL_isLand_119 gL_isLand_L_gross rfl rfl (by decide +kernel) ⟨(Nat.le_of_ble_eq_true rfl), (Nat.le_of_ble_eq_true rfl)⟩ rfl (Nat.le_of_ble_eq_true rfl) ⟨(Nat.le_of_ble_eq_true rfl), (Nat.le_of_ble_eq_true rfl)⟩ ?_
            refine w_lcmp X dL_isLand_122 (by omega) (by omega) fun z_66 ez_66a ez_66b ez_66c ez_66d => ?_
            refine w_if_ne X 130 dL_isLand_123 (by decide) (by omega) (fun c_67 => ?_) (fun c_67 => ?_)
            · skip
              exact absurd c_67 (by omega)
            · skip
              refine w_iconst X dL_isLand_126 ?_
              refine w_goto X 131 dL_isLand_127 (by decide) ?_
              exact w_zrR X hr hk hS (Or.inr rfl) ⟨rfl, hXv⟩ dL_isLand_131 (Nat.le_of_ble_eq_true rfl) (Nat.le_of_ble_eq_true rfl)

set_option maxHeartbeats 4000000 in
set_option maxRecDepth 100000 in
theorem c_L_lands (l : Launch) (hl9 : l.stackTraces = false) (g : wG) (AX : Nat → Prop) (H : Heap) (hAn : ∀ q, H.size ≤ q → AX q) (x : Nat) (σ : St) (hσ : StGood σ) (hXv : XInv g AX x σ H) (al : Nat) (fl : Nat → Int32) (hAl : IA g H al 20 fl) (hLA : LA σ fl) (hnl : ¬ AX al) (z : Int32) : WrpR l g (AW AX al) H yL_lands wsL_lands 8 139 4 24 [.ref x, .int (z), .ref al] (fun w H1 => w = .int (wI 1) ∧ ∃ (i : Nat) (L : Nat → Int) (fl9 : Nat → Int32), i < 4 ∧ StGood (nxLand σ i L) ∧ XInv g AX x (nxLand σ i L) H1 ∧ IA g H1 al 20 fl9 ∧ LA (nxLand σ i L) fl9) := by
  refine Imp2.of (cc := cL_lands) (maxL := 4) (ret := (some .boolean)) (by decide) rfl (Nat.le_of_ble_eq_true rfl) ?_
  intro p e s m args below meth c X hE hEs hNx hr hk hS ls hl
  have hl : lv_has ls 4 [(0, .ref x), (1, .int (z)), (2, .ref al)] := hl
  obtain ⟨hAx, fs9, hxO⟩ := hXv.ob
  have hN : ∀ q, AX q → AW AX al q := fun _ h => Or.inl h
  refine w_iconst X dL_lands_0 ?_
  refine w_iload_n X dL_lands_1 hl 1 rfl rfl ?_
  refine w_iconst X dL_lands_2 ?_
  refine w_low X hE (by omega) hl dL_lands_3 gL_lands_L_low ⟨(Nat.le_of_ble_eq_true rfl), (Nat.le_of_ble_eq_true rfl)⟩ (Nat.le_of_ble_eq_true rfl) ⟨(Nat.le_of_ble_eq_true rfl), (Nat.le_of_ble_eq_true rfl)⟩ fun y_1 hy_1a hy_1b => ?_
  refine w_imul X dL_lands_6 fun z_2 ez_2 => ?_
  refine w_istore_n X [(3, .int (wI (z_2))), (0, .ref x), (1, .int (z)), (2, .ref al)] dL_lands_7 hl rfl (by decide) rfl fun ls hl => ?_
  refine w_iload_n X dL_lands_8 hl 2 rfl rfl ?_
  refine w_iconst X dL_lands_9 ?_
  refine w_ishr X dL_lands_10 fun v_3 => ?_
  refine w_iconst X dL_lands_11 ?_
  refine w_low X hE (by omega) hl dL_lands_12 gL_lands_L_low ⟨(Nat.le_of_ble_eq_true rfl), (Nat.le_of_ble_eq_true rfl)⟩ (Nat.le_of_ble_eq_true rfl) ⟨(Nat.le_of_ble_eq_true rfl), (Nat.le_of_ble_eq_true rfl)⟩ fun y_4 hy_4a hy_4b => ?_
  refine w_if_ne X 116 dL_lands_15 (by decide) (by omega) (fun c_5 => ?_) (fun c_5 => ?_)
  · skip
    refine w_aload_n X dL_lands_116 hl 3 rfl rfl ?_
    refine w_iload_n X dL_lands_117 hl 0 rfl rfl ?_
    refine w_iconst X dL_lands_118 ?_
    refine w_iadd X dL_lands_119 fun z_6 ez_6 => ?_
    refine w_iload_n X dL_lands_120 hl 2 rfl rfl ?_
    refine w_iconst X dL_lands_121 ?_
    refine w_ishr X dL_lands_122 fun v_7 => ?_
    refine w_bipush X dL_lands_123 (by decide) ?_
    refine w_low X hE (by omega) hl dL_lands_125 gL_lands_L_low ⟨(Nat.le_of_ble_eq_true rfl), (Nat.le_of_ble_eq_true rfl)⟩ (Nat.le_of_ble_eq_true rfl) ⟨(Nat.le_of_ble_eq_true rfl), (Nat.le_of_ble_eq_true rfl)⟩ fun y_8 hy_8a hy_8b => ?_
    refine w_iast X hE hAl hS (Or.inr rfl) dL_lands_128 (by omega) (by omega) (by omega) fun H_9 lo_10 hAl hz_11 hq_12 hS => ?_
    have hXv := hXv.kept (fun q h1 h2 => hq_12 q (fun e => hnl (e ▸ h1)))
    obtain ⟨hAx, fs9, hxO⟩ := hXv.ob
    have hAn : ∀ q, H_9.size ≤ q → AX q := fun q h => hAn q (by omega)
    refine w_aload_n X dL_lands_129 hl 3 rfl rfl ?_
    refine w_iload_n X dL_lands_130 hl 0 rfl rfl ?_
    refine w_iconst X dL_lands_131 ?_
    refine w_iadd X dL_lands_132 fun z_13 ez_13 => ?_
    refine w_iload_n X dL_lands_133 hl 2 rfl rfl ?_
    refine w_bipush X dL_lands_134 (by decide) ?_
    refine w_ishr X dL_lands_136 fun v_14 => ?_
    refine w_bipush X dL_lands_137 (by decide) ?_
    refine w_low X hE (by omega) hl dL_lands_139 gL_lands_L_low ⟨(Nat.le_of_ble_eq_true rfl), (Nat.le_of_ble_eq_true rfl)⟩ (Nat.le_of_ble_eq_true rfl) ⟨(Nat.le_of_ble_eq_true rfl), (Nat.le_of_ble_eq_true rfl)⟩ fun y_15 hy_15a hy_15b => ?_
    refine w_iast X hE hAl hS (Or.inr rfl) dL_lands_142 (by omega) (by omega) (by omega) fun H_16 lo_17 hAl hz_18 hq_19 hS => ?_
    have hXv := hXv.kept (fun q h1 h2 => hq_19 q (fun e => hnl (e ▸ h1)))
    obtain ⟨hAx, fs9, hxO⟩ := hXv.ob
    have hAn : ∀ q, H_16.size ≤ q → AX q := fun q h => hAn q (by omega)
    refine w_aload_n X dL_lands_143 hl 3 rfl rfl ?_
    refine w_iload_n X dL_lands_144 hl 0 rfl rfl ?_
    refine w_iconst X dL_lands_145 ?_
    refine w_iadd X dL_lands_146 fun z_20 ez_20 => ?_
    refine w_iload_n X dL_lands_147 hl 2 rfl rfl ?_
    refine w_bipush X dL_lands_148 (by decide) ?_
    refine w_ishr X dL_lands_150 fun v_21 => ?_
    refine w_bipush X dL_lands_151 (by decide) ?_
    refine w_low X hE (by omega) hl dL_lands_153 gL_lands_L_low ⟨(Nat.le_of_ble_eq_true rfl), (Nat.le_of_ble_eq_true rfl)⟩ (Nat.le_of_ble_eq_true rfl) ⟨(Nat.le_of_ble_eq_true rfl), (Nat.le_of_ble_eq_true rfl)⟩ fun y_22 hy_22a hy_22b => ?_
    refine w_iast X hE hAl hS (Or.inr rfl) dL_lands_156 (by omega) (by omega) (by omega) fun H_23 lo_24 hAl hz_25 hq_26 hS => ?_
    have hXv := hXv.kept (fun q h1 h2 => hq_26 q (fun e => hnl (e ▸ h1)))
    obtain ⟨hAx, fs9, hxO⟩ := hXv.ob
    have hAn : ∀ q, H_23.size ≤ q → AX q := fun q h => hAn q (by omega)
    refine w_aload_n X dL_lands_157 hl 1 rfl rfl ?_
    refine w_iload_n X dL_lands_158 hl 0 rfl rfl ?_
    refine w_iconst X dL_lands_159 ?_
    refine w_idiv X dL_lands_160 (by omega) (by omega) fun z_27 ez_27 => ?_
    refine w_aload_n X dL_lands_161 hl 3 rfl rfl ?_
    refine w_iload_n X dL_lands_162 hl 0 rfl rfl ?_
    refine w_iconst X dL_lands_163 ?_
    refine w_iadd X dL_lands_164 fun z_28 ez_28 => ?_
    refine w_iald (y := wI (y_8)) X hE hAl dL_lands_165 (by omega) (by omega) (by omega) ((va_up_ne _ _ (by omega)).trans ((va_up_ne _ _ (by omega)).trans (va_up_at _ _ (by omega)))) ?_
    refine w_aload_n X dL_lands_166 hl 3 rfl rfl ?_
    refine w_iload_n X dL_lands_167 hl 0 rfl rfl ?_
    refine w_iconst X dL_lands_168 ?_
    refine w_iadd X dL_lands_169 fun z_29 ez_29 => ?_
    refine w_iald (y := wI (y_15)) X hE hAl dL_lands_170 (by omega) (by omega) (by omega) ((va_up_ne _ _ (by omega)).trans (va_up_at _ _ (by omega))) ?_
    refine w_aload_n X dL_lands_171 hl 3 rfl rfl ?_
    refine w_iload_n X dL_lands_172 hl 0 rfl rfl ?_
    refine w_iconst X dL_lands_173 ?_
    refine w_iadd X dL_lands_174 fun z_30 ez_30 => ?_
    refine w_iald (y := wI (y_22)) X hE hAl dL_lands_175 (by omega) (by omega) (by omega) (va_up_at _ _ (by omega)) ?_
    refine w_xv (vx_runV (As := [.int (wI (z_27)), .int (wI (y_8)), .int (wI (y_15)), .int (wI (y_22))]) (rest := []) X (c_X3_setRates l hl9 g AX H_23 x σ hσ hXv (z_27) (y_8) (y_15) (y_22) (by omega) (by omega) (by omega) (by omega)) (cwV 4 X.2.2.2.2 gL_lands_X3_setRates rfl rfl rfl (by decide +kernel) ⟨(Nat.le_of_ble_eq_true rfl), (Nat.le_of_ble_eq_true rfl)⟩) (w_prVN hE hEs hS hN hxO rfl) rfl rfl hl.1 rfl (lv_room (Nat.le_of_ble_eq_true rfl)) dL_lands_176 ⟨(Nat.le_of_ble_eq_true rfl), (Nat.le_of_ble_eq_true rfl)⟩) hS hN ?_ fun H_31 lo_32 hp_33 hz_34 hq_35 hS => ?_
    · exact fun E ce q9 H9 lo9 hxp hz9 hq9 hS9 hce hcv hcl => absurd hxp.1.2 (by omega)
    obtain ⟨-, hXv⟩ := hp_33
    obtain ⟨hAx, fs9, hxO⟩ := hXv.ob
    have hAl := hAl.kept (hq_35 _ hAl.lt hnl)
    have hAn : ∀ q, H_31.size ≤ q → AX q := fun q h => hAn q (by omega)
    refine w_iconst X dL_lands_179 ?_
    have q1 : ∀ k, k < 5 → (up (up (up fl (z_6).toNat (wI (y_8))) (z_13).toNat (wI (y_15))) (z_20).toNat (wI (y_22))) (5 * (z_27).toNat + k) = wI ((ratS (σ.1 (z_27).toNat) (y_8) (y_15) (y_22)) k) :=
      fun k hk => by
        rcases (by omega : k = 0 ∨ k = 1 ∨ k = 2 ∨ k = 3 ∨ k = 4) with rfl | rfl | rfl | rfl | rfl
        · exact (va_up_ne _ _ (by omega)).trans ((va_up_ne _ _ (by omega)).trans ((va_up_ne _ _ (by omega)).trans (hLA _ 0 (by omega) (by omega))))
        · exact (va_up_ne _ _ (by omega)).trans ((va_up_ne _ _ (by omega)).trans ((va_up_ne _ _ (by omega)).trans (hLA _ 1 (by omega) (by omega))))
        · exact (va_up_ne _ _ (by omega)).trans ((va_up_ne _ _ (by omega)).trans (va_up_at _ _ (by omega)))
        · exact (va_up_ne _ _ (by omega)).trans (va_up_at _ _ (by omega))
        · exact va_up_at _ _ (by omega)
    have q2 : ∀ q, (q < 5 * (z_27).toNat ∨ 5 * (z_27).toNat + 5 ≤ q) → (up (up (up fl (z_6).toNat (wI (y_8))) (z_13).toNat (wI (y_15))) (z_20).toNat (wI (y_22))) q = fl q := fun q hq => (va_up_ne _ _ (by omega)).trans ((va_up_ne _ _ (by omega)).trans ((va_up_ne _ _ (by omega))))
    exact w_zrR X hr hk hS (Or.inr rfl) ⟨rfl, (z_27).toNat, _, _, by omega, hσ.land (L := ratS (σ.1 (z_27).toNat) (y_8) (y_15) (y_22)) ⟨(hσ.1 (z_27).toNat (by omega)).1, (hσ.1 (z_27).toNat (by omega)).2.1, (hσ.1 (z_27).toNat (by omega)).2.2.1, (by omega : 0 ≤ y_8 ∧ y_8 ≤ 60), (by omega : 0 ≤ y_15 ∧ y_15 ≤ 60), (by omega : 0 ≤ y_22 ∧ y_22 ≤ 60)⟩, hXv, hAl, hLA.land q1 q2⟩ dL_lands_180 (Nat.le_of_ble_eq_true rfl) (Nat.le_of_ble_eq_true rfl)
  · skip
    refine w_aload_n X dL_lands_18 hl 3 rfl rfl ?_
    refine w_iload_n X dL_lands_19 hl 0 rfl rfl ?_
    refine w_iload_n X dL_lands_20 hl 2 rfl rfl ?_
    refine w_iconst X dL_lands_21 ?_
    refine w_ishr X dL_lands_22 fun v_37 => ?_
    refine w_iload_n X dL_lands_23 hl 2 rfl rfl ?_
    refine w_bipush X dL_lands_24 (by decide) ?_
    refine w_ishr X dL_lands_26 fun v_38 => ?_
    refine w_iconst X dL_lands_27 ?_
    refine w_low X hE (by omega) hl dL_lands_28 gL_lands_L_low ⟨(Nat.le_of_ble_eq_true rfl), (Nat.le_of_ble_eq_true rfl)⟩ (Nat.le_of_ble_eq_true rfl) ⟨(Nat.le_of_ble_eq_true rfl), (Nat.le_of_ble_eq_true rfl)⟩ fun y_39 hy_39a hy_39b => ?_
    refine w_if_ne X 39 dL_lands_31 (by decide) (by omega) (fun c_40 => ?_) (fun c_40 => ?_)
    · skip
      refine w_ldc (v := 40000) (z := 40000) X dL_lands_39 (by decide +kernel) (by decide) ?_
      refine w_low X hE (by omega) hl dL_lands_41 gL_lands_L_low ⟨(Nat.le_of_ble_eq_true rfl), (Nat.le_of_ble_eq_true rfl)⟩ (Nat.le_of_ble_eq_true rfl) ⟨(Nat.le_of_ble_eq_true rfl), (Nat.le_of_ble_eq_true rfl)⟩ fun y_41 hy_41a hy_41b => ?_
      refine w_iast X hE hAl hS (Or.inr rfl) dL_lands_44 (by omega) (by omega) (by omega) fun H_42 lo_43 hAl hz_44 hq_45 hS => ?_
      have hXv := hXv.kept (fun q h1 h2 => hq_45 q (fun e => hnl (e ▸ h1)))
      obtain ⟨hAx, fs9, hxO⟩ := hXv.ob
      have hAn : ∀ q, H_42.size ≤ q → AX q := fun q h => hAn q (by omega)
      refine w_aload_n X dL_lands_45 hl 3 rfl rfl ?_
      refine w_iload_n X dL_lands_46 hl 0 rfl rfl ?_
      refine w_iconst X dL_lands_47 ?_
      refine w_iadd X dL_lands_48 fun z_46 ez_46 => ?_
      refine w_aload_n X dL_lands_49 hl 3 rfl rfl ?_
      refine w_iload_n X dL_lands_50 hl 0 rfl rfl ?_
      refine w_iald (y := wI (y_41)) X hE hAl dL_lands_51 (by omega) (by omega) (by omega) (va_up_at _ _ (by omega)) ?_
      refine w_iload_n X dL_lands_52 hl 2 rfl rfl ?_
      refine w_bipush X dL_lands_53 (by decide) ?_
      refine w_ishr X dL_lands_55 fun v_47 => ?_
      refine w_iload_n X dL_lands_56 hl 2 rfl rfl ?_
      refine w_bipush X dL_lands_57 (by decide) ?_
      refine w_ishr X dL_lands_59 fun v_48 => ?_
      refine w_iconst X dL_lands_60 ?_
      refine w_low X hE (by omega) hl dL_lands_61 gL_lands_L_low ⟨(Nat.le_of_ble_eq_true rfl), (Nat.le_of_ble_eq_true rfl)⟩ (Nat.le_of_ble_eq_true rfl) ⟨(Nat.le_of_ble_eq_true rfl), (Nat.le_of_ble_eq_true rfl)⟩ fun y_49 hy_49a hy_49b => ?_
      refine w_if_ne X 76 dL_lands_64 (by decide) (by omega) (fun c_50 => ?_) (fun c_50 => ?_)
      · skip
        refine w_ldc (v := 1000001) (z := 1000001) X dL_lands_76 (by decide +kernel) (by decide) ?_
        refine w_aload_n X dL_lands_78 hl 3 rfl rfl ?_
        refine w_iload_n X dL_lands_79 hl 0 rfl rfl ?_
        refine w_iald (y := wI (y_41)) X hE hAl dL_lands_80 (by omega) (by omega) (by omega) (va_up_at _ _ (by omega)) ?_
        refine w_isub X dL_lands_81 fun z_51 ez_51 => ?_
        refine w_ldc (v := 80000) (z := 80000) X dL_lands_82 (by decide +kernel) (by decide) ?_
        refine w_icmp_ge X 91 dL_lands_84 (by decide) (by omega) (by omega) (fun c_52 => ?_) (fun c_52 => ?_)
        · skip
          refine w_ldc (v := 80000) (z := 80000) X dL_lands_91 (by decide +kernel) (by decide) ?_
          refine w_low X hE (by omega) hl dL_lands_93 gL_lands_L_low ⟨(Nat.le_of_ble_eq_true rfl), (Nat.le_of_ble_eq_true rfl)⟩ (Nat.le_of_ble_eq_true rfl) ⟨(Nat.le_of_ble_eq_true rfl), (Nat.le_of_ble_eq_true rfl)⟩ fun y_53 hy_53a hy_53b => ?_
          refine w_iadd X dL_lands_96 fun z_54 ez_54 => ?_
          refine w_iast X hE hAl hS (Or.inr rfl) dL_lands_97 (by omega) (by omega) (by omega) fun H_55 lo_56 hAl hz_57 hq_58 hS => ?_
          have hXv := hXv.kept (fun q h1 h2 => hq_58 q (fun e => hnl (e ▸ h1)))
          obtain ⟨hAx, fs9, hxO⟩ := hXv.ob
          have hAn : ∀ q, H_55.size ≤ q → AX q := fun q h => hAn q (by omega)
          refine w_aload_n X dL_lands_98 hl 1 rfl rfl ?_
          refine w_iload_n X dL_lands_99 hl 0 rfl rfl ?_
          refine w_iconst X dL_lands_100 ?_
          refine w_idiv X dL_lands_101 (by omega) (by omega) fun z_59 ez_59 => ?_
          refine w_aload_n X dL_lands_102 hl 3 rfl rfl ?_
          refine w_iload_n X dL_lands_103 hl 0 rfl rfl ?_
          refine w_iald (y := wI (y_41)) X hE hAl dL_lands_104 (by omega) (by omega) (by omega) ((va_up_ne _ _ (by omega)).trans (va_up_at _ _ (by omega))) ?_
          refine w_aload_n X dL_lands_105 hl 3 rfl rfl ?_
          refine w_iload_n X dL_lands_106 hl 0 rfl rfl ?_
          refine w_iconst X dL_lands_107 ?_
          refine w_iadd X dL_lands_108 fun z_60 ez_60 => ?_
          refine w_iald (y := wI (z_54)) X hE hAl dL_lands_109 (by omega) (by omega) (by omega) (va_up_at _ _ (by omega)) ?_
          refine w_xv (vx_runV (As := [.int (wI (z_59)), .int (wI (y_41)), .int (wI (z_54))]) (rest := []) X (c_X3_setLimits l hl9 g AX H_55 x σ hσ hXv (z_59) (y_41) (z_54) (by omega) (by omega) (by omega)) (cwV 3 X.2.2.2.2 gL_lands_X3_setLimits rfl rfl rfl (by decide +kernel) ⟨(Nat.le_of_ble_eq_true rfl), (Nat.le_of_ble_eq_true rfl)⟩) (w_prVN hE hEs hS hN hxO rfl) rfl rfl hl.1 rfl (lv_room (Nat.le_of_ble_eq_true rfl)) dL_lands_110 ⟨(Nat.le_of_ble_eq_true rfl), (Nat.le_of_ble_eq_true rfl)⟩) hS hN ?_ fun H_61 lo_62 hp_63 hz_64 hq_65 hS => ?_
          · exact fun E ce q9 H9 lo9 hxp hz9 hq9 hS9 hce hcv hcl => absurd hxp.1.2 (by omega)
          obtain ⟨-, hXv⟩ := hp_63
          obtain ⟨hAx, fs9, hxO⟩ := hXv.ob
          have hAl := hAl.kept (hq_65 _ hAl.lt hnl)
          have hAn : ∀ q, H_61.size ≤ q → AX q := fun q h => hAn q (by omega)
          refine w_goto X 179 dL_lands_113 (by decide) ?_
          refine w_iconst X dL_lands_179 ?_
          have q1 : ∀ k, k < 5 → (up (up fl (z_2).toNat (wI (y_41))) (z_46).toNat (wI (z_54))) (5 * (z_59).toNat + k) = wI ((limS (σ.1 (z_59).toNat) (y_41) (z_54)) k) :=
            fun k hk => by
              rcases (by omega : k = 0 ∨ k = 1 ∨ k = 2 ∨ k = 3 ∨ k = 4) with rfl | rfl | rfl | rfl | rfl
              · exact (va_up_ne _ _ (by omega)).trans (va_up_at _ _ (by omega))
              · exact va_up_at _ _ (by omega)
              · exact (va_up_ne _ _ (by omega)).trans ((va_up_ne _ _ (by omega)).trans (hLA _ 2 (by omega) (by omega)))
              · exact (va_up_ne _ _ (by omega)).trans ((va_up_ne _ _ (by omega)).trans (hLA _ 3 (by omega) (by omega)))
              · exact (va_up_ne _ _ (by omega)).trans ((va_up_ne _ _ (by omega)).trans (hLA _ 4 (by omega) (by omega)))
          have q2 : ∀ q, (q < 5 * (z_59).toNat ∨ 5 * (z_59).toNat + 5 ≤ q) → (up (up fl (z_2).toNat (wI (y_41))) (z_46).toNat (wI (z_54))) q = fl q := fun q hq => (va_up_ne _ _ (by omega)).trans ((va_up_ne _ _ (by omega)))
          exact w_zrR X hr hk hS (Or.inr rfl) ⟨rfl, (z_59).toNat, _, _, by omega, hσ.land (L := limS (σ.1 (z_59).toNat) (y_41) (z_54)) ⟨(by omega : 0 ≤ y_41), (by omega : y_41 ≤ z_54), (by omega : z_54 ≤ 1000000), (hσ.1 (z_59).toNat (by omega)).2.2.2⟩, hXv, hAl, hLA.land q1 q2⟩ dL_lands_180 (Nat.le_of_ble_eq_true rfl) (Nat.le_of_ble_eq_true rfl)
        · skip
          refine w_iconst X dL_lands_87 ?_
          refine w_goto X 93 dL_lands_88 (by decide) ?_
          refine w_low X hE (by omega) hl dL_lands_93 gL_lands_L_low ⟨(Nat.le_of_ble_eq_true rfl), (Nat.le_of_ble_eq_true rfl)⟩ (Nat.le_of_ble_eq_true rfl) ⟨(Nat.le_of_ble_eq_true rfl), (Nat.le_of_ble_eq_true rfl)⟩ fun y_67 hy_67a hy_67b => ?_
          refine w_iadd X dL_lands_96 fun z_68 ez_68 => ?_
          refine w_iast X hE hAl hS (Or.inr rfl) dL_lands_97 (by omega) (by omega) (by omega) fun H_69 lo_70 hAl hz_71 hq_72 hS => ?_
          have hXv := hXv.kept (fun q h1 h2 => hq_72 q (fun e => hnl (e ▸ h1)))
          obtain ⟨hAx, fs9, hxO⟩ := hXv.ob
          have hAn : ∀ q, H_69.size ≤ q → AX q := fun q h => hAn q (by omega)
          refine w_aload_n X dL_lands_98 hl 1 rfl rfl ?_
          refine w_iload_n X dL_lands_99 hl 0 rfl rfl ?_
          refine w_iconst X dL_lands_100 ?_
          refine w_idiv X dL_lands_101 (by omega) (by omega) fun z_73 ez_73 => ?_
          refine w_aload_n X dL_lands_102 hl 3 rfl rfl ?_
          refine w_iload_n X dL_lands_103 hl 0 rfl rfl ?_
          refine w_iald (y := wI (y_41)) X hE hAl dL_lands_104 (by omega) (by omega) (by omega) ((va_up_ne _ _ (by omega)).trans (va_up_at _ _ (by omega))) ?_
          refine w_aload_n X dL_lands_105 hl 3 rfl rfl ?_
          refine w_iload_n X dL_lands_106 hl 0 rfl rfl ?_
          refine w_iconst X dL_lands_107 ?_
          refine w_iadd X dL_lands_108 fun z_74 ez_74 => ?_
          refine w_iald (y := wI (z_68)) X hE hAl dL_lands_109 (by omega) (by omega) (by omega) (va_up_at _ _ (by omega)) ?_
          refine w_xv (vx_runV (As := [.int (wI (z_73)), .int (wI (y_41)), .int (wI (z_68))]) (rest := []) X (c_X3_setLimits l hl9 g AX H_69 x σ hσ hXv (z_73) (y_41) (z_68) (by omega) (by omega) (by omega)) (cwV 3 X.2.2.2.2 gL_lands_X3_setLimits rfl rfl rfl (by decide +kernel) ⟨(Nat.le_of_ble_eq_true rfl), (Nat.le_of_ble_eq_true rfl)⟩) (w_prVN hE hEs hS hN hxO rfl) rfl rfl hl.1 rfl (lv_room (Nat.le_of_ble_eq_true rfl)) dL_lands_110 ⟨(Nat.le_of_ble_eq_true rfl), (Nat.le_of_ble_eq_true rfl)⟩) hS hN ?_ fun H_75 lo_76 hp_77 hz_78 hq_79 hS => ?_
          · exact fun E ce q9 H9 lo9 hxp hz9 hq9 hS9 hce hcv hcl => absurd hxp.1.2 (by omega)
          obtain ⟨-, hXv⟩ := hp_77
          obtain ⟨hAx, fs9, hxO⟩ := hXv.ob
          have hAl := hAl.kept (hq_79 _ hAl.lt hnl)
          have hAn : ∀ q, H_75.size ≤ q → AX q := fun q h => hAn q (by omega)
          refine w_goto X 179 dL_lands_113 (by decide) ?_
          refine w_iconst X dL_lands_179 ?_
          have q1 : ∀ k, k < 5 → (up (up fl (z_2).toNat (wI (y_41))) (z_46).toNat (wI (z_68))) (5 * (z_73).toNat + k) = wI ((limS (σ.1 (z_73).toNat) (y_41) (z_68)) k) :=
            fun k hk => by
              rcases (by omega : k = 0 ∨ k = 1 ∨ k = 2 ∨ k = 3 ∨ k = 4) with rfl | rfl | rfl | rfl | rfl
              · exact (va_up_ne _ _ (by omega)).trans (va_up_at _ _ (by omega))
              · exact va_up_at _ _ (by omega)
              · exact (va_up_ne _ _ (by omega)).trans ((va_up_ne _ _ (by omega)).trans (hLA _ 2 (by omega) (by omega)))
              · exact (va_up_ne _ _ (by omega)).trans ((va_up_ne _ _ (by omega)).trans (hLA _ 3 (by omega) (by omega)))
              · exact (va_up_ne _ _ (by omega)).trans ((va_up_ne _ _ (by omega)).trans (hLA _ 4 (by omega) (by omega)))
          have q2 : ∀ q, (q < 5 * (z_73).toNat ∨ 5 * (z_73).toNat + 5 ≤ q) → (up (up fl (z_2).toNat (wI (y_41))) (z_46).toNat (wI (z_68))) q = fl q := fun q hq => (va_up_ne _ _ (by omega)).trans ((va_up_ne _ _ (by omega)))
          exact w_zrR X hr hk hS (Or.inr rfl) ⟨rfl, (z_73).toNat, _, _, by omega, hσ.land (L := limS (σ.1 (z_73).toNat) (y_41) (z_68)) ⟨(by omega : 0 ≤ y_41), (by omega : y_41 ≤ z_68), (by omega : z_68 ≤ 1000000), (hσ.1 (z_73).toNat (by omega)).2.2.2⟩, hXv, hAl, hLA.land q1 q2⟩ dL_lands_180 (Nat.le_of_ble_eq_true rfl) (Nat.le_of_ble_eq_true rfl)
      · skip
        refine w_ldc (v := 1000001) (z := 1000001) X dL_lands_67 (by decide +kernel) (by decide) ?_
        refine w_aload_n X dL_lands_69 hl 3 rfl rfl ?_
        refine w_iload_n X dL_lands_70 hl 0 rfl rfl ?_
        refine w_iald (y := wI (y_41)) X hE hAl dL_lands_71 (by omega) (by omega) (by omega) (va_up_at _ _ (by omega)) ?_
        refine w_isub X dL_lands_72 fun z_81 ez_81 => ?_
        refine w_goto X 93 dL_lands_73 (by decide) ?_
        refine w_low X hE (by omega) hl dL_lands_93 gL_lands_L_low ⟨(Nat.le_of_ble_eq_true rfl), (Nat.le_of_ble_eq_true rfl)⟩ (Nat.le_of_ble_eq_true rfl) ⟨(Nat.le_of_ble_eq_true rfl), (Nat.le_of_ble_eq_true rfl)⟩ fun y_82 hy_82a hy_82b => ?_
        refine w_iadd X dL_lands_96 fun z_83 ez_83 => ?_
        refine w_iast X hE hAl hS (Or.inr rfl) dL_lands_97 (by omega) (by omega) (by omega) fun H_84 lo_85 hAl hz_86 hq_87 hS => ?_
        have hXv := hXv.kept (fun q h1 h2 => hq_87 q (fun e => hnl (e ▸ h1)))
        obtain ⟨hAx, fs9, hxO⟩ := hXv.ob
        have hAn : ∀ q, H_84.size ≤ q → AX q := fun q h => hAn q (by omega)
        refine w_aload_n X dL_lands_98 hl 1 rfl rfl ?_
        refine w_iload_n X dL_lands_99 hl 0 rfl rfl ?_
        refine w_iconst X dL_lands_100 ?_
        refine w_idiv X dL_lands_101 (by omega) (by omega) fun z_88 ez_88 => ?_
        refine w_aload_n X dL_lands_102 hl 3 rfl rfl ?_
        refine w_iload_n X dL_lands_103 hl 0 rfl rfl ?_
        refine w_iald (y := wI (y_41)) X hE hAl dL_lands_104 (by omega) (by omega) (by omega) ((va_up_ne _ _ (by omega)).trans (va_up_at _ _ (by omega))) ?_
        refine w_aload_n X dL_lands_105 hl 3 rfl rfl ?_
        refine w_iload_n X dL_lands_106 hl 0 rfl rfl ?_
        refine w_iconst X dL_lands_107 ?_
        refine w_iadd X dL_lands_108 fun z_89 ez_89 => ?_
        refine w_iald (y := wI (z_83)) X hE hAl dL_lands_109 (by omega) (by omega) (by omega) (va_up_at _ _ (by omega)) ?_
        refine w_xv (vx_runV (As := [.int (wI (z_88)), .int (wI (y_41)), .int (wI (z_83))]) (rest := []) X (c_X3_setLimits l hl9 g AX H_84 x σ hσ hXv (z_88) (y_41) (z_83) (by omega) (by omega) (by omega)) (cwV 3 X.2.2.2.2 gL_lands_X3_setLimits rfl rfl rfl (by decide +kernel) ⟨(Nat.le_of_ble_eq_true rfl), (Nat.le_of_ble_eq_true rfl)⟩) (w_prVN hE hEs hS hN hxO rfl) rfl rfl hl.1 rfl (lv_room (Nat.le_of_ble_eq_true rfl)) dL_lands_110 ⟨(Nat.le_of_ble_eq_true rfl), (Nat.le_of_ble_eq_true rfl)⟩) hS hN ?_ fun H_90 lo_91 hp_92 hz_93 hq_94 hS => ?_
        · exact fun E ce q9 H9 lo9 hxp hz9 hq9 hS9 hce hcv hcl => absurd hxp.1.2 (by omega)
        obtain ⟨-, hXv⟩ := hp_92
        obtain ⟨hAx, fs9, hxO⟩ := hXv.ob
        have hAl := hAl.kept (hq_94 _ hAl.lt hnl)
        have hAn : ∀ q, H_90.size ≤ q → AX q := fun q h => hAn q (by omega)
        refine w_goto X 179 dL_lands_113 (by decide) ?_
        refine w_iconst X dL_lands_179 ?_
        have q1 : ∀ k, k < 5 → (up (up fl (z_2).toNat (wI (y_41))) (z_46).toNat (wI (z_83))) (5 * (z_88).toNat + k) = wI ((limS (σ.1 (z_88).toNat) (y_41) (z_83)) k) :=
          fun k hk => by
            rcases (by omega : k = 0 ∨ k = 1 ∨ k = 2 ∨ k = 3 ∨ k = 4) with rfl | rfl | rfl | rfl | rfl
            · exact (va_up_ne _ _ (by omega)).trans (va_up_at _ _ (by omega))
            · exact va_up_at _ _ (by omega)
            · exact (va_up_ne _ _ (by omega)).trans ((va_up_ne _ _ (by omega)).trans (hLA _ 2 (by omega) (by omega)))
            · exact (va_up_ne _ _ (by omega)).trans ((va_up_ne _ _ (by omega)).trans (hLA _ 3 (by omega) (by omega)))
            · exact (va_up_ne _ _ (by omega)).trans ((va_up_ne _ _ (by omega)).trans (hLA _ 4 (by omega) (by omega)))
        have q2 : ∀ q, (q < 5 * (z_88).toNat ∨ 5 * (z_88).toNat + 5 ≤ q) → (up (up fl (z_2).toNat (wI (y_41))) (z_46).toNat (wI (z_83))) q = fl q := fun q hq => (va_up_ne _ _ (by omega)).trans ((va_up_ne _ _ (by omega)))
        exact w_zrR X hr hk hS (Or.inr rfl) ⟨rfl, (z_88).toNat, _, _, by omega, hσ.land (L := limS (σ.1 (z_88).toNat) (y_41) (z_83)) ⟨(by omega : 0 ≤ y_41), (by omega : y_41 ≤ z_83), (by omega : z_83 ≤ 1000000), (hσ.1 (z_88).toNat (by omega)).2.2.2⟩, hXv, hAl, hLA.land q1 q2⟩ dL_lands_180 (Nat.le_of_ble_eq_true rfl) (Nat.le_of_ble_eq_true rfl)
    · skip
      refine w_ldc (v := 1000001) (z := 1000001) X dL_lands_34 (by decide +kernel) (by decide) ?_
      refine w_goto X 41 dL_lands_36 (by decide) ?_
      refine w_low X hE (by omega) hl dL_lands_41 gL_lands_L_low ⟨(Nat.le_of_ble_eq_true rfl), (Nat.le_of_ble_eq_true rfl)⟩ (Nat.le_of_ble_eq_true rfl) ⟨(Nat.le_of_ble_eq_true rfl), (Nat.le_of_ble_eq_true rfl)⟩ fun y_96 hy_96a hy_96b => ?_
      refine w_iast X hE hAl hS (Or.inr rfl) dL_lands_44 (by omega) (by omega) (by omega) fun H_97 lo_98 hAl hz_99 hq_100 hS => ?_
      have hXv := hXv.kept (fun q h1 h2 => hq_100 q (fun e => hnl (e ▸ h1)))
      obtain ⟨hAx, fs9, hxO⟩ := hXv.ob
      have hAn : ∀ q, H_97.size ≤ q → AX q := fun q h => hAn q (by omega)
      refine w_aload_n X dL_lands_45 hl 3 rfl rfl ?_
      refine w_iload_n X dL_lands_46 hl 0 rfl rfl ?_
      refine w_iconst X dL_lands_47 ?_
      refine w_iadd X dL_lands_48 fun z_101 ez_101 => ?_
      refine w_aload_n X dL_lands_49 hl 3 rfl rfl ?_
      refine w_iload_n X dL_lands_50 hl 0 rfl rfl ?_
      refine w_iald (y := wI (y_96)) X hE hAl dL_lands_51 (by omega) (by omega) (by omega) (va_up_at _ _ (by omega)) ?_
      refine w_iload_n X dL_lands_52 hl 2 rfl rfl ?_
      refine w_bipush X dL_lands_53 (by decide) ?_
      refine w_ishr X dL_lands_55 fun v_102 => ?_
      refine w_iload_n X dL_lands_56 hl 2 rfl rfl ?_
      refine w_bipush X dL_lands_57 (by decide) ?_
      refine w_ishr X dL_lands_59 fun v_103 => ?_
      refine w_iconst X dL_lands_60 ?_
      refine w_low X hE (by omega) hl dL_lands_61 gL_lands_L_low ⟨(Nat.le_of_ble_eq_true rfl), (Nat.le_of_ble_eq_true rfl)⟩ (Nat.le_of_ble_eq_true rfl) ⟨(Nat.le_of_ble_eq_true rfl), (Nat.le_of_ble_eq_true rfl)⟩ fun y_104 hy_104a hy_104b => ?_
      refine w_if_ne X 76 dL_lands_64 (by decide) (by omega) (fun c_105 => ?_) (fun c_105 => ?_)
      · skip
        refine w_ldc (v := 1000001) (z := 1000001) X dL_lands_76 (by decide +kernel) (by decide) ?_
        refine w_aload_n X dL_lands_78 hl 3 rfl rfl ?_
        refine w_iload_n X dL_lands_79 hl 0 rfl rfl ?_
        refine w_iald (y := wI (y_96)) X hE hAl dL_lands_80 (by omega) (by omega) (by omega) (va_up_at _ _ (by omega)) ?_
        refine w_isub X dL_lands_81 fun z_106 ez_106 => ?_
        refine w_ldc (v := 80000) (z := 80000) X dL_lands_82 (by decide +kernel) (by decide) ?_
        refine w_icmp_ge X 91 dL_lands_84 (by decide) (by omega) (by omega) (fun c_107 => ?_) (fun c_107 => ?_)
        · skip
          refine w_ldc (v := 80000) (z := 80000) X dL_lands_91 (by decide +kernel) (by decide) ?_
          refine w_low X hE (by omega) hl dL_lands_93 gL_lands_L_low ⟨(Nat.le_of_ble_eq_true rfl), (Nat.le_of_ble_eq_true rfl)⟩ (Nat.le_of_ble_eq_true rfl) ⟨(Nat.le_of_ble_eq_true rfl), (Nat.le_of_ble_eq_true rfl)⟩ fun y_108 hy_108a hy_108b => ?_
          refine w_iadd X dL_lands_96 fun z_109 ez_109 => ?_
          refine w_iast X hE hAl hS (Or.inr rfl) dL_lands_97 (by omega) (by omega) (by omega) fun H_110 lo_111 hAl hz_112 hq_113 hS => ?_
          have hXv := hXv.kept (fun q h1 h2 => hq_113 q (fun e => hnl (e ▸ h1)))
          obtain ⟨hAx, fs9, hxO⟩ := hXv.ob
          have hAn : ∀ q, H_110.size ≤ q → AX q := fun q h => hAn q (by omega)
          refine w_aload_n X dL_lands_98 hl 1 rfl rfl ?_
          refine w_iload_n X dL_lands_99 hl 0 rfl rfl ?_
          refine w_iconst X dL_lands_100 ?_
          refine w_idiv X dL_lands_101 (by omega) (by omega) fun z_114 ez_114 => ?_
          refine w_aload_n X dL_lands_102 hl 3 rfl rfl ?_
          refine w_iload_n X dL_lands_103 hl 0 rfl rfl ?_
          refine w_iald (y := wI (y_96)) X hE hAl dL_lands_104 (by omega) (by omega) (by omega) ((va_up_ne _ _ (by omega)).trans (va_up_at _ _ (by omega))) ?_
          refine w_aload_n X dL_lands_105 hl 3 rfl rfl ?_
          refine w_iload_n X dL_lands_106 hl 0 rfl rfl ?_
          refine w_iconst X dL_lands_107 ?_
          refine w_iadd X dL_lands_108 fun z_115 ez_115 => ?_
          refine w_iald (y := wI (z_109)) X hE hAl dL_lands_109 (by omega) (by omega) (by omega) (va_up_at _ _ (by omega)) ?_
          refine w_xv (vx_runV (As := [.int (wI (z_114)), .int (wI (y_96)), .int (wI (z_109))]) (rest := []) X (c_X3_setLimits l hl9 g AX H_110 x σ hσ hXv (z_114) (y_96) (z_109) (by omega) (by omega) (by omega)) (cwV 3 X.2.2.2.2 gL_lands_X3_setLimits rfl rfl rfl (by decide +kernel) ⟨(Nat.le_of_ble_eq_true rfl), (Nat.le_of_ble_eq_true rfl)⟩) (w_prVN hE hEs hS hN hxO rfl) rfl rfl hl.1 rfl (lv_room (Nat.le_of_ble_eq_true rfl)) dL_lands_110 ⟨(Nat.le_of_ble_eq_true rfl), (Nat.le_of_ble_eq_true rfl)⟩) hS hN ?_ fun H_116 lo_117 hp_118 hz_119 hq_120 hS => ?_
          · exact fun E ce q9 H9 lo9 hxp hz9 hq9 hS9 hce hcv hcl => absurd hxp.1.2 (by omega)
          obtain ⟨-, hXv⟩ := hp_118
          obtain ⟨hAx, fs9, hxO⟩ := hXv.ob
          have hAl := hAl.kept (hq_120 _ hAl.lt hnl)
          have hAn : ∀ q, H_116.size ≤ q → AX q := fun q h => hAn q (by omega)
          refine w_goto X 179 dL_lands_113 (by decide) ?_
          refine w_iconst X dL_lands_179 ?_
          have q1 : ∀ k, k < 5 → (up (up fl (z_2).toNat (wI (y_96))) (z_101).toNat (wI (z_109))) (5 * (z_114).toNat + k) = wI ((limS (σ.1 (z_114).toNat) (y_96) (z_109)) k) :=
            fun k hk => by
              rcases (by omega : k = 0 ∨ k = 1 ∨ k = 2 ∨ k = 3 ∨ k = 4) with rfl | rfl | rfl | rfl | rfl
              · exact (va_up_ne _ _ (by omega)).trans (va_up_at _ _ (by omega))
              · exact va_up_at _ _ (by omega)
              · exact (va_up_ne _ _ (by omega)).trans ((va_up_ne _ _ (by omega)).trans (hLA _ 2 (by omega) (by omega)))
              · exact (va_up_ne _ _ (by omega)).trans ((va_up_ne _ _ (by omega)).trans (hLA _ 3 (by omega) (by omega)))
              · exact (va_up_ne _ _ (by omega)).trans ((va_up_ne _ _ (by omega)).trans (hLA _ 4 (by omega) (by omega)))
          have q2 : ∀ q, (q < 5 * (z_114).toNat ∨ 5 * (z_114).toNat + 5 ≤ q) → (up (up fl (z_2).toNat (wI (y_96))) (z_101).toNat (wI (z_109))) q = fl q := fun q hq => (va_up_ne _ _ (by omega)).trans ((va_up_ne _ _ (by omega)))
          exact w_zrR X hr hk hS (Or.inr rfl) ⟨rfl, (z_114).toNat, _, _, by omega, hσ.land (L := limS (σ.1 (z_114).toNat) (y_96) (z_109)) ⟨(by omega : 0 ≤ y_96), (by omega : y_96 ≤ z_109), (by omega : z_109 ≤ 1000000), (hσ.1 (z_114).toNat (by omega)).2.2.2⟩, hXv, hAl, hLA.land q1 q2⟩ dL_lands_180 (Nat.le_of_ble_eq_true rfl) (Nat.le_of_ble_eq_true rfl)
        · skip
          refine w_iconst X dL_lands_87 ?_
          refine w_goto X 93 dL_lands_88 (by decide) ?_
          refine w_low X hE (by omega) hl dL_lands_93 gL_lands_L_low ⟨(Nat.le_of_ble_eq_true rfl), (Nat.le_of_ble_eq_true rfl)⟩ (Nat.le_of_ble_eq_true rfl) ⟨(Nat.le_of_ble_eq_true rfl), (Nat.le_of_ble_eq_true rfl)⟩ fun y_122 hy_122a hy_122b => ?_
          refine w_iadd X dL_lands_96 fun z_123 ez_123 => ?_
          refine w_iast X hE hAl hS (Or.inr rfl) dL_lands_97 (by omega) (by omega) (by omega) fun H_124 lo_125 hAl hz_126 hq_127 hS => ?_
          have hXv := hXv.kept (fun q h1 h2 => hq_127 q (fun e => hnl (e ▸ h1)))
          obtain ⟨hAx, fs9, hxO⟩ := hXv.ob
          have hAn : ∀ q, H_124.size ≤ q → AX q := fun q h => hAn q (by omega)
          refine w_aload_n X dL_lands_98 hl 1 rfl rfl ?_
          refine w_iload_n X dL_lands_99 hl 0 rfl rfl ?_
          refine w_iconst X dL_lands_100 ?_
          refine w_idiv X dL_lands_101 (by omega) (by omega) fun z_128 ez_128 => ?_
          refine w_aload_n X dL_lands_102 hl 3 rfl rfl ?_
          refine w_iload_n X dL_lands_103 hl 0 rfl rfl ?_
          refine w_iald (y := wI (y_96)) X hE hAl dL_lands_104 (by omega) (by omega) (by omega) ((va_up_ne _ _ (by omega)).trans (va_up_at _ _ (by omega))) ?_
          refine w_aload_n X dL_lands_105 hl 3 rfl rfl ?_
          refine w_iload_n X dL_lands_106 hl 0 rfl rfl ?_
          refine w_iconst X dL_lands_107 ?_
          refine w_iadd X dL_lands_108 fun z_129 ez_129 => ?_
          refine w_iald (y := wI (z_123)) X hE hAl dL_lands_109 (by omega) (by omega) (by omega) (va_up_at _ _ (by omega)) ?_
          refine w_xv (vx_runV (As := [.int (wI (z_128)), .int (wI (y_96)), .int (wI (z_123))]) (rest := []) X (c_X3_setLimits l hl9 g AX H_124 x σ hσ hXv (z_128) (y_96) (z_123) (by omega) (by omega) (by omega)) (cwV 3 X.2.2.2.2 gL_lands_X3_setLimits rfl rfl rfl (by decide +kernel) ⟨(Nat.le_of_ble_eq_true rfl), (Nat.le_of_ble_eq_true rfl)⟩) (w_prVN hE hEs hS hN hxO rfl) rfl rfl hl.1 rfl (lv_room (Nat.le_of_ble_eq_true rfl)) dL_lands_110 ⟨(Nat.le_of_ble_eq_true rfl), (Nat.le_of_ble_eq_true rfl)⟩) hS hN ?_ fun H_130 lo_131 hp_132 hz_133 hq_134 hS => ?_
          · exact fun E ce q9 H9 lo9 hxp hz9 hq9 hS9 hce hcv hcl => absurd hxp.1.2 (by omega)
          obtain ⟨-, hXv⟩ := hp_132
          obtain ⟨hAx, fs9, hxO⟩ := hXv.ob
          have hAl := hAl.kept (hq_134 _ hAl.lt hnl)
          have hAn : ∀ q, H_130.size ≤ q → AX q := fun q h => hAn q (by omega)
          refine w_goto X 179 dL_lands_113 (by decide) ?_
          refine w_iconst X dL_lands_179 ?_
          have q1 : ∀ k, k < 5 → (up (up fl (z_2).toNat (wI (y_96))) (z_101).toNat (wI (z_123))) (5 * (z_128).toNat + k) = wI ((limS (σ.1 (z_128).toNat) (y_96) (z_123)) k) :=
            fun k hk => by
              rcases (by omega : k = 0 ∨ k = 1 ∨ k = 2 ∨ k = 3 ∨ k = 4) with rfl | rfl | rfl | rfl | rfl
              · exact (va_up_ne _ _ (by omega)).trans (va_up_at _ _ (by omega))
              · exact va_up_at _ _ (by omega)
              · exact (va_up_ne _ _ (by omega)).trans ((va_up_ne _ _ (by omega)).trans (hLA _ 2 (by omega) (by omega)))
              · exact (va_up_ne _ _ (by omega)).trans ((va_up_ne _ _ (by omega)).trans (hLA _ 3 (by omega) (by omega)))
              · exact (va_up_ne _ _ (by omega)).trans ((va_up_ne _ _ (by omega)).trans (hLA _ 4 (by omega) (by omega)))
          have q2 : ∀ q, (q < 5 * (z_128).toNat ∨ 5 * (z_128).toNat + 5 ≤ q) → (up (up fl (z_2).toNat (wI (y_96))) (z_101).toNat (wI (z_123))) q = fl q := fun q hq => (va_up_ne _ _ (by omega)).trans ((va_up_ne _ _ (by omega)))
          exact w_zrR X hr hk hS (Or.inr rfl) ⟨rfl, (z_128).toNat, _, _, by omega, hσ.land (L := limS (σ.1 (z_128).toNat) (y_96) (z_123)) ⟨(by omega : 0 ≤ y_96), (by omega : y_96 ≤ z_123), (by omega : z_123 ≤ 1000000), (hσ.1 (z_128).toNat (by omega)).2.2.2⟩, hXv, hAl, hLA.land q1 q2⟩ dL_lands_180 (Nat.le_of_ble_eq_true rfl) (Nat.le_of_ble_eq_true rfl)
      · skip
        refine w_ldc (v := 1000001) (z := 1000001) X dL_lands_67 (by decide +kernel) (by decide) ?_
        refine w_aload_n X dL_lands_69 hl 3 rfl rfl ?_
        refine w_iload_n X dL_lands_70 hl 0 rfl rfl ?_
        refine w_iald (y := wI (y_96)) X hE hAl dL_lands_71 (by omega) (by omega) (by omega) (va_up_at _ _ (by omega)) ?_
        refine w_isub X dL_lands_72 fun z_136 ez_136 => ?_
        refine w_goto X 93 dL_lands_73 (by decide) ?_
        refine w_low X hE (by omega) hl dL_lands_93 gL_lands_L_low ⟨(Nat.le_of_ble_eq_true rfl), (Nat.le_of_ble_eq_true rfl)⟩ (Nat.le_of_ble_eq_true rfl) ⟨(Nat.le_of_ble_eq_true rfl), (Nat.le_of_ble_eq_true rfl)⟩ fun y_137 hy_137a hy_137b => ?_
        refine w_iadd X dL_lands_96 fun z_138 ez_138 => ?_
        refine w_iast X hE hAl hS (Or.inr rfl) dL_lands_97 (by omega) (by omega) (by omega) fun H_139 lo_140 hAl hz_141 hq_142 hS => ?_
        have hXv := hXv.kept (fun q h1 h2 => hq_142 q (fun e => hnl (e ▸ h1)))
        obtain ⟨hAx, fs9, hxO⟩ := hXv.ob
        have hAn : ∀ q, H_139.size ≤ q → AX q := fun q h => hAn q (by omega)
        refine w_aload_n X dL_lands_98 hl 1 rfl rfl ?_
        refine w_iload_n X dL_lands_99 hl 0 rfl rfl ?_
        refine w_iconst X dL_lands_100 ?_
        refine w_idiv X dL_lands_101 (by omega) (by omega) fun z_143 ez_143 => ?_
        refine w_aload_n X dL_lands_102 hl 3 rfl rfl ?_
        refine w_iload_n X dL_lands_103 hl 0 rfl rfl ?_
        refine w_iald (y := wI (y_96)) X hE hAl dL_lands_104 (by omega) (by omega) (by omega) ((va_up_ne _ _ (by omega)).trans (va_up_at _ _ (by omega))) ?_
        refine w_aload_n X dL_lands_105 hl 3 rfl rfl ?_
        refine w_iload_n X dL_lands_106 hl 0 rfl rfl ?_
        refine w_iconst X dL_lands_107 ?_
        refine w_iadd X dL_lands_108 fun z_144 ez_144 => ?_
        refine w_iald (y := wI (z_138)) X hE hAl dL_lands_109 (by omega) (by omega) (by omega) (va_up_at _ _ (by omega)) ?_
        refine w_xv (vx_runV (As := [.int (wI (z_143)), .int (wI (y_96)), .int (wI (z_138))]) (rest := []) X (c_X3_setLimits l hl9 g AX H_139 x σ hσ hXv (z_143) (y_96) (z_138) (by omega) (by omega) (by omega)) (cwV 3 X.2.2.2.2 gL_lands_X3_setLimits rfl rfl rfl (by decide +kernel) ⟨(Nat.le_of_ble_eq_true rfl), (Nat.le_of_ble_eq_true rfl)⟩) (w_prVN hE hEs hS hN hxO rfl) rfl rfl hl.1 rfl (lv_room (Nat.le_of_ble_eq_true rfl)) dL_lands_110 ⟨(Nat.le_of_ble_eq_true rfl), (Nat.le_of_ble_eq_true rfl)⟩) hS hN ?_ fun H_145 lo_146 hp_147 hz_148 hq_149 hS => ?_
        · exact fun E ce q9 H9 lo9 hxp hz9 hq9 hS9 hce hcv hcl => absurd hxp.1.2 (by omega)
        obtain ⟨-, hXv⟩ := hp_147
        obtain ⟨hAx, fs9, hxO⟩ := hXv.ob
        have hAl := hAl.kept (hq_149 _ hAl.lt hnl)
        have hAn : ∀ q, H_145.size ≤ q → AX q := fun q h => hAn q (by omega)
        refine w_goto X 179 dL_lands_113 (by decide) ?_
        refine w_iconst X dL_lands_179 ?_
        have q1 : ∀ k, k < 5 → (up (up fl (z_2).toNat (wI (y_96))) (z_101).toNat (wI (z_138))) (5 * (z_143).toNat + k) = wI ((limS (σ.1 (z_143).toNat) (y_96) (z_138)) k) :=
          fun k hk => by
            rcases (by omega : k = 0 ∨ k = 1 ∨ k = 2 ∨ k = 3 ∨ k = 4) with rfl | rfl | rfl | rfl | rfl
            · exact (va_up_ne _ _ (by omega)).trans (va_up_at _ _ (by omega))
            · exact va_up_at _ _ (by omega)
            · exact (va_up_ne _ _ (by omega)).trans ((va_up_ne _ _ (by omega)).trans (hLA _ 2 (by omega) (by omega)))
            · exact (va_up_ne _ _ (by omega)).trans ((va_up_ne _ _ (by omega)).trans (hLA _ 3 (by omega) (by omega)))
            · exact (va_up_ne _ _ (by omega)).trans ((va_up_ne _ _ (by omega)).trans (hLA _ 4 (by omega) (by omega)))
        have q2 : ∀ q, (q < 5 * (z_143).toNat ∨ 5 * (z_143).toNat + 5 ≤ q) → (up (up fl (z_2).toNat (wI (y_96))) (z_101).toNat (wI (z_138))) q = fl q := fun q hq => (va_up_ne _ _ (by omega)).trans ((va_up_ne _ _ (by omega)))
        exact w_zrR X hr hk hS (Or.inr rfl) ⟨rfl, (z_143).toNat, _, _, by omega, hσ.land (L := limS (σ.1 (z_143).toNat) (y_96) (z_138)) ⟨(by omega : 0 ≤ y_96), (by omega : y_96 ≤ z_138), (by omega : z_138 ≤ 1000000), (hσ.1 (z_143).toNat (by omega)).2.2.2⟩, hXv, hAl, hLA.land q1 q2⟩ dL_lands_180 (Nat.le_of_ble_eq_true rfl) (Nat.le_of_ble_eq_true rfl)
