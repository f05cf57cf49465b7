/-! the law's methods that change nothing -/

set_option maxHeartbeats 4000000 in
set_option maxRecDepth 100000 in
theorem c_L_tax (l : Launch) (g : wG) (H : Heap) (σ : St) (hσ : StGood σ) (al : Nat) (fl : Nat → Int32) (hAl : IA g H al 20 fl) (hLA : LA σ fl) (i : Int) (hi : 0 ≤ i ∧ i < 4) (n : Int) (hn : 0 ≤ n ∧ n ≤ 60000000) : Pur l g H yL_tax wsL_tax 0 0 [.int (wI (i)), .long (wJ (n)), .ref al] (.long (wJ (taxS (σ.1 i.toNat) n))) := by
  refine Pur.of (cc := cL_tax) (maxL := 11) (ret := (some .long)) (by decide) rfl (Nat.le_of_ble_eq_true rfl) ?_
  intro p9 e s m args below meth c X hE hr hk ls hl
  have hl : lv_has ls 11 [(0, .int (wI (i))), (1, .long (wJ (n))), (3, .ref al)] := hl
  obtain ⟨g1, g2, g3, ⟨g4, g5⟩, ⟨g6, g7⟩, g8, g9⟩ := hσ.1 i.toNat (by omega)
  refine w_lconst X (0) dL_tax_0 (by decide) ?_
  refine w_lstore X [(4, .long (wJ (0))), (0, .int (wI (i))), (1, .long (wJ (n))), (3, .ref al)] dL_tax_1 hl (by decide) rfl fun ls hl => ?_
  refine w_lload_n X dL_tax_3 hl 2 rfl rfl ?_
  refine w_lstore X [(6, .long (wJ (n))), (4, .long (wJ (0))), (0, .int (wI (i))), (1, .long (wJ (n))), (3, .ref al)] dL_tax_4 hl (by decide) rfl fun ls hl => ?_
  refine w_iconst X dL_tax_6 ?_
  refine w_istore X [(8, .int (wI (2))), (6, .long (wJ (n))), (4, .long (wJ (0))), (0, .int (wI (i))), (1, .long (wJ (n))), (3, .ref al)] dL_tax_7 hl (by decide) rfl fun ls hl => ?_
  refine w_iload X dL_tax_9 hl 0 rfl ?_
  refine w_if_lt X 76 dL_tax_11 (by decide) (by omega) (fun c_1 => ?_) (fun c_1 => ?_)
  · skip
    exact absurd c_1 (by omega)
  · skip
    refine w_iload X dL_tax_14 hl 0 rfl ?_
    refine w_if_ne X 23 dL_tax_16 (by decide) (by omega) (fun c_2 => ?_) (fun c_2 => ?_)
    · skip
      refine w_aload_n X dL_tax_23 hl 5 rfl rfl ?_
      refine w_iconst X dL_tax_24 ?_
      refine w_iload_n X dL_tax_25 hl 3 rfl rfl ?_
      refine w_imul X dL_tax_26 fun z_3 ez_3 => ?_
      refine w_iload X dL_tax_27 hl 0 rfl ?_
      refine w_iadd X dL_tax_29 fun z_4 ez_4 => ?_
      refine w_iconst X dL_tax_30 ?_
      refine w_isub X dL_tax_31 fun z_5 ez_5 => ?_
      refine w_iald (y := wI (σ.1 (i).toNat 1)) X hE hAl dL_tax_32 (by omega) (by omega) (by omega) (by rw [show (z_5).toNat = 5 * (i).toNat + 1 by omega]; exact hLA _ _ (by omega) (by omega)) ?_
      refine w_i2l X dL_tax_33 (by omega) ?_
      refine w_lstore X [(9, .long (wJ (σ.1 (i).toNat 1))), (8, .int (wI (2))), (6, .long (wJ (n))), (4, .long (wJ (0))), (0, .int (wI (i))), (1, .long (wJ (n))), (3, .ref al)] dL_tax_34 hl (by decide) rfl fun ls hl => ?_
      refine w_lload X dL_tax_36 hl 2 rfl ?_
      refine w_lload X dL_tax_38 hl 0 rfl ?_
      refine w_lcmp X dL_tax_40 (by omega) (by omega) fun z_6 ez_6a ez_6b ez_6c ez_6d => ?_
      refine w_if_le X 70 dL_tax_41 (by decide) (by omega) (fun c_7 => ?_) (fun c_7 => ?_)
      · skip
        refine w_iinc X (fun z_8 => [(8, .int (wI (z_8))), (9, .long (wJ (σ.1 (i).toNat 1))), (6, .long (wJ (n))), (4, .long (wJ (0))), (0, .int (wI (i))), (1, .long (wJ (n))), (3, .ref al)]) dL_tax_70 hl 1 rfl (by decide) (fun _ => rfl) fun z_8 ez_8 ls hl => ?_
        refine w_goto X 9 dL_tax_73 (by decide) ?_
        obtain rfl : z_8 = 1 := by omega
        refine w_iload X dL_tax_9 hl 0 rfl ?_
        refine w_if_lt X 76 dL_tax_11 (by decide) (by omega) (fun c_9 => ?_) (fun c_9 => ?_)
        · skip
          exact absurd c_9 (by omega)
        · skip
          refine w_iload X dL_tax_14 hl 0 rfl ?_
          refine w_if_ne X 23 dL_tax_16 (by decide) (by omega) (fun c_10 => ?_) (fun c_10 => ?_)
          · skip
            refine w_aload_n X dL_tax_23 hl 6 rfl rfl ?_
            refine w_iconst X dL_tax_24 ?_
            refine w_iload_n X dL_tax_25 hl 4 rfl rfl ?_
            refine w_imul X dL_tax_26 fun z_11 ez_11 => ?_
            refine w_iload X dL_tax_27 hl 0 rfl ?_
            refine w_iadd X dL_tax_29 fun z_12 ez_12 => ?_
            refine w_iconst X dL_tax_30 ?_
            refine w_isub X dL_tax_31 fun z_13 ez_13 => ?_
            refine w_iald (y := wI (σ.1 (i).toNat 0)) X hE hAl dL_tax_32 (by omega) (by omega) (by omega) (by rw [show (z_13).toNat = 5 * (i).toNat + 0 by omega]; exact hLA _ _ (by omega) (by omega)) ?_
            refine w_i2l X dL_tax_33 (by omega) ?_
            refine w_lstore X [(9, .long (wJ (σ.1 (i).toNat 0))), (8, .int (wI (1))), (6, .long (wJ (n))), (4, .long (wJ (0))), (0, .int (wI (i))), (1, .long (wJ (n))), (3, .ref al)] dL_tax_34 hl (by decide) rfl fun ls hl => ?_
            refine w_lload X dL_tax_36 hl 2 rfl ?_
            refine w_lload X dL_tax_38 hl 0 rfl ?_
            refine w_lcmp X dL_tax_40 (by omega) (by omega) fun z_14 ez_14a ez_14b ez_14c ez_14d => ?_
            refine w_if_le X 70 dL_tax_41 (by decide) (by omega) (fun c_15 => ?_) (fun c_15 => ?_)
            · skip
              refine w_iinc X (fun z_16 => [(8, .int (wI (z_16))), (9, .long (wJ (σ.1 (i).toNat 0))), (6, .long (wJ (n))), (4, .long (wJ (0))), (0, .int (wI (i))), (1, .long (wJ (n))), (3, .ref al)]) dL_tax_70 hl 1 rfl (by decide) (fun _ => rfl) fun z_16 ez_16 ls hl => ?_
              refine w_goto X 9 dL_tax_73 (by decide) ?_
              obtain rfl : z_16 = 0 := by omega
              refine w_iload X dL_tax_9 hl 0 rfl ?_
              refine w_if_lt X 76 dL_tax_11 (by decide) (by omega) (fun c_17 => ?_) (fun c_17 => ?_)
              · skip
                exact absurd c_17 (by omega)
              · skip
                refine w_iload X dL_tax_14 hl 0 rfl ?_
                refine w_if_ne X 23 dL_tax_16 (by decide) (by omega) (fun c_18 => ?_) (fun c_18 => ?_)
                · skip
                  exact absurd c_18 (by omega)
                · skip
                  refine w_lconst X (0) dL_tax_19 (by decide) ?_
                  refine w_goto X 34 dL_tax_20 (by decide) ?_
                  refine w_lstore X [(9, .long (wJ (0))), (8, .int (wI (0))), (6, .long (wJ (n))), (4, .long (wJ (0))), (0, .int (wI (i))), (1, .long (wJ (n))), (3, .ref al)] dL_tax_34 hl (by decide) rfl fun ls hl => ?_
                  refine w_lload X dL_tax_36 hl 2 rfl ?_
                  refine w_lload X dL_tax_38 hl 0 rfl ?_
                  refine w_lcmp X dL_tax_40 (by omega) (by omega) fun z_19 ez_19a ez_19b ez_19c ez_19d => ?_
                  refine w_if_le X 70 dL_tax_41 (by decide) (by omega) (fun c_20 => ?_) (fun c_20 => ?_)
                  · skip
                    refine w_iinc X (fun z_21 => [(8, .int (wI (z_21))), (9, .long (wJ (0))), (6, .long (wJ (n))), (4, .long (wJ (0))), (0, .int (wI (i))), (1, .long (wJ (n))), (3, .ref al)]) dL_tax_70 hl 1 rfl (by decide) (fun _ => rfl) fun z_21 ez_21 ls hl => ?_
                    refine w_goto X 9 dL_tax_73 (by decide) ?_
                    obtain rfl : z_21 = -1 := by omega
                    refine w_iload X dL_tax_9 hl 0 rfl ?_
                    refine w_if_lt X 76 dL_tax_11 (by decide) (by omega) (fun c_22 => ?_) (fun c_22 => ?_)
                    · skip
                      refine w_lload X dL_tax_76 hl 3 rfl ?_
                      refine w_ldc2 (v := 100) (z := 100) X dL_tax_78 (by decide +kernel) (by decide) ?_
                      refine w_ldiv X dL_tax_81 (by omega) (by omega) fun z_23 ez_23 => ?_
                      exact w_lret X hr hk dL_tax_82 (by have q := tax_bands (L := σ.1 i.toNat) (n := n) (d2 := 0) (d1 := 0) (d0 := 0) (by omega) (by omega) (by omega); unfold taxS; omega)
                    · skip
                      exact absurd c_22 (by omega)
                  · skip
                    refine w_lload X dL_tax_44 hl 3 rfl ?_
                    refine w_lload X dL_tax_46 hl 2 rfl ?_
                    refine w_lload X dL_tax_48 hl 0 rfl ?_
                    refine w_lsub X dL_tax_50 fun z_24 ez_24 => ?_
                    refine w_aload_n X dL_tax_51 hl 6 rfl rfl ?_
                    refine w_iconst X dL_tax_52 ?_
                    refine w_iload_n X dL_tax_53 hl 4 rfl rfl ?_
                    refine w_imul X dL_tax_54 fun z_25 ez_25 => ?_
                    refine w_iconst X dL_tax_55 ?_
                    refine w_iadd X dL_tax_56 fun z_26 ez_26 => ?_
                    refine w_iload X dL_tax_57 hl 1 rfl ?_
                    refine w_iadd X dL_tax_59 fun z_27 ez_27 => ?_
                    refine w_iald (y := wI (σ.1 (i).toNat 2)) X hE hAl dL_tax_60 (by omega) (by omega) (by omega) (by rw [show (z_27).toNat = 5 * (i).toNat + 2 by omega]; exact hLA _ _ (by omega) (by omega)) ?_
                    refine w_i2l X dL_tax_61 (by omega) ?_
                    have qm0 := w_mul_bd (a := z_24) (b := σ.1 (i).toNat 2) (A := 60000000) (B := 60) (by omega) (by omega)
                    refine w_lmul X dL_tax_62 fun z_28 ez_28 => ?_
                    refine w_ladd X dL_tax_63 fun z_29 ez_29 => ?_
                    refine w_lstore X [(4, .long (wJ (z_29))), (9, .long (wJ (0))), (8, .int (wI (0))), (6, .long (wJ (n))), (0, .int (wI (i))), (1, .long (wJ (n))), (3, .ref al)] dL_tax_64 hl (by decide) rfl fun ls hl => ?_
                    refine w_lload X dL_tax_66 hl 1 rfl ?_
                    refine w_lstore X [(6, .long (wJ (0))), (4, .long (wJ (z_29))), (9, .long (wJ (0))), (8, .int (wI (0))), (0, .int (wI (i))), (1, .long (wJ (n))), (3, .ref al)] dL_tax_68 hl (by decide) rfl fun ls hl => ?_
                    refine w_iinc X (fun z_30 => [(8, .int (wI (z_30))), (6, .long (wJ (0))), (4, .long (wJ (z_29))), (9, .long (wJ (0))), (0, .int (wI (i))), (1, .long (wJ (n))), (3, .ref al)]) dL_tax_70 hl 3 rfl (by decide) (fun _ => rfl) fun z_30 ez_30 ls hl => ?_
                    refine w_goto X 9 dL_tax_73 (by decide) ?_
                    obtain rfl : z_30 = -1 := by omega
                    refine w_iload X dL_tax_9 hl 0 rfl ?_
                    refine w_if_lt X 76 dL_tax_11 (by decide) (by omega) (fun c_31 => ?_) (fun c_31 => ?_)
                    · skip
                      refine w_lload X dL_tax_76 hl 2 rfl ?_
                      refine w_ldc2 (v := 100) (z := 100) X dL_tax_78 (by decide +kernel) (by decide) ?_
                      refine w_ldiv X dL_tax_81 (by omega) (by omega) fun z_32 ez_32 => ?_
                      exact w_lret X hr hk dL_tax_82 (by have q := tax_bands (L := σ.1 i.toNat) (n := n) (d2 := 0) (d1 := 0) (d0 := z_24) (by omega) (by omega) (by omega); unfold taxS; omega)
                    · skip
                      exact absurd c_31 (by omega)
            · skip
              refine w_lload X dL_tax_44 hl 3 rfl ?_
              refine w_lload X dL_tax_46 hl 2 rfl ?_
              refine w_lload X dL_tax_48 hl 0 rfl ?_
              refine w_lsub X dL_tax_50 fun z_33 ez_33 => ?_
              refine w_aload_n X dL_tax_51 hl 6 rfl rfl ?_
              refine w_iconst X dL_tax_52 ?_
              refine w_iload_n X dL_tax_53 hl 4 rfl rfl ?_
              refine w_imul X dL_tax_54 fun z_34 ez_34 => ?_
              refine w_iconst X dL_tax_55 ?_
              refine w_iadd X dL_tax_56 fun z_35 ez_35 => ?_
              refine w_iload X dL_tax_57 hl 1 rfl ?_
              refine w_iadd X dL_tax_59 fun z_36 ez_36 => ?_
              refine w_iald (y := wI (σ.1 (i).toNat 3)) X hE hAl dL_tax_60 (by omega) (by omega) (by omega) (by rw [show (z_36).toNat = 5 * (i).toNat + 3 by omega]; exact hLA _ _ (by omega) (by omega)) ?_
              refine w_i2l X dL_tax_61 (by omega) ?_
              have qm1 := w_mul_bd (a := z_33) (b := σ.1 (i).toNat 3) (A := 60000000) (B := 60) (by omega) (by omega)
              refine w_lmul X dL_tax_62 fun z_37 ez_37 => ?_
              refine w_ladd X dL_tax_63 fun z_38 ez_38 => ?_
              refine w_lstore X [(4, .long (wJ (z_38))), (9, .long (wJ (σ.1 (i).toNat 0))), (8, .int (wI (1))), (6, .long (wJ (n))), (0, .int (wI (i))), (1, .long (wJ (n))), (3, .ref al)] dL_tax_64 hl (by decide) rfl fun ls hl => ?_
              refine w_lload X dL_tax_66 hl 1 rfl ?_
              refine w_lstore X [(6, .long (wJ (σ.1 (i).toNat 0))), (4, .long (wJ (z_38))), (9, .long (wJ (σ.1 (i).toNat 0))), (8, .int (wI (1))), (0, .int (wI (i))), (1, .long (wJ (n))), (3, .ref al)] dL_tax_68 hl (by decide) rfl fun ls hl => ?_
              refine w_iinc X (fun z_39 => [(8, .int (wI (z_39))), (6, .long (wJ (σ.1 (i).toNat 0))), (4, .long (wJ (z_38))), (9, .long (wJ (σ.1 (i).toNat 0))), (0, .int (wI (i))), (1, .long (wJ (n))), (3, .ref al)]) dL_tax_70 hl 3 rfl (by decide) (fun _ => rfl) fun z_39 ez_39 ls hl => ?_
              refine w_goto X 9 dL_tax_73 (by decide) ?_
              obtain rfl : z_39 = 0 := by omega
              refine w_iload X dL_tax_9 hl 0 rfl ?_
              refine w_if_lt X 76 dL_tax_11 (by decide) (by omega) (fun c_40 => ?_) (fun c_40 => ?_)
              · skip
                exact absurd c_40 (by omega)
              · skip
                refine w_iload X dL_tax_14 hl 0 rfl ?_
                refine w_if_ne X 23 dL_tax_16 (by decide) (by omega) (fun c_41 => ?_) (fun c_41 => ?_)
                · skip
                  exact absurd c_41 (by omega)
                · skip
                  refine w_lconst X (0) dL_tax_19 (by decide) ?_
                  refine w_goto X 34 dL_tax_20 (by decide) ?_
                  refine w_lstore X [(9, .long (wJ (0))), (8, .int (wI (0))), (6, .long (wJ (σ.1 (i).toNat 0))), (4, .long (wJ (z_38))), (0, .int (wI (i))), (1, .long (wJ (n))), (3, .ref al)] dL_tax_34 hl (by decide) rfl fun ls hl => ?_
                  refine w_lload X dL_tax_36 hl 2 rfl ?_
                  refine w_lload X dL_tax_38 hl 0 rfl ?_
                  refine w_lcmp X dL_tax_40 (by omega) (by omega) fun z_42 ez_42a ez_42b ez_42c ez_42d => ?_
                  refine w_if_le X 70 dL_tax_41 (by decide) (by omega) (fun c_43 => ?_) (fun c_43 => ?_)
                  · skip
                    refine w_iinc X (fun z_44 => [(8, .int (wI (z_44))), (9, .long (wJ (0))), (6, .long (wJ (σ.1 (i).toNat 0))), (4, .long (wJ (z_38))), (0, .int (wI (i))), (1, .long (wJ (n))), (3, .ref al)]) dL_tax_70 hl 1 rfl (by decide) (fun _ => rfl) fun z_44 ez_44 ls hl => ?_
                    refine w_goto X 9 dL_tax_73 (by decide) ?_
                    obtain rfl : z_44 = -1 := by omega
                    refine w_iload X dL_tax_9 hl 0 rfl ?_
                    refine w_if_lt X 76 dL_tax_11 (by decide) (by omega) (fun c_45 => ?_) (fun c_45 => ?_)
                    · skip
                      refine w_lload X dL_tax_76 hl 3 rfl ?_
                      refine w_ldc2 (v := 100) (z := 100) X dL_tax_78 (by decide +kernel) (by decide) ?_
                      refine w_ldiv X dL_tax_81 (by omega) (by omega) fun z_46 ez_46 => ?_
                      exact w_lret X hr hk dL_tax_82 (by have q := tax_bands (L := σ.1 i.toNat) (n := n) (d2 := 0) (d1 := z_33) (d0 := 0) (by omega) (by omega) (by omega); unfold taxS; omega)
                    · skip
                      exact absurd c_45 (by omega)
                  · skip
                    refine w_lload X dL_tax_44 hl 3 rfl ?_
                    refine w_lload X dL_tax_46 hl 2 rfl ?_
                    refine w_lload X dL_tax_48 hl 0 rfl ?_
                    refine w_lsub X dL_tax_50 fun z_47 ez_47 => ?_
                    refine w_aload_n X dL_tax_51 hl 6 rfl rfl ?_
                    refine w_iconst X dL_tax_52 ?_
                    refine w_iload_n X dL_tax_53 hl 4 rfl rfl ?_
                    refine w_imul X dL_tax_54 fun z_48 ez_48 => ?_
                    refine w_iconst X dL_tax_55 ?_
                    refine w_iadd X dL_tax_56 fun z_49 ez_49 => ?_
                    refine w_iload X dL_tax_57 hl 1 rfl ?_
                    refine w_iadd X dL_tax_59 fun z_50 ez_50 => ?_
                    refine w_iald (y := wI (σ.1 (i).toNat 2)) X hE hAl dL_tax_60 (by omega) (by omega) (by omega) (by rw [show (z_50).toNat = 5 * (i).toNat + 2 by omega]; exact hLA _ _ (by omega) (by omega)) ?_
                    refine w_i2l X dL_tax_61 (by omega) ?_
                    have qm0 := w_mul_bd (a := z_47) (b := σ.1 (i).toNat 2) (A := 60000000) (B := 60) (by omega) (by omega)
                    refine w_lmul X dL_tax_62 fun z_51 ez_51 => ?_
                    refine w_ladd X dL_tax_63 fun z_52 ez_52 => ?_
                    refine w_lstore X [(4, .long (wJ (z_52))), (9, .long (wJ (0))), (8, .int (wI (0))), (6, .long (wJ (σ.1 (i).toNat 0))), (0, .int (wI (i))), (1, .long (wJ (n))), (3, .ref al)] dL_tax_64 hl (by decide) rfl fun ls hl => ?_
                    refine w_lload X dL_tax_66 hl 1 rfl ?_
                    refine w_lstore X [(6, .long (wJ (0))), (4, .long (wJ (z_52))), (9, .long (wJ (0))), (8, .int (wI (0))), (0, .int (wI (i))), (1, .long (wJ (n))), (3, .ref al)] dL_tax_68 hl (by decide) rfl fun ls hl => ?_
                    refine w_iinc X (fun z_53 => [(8, .int (wI (z_53))), (6, .long (wJ (0))), (4, .long (wJ (z_52))), (9, .long (wJ (0))), (0, .int (wI (i))), (1, .long (wJ (n))), (3, .ref al)]) dL_tax_70 hl 3 rfl (by decide) (fun _ => rfl) fun z_53 ez_53 ls hl => ?_
                    refine w_goto X 9 dL_tax_73 (by decide) ?_
                    obtain rfl : z_53 = -1 := by omega
                    refine w_iload X dL_tax_9 hl 0 rfl ?_
                    refine w_if_lt X 76 dL_tax_11 (by decide) (by omega) (fun c_54 => ?_) (fun c_54 => ?_)
                    · skip
                      refine w_lload X dL_tax_76 hl 2 rfl ?_
                      refine w_ldc2 (v := 100) (z := 100) X dL_tax_78 (by decide +kernel) (by decide) ?_
                      refine w_ldiv X dL_tax_81 (by omega) (by omega) fun z_55 ez_55 => ?_
                      exact w_lret X hr hk dL_tax_82 (by have q := tax_bands (L := σ.1 i.toNat) (n := n) (d2 := 0) (d1 := z_33) (d0 := z_47) (by omega) (by omega) (by omega); unfold taxS; omega)
                    · skip
                      exact absurd c_54 (by omega)
          · skip
            exact absurd c_10 (by omega)
      · skip
        refine w_lload X dL_tax_44 hl 3 rfl ?_
        refine w_lload X dL_tax_46 hl 2 rfl ?_
        refine w_lload X dL_tax_48 hl 0 rfl ?_
        refine w_lsub X dL_tax_50 fun z_56 ez_56 => ?_
        refine w_aload_n X dL_tax_51 hl 6 rfl rfl ?_
        refine w_iconst X dL_tax_52 ?_
        refine w_iload_n X dL_tax_53 hl 4 rfl rfl ?_
        refine w_imul X dL_tax_54 fun z_57 ez_57 => ?_
        refine w_iconst X dL_tax_55 ?_
        refine w_iadd X dL_tax_56 fun z_58 ez_58 => ?_
        refine w_iload X dL_tax_57 hl 1 rfl ?_
        refine w_iadd X dL_tax_59 fun z_59 ez_59 => ?_
        refine w_iald (y := wI (σ.1 (i).toNat 4)) X hE hAl dL_tax_60 (by omega) (by omega) (by omega) (by rw [show (z_59).toNat = 5 * (i).toNat + 4 by omega]; exact hLA _ _ (by omega) (by omega)) ?_
        refine w_i2l X dL_tax_61 (by omega) ?_
        have qm2 := w_mul_bd (a := z_56) (b := σ.1 (i).toNat 4) (A := 60000000) (B := 60) (by omega) (by omega)
        refine w_lmul X dL_tax_62 fun z_60 ez_60 => ?_
        refine w_ladd X dL_tax_63 fun z_61 ez_61 => ?_
        refine w_lstore X [(4, .long (wJ (z_61))), (9, .long (wJ (σ.1 (i).toNat 1))), (8, .int (wI (2))), (6, .long (wJ (n))), (0, .int (wI (i))), (1, .long (wJ (n))), (3, .ref al)] dL_tax_64 hl (by decide) rfl fun ls hl => ?_
        refine w_lload X dL_tax_66 hl 1 rfl ?_
        refine w_lstore X [(6, .long (wJ (σ.1 (i).toNat 1))), (4, .long (wJ (z_61))), (9, .long (wJ (σ.1 (i).toNat 1))), (8, .int (wI (2))), (0, .int (wI (i))), (1, .long (wJ (n))), (3, .ref al)] dL_tax_68 hl (by decide) rfl fun ls hl => ?_
        refine w_iinc X (fun z_62 => [(8, .int (wI (z_62))), (6, .long (wJ (σ.1 (i).toNat 1))), (4, .long (wJ (z_61))), (9, .long (wJ (σ.1 (i).toNat 1))), (0, .int (wI (i))), (1, .long (wJ (n))), (3, .ref al)]) dL_tax_70 hl 3 rfl (by decide) (fun _ => rfl) fun z_62 ez_62 ls hl => ?_
        refine w_goto X 9 dL_tax_73 (by decide) ?_
        obtain rfl : z_62 = 1 := by omega
        refine w_iload X dL_tax_9 hl 0 rfl ?_
        refine w_if_lt X 76 dL_tax_11 (by decide) (by omega) (fun c_63 => ?_) (fun c_63 => ?_)
        · skip
          exact absurd c_63 (by omega)
        · skip
          refine w_iload X dL_tax_14 hl 0 rfl ?_
          refine w_if_ne X 23 dL_tax_16 (by decide) (by omega) (fun c_64 => ?_) (fun c_64 => ?_)
          · skip
            refine w_aload_n X dL_tax_23 hl 6 rfl rfl ?_
            refine w_iconst X dL_tax_24 ?_
            refine w_iload_n X dL_tax_25 hl 4 rfl rfl ?_
            refine w_imul X dL_tax_26 fun z_65 ez_65 => ?_
            refine w_iload X dL_tax_27 hl 0 rfl ?_
            refine w_iadd X dL_tax_29 fun z_66 ez_66 => ?_
            refine w_iconst X dL_tax_30 ?_
            refine w_isub X dL_tax_31 fun z_67 ez_67 => ?_
            refine w_iald (y := wI (σ.1 (i).toNat 0)) X hE hAl dL_tax_32 (by omega) (by omega) (by omega) (by rw [show (z_67).toNat = 5 * (i).toNat + 0 by omega]; exact hLA _ _ (by omega) (by omega)) ?_
            refine w_i2l X dL_tax_33 (by omega) ?_
            refine w_lstore X [(9, .long (wJ (σ.1 (i).toNat 0))), (8, .int (wI (1))), (6, .long (wJ (σ.1 (i).toNat 1))), (4, .long (wJ (z_61))), (0, .int (wI (i))), (1, .long (wJ (n))), (3, .ref al)] dL_tax_34 hl (by decide) rfl fun ls hl => ?_
            refine w_lload X dL_tax_36 hl 2 rfl ?_
            refine w_lload X dL_tax_38 hl 0 rfl ?_
            refine w_lcmp X dL_tax_40 (by omega) (by omega) fun z_68 ez_68a ez_68b ez_68c ez_68d => ?_
            refine w_if_le X 70 dL_tax_41 (by decide) (by omega) (fun c_69 => ?_) (fun c_69 => ?_)
            · skip
              refine w_iinc X (fun z_70 => [(8, .int (wI (z_70))), (9, .long (wJ (σ.1 (i).toNat 0))), (6, .long (wJ (σ.1 (i).toNat 1))), (4, .long (wJ (z_61))), (0, .int (wI (i))), (1, .long (wJ (n))), (3, .ref al)]) dL_tax_70 hl 1 rfl (by decide) (fun _ => rfl) fun z_70 ez_70 ls hl => ?_
              refine w_goto X 9 dL_tax_73 (by decide) ?_
              obtain rfl : z_70 = 0 := by omega
              refine w_iload X dL_tax_9 hl 0 rfl ?_
              refine w_if_lt X 76 dL_tax_11 (by decide) (by omega) (fun c_71 => ?_) (fun c_71 => ?_)
              · skip
                exact absurd c_71 (by omega)
              · skip
                refine w_iload X dL_tax_14 hl 0 rfl ?_
                refine w_if_ne X 23 dL_tax_16 (by decide) (by omega) (fun c_72 => ?_) (fun c_72 => ?_)
                · skip
                  exact absurd c_72 (by omega)
                · skip
                  refine w_lconst X (0) dL_tax_19 (by decide) ?_
                  refine w_goto X 34 dL_tax_20 (by decide) ?_
                  refine w_lstore X [(9, .long (wJ (0))), (8, .int (wI (0))), (6, .long (wJ (σ.1 (i).toNat 1))), (4, .long (wJ (z_61))), (0, .int (wI (i))), (1, .long (wJ (n))), (3, .ref al)] dL_tax_34 hl (by decide) rfl fun ls hl => ?_
                  refine w_lload X dL_tax_36 hl 2 rfl ?_
                  refine w_lload X dL_tax_38 hl 0 rfl ?_
                  refine w_lcmp X dL_tax_40 (by omega) (by omega) fun z_73 ez_73a ez_73b ez_73c ez_73d => ?_
                  refine w_if_le X 70 dL_tax_41 (by decide) (by omega) (fun c_74 => ?_) (fun c_74 => ?_)
                  · skip
                    refine w_iinc X (fun z_75 => [(8, .int (wI (z_75))), (9, .long (wJ (0))), (6, .long (wJ (σ.1 (i).toNat 1))), (4, .long (wJ (z_61))), (0, .int (wI (i))), (1, .long (wJ (n))), (3, .ref al)]) dL_tax_70 hl 1 rfl (by decide) (fun _ => rfl) fun z_75 ez_75 ls hl => ?_
                    refine w_goto X 9 dL_tax_73 (by decide) ?_
                    obtain rfl : z_75 = -1 := by omega
                    refine w_iload X dL_tax_9 hl 0 rfl ?_
                    refine w_if_lt X 76 dL_tax_11 (by decide) (by omega) (fun c_76 => ?_) (fun c_76 => ?_)
                    · skip
                      refine w_lload X dL_tax_76 hl 3 rfl ?_
                      refine w_ldc2 (v := 100) (z := 100) X dL_tax_78 (by decide +kernel) (by decide) ?_
                      refine w_ldiv X dL_tax_81 (by omega) (by omega) fun z_77 ez_77 => ?_
                      exact w_lret X hr hk dL_tax_82 (by have q := tax_bands (L := σ.1 i.toNat) (n := n) (d2 := z_56) (d1 := 0) (d0 := 0) (by omega) (by omega) (by omega); unfold taxS; omega)
                    · skip
                      exact absurd c_76 (by omega)
                  · skip
                    refine w_lload X dL_tax_44 hl 3 rfl ?_
                    refine w_lload X dL_tax_46 hl 2 rfl ?_
                    refine w_lload X dL_tax_48 hl 0 rfl ?_
                    refine w_lsub X dL_tax_50 fun z_78 ez_78 => ?_
                    refine w_aload_n X dL_tax_51 hl 6 rfl rfl ?_
                    refine w_iconst X dL_tax_52 ?_
                    refine w_iload_n X dL_tax_53 hl 4 rfl rfl ?_
                    refine w_imul X dL_tax_54 fun z_79 ez_79 => ?_
                    refine w_iconst X dL_tax_55 ?_
                    refine w_iadd X dL_tax_56 fun z_80 ez_80 => ?_
                    refine w_iload X dL_tax_57 hl 1 rfl ?_
                    refine w_iadd X dL_tax_59 fun z_81 ez_81 => ?_
                    refine w_iald (y := wI (σ.1 (i).toNat 2)) X hE hAl dL_tax_60 (by omega) (by omega) (by omega) (by rw [show (z_81).toNat = 5 * (i).toNat + 2 by omega]; exact hLA _ _ (by omega) (by omega)) ?_
                    refine w_i2l X dL_tax_61 (by omega) ?_
                    have qm0 := w_mul_bd (a := z_78) (b := σ.1 (i).toNat 2) (A := 60000000) (B := 60) (by omega) (by omega)
                    refine w_lmul X dL_tax_62 fun z_82 ez_82 => ?_
                    refine w_ladd X dL_tax_63 fun z_83 ez_83 => ?_
                    refine w_lstore X [(4, .long (wJ (z_83))), (9, .long (wJ (0))), (8, .int (wI (0))), (6, .long (wJ (σ.1 (i).toNat 1))), (0, .int (wI (i))), (1, .long (wJ (n))), (3, .ref al)] dL_tax_64 hl (by decide) rfl fun ls hl => ?_
                    refine w_lload X dL_tax_66 hl 1 rfl ?_
                    refine w_lstore X [(6, .long (wJ (0))), (4, .long (wJ (z_83))), (9, .long (wJ (0))), (8, .int (wI (0))), (0, .int (wI (i))), (1, .long (wJ (n))), (3, .ref al)] dL_tax_68 hl (by decide) rfl fun ls hl => ?_
                    refine w_iinc X (fun z_84 => [(8, .int (wI (z_84))), (6, .long (wJ (0))), (4, .long (wJ (z_83))), (9, .long (wJ (0))), (0, .int (wI (i))), (1, .long (wJ (n))), (3, .ref al)]) dL_tax_70 hl 3 rfl (by decide) (fun _ => rfl) fun z_84 ez_84 ls hl => ?_
                    refine w_goto X 9 dL_tax_73 (by decide) ?_
                    obtain rfl : z_84 = -1 := by omega
                    refine w_iload X dL_tax_9 hl 0 rfl ?_
                    refine w_if_lt X 76 dL_tax_11 (by decide) (by omega) (fun c_85 => ?_) (fun c_85 => ?_)
                    · skip
                      refine w_lload X dL_tax_76 hl 2 rfl ?_
                      refine w_ldc2 (v := 100) (z := 100) X dL_tax_78 (by decide +kernel) (by decide) ?_
                      refine w_ldiv X dL_tax_81 (by omega) (by omega) fun z_86 ez_86 => ?_
                      exact w_lret X hr hk dL_tax_82 (by have q := tax_bands (L := σ.1 i.toNat) (n := n) (d2 := z_56) (d1 := 0) (d0 := z_78) (by omega) (by omega) (by omega); unfold taxS; omega)
                    · skip
                      exact absurd c_85 (by omega)
            · skip
              refine w_lload X dL_tax_44 hl 3 rfl ?_
              refine w_lload X dL_tax_46 hl 2 rfl ?_
              refine w_lload X dL_tax_48 hl 0 rfl ?_
              refine w_lsub X dL_tax_50 fun z_87 ez_87 => ?_
              refine w_aload_n X dL_tax_51 hl 6 rfl rfl ?_
              refine w_iconst X dL_tax_52 ?_
              refine w_iload_n X dL_tax_53 hl 4 rfl rfl ?_
              refine w_imul X dL_tax_54 fun z_88 ez_88 => ?_
              refine w_iconst X dL_tax_55 ?_
              refine w_iadd X dL_tax_56 fun z_89 ez_89 => ?_
              refine w_iload X dL_tax_57 hl 1 rfl ?_
              refine w_iadd X dL_tax_59 fun z_90 ez_90 => ?_
              refine w_iald (y := wI (σ.1 (i).toNat 3)) X hE hAl dL_tax_60 (by omega) (by omega) (by omega) (by rw [show (z_90).toNat = 5 * (i).toNat + 3 by omega]; exact hLA _ _ (by omega) (by omega)) ?_
              refine w_i2l X dL_tax_61 (by omega) ?_
              have qm1 := w_mul_bd (a := z_87) (b := σ.1 (i).toNat 3) (A := 60000000) (B := 60) (by omega) (by omega)
              refine w_lmul X dL_tax_62 fun z_91 ez_91 => ?_
              refine w_ladd X dL_tax_63 fun z_92 ez_92 => ?_
              refine w_lstore X [(4, .long (wJ (z_92))), (9, .long (wJ (σ.1 (i).toNat 0))), (8, .int (wI (1))), (6, .long (wJ (σ.1 (i).toNat 1))), (0, .int (wI (i))), (1, .long (wJ (n))), (3, .ref al)] dL_tax_64 hl (by decide) rfl fun ls hl => ?_
              refine w_lload X dL_tax_66 hl 1 rfl ?_
              refine w_lstore X [(6, .long (wJ (σ.1 (i).toNat 0))), (4, .long (wJ (z_92))), (9, .long (wJ (σ.1 (i).toNat 0))), (8, .int (wI (1))), (0, .int (wI (i))), (1, .long (wJ (n))), (3, .ref al)] dL_tax_68 hl (by decide) rfl fun ls hl => ?_
              refine w_iinc X (fun z_93 => [(8, .int (wI (z_93))), (6, .long (wJ (σ.1 (i).toNat 0))), (4, .long (wJ (z_92))), (9, .long (wJ (σ.1 (i).toNat 0))), (0, .int (wI (i))), (1, .long (wJ (n))), (3, .ref al)]) dL_tax_70 hl 3 rfl (by decide) (fun _ => rfl) fun z_93 ez_93 ls hl => ?_
              refine w_goto X 9 dL_tax_73 (by decide) ?_
              obtain rfl : z_93 = 0 := by omega
              refine w_iload X dL_tax_9 hl 0 rfl ?_
              refine w_if_lt X 76 dL_tax_11 (by decide) (by omega) (fun c_94 => ?_) (fun c_94 => ?_)
              · skip
                exact absurd c_94 (by omega)
              · skip
                refine w_iload X dL_tax_14 hl 0 rfl ?_
                refine w_if_ne X 23 dL_tax_16 (by decide) (by omega) (fun c_95 => ?_) (fun c_95 => ?_)
                · skip
                  exact absurd c_95 (by omega)
                · skip
                  refine w_lconst X (0) dL_tax_19 (by decide) ?_
                  refine w_goto X 34 dL_tax_20 (by decide) ?_
                  refine w_lstore X [(9, .long (wJ (0))), (8, .int (wI (0))), (6, .long (wJ (σ.1 (i).toNat 0))), (4, .long (wJ (z_92))), (0, .int (wI (i))), (1, .long (wJ (n))), (3, .ref al)] dL_tax_34 hl (by decide) rfl fun ls hl => ?_
                  refine w_lload X dL_tax_36 hl 2 rfl ?_
                  refine w_lload X dL_tax_38 hl 0 rfl ?_
                  refine w_lcmp X dL_tax_40 (by omega) (by omega) fun z_96 ez_96a ez_96b ez_96c ez_96d => ?_
                  refine w_if_le X 70 dL_tax_41 (by decide) (by omega) (fun c_97 => ?_) (fun c_97 => ?_)
                  · skip
                    refine w_iinc X (fun z_98 => [(8, .int (wI (z_98))), (9, .long (wJ (0))), (6, .long (wJ (σ.1 (i).toNat 0))), (4, .long (wJ (z_92))), (0, .int (wI (i))), (1, .long (wJ (n))), (3, .ref al)]) dL_tax_70 hl 1 rfl (by decide) (fun _ => rfl) fun z_98 ez_98 ls hl => ?_
                    refine w_goto X 9 dL_tax_73 (by decide) ?_
                    obtain rfl : z_98 = -1 := by omega
                    refine w_iload X dL_tax_9 hl 0 rfl ?_
                    refine w_if_lt X 76 dL_tax_11 (by decide) (by omega) (fun c_99 => ?_) (fun c_99 => ?_)
                    · skip
                      refine w_lload X dL_tax_76 hl 3 rfl ?_
                      refine w_ldc2 (v := 100) (z := 100) X dL_tax_78 (by decide +kernel) (by decide) ?_
                      refine w_ldiv X dL_tax_81 (by omega) (by omega) fun z_100 ez_100 => ?_
                      exact w_lret X hr hk dL_tax_82 (by have q := tax_bands (L := σ.1 i.toNat) (n := n) (d2 := z_56) (d1 := z_87) (d0 := 0) (by omega) (by omega) (by omega); unfold taxS; omega)
                    · skip
                      exact absurd c_99 (by omega)
                  · skip
                    refine w_lload X dL_tax_44 hl 3 rfl ?_
                    refine w_lload X dL_tax_46 hl 2 rfl ?_
                    refine w_lload X dL_tax_48 hl 0 rfl ?_
                    refine w_lsub X dL_tax_50 fun z_101 ez_101 => ?_
                    refine w_aload_n X dL_tax_51 hl 6 rfl rfl ?_
                    refine w_iconst X dL_tax_52 ?_
                    refine w_iload_n X dL_tax_53 hl 4 rfl rfl ?_
                    refine w_imul X dL_tax_54 fun z_102 ez_102 => ?_
                    refine w_iconst X dL_tax_55 ?_
                    refine w_iadd X dL_tax_56 fun z_103 ez_103 => ?_
                    refine w_iload X dL_tax_57 hl 1 rfl ?_
                    refine w_iadd X dL_tax_59 fun z_104 ez_104 => ?_
                    refine w_iald (y := wI (σ.1 (i).toNat 2)) X hE hAl dL_tax_60 (by omega) (by omega) (by omega) (by rw [show (z_104).toNat = 5 * (i).toNat + 2 by omega]; exact hLA _ _ (by omega) (by omega)) ?_
                    refine w_i2l X dL_tax_61 (by omega) ?_
                    have qm0 := w_mul_bd (a := z_101) (b := σ.1 (i).toNat 2) (A := 60000000) (B := 60) (by omega) (by omega)
                    refine w_lmul X dL_tax_62 fun z_105 ez_105 => ?_
                    refine w_ladd X dL_tax_63 fun z_106 ez_106 => ?_
                    refine w_lstore X [(4, .long (wJ (z_106))), (9, .long (wJ (0))), (8, .int (wI (0))), (6, .long (wJ (σ.1 (i).toNat 0))), (0, .int (wI (i))), (1, .long (wJ (n))), (3, .ref al)] dL_tax_64 hl (by decide) rfl fun ls hl => ?_
                    refine w_lload X dL_tax_66 hl 1 rfl ?_
                    refine w_lstore X [(6, .long (wJ (0))), (4, .long (wJ (z_106))), (9, .long (wJ (0))), (8, .int (wI (0))), (0, .int (wI (i))), (1, .long (wJ (n))), (3, .ref al)] dL_tax_68 hl (by decide) rfl fun ls hl => ?_
                    refine w_iinc X (fun z_107 => [(8, .int (wI (z_107))), (6, .long (wJ (0))), (4, .long (wJ (z_106))), (9, .long (wJ (0))), (0, .int (wI (i))), (1, .long (wJ (n))), (3, .ref al)]) dL_tax_70 hl 3 rfl (by decide) (fun _ => rfl) fun z_107 ez_107 ls hl => ?_
                    refine w_goto X 9 dL_tax_73 (by decide) ?_
                    obtain rfl : z_107 = -1 := by omega
                    refine w_iload X dL_tax_9 hl 0 rfl ?_
                    refine w_if_lt X 76 dL_tax_11 (by decide) (by omega) (fun c_108 => ?_) (fun c_108 => ?_)
                    · skip
                      refine w_lload X dL_tax_76 hl 2 rfl ?_
                      refine w_ldc2 (v := 100) (z := 100) X dL_tax_78 (by decide +kernel) (by decide) ?_
                      refine w_ldiv X dL_tax_81 (by omega) (by omega) fun z_109 ez_109 => ?_
                      exact w_lret X hr hk dL_tax_82 (by have q := tax_bands (L := σ.1 i.toNat) (n := n) (d2 := z_56) (d1 := z_87) (d0 := z_101) (by omega) (by omega) (by omega); unfold taxS; omega)
                    · skip
                      exact absurd c_108 (by omega)
          · skip
            exact absurd c_64 (by omega)
    · skip
      exact absurd c_2 (by omega)

set_option maxHeartbeats 4000000 in
set_option maxRecDepth 100000 in
theorem c_L_gross (l : Launch) (g : wG) (H : Heap) (σ : St) (hσ : StGood σ) (al : Nat) (fl : Nat → Int32) (hAl : IA g H al 20 fl) (hLA : LA σ fl) (i : Int) (hi : 0 ≤ i ∧ i < 4) (n : Int) (hn : 0 ≤ n ∧ n ≤ 10000000) : Pur l g H yL_gross wsL_gross 1 30 [.int (wI i), .long (wJ n), .ref al] (.long (wJ (grossS (σ.1 i.toNat) n))) := by
  refine Pur.of (cc := cL_gross) (maxL := 8) (ret := some .long) (by decide) rfl (Nat.le_of_ble_eq_true rfl) ?_
  intro p e s m args below meth c X hE hr hk ls hl
  have hl : lv_has ls 8 [(0, .int (wI i)), (1, .long (wJ n)), (3, .ref al)] := hl
  have hG := hσ.1 i.toNat (by omega)
  have hgb := gross_bd hG hn.1
  have loop : ∀ (r : Nat) (k t : Int), grossS (σ.1 i.toNat) n - k ≤ r → 0 ≤ k → k ≤ grossS (σ.1 i.toNat) n → t = taxS (σ.1 i.toNat) (n + k) → ∀ ls : Array Slot, lv_has ls 8 [(6, .long (wJ (t))), (4, .long (wJ (k))), (0, .int (wI (i))), (1, .long (wJ (n))), (3, .ref al)] → W p l e { frames := 1, cells := 0, slots := 0, locals := 30 } s m args below meth c H [] 0 0 (MQ below (PQ H (.long (wJ (grossS (σ.1 i.toNat) n)))) args s 0 0 (fun _ => False)) (F0 m 11 ls []) := by
    intro r
    induction r with
    | zero =>
      intro k t hr9 h0 h1 ht ls hl
      have q1 : k ≤ t ∧ t ≤ grossS (σ.1 i.toNat) n := by rw [ht]; exact gross_next hG hn.1 ⟨h0, h1⟩
      refine w_lload X dL_gross_11 hl 0 rfl ?_
      refine w_lload X dL_gross_13 hl 1 rfl ?_
      refine w_lcmp X dL_gross_15 (by omega) (by omega) fun z_1 ez_1a ez_1b ez_1c ez_1d => ?_
      refine w_if_eq X 37 dL_gross_16 (by decide) (by omega) (fun c_2 => ?_) (fun c_2 => ?_)
      · skip
        refine w_lload X dL_gross_37 hl 1 rfl ?_
        exact w_lret X hr hk dL_gross_39 (gross_end hG hn.1 ⟨h0, h1⟩ (by omega))
      · skip
        exact absurd c_2 (by omega)
    | succ r ih =>
      intro k t hr9 h0 h1 ht ls hl
      have q1 : k ≤ t ∧ t ≤ grossS (σ.1 i.toNat) n := by rw [ht]; exact gross_next hG hn.1 ⟨h0, h1⟩
      refine w_lload X dL_gross_11 hl 0 rfl ?_
      refine w_lload X dL_gross_13 hl 1 rfl ?_
      refine w_lcmp X dL_gross_15 (by omega) (by omega) fun z_1 ez_1a ez_1b ez_1c ez_1d => ?_
      refine w_if_eq X 37 dL_gross_16 (by decide) (by omega) (fun c_2 => ?_) (fun c_2 => ?_)
      · skip
        refine w_lload X dL_gross_37 hl 1 rfl ?_
        exact w_lret X hr hk dL_gross_39 (gross_end hG hn.1 ⟨h0, h1⟩ (by omega))
      · skip
        refine w_lload X dL_gross_19 hl 0 rfl ?_
        refine w_lstore X [(4, .long (wJ (t))), (6, .long (wJ (t))), (0, .int (wI (i))), (1, .long (wJ (n))), (3, .ref al)] dL_gross_21 hl (by decide) rfl fun ls hl => ?_
        refine w_iload_n X dL_gross_23 hl 2 rfl rfl ?_
        refine w_lload_n X dL_gross_24 hl 3 rfl rfl ?_
        refine w_lload X dL_gross_25 hl 0 rfl ?_
        refine w_ladd X dL_gross_27 fun z_3 ez_3 => ?_
        refine w_aload_n X dL_gross_28 hl 4 rfl rfl ?_
        refine w_callS (v := .long (wJ (taxS (σ.1 i.toNat) (z_3)))) 3 X hE (c_L_tax l g H σ hσ al fl hAl hLA i hi (z_3) (by omega)) hl dL_gross_29 gL_gross_L_tax rfl rfl (by decide +kernel) ⟨(Nat.le_of_ble_eq_true rfl), (Nat.le_of_ble_eq_true rfl)⟩ rfl (Nat.le_of_ble_eq_true rfl) ⟨Nat.le_refl _, Nat.le_refl _⟩ ?_
        refine w_lstore X [(6, .long (wJ (taxS (σ.1 i.toNat) (z_3)))), (4, .long (wJ (t))), (0, .int (wI (i))), (1, .long (wJ (n))), (3, .ref al)] dL_gross_32 hl (by decide) rfl fun ls hl => ?_
        refine w_goto X 11 dL_gross_34 (by decide) ?_
        refine ih t _ (by omega) (by omega) q1.2 ?_ ls (lv_sub hl [0, 1, 2, 3, 4] rfl)
        rw [show z_3 = n + t by omega]
  refine w_lconst X (0) dL_gross_0 (by decide) ?_
  refine w_lstore X [(4, .long (wJ (0))), (0, .int (wI (i))), (1, .long (wJ (n))), (3, .ref al)] dL_gross_1 hl (by decide) rfl fun ls hl => ?_
  refine w_iload_n X dL_gross_3 hl 1 rfl rfl ?_
  refine w_lload_n X dL_gross_4 hl 2 rfl rfl ?_
  refine w_aload_n X dL_gross_5 hl 3 rfl rfl ?_
  refine w_callS (v := .long (wJ (taxS (σ.1 i.toNat) (n)))) 3 X hE (c_L_tax l g H σ hσ al fl hAl hLA i hi (n) (by omega)) hl dL_gross_6 gL_gross_L_tax rfl rfl (by decide +kernel) ⟨(Nat.le_of_ble_eq_true rfl), (Nat.le_of_ble_eq_true rfl)⟩ rfl (Nat.le_of_ble_eq_true rfl) ⟨Nat.le_refl _, Nat.le_refl _⟩ ?_
  refine w_lstore X [(6, .long (wJ (taxS (σ.1 i.toNat) (n)))), (4, .long (wJ (0))), (0, .int (wI (i))), (1, .long (wJ (n))), (3, .ref al)] dL_gross_9 hl (by decide) rfl fun ls hl => ?_
  exact loop (grossS (σ.1 i.toNat) n).toNat 0 _ (by omega) (by omega) hgb.1 (by rw [Int.add_zero]) ls (lv_sub hl [0, 1, 2, 3, 4] rfl)

set_option maxHeartbeats 4000000 in
set_option maxRecDepth 100000 in
theorem c_L_abroad (l : Launch) (g : wG) (H : Heap) (σ : St) (hσ : StGood σ) (hs3 : sn σ ≤ 3) (ap : Nat) (fp : Nat → Int32) (hAp : IA g H ap 24 fp) (hPA : PA σ fp) (ab : Nat) (fb : Nat → Int32) (hAb : IA g H ab 54 fb) (hBA : BA σ fb) (k : Int) (hk : 0 ≤ k ∧ k < (sn σ : Int)) (n : Int) (hn : 0 ≤ n ∧ n < (sb σ k.toNat : Int)) : Pur l g H yL_abroad wsL_abroad 0 0 [.int (wI (k)), .int (wI (n)), .ref ap, .ref ab] (.int (wI (parS (sp σ k.toNat) (so σ k.toNat n.toNat)))) := by
  refine Pur.of (cc := cL_abroad) (maxL := 7) (ret := (some .int)) (by decide) rfl (Nat.le_of_ble_eq_true rfl) ?_
  intro p9 e s m args below meth c X hE hr hk ls hl
  have hl : lv_has ls 7 [(0, .int (wI (k))), (1, .int (wI (n))), (2, .ref ap), (3, .ref ab)] := hl
  have hg := (hσ.2.2.1 k.toNat (by omega)).1
  have hb := hg.2.2.2.2.2 n.toNat (by omega)
  have hb6 := hg.2.2.2.2.1
  obtain ⟨b1, b2, b3, b4⟩ := id hb
  obtain ⟨p1, ⟨p2, p3, p4⟩, p5, p6, -⟩ := id hg
  refine w_bipush X dL_abroad_0 (by decide) ?_
  refine w_iload_n X dL_abroad_2 hl 0 rfl rfl ?_
  refine w_imul X dL_abroad_3 fun z_1 ez_1 => ?_
  refine w_iconst X dL_abroad_4 ?_
  refine w_iload_n X dL_abroad_5 hl 1 rfl rfl ?_
  refine w_imul X dL_abroad_6 fun z_2 ez_2 => ?_
  refine w_iadd X dL_abroad_7 fun z_3 ez_3 => ?_
  refine w_istore X [(4, .int (wI (z_3))), (0, .int (wI (k))), (1, .int (wI (n))), (2, .ref ap), (3, .ref ab)] dL_abroad_8 hl (by decide) rfl fun ls hl => ?_
  refine w_aload_n X dL_abroad_10 hl 4 rfl rfl ?_
  refine w_iload X dL_abroad_11 hl 0 rfl ?_
  refine w_iconst X dL_abroad_13 ?_
  refine w_iadd X dL_abroad_14 fun z_4 ez_4 => ?_
  refine w_iald (y := wI (so σ (k).toNat (n).toNat 1)) X hE hAb dL_abroad_15 (by omega) (by omega) (by omega) (by rw [show (z_4).toNat = 18 * (k).toNat + 3 * (n).toNat + 1 by omega]; exact hBA _ _ _ (by omega) (by omega) (by omega)) ?_
  refine w_aload_n X dL_abroad_16 hl 3 rfl rfl ?_
  refine w_bipush X dL_abroad_17 (by decide) ?_
  refine w_iload_n X dL_abroad_19 hl 1 rfl rfl ?_
  refine w_imul X dL_abroad_20 fun z_5 ez_5 => ?_
  refine w_iconst X dL_abroad_21 ?_
  refine w_iadd X dL_abroad_22 fun z_6 ez_6 => ?_
  refine w_iald (y := wI (sp σ (k).toNat 3)) X hE hAp dL_abroad_23 (by omega) (by omega) (by omega) (by rw [show (z_6).toNat = 8 * (k).toNat + 3 by omega]; exact (hPA _ (by omega)).1 3 (by omega)) ?_
  refine w_icmp_le X 36 dL_abroad_24 (by decide) (by omega) (by omega) (fun c_7 => ?_) (fun c_7 => ?_)
  · skip
    refine w_aload_n X dL_abroad_36 hl 3 rfl rfl ?_
    refine w_bipush X dL_abroad_37 (by decide) ?_
    refine w_iload_n X dL_abroad_39 hl 1 rfl rfl ?_
    refine w_imul X dL_abroad_40 fun z_8 ez_8 => ?_
    refine w_iconst X dL_abroad_41 ?_
    refine w_iadd X dL_abroad_42 fun z_9 ez_9 => ?_
    refine w_iald (y := wI (sp σ (k).toNat 3)) X hE hAp dL_abroad_43 (by omega) (by omega) (by omega) (by rw [show (z_9).toNat = 8 * (k).toNat + 3 by omega]; exact (hPA _ (by omega)).1 3 (by omega)) ?_
    refine w_istore X [(5, .int (wI (sp σ (k).toNat 3))), (4, .int (wI (z_3))), (0, .int (wI (k))), (1, .int (wI (n))), (2, .ref ap), (3, .ref ab)] dL_abroad_44 hl (by decide) rfl fun ls hl => ?_
    refine w_aload_n X dL_abroad_46 hl 5 rfl rfl ?_
    refine w_iload X dL_abroad_47 hl 1 rfl ?_
    refine w_iconst X dL_abroad_49 ?_
    refine w_iadd X dL_abroad_50 fun z_10 ez_10 => ?_
    refine w_iald (y := wI (so σ (k).toNat (n).toNat 2)) X hE hAb dL_abroad_51 (by omega) (by omega) (by omega) (by rw [show (z_10).toNat = 18 * (k).toNat + 3 * (n).toNat + 2 by omega]; exact hBA _ _ _ (by omega) (by omega) (by omega)) ?_
    refine w_aload_n X dL_abroad_52 hl 4 rfl rfl ?_
    refine w_bipush X dL_abroad_53 (by decide) ?_
    refine w_iload_n X dL_abroad_55 hl 2 rfl rfl ?_
    refine w_imul X dL_abroad_56 fun z_11 ez_11 => ?_
    refine w_iconst X dL_abroad_57 ?_
    refine w_iadd X dL_abroad_58 fun z_12 ez_12 => ?_
    refine w_iald (y := wI (sp σ (k).toNat 4)) X hE hAp dL_abroad_59 (by omega) (by omega) (by omega) (by rw [show (z_12).toNat = 8 * (k).toNat + 4 by omega]; exact (hPA _ (by omega)).1 4 (by omega)) ?_
    refine w_icmp_ge X 72 dL_abroad_60 (by decide) (by omega) (by omega) (fun c_13 => ?_) (fun c_13 => ?_)
    · skip
      refine w_aload_n X dL_abroad_72 hl 4 rfl rfl ?_
      refine w_bipush X dL_abroad_73 (by decide) ?_
      refine w_iload_n X dL_abroad_75 hl 2 rfl rfl ?_
      refine w_imul X dL_abroad_76 fun z_14 ez_14 => ?_
      refine w_iconst X dL_abroad_77 ?_
      refine w_iadd X dL_abroad_78 fun z_15 ez_15 => ?_
      refine w_iald (y := wI (sp σ (k).toNat 4)) X hE hAp dL_abroad_79 (by omega) (by omega) (by omega) (by rw [show (z_15).toNat = 8 * (k).toNat + 4 by omega]; exact (hPA _ (by omega)).1 4 (by omega)) ?_
      refine w_istore X [(6, .int (wI (sp σ (k).toNat 4))), (5, .int (wI (sp σ (k).toNat 3))), (4, .int (wI (z_3))), (0, .int (wI (k))), (1, .int (wI (n))), (2, .ref ap), (3, .ref ab)] dL_abroad_80 hl (by decide) rfl fun ls hl => ?_
      refine w_iload X dL_abroad_82 hl 0 rfl ?_
      refine w_iload X dL_abroad_84 hl 1 rfl ?_
      refine w_icmp_le X 116 dL_abroad_86 (by decide) (by omega) (by omega) (fun c_16 => ?_) (fun c_16 => ?_)
      · skip
        refine w_iconst X dL_abroad_116 ?_
        exact w_iret X hr hk dL_abroad_117 (by rw [par_no (by unfold ovS; omega)])
      · skip
        refine w_aload_n X dL_abroad_89 hl 6 rfl rfl ?_
        refine w_iload X dL_abroad_90 hl 2 rfl ?_
        refine w_iald (y := wI (so σ (k).toNat (n).toNat 0)) X hE hAb dL_abroad_92 (by omega) (by omega) (by omega) (by rw [show (z_3).toNat = 18 * (k).toNat + 3 * (n).toNat + 0 by omega]; exact hBA _ _ _ (by omega) (by omega) (by omega)) ?_
        refine w_iload X dL_abroad_93 hl 0 rfl ?_
        refine w_iload X dL_abroad_95 hl 1 rfl ?_
        refine w_isub X dL_abroad_97 fun z_17 ez_17 => ?_
        have hov : z_17 = ovS (sp σ k.toNat) (so σ k.toNat n.toNat) := by unfold ovS; omega
        refine w_imul X dL_abroad_98 fun z_18 ez_18 => ?_
        refine w_aload_n X dL_abroad_99 hl 6 rfl rfl ?_
        refine w_iload X dL_abroad_100 hl 2 rfl ?_
        refine w_iconst X dL_abroad_102 ?_
        refine w_iadd X dL_abroad_103 fun z_19 ez_19 => ?_
        refine w_iald (y := wI (so σ (k).toNat (n).toNat 2)) X hE hAb dL_abroad_104 (by omega) (by omega) (by omega) (by rw [show (z_19).toNat = 18 * (k).toNat + 3 * (n).toNat + 2 by omega]; exact hBA _ _ _ (by omega) (by omega) (by omega)) ?_
        refine w_aload_n X dL_abroad_105 hl 6 rfl rfl ?_
        refine w_iload X dL_abroad_106 hl 2 rfl ?_
        refine w_iconst X dL_abroad_108 ?_
        refine w_iadd X dL_abroad_109 fun z_20 ez_20 => ?_
        refine w_iald (y := wI (so σ (k).toNat (n).toNat 1)) X hE hAb dL_abroad_110 (by omega) (by omega) (by omega) (by rw [show (z_20).toNat = 18 * (k).toNat + 3 * (n).toNat + 1 by omega]; exact hBA _ _ _ (by omega) (by omega) (by omega)) ?_
        refine w_isub X dL_abroad_111 fun z_21 ez_21 => ?_
        have hcv := cov_bd (pf := sp σ k.toNat) hb
        have hm9 : z_18 = so σ k.toNat n.toNat 0 * ovS (sp σ k.toNat) (so σ k.toNat n.toNat) := by rw [ez_18, hov]
        refine w_idiv X dL_abroad_112 (by omega) (by omega) fun z_22 ez_22 => ?_
        refine w_goto X 117 dL_abroad_113 (by decide) ?_
        exact w_iret X hr hk dL_abroad_117 (by rw [ez_22, hm9, ez_21]; rfl)
    · skip
      refine w_aload_n X dL_abroad_63 hl 5 rfl rfl ?_
      refine w_iload X dL_abroad_64 hl 1 rfl ?_
      refine w_iconst X dL_abroad_66 ?_
      refine w_iadd X dL_abroad_67 fun z_23 ez_23 => ?_
      refine w_iald (y := wI (so σ (k).toNat (n).toNat 2)) X hE hAb dL_abroad_68 (by omega) (by omega) (by omega) (by rw [show (z_23).toNat = 18 * (k).toNat + 3 * (n).toNat + 2 by omega]; exact hBA _ _ _ (by omega) (by omega) (by omega)) ?_
      refine w_goto X 80 dL_abroad_69 (by decide) ?_
      refine w_istore X [(6, .int (wI (so σ (k).toNat (n).toNat 2))), (5, .int (wI (sp σ (k).toNat 3))), (4, .int (wI (z_3))), (0, .int (wI (k))), (1, .int (wI (n))), (2, .ref ap), (3, .ref ab)] dL_abroad_80 hl (by decide) rfl fun ls hl => ?_
      refine w_iload X dL_abroad_82 hl 0 rfl ?_
      refine w_iload X dL_abroad_84 hl 1 rfl ?_
      refine w_icmp_le X 116 dL_abroad_86 (by decide) (by omega) (by omega) (fun c_24 => ?_) (fun c_24 => ?_)
      · skip
        refine w_iconst X dL_abroad_116 ?_
        exact w_iret X hr hk dL_abroad_117 (by rw [par_no (by unfold ovS; omega)])
      · skip
        refine w_aload_n X dL_abroad_89 hl 6 rfl rfl ?_
        refine w_iload X dL_abroad_90 hl 2 rfl ?_
        refine w_iald (y := wI (so σ (k).toNat (n).toNat 0)) X hE hAb dL_abroad_92 (by omega) (by omega) (by omega) (by rw [show (z_3).toNat = 18 * (k).toNat + 3 * (n).toNat + 0 by omega]; exact hBA _ _ _ (by omega) (by omega) (by omega)) ?_
        refine w_iload X dL_abroad_93 hl 0 rfl ?_
        refine w_iload X dL_abroad_95 hl 1 rfl ?_
        refine w_isub X dL_abroad_97 fun z_25 ez_25 => ?_
        have hov : z_25 = ovS (sp σ k.toNat) (so σ k.toNat n.toNat) := by unfold ovS; omega
        refine w_imul X dL_abroad_98 fun z_26 ez_26 => ?_
        refine w_aload_n X dL_abroad_99 hl 6 rfl rfl ?_
        refine w_iload X dL_abroad_100 hl 2 rfl ?_
        refine w_iconst X dL_abroad_102 ?_
        refine w_iadd X dL_abroad_103 fun z_27 ez_27 => ?_
        refine w_iald (y := wI (so σ (k).toNat (n).toNat 2)) X hE hAb dL_abroad_104 (by omega) (by omega) (by omega) (by rw [show (z_27).toNat = 18 * (k).toNat + 3 * (n).toNat + 2 by omega]; exact hBA _ _ _ (by omega) (by omega) (by omega)) ?_
        refine w_aload_n X dL_abroad_105 hl 6 rfl rfl ?_
        refine w_iload X dL_abroad_106 hl 2 rfl ?_
        refine w_iconst X dL_abroad_108 ?_
        refine w_iadd X dL_abroad_109 fun z_28 ez_28 => ?_
        refine w_iald (y := wI (so σ (k).toNat (n).toNat 1)) X hE hAb dL_abroad_110 (by omega) (by omega) (by omega) (by rw [show (z_28).toNat = 18 * (k).toNat + 3 * (n).toNat + 1 by omega]; exact hBA _ _ _ (by omega) (by omega) (by omega)) ?_
        refine w_isub X dL_abroad_111 fun z_29 ez_29 => ?_
        have hcv := cov_bd (pf := sp σ k.toNat) hb
        have hm9 : z_26 = so σ k.toNat n.toNat 0 * ovS (sp σ k.toNat) (so σ k.toNat n.toNat) := by rw [ez_26, hov]
        refine w_idiv X dL_abroad_112 (by omega) (by omega) fun z_30 ez_30 => ?_
        refine w_goto X 117 dL_abroad_113 (by decide) ?_
        exact w_iret X hr hk dL_abroad_117 (by rw [ez_30, hm9, ez_29]; rfl)
  · skip
    refine w_aload_n X dL_abroad_27 hl 4 rfl rfl ?_
    refine w_iload X dL_abroad_28 hl 0 rfl ?_
    refine w_iconst X dL_abroad_30 ?_
    refine w_iadd X dL_abroad_31 fun z_31 ez_31 => ?_
    refine w_iald (y := wI (so σ (k).toNat (n).toNat 1)) X hE hAb dL_abroad_32 (by omega) (by omega) (by omega) (by rw [show (z_31).toNat = 18 * (k).toNat + 3 * (n).toNat + 1 by omega]; exact hBA _ _ _ (by omega) (by omega) (by omega)) ?_
    refine w_goto X 44 dL_abroad_33 (by decide) ?_
    refine w_istore X [(5, .int (wI (so σ (k).toNat (n).toNat 1))), (4, .int (wI (z_3))), (0, .int (wI (k))), (1, .int (wI (n))), (2, .ref ap), (3, .ref ab)] dL_abroad_44 hl (by decide) rfl fun ls hl => ?_
    refine w_aload_n X dL_abroad_46 hl 5 rfl rfl ?_
    refine w_iload X dL_abroad_47 hl 1 rfl ?_
    refine w_iconst X dL_abroad_49 ?_
    refine w_iadd X dL_abroad_50 fun z_32 ez_32 => ?_
    refine w_iald (y := wI (so σ (k).toNat (n).toNat 2)) X hE hAb dL_abroad_51 (by omega) (by omega) (by omega) (by rw [show (z_32).toNat = 18 * (k).toNat + 3 * (n).toNat + 2 by omega]; exact hBA _ _ _ (by omega) (by omega) (by omega)) ?_
    refine w_aload_n X dL_abroad_52 hl 4 rfl rfl ?_
    refine w_bipush X dL_abroad_53 (by decide) ?_
    refine w_iload_n X dL_abroad_55 hl 2 rfl rfl ?_
    refine w_imul X dL_abroad_56 fun z_33 ez_33 => ?_
    refine w_iconst X dL_abroad_57 ?_
    refine w_iadd X dL_abroad_58 fun z_34 ez_34 => ?_
    refine w_iald (y := wI (sp σ (k).toNat 4)) X hE hAp dL_abroad_59 (by omega) (by omega) (by omega) (by rw [show (z_34).toNat = 8 * (k).toNat + 4 by omega]; exact (hPA _ (by omega)).1 4 (by omega)) ?_
    refine w_icmp_ge X 72 dL_abroad_60 (by decide) (by omega) (by omega) (fun c_35 => ?_) (fun c_35 => ?_)
    · skip
      refine w_aload_n X dL_abroad_72 hl 4 rfl rfl ?_
      refine w_bipush X dL_abroad_73 (by decide) ?_
      refine w_iload_n X dL_abroad_75 hl 2 rfl rfl ?_
      refine w_imul X dL_abroad_76 fun z_36 ez_36 => ?_
      refine w_iconst X dL_abroad_77 ?_
      refine w_iadd X dL_abroad_78 fun z_37 ez_37 => ?_
      refine w_iald (y := wI (sp σ (k).toNat 4)) X hE hAp dL_abroad_79 (by omega) (by omega) (by omega) (by rw [show (z_37).toNat = 8 * (k).toNat + 4 by omega]; exact (hPA _ (by omega)).1 4 (by omega)) ?_
      refine w_istore X [(6, .int (wI (sp σ (k).toNat 4))), (5, .int (wI (so σ (k).toNat (n).toNat 1))), (4, .int (wI (z_3))), (0, .int (wI (k))), (1, .int (wI (n))), (2, .ref ap), (3, .ref ab)] dL_abroad_80 hl (by decide) rfl fun ls hl => ?_
      refine w_iload X dL_abroad_82 hl 0 rfl ?_
      refine w_iload X dL_abroad_84 hl 1 rfl ?_
      refine w_icmp_le X 116 dL_abroad_86 (by decide) (by omega) (by omega) (fun c_38 => ?_) (fun c_38 => ?_)
      · skip
        refine w_iconst X dL_abroad_116 ?_
        exact w_iret X hr hk dL_abroad_117 (by rw [par_no (by unfold ovS; omega)])
      · skip
        refine w_aload_n X dL_abroad_89 hl 6 rfl rfl ?_
        refine w_iload X dL_abroad_90 hl 2 rfl ?_
        refine w_iald (y := wI (so σ (k).toNat (n).toNat 0)) X hE hAb dL_abroad_92 (by omega) (by omega) (by omega) (by rw [show (z_3).toNat = 18 * (k).toNat + 3 * (n).toNat + 0 by omega]; exact hBA _ _ _ (by omega) (by omega) (by omega)) ?_
        refine w_iload X dL_abroad_93 hl 0 rfl ?_
        refine w_iload X dL_abroad_95 hl 1 rfl ?_
        refine w_isub X dL_abroad_97 fun z_39 ez_39 => ?_
        have hov : z_39 = ovS (sp σ k.toNat) (so σ k.toNat n.toNat) := by unfold ovS; omega
        refine w_imul X dL_abroad_98 fun z_40 ez_40 => ?_
        refine w_aload_n X dL_abroad_99 hl 6 rfl rfl ?_
        refine w_iload X dL_abroad_100 hl 2 rfl ?_
        refine w_iconst X dL_abroad_102 ?_
        refine w_iadd X dL_abroad_103 fun z_41 ez_41 => ?_
        refine w_iald (y := wI (so σ (k).toNat (n).toNat 2)) X hE hAb dL_abroad_104 (by omega) (by omega) (by omega) (by rw [show (z_41).toNat = 18 * (k).toNat + 3 * (n).toNat + 2 by omega]; exact hBA _ _ _ (by omega) (by omega) (by omega)) ?_
        refine w_aload_n X dL_abroad_105 hl 6 rfl rfl ?_
        refine w_iload X dL_abroad_106 hl 2 rfl ?_
        refine w_iconst X dL_abroad_108 ?_
        refine w_iadd X dL_abroad_109 fun z_42 ez_42 => ?_
        refine w_iald (y := wI (so σ (k).toNat (n).toNat 1)) X hE hAb dL_abroad_110 (by omega) (by omega) (by omega) (by rw [show (z_42).toNat = 18 * (k).toNat + 3 * (n).toNat + 1 by omega]; exact hBA _ _ _ (by omega) (by omega) (by omega)) ?_
        refine w_isub X dL_abroad_111 fun z_43 ez_43 => ?_
        have hcv := cov_bd (pf := sp σ k.toNat) hb
        have hm9 : z_40 = so σ k.toNat n.toNat 0 * ovS (sp σ k.toNat) (so σ k.toNat n.toNat) := by rw [ez_40, hov]
        refine w_idiv X dL_abroad_112 (by omega) (by omega) fun z_44 ez_44 => ?_
        refine w_goto X 117 dL_abroad_113 (by decide) ?_
        exact w_iret X hr hk dL_abroad_117 (by rw [ez_44, hm9, ez_43]; rfl)
    · skip
      refine w_aload_n X dL_abroad_63 hl 5 rfl rfl ?_
      refine w_iload X dL_abroad_64 hl 1 rfl ?_
      refine w_iconst X dL_abroad_66 ?_
      refine w_iadd X dL_abroad_67 fun z_45 ez_45 => ?_
      refine w_iald (y := wI (so σ (k).toNat (n).toNat 2)) X hE hAb dL_abroad_68 (by omega) (by omega) (by omega) (by rw [show (z_45).toNat = 18 * (k).toNat + 3 * (n).toNat + 2 by omega]; exact hBA _ _ _ (by omega) (by omega) (by omega)) ?_
      refine w_goto X 80 dL_abroad_69 (by decide) ?_
      refine w_istore X [(6, .int (wI (so σ (k).toNat (n).toNat 2))), (5, .int (wI (so σ (k).toNat (n).toNat 1))), (4, .int (wI (z_3))), (0, .int (wI (k))), (1, .int (wI (n))), (2, .ref ap), (3, .ref ab)] dL_abroad_80 hl (by decide) rfl fun ls hl => ?_
      refine w_iload X dL_abroad_82 hl 0 rfl ?_
      refine w_iload X dL_abroad_84 hl 1 rfl ?_
      refine w_icmp_le X 116 dL_abroad_86 (by decide) (by omega) (by omega) (fun c_46 => ?_) (fun c_46 => ?_)
      · skip
        refine w_iconst X dL_abroad_116 ?_
        exact w_iret X hr hk dL_abroad_117 (by rw [par_no (by unfold ovS; omega)])
      · skip
        refine w_aload_n X dL_abroad_89 hl 6 rfl rfl ?_
        refine w_iload X dL_abroad_90 hl 2 rfl ?_
        refine w_iald (y := wI (so σ (k).toNat (n).toNat 0)) X hE hAb dL_abroad_92 (by omega) (by omega) (by omega) (by rw [show (z_3).toNat = 18 * (k).toNat + 3 * (n).toNat + 0 by omega]; exact hBA _ _ _ (by omega) (by omega) (by omega)) ?_
        refine w_iload X dL_abroad_93 hl 0 rfl ?_
        refine w_iload X dL_abroad_95 hl 1 rfl ?_
        refine w_isub X dL_abroad_97 fun z_47 ez_47 => ?_
        have hov : z_47 = ovS (sp σ k.toNat) (so σ k.toNat n.toNat) := by unfold ovS; omega
        refine w_imul X dL_abroad_98 fun z_48 ez_48 => ?_
        refine w_aload_n X dL_abroad_99 hl 6 rfl rfl ?_
        refine w_iload X dL_abroad_100 hl 2 rfl ?_
        refine w_iconst X dL_abroad_102 ?_
        refine w_iadd X dL_abroad_103 fun z_49 ez_49 => ?_
        refine w_iald (y := wI (so σ (k).toNat (n).toNat 2)) X hE hAb dL_abroad_104 (by omega) (by omega) (by omega) (by rw [show (z_49).toNat = 18 * (k).toNat + 3 * (n).toNat + 2 by omega]; exact hBA _ _ _ (by omega) (by omega) (by omega)) ?_
        refine w_aload_n X dL_abroad_105 hl 6 rfl rfl ?_
        refine w_iload X dL_abroad_106 hl 2 rfl ?_
        refine w_iconst X dL_abroad_108 ?_
        refine w_iadd X dL_abroad_109 fun z_50 ez_50 => ?_
        refine w_iald (y := wI (so σ (k).toNat (n).toNat 1)) X hE hAb dL_abroad_110 (by omega) (by omega) (by omega) (by rw [show (z_50).toNat = 18 * (k).toNat + 3 * (n).toNat + 1 by omega]; exact hBA _ _ _ (by omega) (by omega) (by omega)) ?_
        refine w_isub X dL_abroad_111 fun z_51 ez_51 => ?_
        have hcv := cov_bd (pf := sp σ k.toNat) hb
        have hm9 : z_48 = so σ k.toNat n.toNat 0 * ovS (sp σ k.toNat) (so σ k.toNat n.toNat) := by rw [ez_48, hov]
        refine w_idiv X dL_abroad_112 (by omega) (by omega) fun z_52 ez_52 => ?_
        refine w_goto X 117 dL_abroad_113 (by decide) ?_
        exact w_iret X hr hk dL_abroad_117 (by rw [ez_52, hm9, ez_51]; rfl)

set_option maxHeartbeats 4000000 in
set_option maxRecDepth 100000 in
theorem c_L_own (l : Launch) (g : wG) (H : Heap) (σ : St) (hσ : StGood σ) (hs3 : sn σ ≤ 3) (ap : Nat) (fp : Nat → Int32) (hAp : IA g H ap 24 fp) (hPA : PA σ fp) (k : Int) (hk : 0 ≤ k ∧ k < (sn σ : Int)) : Pur l g H yL_own wsL_own 0 0 [.int (wI (k)), .ref ap] (.int (wI (ownS (sp σ k.toNat)))) := by
  refine Pur.of (cc := cL_own) (maxL := 3) (ret := (some .int)) (by decide) rfl (Nat.le_of_ble_eq_true rfl) ?_
  intro p9 e s m args below meth c X hE hr hk ls hl
  have hl : lv_has ls 3 [(0, .int (wI (k))), (1, .ref ap)] := hl
  have hg := (hσ.2.2.1 k.toNat (by omega)).1
  obtain ⟨p1, ⟨p2, p3, p4⟩, p5, p6, -⟩ := id hg
  refine w_aload_n X dL_own_0 hl 1 rfl rfl ?_
  refine w_bipush X dL_own_1 (by decide) ?_
  refine w_iload_n X dL_own_3 hl 0 rfl rfl ?_
  refine w_imul X dL_own_4 fun z_1 ez_1 => ?_
  refine w_iconst X dL_own_5 ?_
  refine w_iadd X dL_own_6 fun z_2 ez_2 => ?_
  refine w_iald (y := wI (sp σ (k).toNat 2)) X hE hAp dL_own_7 (by omega) (by omega) (by omega) (by rw [show (z_2).toNat = 8 * (k).toNat + 2 by omega]; exact (hPA _ (by omega)).1 2 (by omega)) ?_
  refine w_aload_n X dL_own_8 hl 1 rfl rfl ?_
  refine w_bipush X dL_own_9 (by decide) ?_
  refine w_iload_n X dL_own_11 hl 0 rfl rfl ?_
  refine w_imul X dL_own_12 fun z_3 ez_3 => ?_
  refine w_bipush X dL_own_13 (by decide) ?_
  refine w_iadd X dL_own_15 fun z_4 ez_4 => ?_
  refine w_iald (y := wI (sp σ (k).toNat 6)) X hE hAp dL_own_16 (by omega) (by omega) (by omega) (by rw [show (z_4).toNat = 8 * (k).toNat + 6 by omega]; exact (hPA _ (by omega)).1 6 (by omega)) ?_
  refine w_imul X dL_own_17 fun z_5 ez_5 => ?_
  refine w_bipush X dL_own_18 (by decide) ?_
  have hpn := pn_bd hg
  refine w_idiv X dL_own_20 (by omega) (by omega) fun z_6 ez_6 => ?_
  refine w_istore_n X [(2, .int (wI (z_6))), (0, .int (wI (k))), (1, .ref ap)] dL_own_21 hl rfl (by decide) rfl fun ls hl => ?_
  refine w_iload_n X dL_own_22 hl 0 rfl rfl ?_
  refine w_aload_n X dL_own_23 hl 2 rfl rfl ?_
  refine w_bipush X dL_own_24 (by decide) ?_
  refine w_iload_n X dL_own_26 hl 1 rfl rfl ?_
  refine w_imul X dL_own_27 fun z_7 ez_7 => ?_
  refine w_iconst X dL_own_28 ?_
  refine w_iadd X dL_own_29 fun z_8 ez_8 => ?_
  refine w_iald (y := wI (sp σ (k).toNat 5)) X hE hAp dL_own_30 (by omega) (by omega) (by omega) (by rw [show (z_8).toNat = 8 * (k).toNat + 5 by omega]; exact (hPA _ (by omega)).1 5 (by omega)) ?_
  refine w_icmp_le X 45 dL_own_31 (by decide) (by omega) (by omega) (fun c_9 => ?_) (fun c_9 => ?_)
  · skip
    refine w_iload_n X dL_own_45 hl 0 rfl rfl ?_
    exact w_iret X hr hk dL_own_46 (by unfold ownS; omega)
  · skip
    refine w_aload_n X dL_own_34 hl 2 rfl rfl ?_
    refine w_bipush X dL_own_35 (by decide) ?_
    refine w_iload_n X dL_own_37 hl 1 rfl rfl ?_
    refine w_imul X dL_own_38 fun z_10 ez_10 => ?_
    refine w_iconst X dL_own_39 ?_
    refine w_iadd X dL_own_40 fun z_11 ez_11 => ?_
    refine w_iald (y := wI (sp σ (k).toNat 5)) X hE hAp dL_own_41 (by omega) (by omega) (by omega) (by rw [show (z_11).toNat = 8 * (k).toNat + 5 by omega]; exact (hPA _ (by omega)).1 5 (by omega)) ?_
    refine w_goto X 46 dL_own_42 (by decide) ?_
    exact w_iret X hr hk dL_own_46 (by unfold ownS; omega)
