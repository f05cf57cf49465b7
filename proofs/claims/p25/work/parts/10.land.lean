/-! Land: what changes nothing -/
abbrev LandAt (g : wG) (H : Heap) (a : Nat) (L : Nat → Int) : Prop := Ob g H a 2 [.int (wI (L 0)), .int (wI (L 1)), .int (wI (L 2)), .int (wI (L 3)), .int (wI (L 4))]

set_option maxHeartbeats 4000000 in
set_option maxRecDepth 100000 in
/-- the tax of an income -/
theorem c_X1_taxOf (l : Launch) (g : wG) (H : Heap) (a : Nat) (L : Nat → Int) (hL : lGood L) (hO : LandAt g H a L) (n : Int) (hn : 0 ≤ n ∧ n ≤ 40000000) : Pur l g H yX1_taxOf wsX1_taxOf 1 21 [.ref a, .int (wI (n))] (.int (wI (taxS L n))) := by
  refine Pur.of (cc := cX1_taxOf) (maxL := 8) (ret := (some .int)) (by decide) rfl (Nat.le_of_ble_eq_true rfl) ?_
  intro p9 e s m args below meth c X hE hr hk ls hl
  have hl : lv_has ls 8 [(0, .ref a), (1, .int (wI (n)))] := hl
  have hin_RX1 : ∀ w ∈ u_ws RX1 TX1 5, w ∈ wsX1_taxOf := by decide +kernel
  obtain ⟨b1, b2, b3, ⟨b4, b5⟩, ⟨b6, b7⟩, b8, b9⟩ := id hL
  refine w_iload_n X dX1_taxOf_0 hl 1 rfl rfl ?_
  refine w_aload_n X dX1_taxOf_1 hl 0 rfl rfl ?_
  refine w_get X hE hO 0 dX1_taxOf_2 rfl hin_RX1 (by decide) (by decide +kernel) rfl rfl ?_
  refine w_mmin X hl dX1_taxOf_5 (by decide +kernel) (by omega) (by omega) ⟨(Nat.le_of_ble_eq_true rfl), (Nat.le_of_ble_eq_true rfl)⟩ ⟨Nat.le_refl _, Nat.le_refl _⟩ fun z_1 ez_1 => ?_
  refine w_i2l X dX1_taxOf_8 (by omega) ?_
  refine w_lstore_n X [(2, .long (wJ (z_1))), (0, .ref a), (1, .int (wI (n)))] dX1_taxOf_9 hl rfl (by decide) rfl fun ls hl => ?_
  refine w_iconst X dX1_taxOf_10 ?_
  refine w_iload_n X dX1_taxOf_11 hl 2 rfl rfl ?_
  refine w_aload_n X dX1_taxOf_12 hl 1 rfl rfl ?_
  refine w_get X hE hO 1 dX1_taxOf_13 rfl hin_RX1 (by decide) (by decide +kernel) rfl rfl ?_
  refine w_mmin X hl dX1_taxOf_16 (by decide +kernel) (by omega) (by omega) ⟨(Nat.le_of_ble_eq_true rfl), (Nat.le_of_ble_eq_true rfl)⟩ ⟨Nat.le_refl _, Nat.le_refl _⟩ fun z_2 ez_2 => ?_
  refine w_aload_n X dX1_taxOf_19 hl 1 rfl rfl ?_
  refine w_get X hE hO 0 dX1_taxOf_20 rfl hin_RX1 (by decide) (by decide +kernel) rfl rfl ?_
  refine w_isub X dX1_taxOf_23 fun z_3 ez_3 => ?_
  refine w_mmax X hl dX1_taxOf_24 (by decide +kernel) (by omega) (by omega) ⟨(Nat.le_of_ble_eq_true rfl), (Nat.le_of_ble_eq_true rfl)⟩ ⟨Nat.le_refl _, Nat.le_refl _⟩ fun z_4 ez_4 => ?_
  refine w_i2l X dX1_taxOf_27 (by omega) ?_
  refine w_lstore X [(4, .long (wJ (z_4))), (2, .long (wJ (z_1))), (0, .ref a), (1, .int (wI (n)))] dX1_taxOf_28 hl (by decide) rfl fun ls hl => ?_
  refine w_iconst X dX1_taxOf_30 ?_
  refine w_iload_n X dX1_taxOf_31 hl 3 rfl rfl ?_
  refine w_aload_n X dX1_taxOf_32 hl 2 rfl rfl ?_
  refine w_get X hE hO 1 dX1_taxOf_33 rfl hin_RX1 (by decide) (by decide +kernel) rfl rfl ?_
  refine w_isub X dX1_taxOf_36 fun z_5 ez_5 => ?_
  refine w_mmax X hl dX1_taxOf_37 (by decide +kernel) (by omega) (by omega) ⟨(Nat.le_of_ble_eq_true rfl), (Nat.le_of_ble_eq_true rfl)⟩ ⟨Nat.le_refl _, Nat.le_refl _⟩ fun z_6 ez_6 => ?_
  refine w_i2l X dX1_taxOf_40 (by omega) ?_
  refine w_lstore X [(6, .long (wJ (z_6))), (4, .long (wJ (z_4))), (2, .long (wJ (z_1))), (0, .ref a), (1, .int (wI (n)))] dX1_taxOf_41 hl (by decide) rfl fun ls hl => ?_
  refine w_lload_n X dX1_taxOf_43 hl 2 rfl rfl ?_
  refine w_aload_n X dX1_taxOf_44 hl 3 rfl rfl ?_
  refine w_get X hE hO 2 dX1_taxOf_45 rfl hin_RX1 (by decide) (by decide +kernel) rfl rfl ?_
  refine w_i2l X dX1_taxOf_48 (by omega) ?_
  refine w_lmul X dX1_taxOf_49 fun z_7 ez_7 => ?_
  refine w_lload X dX1_taxOf_50 hl 1 rfl ?_
  refine w_aload_n X dX1_taxOf_52 hl 3 rfl rfl ?_
  refine w_get X hE hO 3 dX1_taxOf_53 rfl hin_RX1 (by decide) (by decide +kernel) rfl rfl ?_
  refine w_i2l X dX1_taxOf_56 (by omega) ?_
  refine w_lmul X dX1_taxOf_57 fun z_8 ez_8 => ?_
  refine w_ladd X dX1_taxOf_58 fun z_9 ez_9 => ?_
  refine w_lload X dX1_taxOf_59 hl 0 rfl ?_
  refine w_aload_n X dX1_taxOf_61 hl 3 rfl rfl ?_
  refine w_get X hE hO 4 dX1_taxOf_62 rfl hin_RX1 (by decide) (by decide +kernel) rfl rfl ?_
  refine w_i2l X dX1_taxOf_65 (by omega) ?_
  refine w_lmul X dX1_taxOf_66 fun z_10 ez_10 => ?_
  refine w_ladd X dX1_taxOf_67 fun z_11 ez_11 => ?_
  refine w_ldc2 (v := 100) (z := 100) X dX1_taxOf_68 (by decide +kernel) (by decide) ?_
  have q1 := taxN_bd hL hn.1
  have q2 : z_11 = taxN L n := by simp only [taxN, ez_11, ez_10, ez_9, ez_8, ez_7, ez_6, ez_5, ez_4, ez_3, ez_2, ez_1]
  refine w_ldiv X dX1_taxOf_71 (by omega) (by omega) fun z_12 ez_12 => ?_
  refine w_l2i X dX1_taxOf_72 ?_
  exact w_iret X hr hk dX1_taxOf_73 (by rw [ez_12, q2]; rfl)

set_option maxHeartbeats 4000000 in
set_option maxRecDepth 100000 in
theorem c_X1_mostGrossTax (l : Launch) (g : wG) (H : Heap) (n : Int) (hn : 0 ≤ n ∧ n ≤ 10000000) : Pur l g H yX1_mostGrossTax wsX1_mostGrossTax 0 0 [.int (wI (n))] (.int (wI (2 * n))) := by
  refine Pur.of (cc := cX1_mostGrossTax) (maxL := 1) (ret := (some .int)) (by decide) rfl (Nat.le_of_ble_eq_true rfl) ?_
  intro p9 e s m args below meth c X hE hr hk ls hl
  have hl : lv_has ls 1 [(0, .int (wI (n)))] := hl
  refine w_iconst X dX1_mostGrossTax_0 ?_
  refine w_iload_n X dX1_mostGrossTax_1 hl 0 rfl rfl ?_
  refine w_imul X dX1_mostGrossTax_2 fun z_1 ez_1 => ?_
  exact w_iret X hr hk dX1_mostGrossTax_3 (by omega)

set_option maxHeartbeats 4000000 in
set_option maxRecDepth 100000 in
/-- the least number that the tax is not above, by halving -/
theorem c_X1_grossTaxOf (l : Launch) (g : wG) (H : Heap) (a : Nat) (L : Nat → Int) (hL : lGood L) (hO : LandAt g H a L) (n : Int) (hn : 0 ≤ n ∧ n ≤ 10000000) : Pur l g H yX1_grossTaxOf wsX1_grossTaxOf 2 48 [.ref a, .int (wI n)] (.int (wI (grossS L n))) := by
  refine Pur.of (cc := cX1_grossTaxOf) (maxL := 6) (ret := some .int) (by decide) rfl (Nat.le_of_ble_eq_true rfl) ?_
  intro p e s m args below meth c X hE hr hk ls hl
  have hl : lv_has ls 6 [(0, .ref a), (1, .int (wI n))] := hl
  have loop : ∀ (r : Nat) (i lo hi : Int), i + r = 32 → 0 ≤ i ∧ 0 ≤ lo → lo ≤ hi → hi ≤ 2 * n → hi - lo < 2 ^ r → taxS L (n + hi) ≤ hi → (∀ j : Int, 0 ≤ j → j < lo → j < taxS L (n + j)) → ∀ ls : Array Slot, lv_has ls 6 [(4, .int (wI (i))), (3, .int (wI (hi))), (2, .int (wI (lo))), (0, .ref a), (1, .int (wI (n)))] → W p l e { frames := 2, cells := 0, slots := 0, locals := 48 } s m args below meth c H [] 0 0 (MQ below (PQ H (.int (wI (grossS L n)))) args s 0 0 (fun _ => False)) (F0 m 10 ls []) := by
    intro r
    induction r with
    | zero =>
      intro i lo hi q1 q2 q3 q4 q5 q6 q7 ls hl
      have q8 : hi - lo < 1 := q5
      refine w_iload X dX1_grossTaxOf_10 hl 0 rfl ?_
      refine w_bipush X dX1_grossTaxOf_12 (by decide) ?_
      refine w_icmp_ge X 61 dX1_grossTaxOf_14 (by decide) (by omega) (by omega) (fun c_1 => ?_) (fun c_1 => ?_)
      · skip
        refine w_iload_n X dX1_grossTaxOf_61 hl 2 rfl rfl ?_
        have hG : IsGross L n lo := ⟨by omega, by rw [show lo = hi by omega]; exact q6, q7⟩
        exact w_iret X hr hk dX1_grossTaxOf_62 (grossS_eq hG).symm
      · skip
        exact absurd c_1 (by omega)
    | succ r ih =>
      intro i lo hi q1 q2 q3 q4 q5 q6 q7 ls hl
      have q8 : hi - lo < 2 * 2 ^ r := by rw [Int.pow_succ] at q5; omega
      refine w_iload X dX1_grossTaxOf_10 hl 0 rfl ?_
      refine w_bipush X dX1_grossTaxOf_12 (by decide) ?_
      refine w_icmp_ge X 61 dX1_grossTaxOf_14 (by decide) (by omega) (by omega) (fun c_1 => ?_) (fun c_1 => ?_)
      · skip
        exact absurd c_1 (by omega)
      · skip
        refine w_iload_n X dX1_grossTaxOf_17 hl 2 rfl rfl ?_
        refine w_iload_n X dX1_grossTaxOf_18 hl 1 rfl rfl ?_
        refine w_icmp_ge X 61 dX1_grossTaxOf_19 (by decide) (by omega) (by omega) (fun c_2 => ?_) (fun c_2 => ?_)
        · skip
          refine w_iload_n X dX1_grossTaxOf_61 hl 2 rfl rfl ?_
          have hG : IsGross L n lo := ⟨by omega, by rw [show lo = hi by omega]; exact q6, q7⟩
          exact w_iret X hr hk dX1_grossTaxOf_62 (grossS_eq hG).symm
        · skip
          refine w_iload_n X dX1_grossTaxOf_22 hl 2 rfl rfl ?_
          refine w_iload_n X dX1_grossTaxOf_23 hl 1 rfl rfl ?_
          refine w_iload_n X dX1_grossTaxOf_24 hl 2 rfl rfl ?_
          refine w_isub X dX1_grossTaxOf_25 fun z_3 ez_3 => ?_
          refine w_iconst X dX1_grossTaxOf_26 ?_
          refine w_idiv X dX1_grossTaxOf_27 (by omega) (by omega) fun z_4 ez_4 => ?_
          refine w_iadd X dX1_grossTaxOf_28 fun z_5 ez_5 => ?_
          refine w_istore X [(5, .int (wI (z_5))), (4, .int (wI (i))), (3, .int (wI (hi))), (2, .int (wI (lo))), (0, .ref a), (1, .int (wI (n)))] dX1_grossTaxOf_29 hl (by decide) rfl fun ls hl => ?_
          refine w_aload_n X dX1_grossTaxOf_31 hl 4 rfl rfl ?_
          refine w_iload_n X dX1_grossTaxOf_32 hl 5 rfl rfl ?_
          refine w_iload X dX1_grossTaxOf_33 hl 0 rfl ?_
          refine w_iadd X dX1_grossTaxOf_35 fun z_6 ez_6 => ?_
          refine w_callV (v := .int (wI (taxS L (z_6)))) 1 X hE (c_X1_taxOf l g H a L hL hO (z_6) (by omega)) hO hl dX1_grossTaxOf_36 gX1_grossTaxOf_X1_taxOf rfl rfl (by decide +kernel) ⟨(Nat.le_of_ble_eq_true rfl), (Nat.le_of_ble_eq_true rfl)⟩ rfl rfl (Nat.le_of_ble_eq_true rfl) ⟨Nat.le_refl _, Nat.le_refl _⟩ ?_
          have qt := taxS_bd hL (n := z_6) (by omega)
          refine w_iload X dX1_grossTaxOf_39 hl 0 rfl ?_
          refine w_icmp_gt X 50 dX1_grossTaxOf_41 (by decide) (by omega) (by omega) (fun c_7 => ?_) (fun c_7 => ?_)
          · skip
            refine w_iload X dX1_grossTaxOf_50 hl 0 rfl ?_
            refine w_iconst X dX1_grossTaxOf_52 ?_
            refine w_iadd X dX1_grossTaxOf_53 fun z_8 ez_8 => ?_
            refine w_istore_n X [(2, .int (wI (z_8))), (5, .int (wI (z_5))), (4, .int (wI (i))), (3, .int (wI (hi))), (0, .ref a), (1, .int (wI (n)))] dX1_grossTaxOf_54 hl rfl (by decide) rfl fun ls hl => ?_
            refine w_iinc X (fun z_9 => [(4, .int (wI (z_9))), (2, .int (wI (z_8))), (5, .int (wI (z_5))), (3, .int (wI (hi))), (0, .ref a), (1, .int (wI (n)))]) dX1_grossTaxOf_55 hl 2 rfl (by decide) (fun _ => rfl) fun z_9 ez_9 ls hl => ?_
            refine w_goto X 10 dX1_grossTaxOf_58 (by decide) ?_
            exact ih z_9 z_8 hi (by omega) ⟨by omega, by omega⟩ (by omega) (by omega) (by omega) q6 (fun j h0 h1 => tax_low hL hn.1 (k := z_5) (by rw [show n + z_5 = z_6 by omega]; omega) j h0 (by omega)) ls (lv_sub hl [0, 3, 1, 4, 5] rfl)
          · skip
            refine w_iload X dX1_grossTaxOf_44 hl 0 rfl ?_
            refine w_istore_n X [(3, .int (wI (z_5))), (5, .int (wI (z_5))), (4, .int (wI (i))), (2, .int (wI (lo))), (0, .ref a), (1, .int (wI (n)))] dX1_grossTaxOf_46 hl rfl (by decide) rfl fun ls hl => ?_
            refine w_goto X 55 dX1_grossTaxOf_47 (by decide) ?_
            refine w_iinc X (fun z_10 => [(4, .int (wI (z_10))), (3, .int (wI (z_5))), (5, .int (wI (z_5))), (2, .int (wI (lo))), (0, .ref a), (1, .int (wI (n)))]) dX1_grossTaxOf_55 hl 2 rfl (by decide) (fun _ => rfl) fun z_10 ez_10 ls hl => ?_
            refine w_goto X 10 dX1_grossTaxOf_58 (by decide) ?_
            exact ih z_10 lo z_5 (by omega) ⟨by omega, by omega⟩ (by omega) (by omega) (by omega) (by rw [show n + z_5 = z_6 by omega]; omega) q7 ls (lv_sub hl [0, 1, 3, 4, 5] rfl)
  refine w_iconst X dX1_grossTaxOf_0 ?_
  refine w_istore_n X [(2, .int (wI (0))), (0, .ref a), (1, .int (wI (n)))] dX1_grossTaxOf_1 hl rfl (by decide) rfl fun ls hl => ?_
  refine w_iload_n X dX1_grossTaxOf_2 hl 2 rfl rfl ?_
  refine w_callS (v := .int (wI (2 * (n)))) 1 X hE (c_X1_mostGrossTax l g H (n) hn) hl dX1_grossTaxOf_3 gX1_grossTaxOf_X1_mostGrossTax rfl rfl (by decide +kernel) ⟨(Nat.le_of_ble_eq_true rfl), (Nat.le_of_ble_eq_true rfl)⟩ rfl (Nat.le_of_ble_eq_true rfl) ⟨Nat.le_refl _, Nat.le_refl _⟩ ?_
  refine w_istore_n X [(3, .int (wI (2 * (n)))), (2, .int (wI (0))), (0, .ref a), (1, .int (wI (n)))] dX1_grossTaxOf_6 hl rfl (by decide) rfl fun ls hl => ?_
  refine w_iconst X dX1_grossTaxOf_7 ?_
  refine w_istore X [(4, .int (wI (0))), (3, .int (wI (2 * (n)))), (2, .int (wI (0))), (0, .ref a), (1, .int (wI (n)))] dX1_grossTaxOf_8 hl (by decide) rfl fun ls hl => ?_
  have q0 := taxS_bd hL (n := n + 2 * n) (by omega)
  exact loop 32 0 0 (2 * (n)) (by omega) ⟨by omega, by omega⟩ (by omega) (by omega) (by omega) (by omega) (fun j h0 h1 => absurd h1 (by omega)) ls (lv_sub hl [0, 1, 2, 3, 4] rfl)

set_option maxHeartbeats 4000000 in
set_option maxRecDepth 100000 in
/-- the same, by trying -/
theorem c_X1_grossTaxTried (l : Launch) (g : wG) (H : Heap) (a : Nat) (L : Nat → Int) (hL : lGood L) (hO : LandAt g H a L) (n : Int) (hn : 0 ≤ n ∧ n ≤ 10000000) : Pur l g H yX1_grossTaxTried wsX1_grossTaxTried 2 48 [.ref a, .int (wI n)] (.int (wI (grossS L n))) := by
  refine Pur.of (cc := cX1_grossTaxTried) (maxL := 4) (ret := some .int) (by decide) rfl (Nat.le_of_ble_eq_true rfl) ?_
  intro p e s m args below meth c X hE hr hk ls hl
  have hl : lv_has ls 4 [(0, .ref a), (1, .int (wI n))] := hl
  have loop : ∀ (r : Nat) (i : Int), i + r = 2 * n → 0 ≤ i → (∀ j : Int, 0 ≤ j → j < i → j < taxS L (n + j)) → ∀ ls : Array Slot, lv_has ls 4 [(3, .int (wI (i))), (2, .int (wI (2 * n))), (0, .ref a), (1, .int (wI (n)))] → W p l e { frames := 2, cells := 0, slots := 0, locals := 48 } s m args below meth c H [] 0 0 (MQ below (PQ H (.int (wI (grossS L n)))) args s 0 0 (fun _ => False)) (F0 m 7 ls []) := by
    intro r
    induction r with
    | zero =>
      intro i q1 q2 q3 ls hl
      have q0 := taxS_bd hL (n := n + 2 * n) (by omega)
      refine w_iload_n X dX1_grossTaxTried_7 hl 0 rfl rfl ?_
      refine w_iload_n X dX1_grossTaxTried_8 hl 1 rfl rfl ?_
      refine w_icmp_ge X 31 dX1_grossTaxTried_9 (by decide) (by omega) (by omega) (fun c_1 => ?_) (fun c_1 => ?_)
      · skip
        refine w_iload_n X dX1_grossTaxTried_31 hl 1 rfl rfl ?_
        exact w_iret X hr hk dX1_grossTaxTried_32 (grossS_eq ⟨by omega, by omega, fun j h0 h1 => q3 j h0 (by omega)⟩).symm
      · skip
        exact absurd c_1 (by omega)
    | succ r ih =>
      intro i q1 q2 q3 ls hl
      have q0 := taxS_bd hL (n := n + i) (by omega)
      have q4 : i ≤ taxS L (n + i) := by
        rcases Int.lt_or_le 0 i with h | h
        · have h1 := q3 (i - 1) (by omega) (by omega)
          have h2 := (taxS_step hL (n := n + (i - 1)) (by omega)).1
          rw [show n + (i - 1) + 1 = n + i by omega] at h2
          omega
        · omega
      refine w_iload_n X dX1_grossTaxTried_7 hl 0 rfl rfl ?_
      refine w_iload_n X dX1_grossTaxTried_8 hl 1 rfl rfl ?_
      refine w_icmp_ge X 31 dX1_grossTaxTried_9 (by decide) (by omega) (by omega) (fun c_1 => ?_) (fun c_1 => ?_)
      · skip
        exact absurd c_1 (by omega)
      · skip
        refine w_aload_n X dX1_grossTaxTried_12 hl 2 rfl rfl ?_
        refine w_iload_n X dX1_grossTaxTried_13 hl 3 rfl rfl ?_
        refine w_iload_n X dX1_grossTaxTried_14 hl 0 rfl rfl ?_
        refine w_iadd X dX1_grossTaxTried_15 fun z_2 ez_2 => ?_
        have q5 : taxS L z_2 = taxS L (n + i) := by rw [show z_2 = n + i by omega]
        refine w_callV (v := .int (wI (taxS L (z_2)))) 1 X hE (c_X1_taxOf l g H a L hL hO (z_2) (by omega)) hO hl dX1_grossTaxTried_16 gX1_grossTaxTried_X1_taxOf rfl rfl (by decide +kernel) ⟨(Nat.le_of_ble_eq_true rfl), (Nat.le_of_ble_eq_true rfl)⟩ rfl rfl (Nat.le_of_ble_eq_true rfl) ⟨Nat.le_refl _, Nat.le_refl _⟩ ?_
        have qt := taxS_bd hL (n := z_2) (by omega)
        refine w_iload_n X dX1_grossTaxTried_19 hl 0 rfl rfl ?_
        refine w_icmp_ne X 25 dX1_grossTaxTried_20 (by decide) (by omega) (by omega) (fun c_3 => ?_) (fun c_3 => ?_)
        · skip
          refine w_iinc X (fun z_4 => [(3, .int (wI (z_4))), (2, .int (wI (2 * n))), (0, .ref a), (1, .int (wI (n)))]) dX1_grossTaxTried_25 hl 0 rfl (by decide) (fun _ => rfl) fun z_4 ez_4 ls hl => ?_
          refine w_goto X 7 dX1_grossTaxTried_28 (by decide) ?_
          exact ih z_4 (by omega) (by omega) (fun j h0 h1 => by
            rcases (by omega : j < i ∨ j = i) with h | h
            · exact q3 j h0 h
            · rw [h]; omega) ls (lv_sub hl [0, 1, 2, 3] rfl)
        · skip
          refine w_iload_n X dX1_grossTaxTried_23 hl 0 rfl rfl ?_
          exact w_iret X hr hk dX1_grossTaxTried_24 (grossS_eq ⟨by omega, by omega, q3⟩).symm
  refine w_iload_n X dX1_grossTaxTried_0 hl 1 rfl rfl ?_
  refine w_callS (v := .int (wI (2 * (n)))) 1 X hE (c_X1_mostGrossTax l g H (n) hn) hl dX1_grossTaxTried_1 gX1_grossTaxTried_X1_mostGrossTax rfl rfl (by decide +kernel) ⟨(Nat.le_of_ble_eq_true rfl), (Nat.le_of_ble_eq_true rfl)⟩ rfl (Nat.le_of_ble_eq_true rfl) ⟨Nat.le_refl _, Nat.le_refl _⟩ ?_
  refine w_istore_n X [(2, .int (wI (2 * (n)))), (0, .ref a), (1, .int (wI (n)))] dX1_grossTaxTried_4 hl rfl (by decide) rfl fun ls hl => ?_
  refine w_iconst X dX1_grossTaxTried_5 ?_
  refine w_istore_n X [(3, .int (wI (0))), (2, .int (wI (2 * (n)))), (0, .ref a), (1, .int (wI (n)))] dX1_grossTaxTried_6 hl rfl (by decide) rfl fun ls hl => ?_
  exact loop (2 * n).toNat 0 (by omega) (by omega) (fun j h0 h1 => absurd h1 (by omega)) ls (lv_sub hl [0, 1, 2, 3] rfl)
