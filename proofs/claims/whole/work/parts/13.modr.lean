/-! the state: lands, people, bonuses; the reference's cells -/
abbrev St : Type := (Nat → Nat → Int) × Nat × (Nat → Nat → Int) × (Nat → Nat) × (Nat → Nat → Nat → Int)
abbrev sn (σ : St) : Nat := σ.2.1
abbrev sp (σ : St) : Nat → Nat → Int := σ.2.2.1
abbrev sb (σ : St) : Nat → Nat := σ.2.2.2.1
abbrev so (σ : St) : Nat → Nat → Nat → Int := σ.2.2.2.2
abbrev sH (σ : St) (p : Nat) : Nat → Int := σ.1 (sp σ p 0).toNat
abbrev sT (σ : St) (p : Nat) : Nat → Int := σ.1 (sp σ p 1).toNat
def StGood (σ : St) : Prop := (∀ i, i < 4 → lGood (σ.1 i)) ∧ sn σ ≤ 10 ∧ (∀ p, p < sn σ → pGood (sp σ p) (sb σ p) (so σ p) ∧ (0 ≤ sp σ p 0 ∧ sp σ p 0 < 4) ∧ 0 ≤ sp σ p 1 ∧ sp σ p 1 < 4) ∧ ∀ p, sn σ ≤ p → sb σ p = 0 ∧ sp σ p 3 = 0 ∧ sp σ p 4 = 0 ∧ sp σ p 5 = 0 ∧ sp σ p 6 = 0
def MW (g : wG) (A : Nat → Nat) (th : Int) (σ : St) : va_W := [(A 0, .inr (5, [.int (wI th), .ref (A 1), .ref (A 2), .ref (A 3), .int (wI (sn σ : Int)), .ref (A 5), .ref (A 6), .ref (A 7), .ref (A 8), .ref (A 9), .ref (A 10), .ref (A 11), .ref (A 12), .ref (A 13), .ref (A 14), .ref (A 15)])), (A 1, .inl (gI g, 4, .inl fun j => wI (σ.1 j 0))), (A 2, .inl (gI g, 4, .inl fun j => wI (σ.1 j 1))), (A 3, .inl (gI g, 12, .inl fun j => wI (σ.1 (j / 3) (2 + j % 3)))), (A 5, .inl (gI g, 10, .inl fun j => wI (sp σ j 0))), (A 6, .inl (gI g, 10, .inl fun j => wI (sp σ j 1))), (A 7, .inl (gI g, 10, .inl fun j => wI (sp σ j 2))), (A 8, .inl (gI g, 10, .inl fun j => wI (sp σ j 3))), (A 9, .inl (gI g, 10, .inl fun j => wI (sp σ j 4))), (A 10, .inl (gI g, 10, .inl fun j => wI (sp σ j 5))), (A 11, .inl (gI g, 10, .inl fun j => wI (sp σ j 6))), (A 12, .inl (gI g, 10, .inl fun j => wI ((sb σ j : Int)))), (A 13, .inl (gI g, 60, .inl fun j => wI (so σ (j / 6) (j % 6) 0))), (A 14, .inl (gI g, 60, .inl fun j => wI (so σ (j / 6) (j % 6) 1))), (A 15, .inl (gI g, 60, .inl fun j => wI (so σ (j / 6) (j % 6) 2)))]
abbrev ModAt (g : wG) (H : Heap) (A : Nat → Nat) (th : Int) (σ : St) : Prop := va_P (gD g) vwCl (MW g A th σ) H
def inS (a v b : Int) : Int := if a ≤ v ∧ v ≤ b then 1 else 0
theorem inS_spec (a v b : Int) : (inS a v b = 1 ∧ a ≤ v ∧ v ≤ b) ∨ (inS a v b = 0 ∧ ¬ (a ≤ v ∧ v ≤ b)) := by
  unfold inS
  split
  · exact Or.inl ⟨rfl, by omega, by omega⟩
  · exact Or.inr ⟨rfl, by omega⟩
theorem ah_alt (pf : Nat → Int) (nb : Nat) (bo : Nat → Nat → Int) : ahS pf nb bo = wholeS pf nb bo - pf 2 * monS pf - sumB (fun b => parS pf (bo b)) nb := by
  unfold ahS wholeS
  rw [sumB_sub (fun b => bo b 0) (fun b => parS pf (bo b)) nb, Int.sub_mul, Int.mul_comm (pf 2)]
  omega
theorem aos_alt (pf : Nat → Int) (nb : Nat) (bo : Nat → Nat → Int) : aosS pf nb bo = pf 2 * monS pf + sumB (fun b => parS pf (bo b)) nb + (pf 5 - ownS pf) * monS pf := by
  unfold aosS houS
  rw [Int.mul_comm (pf 2), Int.mul_comm (pf 5 - ownS pf)]
  omega
theorem bor_alt (LH pf : Nat → Int) (nb : Nat) (bo : Nat → Nat → Int) : borS LH pf nb bo = heldS LH pf * monS pf + tahS LH pf nb bo := by
  unfold borS hyS
  rw [Int.mul_comm (heldS LH pf)]
theorem cos_alt (LH LT pf : Nat → Int) (nb : Nat) (bo : Nat → Nat → Int) : cosS LH LT pf nb bo = grossS LT (aosS pf nb bo) + (pf 5 - ownS pf - heldS LH pf) * monS pf - supS LH pf nb bo + borS LH pf nb bo := by
  unfold cosS setS taoS houS hyS
  rw [Int.sub_mul (pf 5 - ownS pf), Int.mul_comm (monS pf), Int.mul_comm (monS pf)]
  omega

set_option maxHeartbeats 4000000 in
set_option maxRecDepth 100000 in
theorem c_X4_in (l : Launch) (g : wG) (H : Heap) (v a b : Int) (hv : wR v) (ha : wR a) (hb : wR b) : Pur l g H yX4_in wsX4_in 0 0 [.int (wI (v)), .int (wI (a)), .int (wI (b))] (.int (wI (inS a v b))) := by
  refine Pur.of (cc := cX4_in) (maxL := 3) (ret := (some .boolean)) (by decide) rfl (Nat.le_of_ble_eq_true rfl) ?_
  intro p9 e s m args below meth c X hE hr hk ls hl
  have hl : lv_has ls 3 [(0, .int (wI (v))), (1, .int (wI (a))), (2, .int (wI (b)))] := hl
  refine w_iload_n X dX4_in_0 hl 0 rfl rfl ?_
  refine w_iload_n X dX4_in_1 hl 1 rfl rfl ?_
  refine w_icmp_lt X 14 dX4_in_2 (by decide) (by omega) (by omega) (fun c_1 => ?_) (fun c_1 => ?_)
  · skip
    refine w_iconst X dX4_in_14 ?_
    exact w_zret X hr hk dX4_in_15 (by omega) (by have q := inS_spec a v b; omega)
  · skip
    refine w_iload_n X dX4_in_5 hl 0 rfl rfl ?_
    refine w_iload_n X dX4_in_6 hl 2 rfl rfl ?_
    refine w_icmp_gt X 14 dX4_in_7 (by decide) (by omega) (by omega) (fun c_2 => ?_) (fun c_2 => ?_)
    · skip
      refine w_iconst X dX4_in_14 ?_
      exact w_zret X hr hk dX4_in_15 (by omega) (by have q := inS_spec a v b; omega)
    · skip
      refine w_iconst X dX4_in_10 ?_
      refine w_goto X 15 dX4_in_11 (by decide) ?_
      exact w_zret X hr hk dX4_in_15 (by omega) (by have q := inS_spec a v b; omega)

set_option maxHeartbeats 4000000 in
set_option maxRecDepth 100000 in
theorem c_X4_isLand (l : Launch) (g : wG) (H : Heap) (v : Int) (hv : wR v) : Pur l g H yX4_isLand wsX4_isLand 1 22 [.int (wI (v))] (.int (wI (inS 0 v 3))) := by
  refine Pur.of (cc := cX4_isLand) (maxL := 1) (ret := (some .boolean)) (by decide) rfl (Nat.le_of_ble_eq_true rfl) ?_
  intro p9 e s m args below meth c X hE hr hk ls hl
  have hl : lv_has ls 1 [(0, .int (wI (v)))] := hl
  refine w_iload_n X dX4_isLand_0 hl 0 rfl rfl ?_
  refine w_iconst X dX4_isLand_1 ?_
  refine w_iconst X dX4_isLand_2 ?_
  refine w_callS (v := .int (wI (inS (0) (v) (3)))) 3 X hE (c_X4_in l g H (v) (0) (3) (by omega) (by omega) (by omega)) hl dX4_isLand_3 gX4_isLand_X4_in rfl rfl (by decide +kernel) ⟨(Nat.le_of_ble_eq_true rfl), (Nat.le_of_ble_eq_true rfl)⟩ rfl (Nat.le_of_ble_eq_true rfl) ⟨Nat.le_refl _, Nat.le_refl _⟩ ?_
  have qi_1 := inS_spec (0) (v) (3)
  exact w_zret X hr hk dX4_isLand_6 (by omega) rfl

set_option maxHeartbeats 4000000 in
set_option maxRecDepth 100000 in
theorem c_X4_taxOf (l : Launch) (g : wG) (H : Heap) (A : Nat → Nat) (th : Int) (σ : St) (hM : ModAt g H A th σ) (hσ : StGood σ) (i : Int) (hi : 0 ≤ i ∧ i < 4) (n : Int) (hn : 0 ≤ n ∧ n ≤ 60000000) : Pur l g H yX4_taxOf wsX4_taxOf 0 0 [.ref (A 0), .int (wI (i)), .long (wJ (n))] (.long (wJ (taxS (σ.1 i.toNat) n))) := by
  refine Pur.of (cc := cX4_taxOf) (maxL := 10) (ret := (some .long)) (by decide) rfl (Nat.le_of_ble_eq_true rfl) ?_
  intro p9 e s m args below meth c X hE hr hk ls hl
  have hl : lv_has ls 10 [(0, .ref (A 0)), (1, .int (wI (i))), (2, .long (wJ (n)))] := hl
  have hin_RX4 : ∀ w ∈ u_ws RX4 TX4 16, w ∈ wsX4_taxOf := by decide +kernel
  have hO : Ob g H (A 0) 5 [.int (wI th), .ref (A 1), .ref (A 2), .ref (A 3), .int (wI (sn σ : Int)), .ref (A 5), .ref (A 6), .ref (A 7), .ref (A 8), .ref (A 9), .ref (A 10), .ref (A 11), .ref (A 12), .ref (A 13), .ref (A 14), .ref (A 15)] := hM 0 _ rfl
  have hA1 : IA g H (A 1) 4 (fun j => wI (σ.1 j 0)) := hM 1 _ rfl
  have hA2 : IA g H (A 2) 4 (fun j => wI (σ.1 j 1)) := hM 2 _ rfl
  have hA3 : IA g H (A 3) 12 (fun j => wI (σ.1 (j / 3) (2 + j % 3))) := hM 3 _ rfl
  have hL := hσ.1 i.toNat (by omega)
  obtain ⟨b1, b2, b3, ⟨b4, b5⟩, ⟨b6, b7⟩, b8, b9⟩ := id hL
  refine w_lload_n X dX4_taxOf_0 hl 2 rfl rfl ?_
  refine w_aload_n X dX4_taxOf_1 hl 0 rfl rfl ?_
  refine w_get X hE hO 1 dX4_taxOf_2 rfl hin_RX4 (by decide) (by decide +kernel) rfl rfl ?_
  refine w_iload_n X dX4_taxOf_5 hl 1 rfl rfl ?_
  refine w_iald (y := wI (σ.1 (i).toNat 0)) X hE hA1 dX4_taxOf_6 (by omega) (by omega) (by omega) rfl ?_
  refine w_i2l X dX4_taxOf_7 (by omega) ?_
  refine w_lcmp X dX4_taxOf_8 (by omega) (by omega) fun z_1 ez_1a ez_1b ez_1c ez_1d => ?_
  refine w_if_ge X 16 dX4_taxOf_9 (by decide) (by omega) (fun c_2 => ?_) (fun c_2 => ?_)
  · skip
    refine w_aload_n X dX4_taxOf_16 hl 0 rfl rfl ?_
    refine w_get X hE hO 1 dX4_taxOf_17 rfl hin_RX4 (by decide) (by decide +kernel) rfl rfl ?_
    refine w_iload_n X dX4_taxOf_20 hl 1 rfl rfl ?_
    refine w_iald (y := wI (σ.1 (i).toNat 0)) X hE hA1 dX4_taxOf_21 (by omega) (by omega) (by omega) rfl ?_
    refine w_i2l X dX4_taxOf_22 (by omega) ?_
    refine w_lstore X [(4, .long (wJ (σ.1 (i).toNat 0))), (0, .ref (A 0)), (1, .int (wI (i))), (2, .long (wJ (n)))] dX4_taxOf_23 hl (by decide) rfl fun ls hl => ?_
    refine w_lload_n X dX4_taxOf_25 hl 3 rfl rfl ?_
    refine w_aload_n X dX4_taxOf_26 hl 1 rfl rfl ?_
    refine w_get X hE hO 2 dX4_taxOf_27 rfl hin_RX4 (by decide) (by decide +kernel) rfl rfl ?_
    refine w_iload_n X dX4_taxOf_30 hl 2 rfl rfl ?_
    refine w_iald (y := wI (σ.1 (i).toNat 1)) X hE hA2 dX4_taxOf_31 (by omega) (by omega) (by omega) rfl ?_
    refine w_i2l X dX4_taxOf_32 (by omega) ?_
    refine w_lcmp X dX4_taxOf_33 (by omega) (by omega) fun z_3 ez_3a ez_3b ez_3c ez_3d => ?_
    refine w_if_ge X 44 dX4_taxOf_34 (by decide) (by omega) (fun c_4 => ?_) (fun c_4 => ?_)
    · skip
      refine w_aload_n X dX4_taxOf_44 hl 1 rfl rfl ?_
      refine w_get X hE hO 2 dX4_taxOf_45 rfl hin_RX4 (by decide) (by decide +kernel) rfl rfl ?_
      refine w_iload_n X dX4_taxOf_48 hl 2 rfl rfl ?_
      refine w_iald (y := wI (σ.1 (i).toNat 1)) X hE hA2 dX4_taxOf_49 (by omega) (by omega) (by omega) rfl ?_
      refine w_i2l X dX4_taxOf_50 (by omega) ?_
      refine w_lload X dX4_taxOf_51 hl 0 rfl ?_
      refine w_lsub X dX4_taxOf_53 fun z_5 ez_5 => ?_
      refine w_lstore X [(6, .long (wJ (z_5))), (4, .long (wJ (σ.1 (i).toNat 0))), (0, .ref (A 0)), (1, .int (wI (i))), (2, .long (wJ (n)))] dX4_taxOf_54 hl (by decide) rfl fun ls hl => ?_
      refine w_lload_n X dX4_taxOf_56 hl 4 rfl rfl ?_
      refine w_lload X dX4_taxOf_57 hl 1 rfl ?_
      refine w_lsub X dX4_taxOf_59 fun z_6 ez_6 => ?_
      refine w_lload X dX4_taxOf_60 hl 0 rfl ?_
      refine w_lsub X dX4_taxOf_62 fun z_7 ez_7 => ?_
      refine w_lstore X [(8, .long (wJ (z_7))), (6, .long (wJ (z_5))), (4, .long (wJ (σ.1 (i).toNat 0))), (0, .ref (A 0)), (1, .int (wI (i))), (2, .long (wJ (n)))] dX4_taxOf_63 hl (by decide) rfl fun ls hl => ?_
      refine w_lload X dX4_taxOf_65 hl 2 rfl ?_
      refine w_aload_n X dX4_taxOf_67 hl 3 rfl rfl ?_
      refine w_get X hE hO 3 dX4_taxOf_68 rfl hin_RX4 (by decide) (by decide +kernel) rfl rfl ?_
      refine w_iconst X dX4_taxOf_71 ?_
      refine w_iload_n X dX4_taxOf_72 hl 4 rfl rfl ?_
      refine w_imul X dX4_taxOf_73 fun z_8 ez_8 => ?_
      refine w_iald (y := wI (σ.1 (i).toNat 2)) X hE hA3 dX4_taxOf_74 (by omega) (by omega) (by omega) (by show wI (σ.1 ((z_8).toNat / 3) (2 + (z_8).toNat % 3)) = _; rw [show (z_8).toNat / 3 = (i).toNat by omega, show 2 + (z_8).toNat % 3 = 2 by omega]) ?_
      refine w_i2l X dX4_taxOf_75 (by omega) ?_
      refine w_lmul X dX4_taxOf_76 fun z_9 ez_9 => ?_
      refine w_lload X dX4_taxOf_77 hl 1 rfl ?_
      refine w_aload_n X dX4_taxOf_79 hl 3 rfl rfl ?_
      refine w_get X hE hO 3 dX4_taxOf_80 rfl hin_RX4 (by decide) (by decide +kernel) rfl rfl ?_
      refine w_iconst X dX4_taxOf_83 ?_
      refine w_iload_n X dX4_taxOf_84 hl 4 rfl rfl ?_
      refine w_imul X dX4_taxOf_85 fun z_10 ez_10 => ?_
      refine w_iconst X dX4_taxOf_86 ?_
      refine w_iadd X dX4_taxOf_87 fun z_11 ez_11 => ?_
      refine w_iald (y := wI (σ.1 (i).toNat 3)) X hE hA3 dX4_taxOf_88 (by omega) (by omega) (by omega) (by show wI (σ.1 ((z_11).toNat / 3) (2 + (z_11).toNat % 3)) = _; rw [show (z_11).toNat / 3 = (i).toNat by omega, show 2 + (z_11).toNat % 3 = 3 by omega]) ?_
      refine w_i2l X dX4_taxOf_89 (by omega) ?_
      refine w_lmul X dX4_taxOf_90 fun z_12 ez_12 => ?_
      refine w_ladd X dX4_taxOf_91 fun z_13 ez_13 => ?_
      refine w_lload X dX4_taxOf_92 hl 0 rfl ?_
      refine w_aload_n X dX4_taxOf_94 hl 3 rfl rfl ?_
      refine w_get X hE hO 3 dX4_taxOf_95 rfl hin_RX4 (by decide) (by decide +kernel) rfl rfl ?_
      refine w_iconst X dX4_taxOf_98 ?_
      refine w_iload_n X dX4_taxOf_99 hl 4 rfl rfl ?_
      refine w_imul X dX4_taxOf_100 fun z_14 ez_14 => ?_
      refine w_iconst X dX4_taxOf_101 ?_
      refine w_iadd X dX4_taxOf_102 fun z_15 ez_15 => ?_
      refine w_iald (y := wI (σ.1 (i).toNat 4)) X hE hA3 dX4_taxOf_103 (by omega) (by omega) (by omega) (by show wI (σ.1 ((z_15).toNat / 3) (2 + (z_15).toNat % 3)) = _; rw [show (z_15).toNat / 3 = (i).toNat by omega, show 2 + (z_15).toNat % 3 = 4 by omega]) ?_
      refine w_i2l X dX4_taxOf_104 (by omega) ?_
      refine w_lmul X dX4_taxOf_105 fun z_16 ez_16 => ?_
      refine w_ladd X dX4_taxOf_106 fun z_17 ez_17 => ?_
      refine w_ldc2 (v := 100) (z := 100) X dX4_taxOf_107 (by decide +kernel) (by decide) ?_
      have qa : min n (σ.1 i.toNat 0) = σ.1 (i).toNat 0 := by omega
      have qb : max 0 (min n (σ.1 i.toNat 1) - σ.1 i.toNat 0) = z_5 := by omega
      have qc : max 0 (n - σ.1 i.toNat 1) = z_7 := by omega
      have q1 := taxN_bd hL hn.1
      have q2 : z_17 = taxN (σ.1 i.toNat) n := by
        unfold taxN
        rw [qa, qb, qc]
        omega
      refine w_ldiv X dX4_taxOf_110 (by omega) (by omega) fun z_18 ez_18 => ?_
      exact w_lret X hr hk dX4_taxOf_111 (by rw [ez_18, q2]; rfl)
    · skip
      refine w_lload_n X dX4_taxOf_37 hl 3 rfl rfl ?_
      refine w_lload X dX4_taxOf_38 hl 0 rfl ?_
      refine w_lsub X dX4_taxOf_40 fun z_19 ez_19 => ?_
      refine w_goto X 54 dX4_taxOf_41 (by decide) ?_
      refine w_lstore X [(6, .long (wJ (z_19))), (4, .long (wJ (σ.1 (i).toNat 0))), (0, .ref (A 0)), (1, .int (wI (i))), (2, .long (wJ (n)))] dX4_taxOf_54 hl (by decide) rfl fun ls hl => ?_
      refine w_lload_n X dX4_taxOf_56 hl 4 rfl rfl ?_
      refine w_lload X dX4_taxOf_57 hl 1 rfl ?_
      refine w_lsub X dX4_taxOf_59 fun z_20 ez_20 => ?_
      refine w_lload X dX4_taxOf_60 hl 0 rfl ?_
      refine w_lsub X dX4_taxOf_62 fun z_21 ez_21 => ?_
      refine w_lstore X [(8, .long (wJ (z_21))), (6, .long (wJ (z_19))), (4, .long (wJ (σ.1 (i).toNat 0))), (0, .ref (A 0)), (1, .int (wI (i))), (2, .long (wJ (n)))] dX4_taxOf_63 hl (by decide) rfl fun ls hl => ?_
      refine w_lload X dX4_taxOf_65 hl 2 rfl ?_
      refine w_aload_n X dX4_taxOf_67 hl 3 rfl rfl ?_
      refine w_get X hE hO 3 dX4_taxOf_68 rfl hin_RX4 (by decide) (by decide +kernel) rfl rfl ?_
      refine w_iconst X dX4_taxOf_71 ?_
      refine w_iload_n X dX4_taxOf_72 hl 4 rfl rfl ?_
      refine w_imul X dX4_taxOf_73 fun z_22 ez_22 => ?_
      refine w_iald (y := wI (σ.1 (i).toNat 2)) X hE hA3 dX4_taxOf_74 (by omega) (by omega) (by omega) (by show wI (σ.1 ((z_22).toNat / 3) (2 + (z_22).toNat % 3)) = _; rw [show (z_22).toNat / 3 = (i).toNat by omega, show 2 + (z_22).toNat % 3 = 2 by omega]) ?_
      refine w_i2l X dX4_taxOf_75 (by omega) ?_
      refine w_lmul X dX4_taxOf_76 fun z_23 ez_23 => ?_
      refine w_lload X dX4_taxOf_77 hl 1 rfl ?_
      refine w_aload_n X dX4_taxOf_79 hl 3 rfl rfl ?_
      refine w_get X hE hO 3 dX4_taxOf_80 rfl hin_RX4 (by decide) (by decide +kernel) rfl rfl ?_
      refine w_iconst X dX4_taxOf_83 ?_
      refine w_iload_n X dX4_taxOf_84 hl 4 rfl rfl ?_
      refine w_imul X dX4_taxOf_85 fun z_24 ez_24 => ?_
      refine w_iconst X dX4_taxOf_86 ?_
      refine w_iadd X dX4_taxOf_87 fun z_25 ez_25 => ?_
      refine w_iald (y := wI (σ.1 (i).toNat 3)) X hE hA3 dX4_taxOf_88 (by omega) (by omega) (by omega) (by show wI (σ.1 ((z_25).toNat / 3) (2 + (z_25).toNat % 3)) = _; rw [show (z_25).toNat / 3 = (i).toNat by omega, show 2 + (z_25).toNat % 3 = 3 by omega]) ?_
      refine w_i2l X dX4_taxOf_89 (by omega) ?_
      refine w_lmul X dX4_taxOf_90 fun z_26 ez_26 => ?_
      refine w_ladd X dX4_taxOf_91 fun z_27 ez_27 => ?_
      refine w_lload X dX4_taxOf_92 hl 0 rfl ?_
      refine w_aload_n X dX4_taxOf_94 hl 3 rfl rfl ?_
      refine w_get X hE hO 3 dX4_taxOf_95 rfl hin_RX4 (by decide) (by decide +kernel) rfl rfl ?_
      refine w_iconst X dX4_taxOf_98 ?_
      refine w_iload_n X dX4_taxOf_99 hl 4 rfl rfl ?_
      refine w_imul X dX4_taxOf_100 fun z_28 ez_28 => ?_
      refine w_iconst X dX4_taxOf_101 ?_
      refine w_iadd X dX4_taxOf_102 fun z_29 ez_29 => ?_
      refine w_iald (y := wI (σ.1 (i).toNat 4)) X hE hA3 dX4_taxOf_103 (by omega) (by omega) (by omega) (by show wI (σ.1 ((z_29).toNat / 3) (2 + (z_29).toNat % 3)) = _; rw [show (z_29).toNat / 3 = (i).toNat by omega, show 2 + (z_29).toNat % 3 = 4 by omega]) ?_
      refine w_i2l X dX4_taxOf_104 (by omega) ?_
      refine w_lmul X dX4_taxOf_105 fun z_30 ez_30 => ?_
      refine w_ladd X dX4_taxOf_106 fun z_31 ez_31 => ?_
      refine w_ldc2 (v := 100) (z := 100) X dX4_taxOf_107 (by decide +kernel) (by decide) ?_
      have qa : min n (σ.1 i.toNat 0) = σ.1 (i).toNat 0 := by omega
      have qb : max 0 (min n (σ.1 i.toNat 1) - σ.1 i.toNat 0) = z_19 := by omega
      have qc : max 0 (n - σ.1 i.toNat 1) = z_21 := by omega
      have q1 := taxN_bd hL hn.1
      have q2 : z_31 = taxN (σ.1 i.toNat) n := by
        unfold taxN
        rw [qa, qb, qc]
        omega
      refine w_ldiv X dX4_taxOf_110 (by omega) (by omega) fun z_32 ez_32 => ?_
      exact w_lret X hr hk dX4_taxOf_111 (by rw [ez_32, q2]; rfl)
  · skip
    refine w_lload_n X dX4_taxOf_12 hl 2 rfl rfl ?_
    refine w_goto X 23 dX4_taxOf_13 (by decide) ?_
    refine w_lstore X [(4, .long (wJ (n))), (0, .ref (A 0)), (1, .int (wI (i))), (2, .long (wJ (n)))] dX4_taxOf_23 hl (by decide) rfl fun ls hl => ?_
    refine w_lload_n X dX4_taxOf_25 hl 3 rfl rfl ?_
    refine w_aload_n X dX4_taxOf_26 hl 1 rfl rfl ?_
    refine w_get X hE hO 2 dX4_taxOf_27 rfl hin_RX4 (by decide) (by decide +kernel) rfl rfl ?_
    refine w_iload_n X dX4_taxOf_30 hl 2 rfl rfl ?_
    refine w_iald (y := wI (σ.1 (i).toNat 1)) X hE hA2 dX4_taxOf_31 (by omega) (by omega) (by omega) rfl ?_
    refine w_i2l X dX4_taxOf_32 (by omega) ?_
    refine w_lcmp X dX4_taxOf_33 (by omega) (by omega) fun z_33 ez_33a ez_33b ez_33c ez_33d => ?_
    refine w_if_ge X 44 dX4_taxOf_34 (by decide) (by omega) (fun c_34 => ?_) (fun c_34 => ?_)
    · skip
      refine w_aload_n X dX4_taxOf_44 hl 1 rfl rfl ?_
      refine w_get X hE hO 2 dX4_taxOf_45 rfl hin_RX4 (by decide) (by decide +kernel) rfl rfl ?_
      refine w_iload_n X dX4_taxOf_48 hl 2 rfl rfl ?_
      refine w_iald (y := wI (σ.1 (i).toNat 1)) X hE hA2 dX4_taxOf_49 (by omega) (by omega) (by omega) rfl ?_
      refine w_i2l X dX4_taxOf_50 (by omega) ?_
      refine w_lload X dX4_taxOf_51 hl 0 rfl ?_
      refine w_lsub X dX4_taxOf_53 fun z_35 ez_35 => ?_
      refine w_lstore X [(6, .long (wJ (z_35))), (4, .long (wJ (n))), (0, .ref (A 0)), (1, .int (wI (i))), (2, .long (wJ (n)))] dX4_taxOf_54 hl (by decide) rfl fun ls hl => ?_
      refine w_lload_n X dX4_taxOf_56 hl 4 rfl rfl ?_
      refine w_lload X dX4_taxOf_57 hl 1 rfl ?_
      refine w_lsub X dX4_taxOf_59 fun z_36 ez_36 => ?_
      refine w_lload X dX4_taxOf_60 hl 0 rfl ?_
      refine w_lsub X dX4_taxOf_62 fun z_37 ez_37 => ?_
      refine w_lstore X [(8, .long (wJ (z_37))), (6, .long (wJ (z_35))), (4, .long (wJ (n))), (0, .ref (A 0)), (1, .int (wI (i))), (2, .long (wJ (n)))] dX4_taxOf_63 hl (by decide) rfl fun ls hl => ?_
      refine w_lload X dX4_taxOf_65 hl 2 rfl ?_
      refine w_aload_n X dX4_taxOf_67 hl 3 rfl rfl ?_
      refine w_get X hE hO 3 dX4_taxOf_68 rfl hin_RX4 (by decide) (by decide +kernel) rfl rfl ?_
      refine w_iconst X dX4_taxOf_71 ?_
      refine w_iload_n X dX4_taxOf_72 hl 4 rfl rfl ?_
      refine w_imul X dX4_taxOf_73 fun z_38 ez_38 => ?_
      refine w_iald (y := wI (σ.1 (i).toNat 2)) X hE hA3 dX4_taxOf_74 (by omega) (by omega) (by omega) (by show wI (σ.1 ((z_38).toNat / 3) (2 + (z_38).toNat % 3)) = _; rw [show (z_38).toNat / 3 = (i).toNat by omega, show 2 + (z_38).toNat % 3 = 2 by omega]) ?_
      refine w_i2l X dX4_taxOf_75 (by omega) ?_
      refine w_lmul X dX4_taxOf_76 fun z_39 ez_39 => ?_
      refine w_lload X dX4_taxOf_77 hl 1 rfl ?_
      refine w_aload_n X dX4_taxOf_79 hl 3 rfl rfl ?_
      refine w_get X hE hO 3 dX4_taxOf_80 rfl hin_RX4 (by decide) (by decide +kernel) rfl rfl ?_
      refine w_iconst X dX4_taxOf_83 ?_
      refine w_iload_n X dX4_taxOf_84 hl 4 rfl rfl ?_
      refine w_imul X dX4_taxOf_85 fun z_40 ez_40 => ?_
      refine w_iconst X dX4_taxOf_86 ?_
      refine w_iadd X dX4_taxOf_87 fun z_41 ez_41 => ?_
      refine w_iald (y := wI (σ.1 (i).toNat 3)) X hE hA3 dX4_taxOf_88 (by omega) (by omega) (by omega) (by show wI (σ.1 ((z_41).toNat / 3) (2 + (z_41).toNat % 3)) = _; rw [show (z_41).toNat / 3 = (i).toNat by omega, show 2 + (z_41).toNat % 3 = 3 by omega]) ?_
      refine w_i2l X dX4_taxOf_89 (by omega) ?_
      refine w_lmul X dX4_taxOf_90 fun z_42 ez_42 => ?_
      refine w_ladd X dX4_taxOf_91 fun z_43 ez_43 => ?_
      refine w_lload X dX4_taxOf_92 hl 0 rfl ?_
      refine w_aload_n X dX4_taxOf_94 hl 3 rfl rfl ?_
      refine w_get X hE hO 3 dX4_taxOf_95 rfl hin_RX4 (by decide) (by decide +kernel) rfl rfl ?_
      refine w_iconst X dX4_taxOf_98 ?_
      refine w_iload_n X dX4_taxOf_99 hl 4 rfl rfl ?_
      refine w_imul X dX4_taxOf_100 fun z_44 ez_44 => ?_
      refine w_iconst X dX4_taxOf_101 ?_
      refine w_iadd X dX4_taxOf_102 fun z_45 ez_45 => ?_
      refine w_iald (y := wI (σ.1 (i).toNat 4)) X hE hA3 dX4_taxOf_103 (by omega) (by omega) (by omega) (by show wI (σ.1 ((z_45).toNat / 3) (2 + (z_45).toNat % 3)) = _; rw [show (z_45).toNat / 3 = (i).toNat by omega, show 2 + (z_45).toNat % 3 = 4 by omega]) ?_
      refine w_i2l X dX4_taxOf_104 (by omega) ?_
      refine w_lmul X dX4_taxOf_105 fun z_46 ez_46 => ?_
      refine w_ladd X dX4_taxOf_106 fun z_47 ez_47 => ?_
      refine w_ldc2 (v := 100) (z := 100) X dX4_taxOf_107 (by decide +kernel) (by decide) ?_
      have qa : min n (σ.1 i.toNat 0) = n := by omega
      have qb : max 0 (min n (σ.1 i.toNat 1) - σ.1 i.toNat 0) = z_35 := by omega
      have qc : max 0 (n - σ.1 i.toNat 1) = z_37 := by omega
      have q1 := taxN_bd hL hn.1
      have q2 : z_47 = taxN (σ.1 i.toNat) n := by
        unfold taxN
        rw [qa, qb, qc]
        omega
      refine w_ldiv X dX4_taxOf_110 (by omega) (by omega) fun z_48 ez_48 => ?_
      exact w_lret X hr hk dX4_taxOf_111 (by rw [ez_48, q2]; rfl)
    · skip
      refine w_lload_n X dX4_taxOf_37 hl 3 rfl rfl ?_
      refine w_lload X dX4_taxOf_38 hl 0 rfl ?_
      refine w_lsub X dX4_taxOf_40 fun z_49 ez_49 => ?_
      refine w_goto X 54 dX4_taxOf_41 (by decide) ?_
      refine w_lstore X [(6, .long (wJ (z_49))), (4, .long (wJ (n))), (0, .ref (A 0)), (1, .int (wI (i))), (2, .long (wJ (n)))] dX4_taxOf_54 hl (by decide) rfl fun ls hl => ?_
      refine w_lload_n X dX4_taxOf_56 hl 4 rfl rfl ?_
      refine w_lload X dX4_taxOf_57 hl 1 rfl ?_
      refine w_lsub X dX4_taxOf_59 fun z_50 ez_50 => ?_
      refine w_lload X dX4_taxOf_60 hl 0 rfl ?_
      refine w_lsub X dX4_taxOf_62 fun z_51 ez_51 => ?_
      refine w_lstore X [(8, .long (wJ (z_51))), (6, .long (wJ (z_49))), (4, .long (wJ (n))), (0, .ref (A 0)), (1, .int (wI (i))), (2, .long (wJ (n)))] dX4_taxOf_63 hl (by decide) rfl fun ls hl => ?_
      refine w_lload X dX4_taxOf_65 hl 2 rfl ?_
      refine w_aload_n X dX4_taxOf_67 hl 3 rfl rfl ?_
      refine w_get X hE hO 3 dX4_taxOf_68 rfl hin_RX4 (by decide) (by decide +kernel) rfl rfl ?_
      refine w_iconst X dX4_taxOf_71 ?_
      refine w_iload_n X dX4_taxOf_72 hl 4 rfl rfl ?_
      refine w_imul X dX4_taxOf_73 fun z_52 ez_52 => ?_
      refine w_iald (y := wI (σ.1 (i).toNat 2)) X hE hA3 dX4_taxOf_74 (by omega) (by omega) (by omega) (by show wI (σ.1 ((z_52).toNat / 3) (2 + (z_52).toNat % 3)) = _; rw [show (z_52).toNat / 3 = (i).toNat by omega, show 2 + (z_52).toNat % 3 = 2 by omega]) ?_
      refine w_i2l X dX4_taxOf_75 (by omega) ?_
      refine w_lmul X dX4_taxOf_76 fun z_53 ez_53 => ?_
      refine w_lload X dX4_taxOf_77 hl 1 rfl ?_
      refine w_aload_n X dX4_taxOf_79 hl 3 rfl rfl ?_
      refine w_get X hE hO 3 dX4_taxOf_80 rfl hin_RX4 (by decide) (by decide +kernel) rfl rfl ?_
      refine w_iconst X dX4_taxOf_83 ?_
      refine w_iload_n X dX4_taxOf_84 hl 4 rfl rfl ?_
      refine w_imul X dX4_taxOf_85 fun z_54 ez_54 => ?_
      refine w_iconst X dX4_taxOf_86 ?_
      refine w_iadd X dX4_taxOf_87 fun z_55 ez_55 => ?_
      refine w_iald (y := wI (σ.1 (i).toNat 3)) X hE hA3 dX4_taxOf_88 (by omega) (by omega) (by omega) (by show wI (σ.1 ((z_55).toNat / 3) (2 + (z_55).toNat % 3)) = _; rw [show (z_55).toNat / 3 = (i).toNat by omega, show 2 + (z_55).toNat % 3 = 3 by omega]) ?_
      refine w_i2l X dX4_taxOf_89 (by omega) ?_
      refine w_lmul X dX4_taxOf_90 fun z_56 ez_56 => ?_
      refine w_ladd X dX4_taxOf_91 fun z_57 ez_57 => ?_
      refine w_lload X dX4_taxOf_92 hl 0 rfl ?_
      refine w_aload_n X dX4_taxOf_94 hl 3 rfl rfl ?_
      refine w_get X hE hO 3 dX4_taxOf_95 rfl hin_RX4 (by decide) (by decide +kernel) rfl rfl ?_
      refine w_iconst X dX4_taxOf_98 ?_
      refine w_iload_n X dX4_taxOf_99 hl 4 rfl rfl ?_
      refine w_imul X dX4_taxOf_100 fun z_58 ez_58 => ?_
      refine w_iconst X dX4_taxOf_101 ?_
      refine w_iadd X dX4_taxOf_102 fun z_59 ez_59 => ?_
      refine w_iald (y := wI (σ.1 (i).toNat 4)) X hE hA3 dX4_taxOf_103 (by omega) (by omega) (by omega) (by show wI (σ.1 ((z_59).toNat / 3) (2 + (z_59).toNat % 3)) = _; rw [show (z_59).toNat / 3 = (i).toNat by omega, show 2 + (z_59).toNat % 3 = 4 by omega]) ?_
      refine w_i2l X dX4_taxOf_104 (by omega) ?_
      refine w_lmul X dX4_taxOf_105 fun z_60 ez_60 => ?_
      refine w_ladd X dX4_taxOf_106 fun z_61 ez_61 => ?_
      refine w_ldc2 (v := 100) (z := 100) X dX4_taxOf_107 (by decide +kernel) (by decide) ?_
      have qa : min n (σ.1 i.toNat 0) = n := by omega
      have qb : max 0 (min n (σ.1 i.toNat 1) - σ.1 i.toNat 0) = z_49 := by omega
      have qc : max 0 (n - σ.1 i.toNat 1) = z_51 := by omega
      have q1 := taxN_bd hL hn.1
      have q2 : z_61 = taxN (σ.1 i.toNat) n := by
        unfold taxN
        rw [qa, qb, qc]
        omega
      refine w_ldiv X dX4_taxOf_110 (by omega) (by omega) fun z_62 ez_62 => ?_
      exact w_lret X hr hk dX4_taxOf_111 (by rw [ez_62, q2]; rfl)

set_option maxHeartbeats 4000000 in
set_option maxRecDepth 100000 in
theorem c_X4_gross (l : Launch) (g : wG) (H : Heap) (A : Nat → Nat) (th : Int) (σ : St) (hM : ModAt g H A th σ) (hσ : StGood σ) (i : Int) (hi : 0 ≤ i ∧ i < 4) (n : Int) (hn : 0 ≤ n ∧ n ≤ 10000000) : Pur l g H yX4_gross wsX4_gross 1 29 [.ref (A 0), .int (wI i), .long (wJ n)] (.int (wI (grossS (σ.1 i.toNat) n))) := by
  refine Pur.of (cc := cX4_gross) (maxL := 8) (ret := some .int) (by decide) rfl (Nat.le_of_ble_eq_true rfl) ?_
  intro p e s m args below meth c X hE hr hk ls hl
  have hl : lv_has ls 8 [(0, .ref (A 0)), (1, .int (wI i)), (2, .long (wJ n))] := hl
  have hO : Ob g H (A 0) 5 [.int (wI th), .ref (A 1), .ref (A 2), .ref (A 3), .int (wI (sn σ : Int)), .ref (A 5), .ref (A 6), .ref (A 7), .ref (A 8), .ref (A 9), .ref (A 10), .ref (A 11), .ref (A 12), .ref (A 13), .ref (A 14), .ref (A 15)] := hM 0 _ rfl
  have hL := hσ.1 i.toNat (by omega)
  have loop : ∀ (r : Nat) (b t : Int), t - b ≤ r → -1 ≤ b → b < t → t ≤ 40000000 → taxS (σ.1 i.toNat) (n + t) ≤ t → (∀ j : Int, 0 ≤ j → j < b + 1 → j < taxS (σ.1 i.toNat) (n + j)) → ∀ ls : Array Slot, lv_has ls 8 [(5, .int (wI (t))), (4, .int (wI (b))), (0, .ref (A 0)), (1, .int (wI (i))), (2, .long (wJ (n)))] → W p l e { frames := 1, cells := 0, slots := 0, locals := 29 } s m args below meth c H [] 0 0 (MQ below (PQ H (.int (wI (grossS (σ.1 i.toNat) n)))) args s 0 0 (fun _ => False)) (F0 m 7 ls []) := by
    intro r
    induction r with
    | zero =>
      intro b t q1 q2 q3
      omega
    | succ r ih =>
      intro b t q1 q2 q3 q4 q5 q6 ls hl
      refine w_iload X dX4_gross_7 hl 0 rfl ?_
      refine w_iload X dX4_gross_9 hl 1 rfl ?_
      refine w_isub X dX4_gross_11 fun z_1 ez_1 => ?_
      refine w_iconst X dX4_gross_12 ?_
      refine w_icmp_le X 83 dX4_gross_13 (by decide) (by omega) (by omega) (fun c_2 => ?_) (fun c_2 => ?_)
      · skip
        refine w_iload X dX4_gross_83 hl 0 rfl ?_
        exact w_iret X hr hk dX4_gross_85 (grossS_eq (n := n) ⟨by omega, q5, fun j h0 h1 => q6 j h0 (by omega)⟩).symm
      · skip
        refine w_iload X dX4_gross_16 hl 1 rfl ?_
        refine w_iload X dX4_gross_18 hl 0 rfl ?_
        refine w_iload X dX4_gross_20 hl 1 rfl ?_
        refine w_isub X dX4_gross_22 fun z_3 ez_3 => ?_
        refine w_iconst X dX4_gross_23 ?_
        refine w_idiv X dX4_gross_24 (by omega) (by omega) fun z_4 ez_4 => ?_
        refine w_iadd X dX4_gross_25 fun z_5 ez_5 => ?_
        refine w_istore X [(6, .int (wI (z_5))), (5, .int (wI (t))), (4, .int (wI (b))), (0, .ref (A 0)), (1, .int (wI (i))), (2, .long (wJ (n)))] dX4_gross_26 hl (by decide) rfl fun ls hl => ?_
        refine w_aload_n X dX4_gross_28 hl 3 rfl rfl ?_
        refine w_iload_n X dX4_gross_29 hl 4 rfl rfl ?_
        refine w_lload_n X dX4_gross_30 hl 5 rfl rfl ?_
        refine w_iload X dX4_gross_31 hl 0 rfl ?_
        refine w_i2l X dX4_gross_33 (by omega) ?_
        refine w_ladd X dX4_gross_34 fun z_6 ez_6 => ?_
        refine w_callV (v := .long (wJ (taxS (σ.1 (i).toNat) (z_6)))) 2 X hE (c_X4_taxOf l g H A th σ hM hσ (i) (by omega) (z_6) (by omega)) hO hl dX4_gross_35 gX4_gross_X4_taxOf rfl rfl (by decide +kernel) ⟨(Nat.le_of_ble_eq_true rfl), (Nat.le_of_ble_eq_true rfl)⟩ rfl rfl (Nat.le_of_ble_eq_true rfl) ⟨Nat.le_refl _, Nat.le_refl _⟩ ?_
        have qt := taxS_bd hL (n := z_6) (by omega)
        have qe : taxS (σ.1 i.toNat) z_6 = taxS (σ.1 i.toNat) (n + z_5) := by rw [show z_6 = n + z_5 by omega]
        refine w_iload X dX4_gross_38 hl 0 rfl ?_
        refine w_i2l X dX4_gross_40 (by omega) ?_
        refine w_lcmp X dX4_gross_41 (by omega) (by omega) fun z_7 ez_7a ez_7b ez_7c ez_7d => ?_
        refine w_if_gt X 49 dX4_gross_42 (by decide) (by omega) (fun c_8 => ?_) (fun c_8 => ?_)
        · skip
          refine w_iconst X dX4_gross_49 ?_
          refine w_istore X [(7, .int (wI (0))), (6, .int (wI (z_5))), (5, .int (wI (t))), (4, .int (wI (b))), (0, .ref (A 0)), (1, .int (wI (i))), (2, .long (wJ (n)))] dX4_gross_50 hl (by decide) rfl fun ls hl => ?_
          refine w_iload X dX4_gross_52 hl 0 rfl ?_
          refine w_if_eq X 62 dX4_gross_54 (by decide) (by omega) (fun c_9 => ?_) (fun c_9 => ?_)
          · skip
            refine w_iload X dX4_gross_62 hl 2 rfl ?_
            refine w_istore X [(5, .int (wI (t))), (7, .int (wI (0))), (6, .int (wI (z_5))), (4, .int (wI (b))), (0, .ref (A 0)), (1, .int (wI (i))), (2, .long (wJ (n)))] dX4_gross_64 hl (by decide) rfl fun ls hl => ?_
            refine w_iload X dX4_gross_66 hl 1 rfl ?_
            refine w_if_eq X 76 dX4_gross_68 (by decide) (by omega) (fun c_10 => ?_) (fun c_10 => ?_)
            · skip
              refine w_iload X dX4_gross_76 hl 2 rfl ?_
              refine w_istore X [(4, .int (wI (z_5))), (5, .int (wI (t))), (7, .int (wI (0))), (6, .int (wI (z_5))), (0, .ref (A 0)), (1, .int (wI (i))), (2, .long (wJ (n)))] dX4_gross_78 hl (by decide) rfl fun ls hl => ?_
              refine w_goto X 7 dX4_gross_80 (by decide) ?_
              exact ih (z_5) (t) (by omega) (by omega) (by omega) (by omega) q5 (tax_low hL hn.1 (by omega)) ls (lv_sub hl [1, 0, 4, 5, 6] rfl)
            · skip
              exact absurd c_10 (by omega)
          · skip
            exact absurd c_9 (by omega)
        · skip
          refine w_iconst X dX4_gross_45 ?_
          refine w_goto X 50 dX4_gross_46 (by decide) ?_
          refine w_istore X [(7, .int (wI (1))), (6, .int (wI (z_5))), (5, .int (wI (t))), (4, .int (wI (b))), (0, .ref (A 0)), (1, .int (wI (i))), (2, .long (wJ (n)))] dX4_gross_50 hl (by decide) rfl fun ls hl => ?_
          refine w_iload X dX4_gross_52 hl 0 rfl ?_
          refine w_if_eq X 62 dX4_gross_54 (by decide) (by omega) (fun c_11 => ?_) (fun c_11 => ?_)
          · skip
            exact absurd c_11 (by omega)
          · skip
            refine w_iload X dX4_gross_57 hl 1 rfl ?_
            refine w_goto X 64 dX4_gross_59 (by decide) ?_
            refine w_istore X [(5, .int (wI (z_5))), (7, .int (wI (1))), (6, .int (wI (z_5))), (4, .int (wI (b))), (0, .ref (A 0)), (1, .int (wI (i))), (2, .long (wJ (n)))] dX4_gross_64 hl (by decide) rfl fun ls hl => ?_
            refine w_iload X dX4_gross_66 hl 1 rfl ?_
            refine w_if_eq X 76 dX4_gross_68 (by decide) (by omega) (fun c_12 => ?_) (fun c_12 => ?_)
            · skip
              exact absurd c_12 (by omega)
            · skip
              refine w_iload X dX4_gross_71 hl 3 rfl ?_
              refine w_goto X 78 dX4_gross_73 (by decide) ?_
              refine w_istore X [(4, .int (wI (b))), (5, .int (wI (z_5))), (7, .int (wI (1))), (6, .int (wI (z_5))), (0, .ref (A 0)), (1, .int (wI (i))), (2, .long (wJ (n)))] dX4_gross_78 hl (by decide) rfl fun ls hl => ?_
              refine w_goto X 7 dX4_gross_80 (by decide) ?_
              exact ih (b) (z_5) (by omega) (by omega) (by omega) (by omega) (by omega) q6 ls (lv_sub hl [1, 0, 4, 5, 6] rfl)
  refine w_iconst X dX4_gross_0 ?_
  refine w_istore X [(4, .int (wI (-1))), (0, .ref (A 0)), (1, .int (wI (i))), (2, .long (wJ (n)))] dX4_gross_1 hl (by decide) rfl fun ls hl => ?_
  refine w_ldc (v := 40000000) (z := 40000000) X dX4_gross_3 (by decide +kernel) (by decide) ?_
  refine w_istore X [(5, .int (wI (40000000))), (4, .int (wI (-1))), (0, .ref (A 0)), (1, .int (wI (i))), (2, .long (wJ (n)))] dX4_gross_5 hl (by decide) rfl fun ls hl => ?_
  have q0 := taxS_bd hL (n := n + 40000000) (by omega)
  exact loop 40000001 (-1) 40000000 (by omega) (by omega) (by omega) (by omega) (by omega) (fun j h0 h1 => absurd h1 (by omega)) ls (lv_sub hl [0, 1, 2, 3, 4] rfl)

set_option maxHeartbeats 4000000 in
set_option maxRecDepth 100000 in
theorem c_X4_own (l : Launch) (g : wG) (H : Heap) (A : Nat → Nat) (th : Int) (σ : St) (hM : ModAt g H A th σ) (hσ : StGood σ) (p : Int) (hp : 0 ≤ p ∧ p < sn σ) : Pur l g H yX4_own wsX4_own 0 0 [.ref (A 0), .int (wI (p))] (.int (wI (ownS (sp σ p.toNat)))) := by
  refine Pur.of (cc := cX4_own) (maxL := 3) (ret := (some .int)) (by decide) rfl (Nat.le_of_ble_eq_true rfl) ?_
  intro p9 e s m args below meth c X hE hr hk ls hl
  have hl : lv_has ls 3 [(0, .ref (A 0)), (1, .int (wI (p)))] := hl
  have hin_RX4 : ∀ w ∈ u_ws RX4 TX4 16, w ∈ wsX4_own := by decide +kernel
  have hO : Ob g H (A 0) 5 [.int (wI th), .ref (A 1), .ref (A 2), .ref (A 3), .int (wI (sn σ : Int)), .ref (A 5), .ref (A 6), .ref (A 7), .ref (A 8), .ref (A 9), .ref (A 10), .ref (A 11), .ref (A 12), .ref (A 13), .ref (A 14), .ref (A 15)] := hM 0 _ rfl
  have hA7 : IA g H (A 7) 10 (fun j => wI (sp σ j 2)) := hM 6 _ rfl
  have hA10 : IA g H (A 10) 10 (fun j => wI (sp σ j 5)) := hM 9 _ rfl
  have hA11 : IA g H (A 11) 10 (fun j => wI (sp σ j 6)) := hM 10 _ rfl
  obtain ⟨hG, hH, hT⟩ := hσ.2.2.1 p.toNat (by omega)
  have hs10 := hσ.2.1
  obtain ⟨⟨b1, b2⟩, ⟨b3, b4, b5⟩, ⟨b6, b7⟩, ⟨b8, b9⟩, b10, -⟩ := id hG
  have hLH : lGood (sH σ p.toNat) := hσ.1 (sp σ p.toNat 0).toNat (by omega)
  have hLT : lGood (sT σ p.toNat) := hσ.1 (sp σ p.toNat 1).toNat (by omega)
  refine w_aload_n X dX4_own_0 hl 0 rfl rfl ?_
  refine w_get X hE hO 7 dX4_own_1 rfl hin_RX4 (by decide) (by decide +kernel) rfl rfl ?_
  refine w_iload_n X dX4_own_4 hl 1 rfl rfl ?_
  refine w_iald (y := wI (sp σ (p).toNat 2)) X hE hA7 dX4_own_5 (by omega) (by omega) (by omega) rfl ?_
  refine w_aload_n X dX4_own_6 hl 0 rfl rfl ?_
  refine w_get X hE hO 11 dX4_own_7 rfl hin_RX4 (by decide) (by decide +kernel) rfl rfl ?_
  refine w_iload_n X dX4_own_10 hl 1 rfl rfl ?_
  refine w_iald (y := wI (sp σ (p).toNat 6)) X hE hA11 dX4_own_11 (by omega) (by omega) (by omega) rfl ?_
  refine w_imul X dX4_own_12 fun z_1 ez_1 => ?_
  have qn := pn_bd hG
  refine w_bipush X dX4_own_13 (by decide) ?_
  refine w_idiv X dX4_own_15 (by omega) (by omega) fun z_2 ez_2 => ?_
  refine w_istore_n X [(2, .int (wI (z_2))), (0, .ref (A 0)), (1, .int (wI (p)))] dX4_own_16 hl rfl (by decide) rfl fun ls hl => ?_
  refine w_iload_n X dX4_own_17 hl 0 rfl rfl ?_
  refine w_aload_n X dX4_own_18 hl 1 rfl rfl ?_
  refine w_get X hE hO 10 dX4_own_19 rfl hin_RX4 (by decide) (by decide +kernel) rfl rfl ?_
  refine w_iload_n X dX4_own_22 hl 2 rfl rfl ?_
  refine w_iald (y := wI (sp σ (p).toNat 5)) X hE hA10 dX4_own_23 (by omega) (by omega) (by omega) rfl ?_
  refine w_icmp_ge X 31 dX4_own_24 (by decide) (by omega) (by omega) (fun c_3 => ?_) (fun c_3 => ?_)
  · skip
    refine w_aload_n X dX4_own_31 hl 1 rfl rfl ?_
    refine w_get X hE hO 10 dX4_own_32 rfl hin_RX4 (by decide) (by decide +kernel) rfl rfl ?_
    refine w_iload_n X dX4_own_35 hl 2 rfl rfl ?_
    refine w_iald (y := wI (sp σ (p).toNat 5)) X hE hA10 dX4_own_36 (by omega) (by omega) (by omega) rfl ?_
    exact w_iret X hr hk dX4_own_37 (by unfold ownS; omega)
  · skip
    refine w_iload_n X dX4_own_27 hl 0 rfl rfl ?_
    refine w_goto X 37 dX4_own_28 (by decide) ?_
    exact w_iret X hr hk dX4_own_37 (by unfold ownS; omega)

set_option maxHeartbeats 4000000 in
set_option maxRecDepth 100000 in
theorem c_X4_part (l : Launch) (g : wG) (H : Heap) (A : Nat → Nat) (th : Int) (σ : St) (hM : ModAt g H A th σ) (hσ : StGood σ) (p : Int) (hp : 0 ≤ p ∧ p < sn σ) (b : Int) (hb : 0 ≤ b ∧ b < sb σ p.toNat) : Pur l g H yX4_part wsX4_part 0 0 [.ref (A 0), .int (wI p), .int (wI b)] (.int (wI (parS (sp σ p.toNat) (so σ p.toNat b.toNat)))) := by
  refine Pur.of (cc := cX4_part) (maxL := 6) (ret := some .int) (by decide) rfl (Nat.le_of_ble_eq_true rfl) ?_
  intro p9 e s m args below meth c X hE hr hk ls hl
  have hl : lv_has ls 6 [(0, .ref (A 0)), (1, .int (wI p)), (2, .int (wI b))] := hl
  have hO : Ob g H (A 0) 5 [.int (wI th), .ref (A 1), .ref (A 2), .ref (A 3), .int (wI (sn σ : Int)), .ref (A 5), .ref (A 6), .ref (A 7), .ref (A 8), .ref (A 9), .ref (A 10), .ref (A 11), .ref (A 12), .ref (A 13), .ref (A 14), .ref (A 15)] := hM 0 _ rfl
  have hA8 : IA g H (A 8) 10 (fun j => wI (sp σ j 3)) := hM 7 _ rfl
  have hA9 : IA g H (A 9) 10 (fun j => wI (sp σ j 4)) := hM 8 _ rfl
  have hA13 : IA g H (A 13) 60 (fun j => wI (so σ (j / 6) (j % 6) 0)) := hM 12 _ rfl
  have hA14 : IA g H (A 14) 60 (fun j => wI (so σ (j / 6) (j % 6) 1)) := hM 13 _ rfl
  have hA15 : IA g H (A 15) 60 (fun j => wI (so σ (j / 6) (j % 6) 2)) := hM 14 _ rfl
  obtain ⟨hG, hH, hT⟩ := hσ.2.2.1 p.toNat (by omega)
  have hs10 := hσ.2.1
  obtain ⟨⟨b1, b2⟩, ⟨b3, b4, b5⟩, ⟨b6, b7⟩, ⟨b8, b9⟩, b10, -⟩ := id hG
  have hLH : lGood (sH σ p.toNat) := hσ.1 (sp σ p.toNat 0).toNat (by omega)
  have hLT : lGood (sT σ p.toNat) := hσ.1 (sp σ p.toNat 1).toNat (by omega)
  have hin_RX4 : ∀ w ∈ u_ws RX4 TX4 16, w ∈ wsX4_part := by decide +kernel
  have hbg := hG.2.2.2.2.2 b.toNat (by omega)
  obtain ⟨⟨g1, g2⟩, g3, g4, g5⟩ := id hbg
  have loop : ∀ (r : Nat) (k x : Int), k = 6 * p + b → x + r = so σ p.toNat b.toNat 2 → so σ p.toNat b.toNat 1 ≤ x → ∀ ls : Array Slot, lv_has ls 6 [(5, .int (wI (x))), (4, .int (wI (max 0 (min x (sp σ p.toNat 4) - max (so σ p.toNat b.toNat 1) (sp σ p.toNat 3))))), (3, .int (wI (k))), (0, .ref (A 0)), (1, .int (wI (p))), (2, .int (wI (b)))] → W p9 l e { frames := 0, cells := 0, slots := 0, locals := 0 } s m args below meth c H [] 0 0 (MQ below (PQ H (.int (wI (parS (sp σ p.toNat) (so σ p.toNat b.toNat))))) args s 0 0 (fun _ => False)) (F0 m 18 ls []) := by
    intro r
    induction r with
    | zero =>
      intro k x qk q1 q2 ls hl
      refine w_iload X dX4_part_18 hl 0 rfl ?_
      refine w_aload_n X dX4_part_20 hl 3 rfl rfl ?_
      refine w_get X hE hO 15 dX4_part_21 rfl hin_RX4 (by decide) (by decide +kernel) rfl rfl ?_
      refine w_iload_n X dX4_part_24 hl 2 rfl rfl ?_
      refine w_iald (y := wI (so σ (p).toNat b.toNat 2)) X hE hA15 dX4_part_25 (by omega) (by omega) (by omega) (by show wI (so σ ((k).toNat / 6) ((k).toNat % 6) 2) = _; rw [show (k).toNat / 6 = (p).toNat by omega, show (k).toNat % 6 = b.toNat by omega]) ?_
      refine w_icmp_ge X 67 dX4_part_26 (by decide) (by omega) (by omega) (fun c_1 => ?_) (fun c_1 => ?_)
      · skip
        refine w_aload_n X dX4_part_67 hl 3 rfl rfl ?_
        refine w_get X hE hO 13 dX4_part_68 rfl hin_RX4 (by decide) (by decide +kernel) rfl rfl ?_
        refine w_iload_n X dX4_part_71 hl 2 rfl rfl ?_
        refine w_iald (y := wI (so σ (p).toNat b.toNat 0)) X hE hA13 dX4_part_72 (by omega) (by omega) (by omega) (by show wI (so σ ((k).toNat / 6) ((k).toNat % 6) 0) = _; rw [show (k).toNat / 6 = (p).toNat by omega, show (k).toNat % 6 = b.toNat by omega]) ?_
        refine w_iload X dX4_part_73 hl 1 rfl ?_
        refine w_imul X dX4_part_75 fun z_2 ez_2 => ?_
        refine w_aload_n X dX4_part_76 hl 3 rfl rfl ?_
        refine w_get X hE hO 15 dX4_part_77 rfl hin_RX4 (by decide) (by decide +kernel) rfl rfl ?_
        refine w_iload_n X dX4_part_80 hl 2 rfl rfl ?_
        refine w_iald (y := wI (so σ (p).toNat b.toNat 2)) X hE hA15 dX4_part_81 (by omega) (by omega) (by omega) (by show wI (so σ ((k).toNat / 6) ((k).toNat % 6) 2) = _; rw [show (k).toNat / 6 = (p).toNat by omega, show (k).toNat % 6 = b.toNat by omega]) ?_
        refine w_aload_n X dX4_part_82 hl 3 rfl rfl ?_
        refine w_get X hE hO 14 dX4_part_83 rfl hin_RX4 (by decide) (by decide +kernel) rfl rfl ?_
        refine w_iload_n X dX4_part_86 hl 2 rfl rfl ?_
        refine w_iald (y := wI (so σ (p).toNat b.toNat 1)) X hE hA14 dX4_part_87 (by omega) (by omega) (by omega) (by show wI (so σ ((k).toNat / 6) ((k).toNat % 6) 1) = _; rw [show (k).toNat / 6 = (p).toNat by omega, show (k).toNat % 6 = b.toNat by omega]) ?_
        refine w_isub X dX4_part_88 fun z_3 ez_3 => ?_
        have qv : max 0 (min x (sp σ p.toNat 4) - max (so σ p.toNat b.toNat 1) (sp σ p.toNat 3)) = ovS (sp σ p.toNat) (so σ p.toNat b.toNat) := by unfold ovS; omega
        have qc := cov_bd (pf := (sp σ p.toNat)) hbg
        have qz : z_2 = so σ p.toNat b.toNat 0 * ovS (sp σ p.toNat) (so σ p.toNat b.toNat) := by rw [ez_2, qv]
        refine w_idiv X dX4_part_89 (by omega) (by omega) fun z_4 ez_4 => ?_
        exact w_iret X hr hk dX4_part_90 (by rw [ez_4, qz]; unfold parS; exact congrArg (so σ p.toNat b.toNat 0 * ovS (sp σ p.toNat) (so σ p.toNat b.toNat) / ·) (by omega))
      · skip
        exact absurd c_1 (by omega)
    | succ r ih =>
      intro k x qk q1 q2 ls hl
      refine w_iload X dX4_part_18 hl 0 rfl ?_
      refine w_aload_n X dX4_part_20 hl 3 rfl rfl ?_
      refine w_get X hE hO 15 dX4_part_21 rfl hin_RX4 (by decide) (by decide +kernel) rfl rfl ?_
      refine w_iload_n X dX4_part_24 hl 2 rfl rfl ?_
      refine w_iald (y := wI (so σ (p).toNat b.toNat 2)) X hE hA15 dX4_part_25 (by omega) (by omega) (by omega) (by show wI (so σ ((k).toNat / 6) ((k).toNat % 6) 2) = _; rw [show (k).toNat / 6 = (p).toNat by omega, show (k).toNat % 6 = b.toNat by omega]) ?_
      refine w_icmp_ge X 67 dX4_part_26 (by decide) (by omega) (by omega) (fun c_1 => ?_) (fun c_1 => ?_)
      · skip
        exact absurd c_1 (by omega)
      · skip
        refine w_iload X dX4_part_29 hl 1 rfl ?_
        refine w_iload X dX4_part_31 hl 0 rfl ?_
        refine w_aload_n X dX4_part_33 hl 3 rfl rfl ?_
        refine w_get X hE hO 8 dX4_part_34 rfl hin_RX4 (by decide) (by decide +kernel) rfl rfl ?_
        refine w_iload_n X dX4_part_37 hl 4 rfl rfl ?_
        refine w_iald (y := wI (sp σ (p).toNat 3)) X hE hA8 dX4_part_38 (by omega) (by omega) (by omega) rfl ?_
        refine w_icmp_lt X 57 dX4_part_39 (by decide) (by omega) (by omega) (fun c_2 => ?_) (fun c_2 => ?_)
        · skip
          refine w_iconst X dX4_part_57 ?_
          refine w_iadd X dX4_part_58 fun z_3 ez_3 => ?_
          refine w_istore X [(4, .int (wI (z_3))), (5, .int (wI (x))), (3, .int (wI (k))), (0, .ref (A 0)), (1, .int (wI (p))), (2, .int (wI (b)))] dX4_part_59 hl (by decide) rfl fun ls hl => ?_
          refine w_iinc X (fun z_4 => [(5, .int (wI (z_4))), (4, .int (wI (z_3))), (3, .int (wI (k))), (0, .ref (A 0)), (1, .int (wI (p))), (2, .int (wI (b)))]) dX4_part_61 hl 1 rfl (by decide) (fun _ => rfl) fun z_4 ez_4 ls hl => ?_
          refine w_goto X 18 dX4_part_64 (by decide) ?_
          have ea : z_3 = max 0 (min z_4 (sp σ p.toNat 4) - max (so σ p.toNat b.toNat 1) (sp σ p.toNat 3)) := by omega
          rw [ea] at hl
          exact ih k z_4 qk (by omega) (by omega) ls (lv_sub hl [0, 1, 2, 3, 4, 5] rfl)
        · skip
          refine w_iload X dX4_part_42 hl 0 rfl ?_
          refine w_aload_n X dX4_part_44 hl 3 rfl rfl ?_
          refine w_get X hE hO 9 dX4_part_45 rfl hin_RX4 (by decide) (by decide +kernel) rfl rfl ?_
          refine w_iload_n X dX4_part_48 hl 4 rfl rfl ?_
          refine w_iald (y := wI (sp σ (p).toNat 4)) X hE hA9 dX4_part_49 (by omega) (by omega) (by omega) rfl ?_
          refine w_icmp_ge X 57 dX4_part_50 (by decide) (by omega) (by omega) (fun c_5 => ?_) (fun c_5 => ?_)
          · skip
            refine w_iconst X dX4_part_57 ?_
            refine w_iadd X dX4_part_58 fun z_6 ez_6 => ?_
            refine w_istore X [(4, .int (wI (z_6))), (5, .int (wI (x))), (3, .int (wI (k))), (0, .ref (A 0)), (1, .int (wI (p))), (2, .int (wI (b)))] dX4_part_59 hl (by decide) rfl fun ls hl => ?_
            refine w_iinc X (fun z_7 => [(5, .int (wI (z_7))), (4, .int (wI (z_6))), (3, .int (wI (k))), (0, .ref (A 0)), (1, .int (wI (p))), (2, .int (wI (b)))]) dX4_part_61 hl 1 rfl (by decide) (fun _ => rfl) fun z_7 ez_7 ls hl => ?_
            refine w_goto X 18 dX4_part_64 (by decide) ?_
            have ea : z_6 = max 0 (min z_7 (sp σ p.toNat 4) - max (so σ p.toNat b.toNat 1) (sp σ p.toNat 3)) := by omega
            rw [ea] at hl
            exact ih k z_7 qk (by omega) (by omega) ls (lv_sub hl [0, 1, 2, 3, 4, 5] rfl)
          · skip
            refine w_iconst X dX4_part_53 ?_
            refine w_goto X 58 dX4_part_54 (by decide) ?_
            refine w_iadd X dX4_part_58 fun z_8 ez_8 => ?_
            refine w_istore X [(4, .int (wI (z_8))), (5, .int (wI (x))), (3, .int (wI (k))), (0, .ref (A 0)), (1, .int (wI (p))), (2, .int (wI (b)))] dX4_part_59 hl (by decide) rfl fun ls hl => ?_
            refine w_iinc X (fun z_9 => [(5, .int (wI (z_9))), (4, .int (wI (z_8))), (3, .int (wI (k))), (0, .ref (A 0)), (1, .int (wI (p))), (2, .int (wI (b)))]) dX4_part_61 hl 1 rfl (by decide) (fun _ => rfl) fun z_9 ez_9 ls hl => ?_
            refine w_goto X 18 dX4_part_64 (by decide) ?_
            have ea : z_8 = max 0 (min z_9 (sp σ p.toNat 4) - max (so σ p.toNat b.toNat 1) (sp σ p.toNat 3)) := by omega
            rw [ea] at hl
            exact ih k z_9 qk (by omega) (by omega) ls (lv_sub hl [0, 1, 2, 3, 4, 5] rfl)
  refine w_bipush X dX4_part_0 (by decide) ?_
  refine w_iload_n X dX4_part_2 hl 1 rfl rfl ?_
  refine w_imul X dX4_part_3 fun z_1 ez_1 => ?_
  refine w_iload_n X dX4_part_4 hl 2 rfl rfl ?_
  refine w_iadd X dX4_part_5 fun z_2 ez_2 => ?_
  refine w_istore_n X [(3, .int (wI (z_2))), (0, .ref (A 0)), (1, .int (wI (p))), (2, .int (wI (b)))] dX4_part_6 hl rfl (by decide) rfl fun ls hl => ?_
  refine w_iconst X dX4_part_7 ?_
  refine w_istore X [(4, .int (wI (0))), (3, .int (wI (z_2))), (0, .ref (A 0)), (1, .int (wI (p))), (2, .int (wI (b)))] dX4_part_8 hl (by decide) rfl fun ls hl => ?_
  refine w_aload_n X dX4_part_10 hl 2 rfl rfl ?_
  refine w_get X hE hO 14 dX4_part_11 rfl hin_RX4 (by decide) (by decide +kernel) rfl rfl ?_
  refine w_iload_n X dX4_part_14 hl 1 rfl rfl ?_
  refine w_iald (y := wI (so σ (p).toNat b.toNat 1)) X hE hA14 dX4_part_15 (by omega) (by omega) (by omega) (by show wI (so σ ((z_2).toNat / 6) ((z_2).toNat % 6) 1) = _; rw [show (z_2).toNat / 6 = (p).toNat by omega, show (z_2).toNat % 6 = b.toNat by omega]) ?_
  refine w_istore X [(5, .int (wI (so σ (p).toNat b.toNat 1))), (4, .int (wI (0))), (3, .int (wI (z_2))), (0, .ref (A 0)), (1, .int (wI (p))), (2, .int (wI (b)))] dX4_part_16 hl (by decide) rfl fun ls hl => ?_
  have ea : (0 : Int) = max 0 (min (so σ (p).toNat b.toNat 1) (sp σ p.toNat 4) - max (so σ p.toNat b.toNat 1) (sp σ p.toNat 3)) := by omega
  have hl := hl
  have hl : lv_has ls 6 [(5, .int (wI (so σ (p).toNat b.toNat 1))), (4, .int (wI (max 0 (min (so σ (p).toNat b.toNat 1) (sp σ p.toNat 4) - max (so σ p.toNat b.toNat 1) (sp σ p.toNat 3))))), (3, .int (wI (z_2))), (0, .ref (A 0)), (1, .int (wI p)), (2, .int (wI b))] := by rw [← ea]; exact lv_sub hl [0, 1, 2, 3, 4, 5] rfl
  exact loop (so σ p.toNat b.toNat 2 - so σ p.toNat b.toNat 1).toNat z_2 (so σ (p).toNat b.toNat 1) (by omega) (by omega) (by omega) ls hl

set_option maxHeartbeats 4000000 in
set_option maxRecDepth 100000 in
theorem c_X4_parts (l : Launch) (g : wG) (H : Heap) (A : Nat → Nat) (th : Int) (σ : St) (hM : ModAt g H A th σ) (hσ : StGood σ) (p : Int) (hp : 0 ≤ p ∧ p < sn σ) : Pur l g H yX4_parts wsX4_parts 1 25 [.ref (A 0), .int (wI p)] (.int (wI (sumB (fun b => parS (sp σ p.toNat) (so σ p.toNat b)) (sb σ p.toNat)))) := by
  refine Pur.of (cc := cX4_parts) (maxL := 4) (ret := some .int) (by decide) rfl (Nat.le_of_ble_eq_true rfl) ?_
  intro p9 e s m args below meth c X hE hr hk ls hl
  have hl : lv_has ls 4 [(0, .ref (A 0)), (1, .int (wI p))] := hl
  have hO : Ob g H (A 0) 5 [.int (wI th), .ref (A 1), .ref (A 2), .ref (A 3), .int (wI (sn σ : Int)), .ref (A 5), .ref (A 6), .ref (A 7), .ref (A 8), .ref (A 9), .ref (A 10), .ref (A 11), .ref (A 12), .ref (A 13), .ref (A 14), .ref (A 15)] := hM 0 _ rfl
  have hA12 : IA g H (A 12) 10 (fun j => wI ((sb σ j : Int))) := hM 11 _ rfl
  obtain ⟨hG, hH, hT⟩ := hσ.2.2.1 p.toNat (by omega)
  have hs10 := hσ.2.1
  obtain ⟨⟨b1, b2⟩, ⟨b3, b4, b5⟩, ⟨b6, b7⟩, ⟨b8, b9⟩, b10, -⟩ := id hG
  have hLH : lGood (sH σ p.toNat) := hσ.1 (sp σ p.toNat 0).toNat (by omega)
  have hLT : lGood (sT σ p.toNat) := hσ.1 (sp σ p.toNat 1).toNat (by omega)
  have hin_RX4 : ∀ w ∈ u_ws RX4 TX4 16, w ∈ wsX4_parts := by decide +kernel
  have loop : ∀ (r b : Nat), b + r = sb σ p.toNat → ∀ ls : Array Slot, lv_has ls 4 [(3, .int (wI ((b : Int)))), (2, .int (wI (0 + sumB (fun b => parS (sp σ p.toNat) (so σ p.toNat b)) b))), (0, .ref (A 0)), (1, .int (wI (p)))] → W p9 l e { frames := 1, cells := 0, slots := 0, locals := 25 } s m args below meth c H [] 0 0 (MQ below (PQ H (.int (wI (sumB (fun b => parS (sp σ p.toNat) (so σ p.toNat b)) (sb σ p.toNat))))) args s 0 0 (fun _ => False)) (F0 m 4 ls []) := by
    intro r
    induction r with
    | zero =>
      intro b hb ls hl
      refine w_iload_n X dX4_parts_4 hl 0 rfl rfl ?_
      refine w_aload_n X dX4_parts_5 hl 2 rfl rfl ?_
      refine w_get X hE hO 12 dX4_parts_6 rfl hin_RX4 (by decide) (by decide +kernel) rfl rfl ?_
      refine w_iload_n X dX4_parts_9 hl 3 rfl rfl ?_
      refine w_iald (y := wI ((sb σ (p).toNat : Int))) X hE hA12 dX4_parts_10 (by omega) (by omega) (by omega) rfl ?_
      refine w_icmp_ge X 29 dX4_parts_11 (by decide) (by omega) (by omega) (fun c_1 => ?_) (fun c_1 => ?_)
      · skip
        refine w_iload_n X dX4_parts_29 hl 1 rfl rfl ?_
        exact w_iret X hr hk dX4_parts_30 (by rw [show b = sb σ p.toNat by omega]; omega)
      · skip
        exact absurd c_1 (by omega)
    | succ r ih =>
      intro b hb ls hl
      refine w_iload_n X dX4_parts_4 hl 0 rfl rfl ?_
      refine w_aload_n X dX4_parts_5 hl 2 rfl rfl ?_
      refine w_get X hE hO 12 dX4_parts_6 rfl hin_RX4 (by decide) (by decide +kernel) rfl rfl ?_
      refine w_iload_n X dX4_parts_9 hl 3 rfl rfl ?_
      refine w_iald (y := wI ((sb σ (p).toNat : Int))) X hE hA12 dX4_parts_10 (by omega) (by omega) (by omega) rfl ?_
      refine w_icmp_ge X 29 dX4_parts_11 (by decide) (by omega) (by omega) (fun c_1 => ?_) (fun c_1 => ?_)
      · skip
        exact absurd c_1 (by omega)
      · skip
        refine w_iload_n X dX4_parts_14 hl 1 rfl rfl ?_
        refine w_aload_n X dX4_parts_15 hl 2 rfl rfl ?_
        refine w_iload_n X dX4_parts_16 hl 3 rfl rfl ?_
        refine w_iload_n X dX4_parts_17 hl 0 rfl rfl ?_
        refine w_callV (v := .int (wI (parS (sp σ p.toNat) (so σ p.toNat b)))) 2 X hE (show Pur l g H yX4_part wsX4_part 0 0 [.ref (A 0), .int (wI p), .int (wI (b : Int))] (.int (wI (parS (sp σ p.toNat) (so σ p.toNat b)))) from c_X4_part l g H A th σ hM hσ p hp (b : Int) (by omega)) hO hl dX4_parts_18 gX4_parts_X4_part rfl rfl (by decide +kernel) ⟨(Nat.le_of_ble_eq_true rfl), (Nat.le_of_ble_eq_true rfl)⟩ rfl rfl (Nat.le_of_ble_eq_true rfl) ⟨Nat.le_refl _, Nat.le_refl _⟩ ?_
        refine w_iadd X dX4_parts_21 fun z_2 ez_2 => ?_
        refine w_istore_n X [(2, .int (wI (z_2))), (3, .int (wI ((b : Int)))), (0, .ref (A 0)), (1, .int (wI (p)))] dX4_parts_22 hl rfl (by decide) rfl fun ls hl => ?_
        refine w_iinc X (fun z_3 => [(3, .int (wI (z_3))), (2, .int (wI (z_2))), (0, .ref (A 0)), (1, .int (wI (p)))]) dX4_parts_23 hl 1 rfl (by decide) (fun _ => rfl) fun z_3 ez_3 ls hl => ?_
        refine w_goto X 4 dX4_parts_26 (by decide) ?_
        have eb : z_3 = ((b + 1 : Nat) : Int) := by omega
        have ea : z_2 = 0 + sumB (fun b => parS (sp σ p.toNat) (so σ p.toNat b)) (b + 1) := by
          show _ = 0 + (sumB (fun b => parS (sp σ p.toNat) (so σ p.toNat b)) b + (parS (sp σ p.toNat) (so σ p.toNat b)))
          omega
        rw [eb, ea] at hl
        exact ih (b + 1) (by omega) ls (lv_sub hl [0, 1, 2, 3] rfl)
  refine w_iconst X dX4_parts_0 ?_
  refine w_istore_n X [(2, .int (wI (0))), (0, .ref (A 0)), (1, .int (wI (p)))] dX4_parts_1 hl rfl (by decide) rfl fun ls hl => ?_
  refine w_iconst X dX4_parts_2 ?_
  refine w_istore_n X [(3, .int (wI (0))), (2, .int (wI (0))), (0, .ref (A 0)), (1, .int (wI (p)))] dX4_parts_3 hl rfl (by decide) rfl fun ls hl => ?_
  have ea : 0 = 0 + sumB (fun b => parS (sp σ p.toNat) (so σ p.toNat b)) 0 := by
    show _ = 0 + 0
    omega
  have hl : lv_has ls 4 [(3, .int (wI ((0 : Nat) : Int))), (2, .int (wI (0 + sumB (fun b => parS (sp σ p.toNat) (so σ p.toNat b)) 0))), (0, .ref (A 0)), (1, .int (wI p))] := by rw [← ea]; exact lv_sub hl [0, 1, 2, 3] rfl
  exact loop (sb σ p.toNat) 0 (by omega) ls hl

set_option maxHeartbeats 4000000 in
set_option maxRecDepth 100000 in
theorem c_X4_whole (l : Launch) (g : wG) (H : Heap) (A : Nat → Nat) (th : Int) (σ : St) (hM : ModAt g H A th σ) (hσ : StGood σ) (p : Int) (hp : 0 ≤ p ∧ p < sn σ) : Pur l g H yX4_whole wsX4_whole 0 0 [.ref (A 0), .int (wI p)] (.int (wI (wholeS (sp σ p.toNat) (sb σ p.toNat) (so σ p.toNat)))) := by
  refine Pur.of (cc := cX4_whole) (maxL := 4) (ret := some .int) (by decide) rfl (Nat.le_of_ble_eq_true rfl) ?_
  intro p9 e s m args below meth c X hE hr hk ls hl
  have hl : lv_has ls 4 [(0, .ref (A 0)), (1, .int (wI p))] := hl
  have hO : Ob g H (A 0) 5 [.int (wI th), .ref (A 1), .ref (A 2), .ref (A 3), .int (wI (sn σ : Int)), .ref (A 5), .ref (A 6), .ref (A 7), .ref (A 8), .ref (A 9), .ref (A 10), .ref (A 11), .ref (A 12), .ref (A 13), .ref (A 14), .ref (A 15)] := hM 0 _ rfl
  have hA7 : IA g H (A 7) 10 (fun j => wI (sp σ j 2)) := hM 6 _ rfl
  have hA12 : IA g H (A 12) 10 (fun j => wI ((sb σ j : Int))) := hM 11 _ rfl
  have hA13 : IA g H (A 13) 60 (fun j => wI (so σ (j / 6) (j % 6) 0)) := hM 12 _ rfl
  obtain ⟨hG, hH, hT⟩ := hσ.2.2.1 p.toNat (by omega)
  have hs10 := hσ.2.1
  obtain ⟨⟨b1, b2⟩, ⟨b3, b4, b5⟩, ⟨b6, b7⟩, ⟨b8, b9⟩, b10, -⟩ := id hG
  have hLH : lGood (sH σ p.toNat) := hσ.1 (sp σ p.toNat 0).toNat (by omega)
  have hLT : lGood (sT σ p.toNat) := hσ.1 (sp σ p.toNat 1).toNat (by omega)
  have hin_RX4 : ∀ w ∈ u_ws RX4 TX4 16, w ∈ wsX4_whole := by decide +kernel
  have loop : ∀ (r b : Nat), b + r = sb σ p.toNat → ∀ ls : Array Slot, lv_has ls 4 [(3, .int (wI ((b : Int)))), (2, .int (wI (12 * sp σ p.toNat 2 + sumB (fun b => so σ p.toNat b 0) b))), (0, .ref (A 0)), (1, .int (wI (p)))] → W p9 l e { frames := 0, cells := 0, slots := 0, locals := 0 } s m args below meth c H [] 0 0 (MQ below (PQ H (.int (wI (wholeS (sp σ p.toNat) (sb σ p.toNat) (so σ p.toNat))))) args s 0 0 (fun _ => False)) (F0 m 12 ls []) := by
    intro r
    induction r with
    | zero =>
      intro b hb ls hl
      refine w_iload_n X dX4_whole_12 hl 0 rfl rfl ?_
      refine w_aload_n X dX4_whole_13 hl 2 rfl rfl ?_
      refine w_get X hE hO 12 dX4_whole_14 rfl hin_RX4 (by decide) (by decide +kernel) rfl rfl ?_
      refine w_iload_n X dX4_whole_17 hl 3 rfl rfl ?_
      refine w_iald (y := wI ((sb σ (p).toNat : Int))) X hE hA12 dX4_whole_18 (by omega) (by omega) (by omega) rfl ?_
      refine w_icmp_ge X 42 dX4_whole_19 (by decide) (by omega) (by omega) (fun c_1 => ?_) (fun c_1 => ?_)
      · skip
        refine w_iload_n X dX4_whole_42 hl 1 rfl rfl ?_
        exact w_iret X hr hk dX4_whole_43 (by rw [show b = sb σ p.toNat by omega]; rfl)
      · skip
        exact absurd c_1 (by omega)
    | succ r ih =>
      intro b hb ls hl
      refine w_iload_n X dX4_whole_12 hl 0 rfl rfl ?_
      refine w_aload_n X dX4_whole_13 hl 2 rfl rfl ?_
      refine w_get X hE hO 12 dX4_whole_14 rfl hin_RX4 (by decide) (by decide +kernel) rfl rfl ?_
      refine w_iload_n X dX4_whole_17 hl 3 rfl rfl ?_
      refine w_iald (y := wI ((sb σ (p).toNat : Int))) X hE hA12 dX4_whole_18 (by omega) (by omega) (by omega) rfl ?_
      refine w_icmp_ge X 42 dX4_whole_19 (by decide) (by omega) (by omega) (fun c_1 => ?_) (fun c_1 => ?_)
      · skip
        exact absurd c_1 (by omega)
      · skip
        refine w_iload_n X dX4_whole_22 hl 1 rfl rfl ?_
        refine w_aload_n X dX4_whole_23 hl 2 rfl rfl ?_
        refine w_get X hE hO 13 dX4_whole_24 rfl hin_RX4 (by decide) (by decide +kernel) rfl rfl ?_
        refine w_bipush X dX4_whole_27 (by decide) ?_
        refine w_iload_n X dX4_whole_29 hl 3 rfl rfl ?_
        refine w_imul X dX4_whole_30 fun z_2 ez_2 => ?_
        refine w_iload_n X dX4_whole_31 hl 0 rfl rfl ?_
        refine w_iadd X dX4_whole_32 fun z_3 ez_3 => ?_
        refine w_iald (y := wI (so σ (p).toNat b 0)) X hE hA13 dX4_whole_33 (by omega) (by omega) (by omega) (by show wI (so σ ((z_3).toNat / 6) ((z_3).toNat % 6) 0) = _; rw [show (z_3).toNat / 6 = (p).toNat by omega, show (z_3).toNat % 6 = b by omega]) ?_
        refine w_iadd X dX4_whole_34 fun z_4 ez_4 => ?_
        refine w_istore_n X [(2, .int (wI (z_4))), (3, .int (wI ((b : Int)))), (0, .ref (A 0)), (1, .int (wI (p)))] dX4_whole_35 hl rfl (by decide) rfl fun ls hl => ?_
        refine w_iinc X (fun z_5 => [(3, .int (wI (z_5))), (2, .int (wI (z_4))), (0, .ref (A 0)), (1, .int (wI (p)))]) dX4_whole_36 hl 1 rfl (by decide) (fun _ => rfl) fun z_5 ez_5 ls hl => ?_
        refine w_goto X 12 dX4_whole_39 (by decide) ?_
        have eb : z_5 = ((b + 1 : Nat) : Int) := by omega
        have ea : z_4 = 12 * sp σ p.toNat 2 + sumB (fun b => so σ p.toNat b 0) (b + 1) := by
          show _ = 12 * sp σ p.toNat 2 + (sumB (fun b => so σ p.toNat b 0) b + (so σ p.toNat b 0))
          omega
        rw [eb, ea] at hl
        exact ih (b + 1) (by omega) ls (lv_sub hl [0, 1, 2, 3] rfl)
  refine w_bipush X dX4_whole_0 (by decide) ?_
  refine w_aload_n X dX4_whole_2 hl 0 rfl rfl ?_
  refine w_get X hE hO 7 dX4_whole_3 rfl hin_RX4 (by decide) (by decide +kernel) rfl rfl ?_
  refine w_iload_n X dX4_whole_6 hl 1 rfl rfl ?_
  refine w_iald (y := wI (sp σ (p).toNat 2)) X hE hA7 dX4_whole_7 (by omega) (by omega) (by omega) rfl ?_
  refine w_imul X dX4_whole_8 fun z_1 ez_1 => ?_
  refine w_istore_n X [(2, .int (wI (z_1))), (0, .ref (A 0)), (1, .int (wI (p)))] dX4_whole_9 hl rfl (by decide) rfl fun ls hl => ?_
  refine w_iconst X dX4_whole_10 ?_
  refine w_istore_n X [(3, .int (wI (0))), (2, .int (wI (z_1))), (0, .ref (A 0)), (1, .int (wI (p)))] dX4_whole_11 hl rfl (by decide) rfl fun ls hl => ?_
  have ea : z_1 = 12 * sp σ p.toNat 2 + sumB (fun b => so σ p.toNat b 0) 0 := by
    show _ = 12 * sp σ p.toNat 2 + 0
    omega
  have hl : lv_has ls 4 [(3, .int (wI ((0 : Nat) : Int))), (2, .int (wI (12 * sp σ p.toNat 2 + sumB (fun b => so σ p.toNat b 0) 0))), (0, .ref (A 0)), (1, .int (wI p))] := by rw [← ea]; exact lv_sub hl [0, 1, 2, 3] rfl
  exact loop (sb σ p.toNat) 0 (by omega) ls hl

set_option maxHeartbeats 4000000 in
set_option maxRecDepth 100000 in
theorem c_X4_months (l : Launch) (g : wG) (H : Heap) (A : Nat → Nat) (th : Int) (σ : St) (hM : ModAt g H A th σ) (hσ : StGood σ) (p : Int) (hp : 0 ≤ p ∧ p < sn σ) : Pur l g H yX4_months wsX4_months 0 0 [.ref (A 0), .int (wI (p))] (.int (wI (monS (sp σ p.toNat)))) := by
  refine Pur.of (cc := cX4_months) (maxL := 2) (ret := (some .int)) (by decide) rfl (Nat.le_of_ble_eq_true rfl) ?_
  intro p9 e s m args below meth c X hE hr hk ls hl
  have hl : lv_has ls 2 [(0, .ref (A 0)), (1, .int (wI (p)))] := hl
  have hin_RX4 : ∀ w ∈ u_ws RX4 TX4 16, w ∈ wsX4_months := by decide +kernel
  have hO : Ob g H (A 0) 5 [.int (wI th), .ref (A 1), .ref (A 2), .ref (A 3), .int (wI (sn σ : Int)), .ref (A 5), .ref (A 6), .ref (A 7), .ref (A 8), .ref (A 9), .ref (A 10), .ref (A 11), .ref (A 12), .ref (A 13), .ref (A 14), .ref (A 15)] := hM 0 _ rfl
  have hA8 : IA g H (A 8) 10 (fun j => wI (sp σ j 3)) := hM 7 _ rfl
  have hA9 : IA g H (A 9) 10 (fun j => wI (sp σ j 4)) := hM 8 _ rfl
  obtain ⟨hG, hH, hT⟩ := hσ.2.2.1 p.toNat (by omega)
  have hs10 := hσ.2.1
  obtain ⟨⟨b1, b2⟩, ⟨b3, b4, b5⟩, ⟨b6, b7⟩, ⟨b8, b9⟩, b10, -⟩ := id hG
  have hLH : lGood (sH σ p.toNat) := hσ.1 (sp σ p.toNat 0).toNat (by omega)
  have hLT : lGood (sT σ p.toNat) := hσ.1 (sp σ p.toNat 1).toNat (by omega)
  refine w_aload_n X dX4_months_0 hl 0 rfl rfl ?_
  refine w_get X hE hO 9 dX4_months_1 rfl hin_RX4 (by decide) (by decide +kernel) rfl rfl ?_
  refine w_iload_n X dX4_months_4 hl 1 rfl rfl ?_
  refine w_iald (y := wI (sp σ (p).toNat 4)) X hE hA9 dX4_months_5 (by omega) (by omega) (by omega) rfl ?_
  refine w_aload_n X dX4_months_6 hl 0 rfl rfl ?_
  refine w_get X hE hO 8 dX4_months_7 rfl hin_RX4 (by decide) (by decide +kernel) rfl rfl ?_
  refine w_iload_n X dX4_months_10 hl 1 rfl rfl ?_
  refine w_iald (y := wI (sp σ (p).toNat 3)) X hE hA8 dX4_months_11 (by omega) (by omega) (by omega) rfl ?_
  refine w_isub X dX4_months_12 fun z_1 ez_1 => ?_
  exact w_iret X hr hk dX4_months_13 (by unfold monS; omega)

set_option maxHeartbeats 4000000 in
set_option maxRecDepth 100000 in
theorem c_X4_heldOf (l : Launch) (g : wG) (H : Heap) (A : Nat → Nat) (th : Int) (σ : St) (hM : ModAt g H A th σ) (hσ : StGood σ) (p : Int) (hp : 0 ≤ p ∧ p < sn σ) : Pur l g H yX4_heldOf wsX4_heldOf 1 29 [.ref (A 0), .int (wI (p))] (.int (wI (heldS (sH σ p.toNat) (sp σ p.toNat)))) := by
  refine Pur.of (cc := cX4_heldOf) (maxL := 2) (ret := (some .int)) (by decide) rfl (Nat.le_of_ble_eq_true rfl) ?_
  intro p9 e s m args below meth c X hE hr hk ls hl
  have hl : lv_has ls 2 [(0, .ref (A 0)), (1, .int (wI (p)))] := hl
  have hin_RX4 : ∀ w ∈ u_ws RX4 TX4 16, w ∈ wsX4_heldOf := by decide +kernel
  have hO : Ob g H (A 0) 5 [.int (wI th), .ref (A 1), .ref (A 2), .ref (A 3), .int (wI (sn σ : Int)), .ref (A 5), .ref (A 6), .ref (A 7), .ref (A 8), .ref (A 9), .ref (A 10), .ref (A 11), .ref (A 12), .ref (A 13), .ref (A 14), .ref (A 15)] := hM 0 _ rfl
  have hA5 : IA g H (A 5) 10 (fun j => wI (sp σ j 0)) := hM 4 _ rfl
  have hA7 : IA g H (A 7) 10 (fun j => wI (sp σ j 2)) := hM 6 _ rfl
  obtain ⟨hG, hH, hT⟩ := hσ.2.2.1 p.toNat (by omega)
  have hs10 := hσ.2.1
  obtain ⟨⟨b1, b2⟩, ⟨b3, b4, b5⟩, ⟨b6, b7⟩, ⟨b8, b9⟩, b10, -⟩ := id hG
  have hLH : lGood (sH σ p.toNat) := hσ.1 (sp σ p.toNat 0).toNat (by omega)
  have hLT : lGood (sT σ p.toNat) := hσ.1 (sp σ p.toNat 1).toNat (by omega)
  refine w_aload_n X dX4_heldOf_0 hl 0 rfl rfl ?_
  refine w_aload_n X dX4_heldOf_1 hl 0 rfl rfl ?_
  refine w_get X hE hO 5 dX4_heldOf_2 rfl hin_RX4 (by decide) (by decide +kernel) rfl rfl ?_
  refine w_iload_n X dX4_heldOf_5 hl 1 rfl rfl ?_
  refine w_iald (y := wI (sp σ (p).toNat 0)) X hE hA5 dX4_heldOf_6 (by omega) (by omega) (by omega) rfl ?_
  refine w_bipush X dX4_heldOf_7 (by decide) ?_
  refine w_aload_n X dX4_heldOf_9 hl 0 rfl rfl ?_
  refine w_get X hE hO 7 dX4_heldOf_10 rfl hin_RX4 (by decide) (by decide +kernel) rfl rfl ?_
  refine w_iload_n X dX4_heldOf_13 hl 1 rfl rfl ?_
  refine w_iald (y := wI (sp σ (p).toNat 2)) X hE hA7 dX4_heldOf_14 (by omega) (by omega) (by omega) rfl ?_
  refine w_imul X dX4_heldOf_15 fun z_1 ez_1 => ?_
  refine w_i2l X dX4_heldOf_16 (by omega) ?_
  refine w_callV (v := .long (wJ (taxS (sH σ p.toNat) (z_1)))) 2 X hE (c_X4_taxOf l g H A th σ hM hσ (sp σ (p).toNat 0) (by omega) (z_1) (by omega)) hO hl dX4_heldOf_17 gX4_heldOf_X4_taxOf rfl rfl (by decide +kernel) ⟨(Nat.le_of_ble_eq_true rfl), (Nat.le_of_ble_eq_true rfl)⟩ rfl rfl (Nat.le_of_ble_eq_true rfl) ⟨Nat.le_refl _, Nat.le_refl _⟩ ?_
  have qh := held_bd hLH hG
  have qz : taxS (sH σ p.toNat) (z_1) = taxS (sH σ p.toNat) (12 * sp σ p.toNat 2) := congrArg (taxS (sH σ p.toNat)) (by omega)
  refine w_ldc2 (v := 12) (z := 12) X dX4_heldOf_20 (by decide +kernel) (by decide) ?_
  refine w_ldiv X dX4_heldOf_23 (by omega) (by omega) fun z_2 ez_2 => ?_
  refine w_l2i X dX4_heldOf_24 ?_
  exact w_iret X hr hk dX4_heldOf_25 (by unfold heldS; omega)

set_option maxHeartbeats 4000000 in
set_option maxRecDepth 100000 in
theorem c_X4_supposed (l : Launch) (g : wG) (H : Heap) (A : Nat → Nat) (th : Int) (σ : St) (hM : ModAt g H A th σ) (hσ : StGood σ) (p : Int) (hp : 0 ≤ p ∧ p < sn σ) : Pur l g H yX4_supposed wsX4_supposed 1 29 [.ref (A 0), .int (wI (p))] (.int (wI (supS (sH σ p.toNat) (sp σ p.toNat) (sb σ p.toNat) (so σ p.toNat)))) := by
  refine Pur.of (cc := cX4_supposed) (maxL := 2) (ret := (some .int)) (by decide) rfl (Nat.le_of_ble_eq_true rfl) ?_
  intro p9 e s m args below meth c X hE hr hk ls hl
  have hl : lv_has ls 2 [(0, .ref (A 0)), (1, .int (wI (p)))] := hl
  have hin_RX4 : ∀ w ∈ u_ws RX4 TX4 16, w ∈ wsX4_supposed := by decide +kernel
  have hO : Ob g H (A 0) 5 [.int (wI th), .ref (A 1), .ref (A 2), .ref (A 3), .int (wI (sn σ : Int)), .ref (A 5), .ref (A 6), .ref (A 7), .ref (A 8), .ref (A 9), .ref (A 10), .ref (A 11), .ref (A 12), .ref (A 13), .ref (A 14), .ref (A 15)] := hM 0 _ rfl
  have hA5 : IA g H (A 5) 10 (fun j => wI (sp σ j 0)) := hM 4 _ rfl
  obtain ⟨hG, hH, hT⟩ := hσ.2.2.1 p.toNat (by omega)
  have hs10 := hσ.2.1
  obtain ⟨⟨b1, b2⟩, ⟨b3, b4, b5⟩, ⟨b6, b7⟩, ⟨b8, b9⟩, b10, -⟩ := id hG
  have hLH : lGood (sH σ p.toNat) := hσ.1 (sp σ p.toNat 0).toNat (by omega)
  have hLT : lGood (sT σ p.toNat) := hσ.1 (sp σ p.toNat 1).toNat (by omega)
  refine w_aload_n X dX4_supposed_0 hl 0 rfl rfl ?_
  refine w_aload_n X dX4_supposed_1 hl 0 rfl rfl ?_
  refine w_get X hE hO 5 dX4_supposed_2 rfl hin_RX4 (by decide) (by decide +kernel) rfl rfl ?_
  refine w_iload_n X dX4_supposed_5 hl 1 rfl rfl ?_
  refine w_iald (y := wI (sp σ (p).toNat 0)) X hE hA5 dX4_supposed_6 (by omega) (by omega) (by omega) rfl ?_
  refine w_aload_n X dX4_supposed_7 hl 0 rfl rfl ?_
  refine w_iload_n X dX4_supposed_8 hl 1 rfl rfl ?_
  refine w_callV (v := .int (wI (wholeS (sp σ p.toNat) (sb σ p.toNat) (so σ p.toNat)))) 1 X hE (c_X4_whole l g H A th σ hM hσ p hp) hO hl dX4_supposed_9 gX4_supposed_X4_whole rfl rfl (by decide +kernel) ⟨(Nat.le_of_ble_eq_true rfl), (Nat.le_of_ble_eq_true rfl)⟩ rfl rfl (Nat.le_of_ble_eq_true rfl) ⟨Nat.le_refl _, Nat.le_refl _⟩ ?_
  have qw := whole_bd hG
  refine w_i2l X dX4_supposed_12 (by omega) ?_
  refine w_callV (v := .long (wJ (taxS (sH σ p.toNat) (wholeS (sp σ p.toNat) (sb σ p.toNat) (so σ p.toNat))))) 2 X hE (c_X4_taxOf l g H A th σ hM hσ (sp σ (p).toNat 0) (by omega) (wholeS (sp σ p.toNat) (sb σ p.toNat) (so σ p.toNat)) (by omega)) hO hl dX4_supposed_13 gX4_supposed_X4_taxOf rfl rfl (by decide +kernel) ⟨(Nat.le_of_ble_eq_true rfl), (Nat.le_of_ble_eq_true rfl)⟩ rfl rfl (Nat.le_of_ble_eq_true rfl) ⟨Nat.le_refl _, Nat.le_refl _⟩ ?_
  refine w_l2i X dX4_supposed_16 ?_
  exact w_iret X hr hk dX4_supposed_17 rfl

set_option maxHeartbeats 4000000 in
set_option maxRecDepth 100000 in
theorem c_X4_atHome (l : Launch) (g : wG) (H : Heap) (A : Nat → Nat) (th : Int) (σ : St) (hM : ModAt g H A th σ) (hσ : StGood σ) (p : Int) (hp : 0 ≤ p ∧ p < sn σ) : Pur l g H yX4_atHome wsX4_atHome 2 48 [.ref (A 0), .int (wI (p))] (.int (wI (ahS (sp σ p.toNat) (sb σ p.toNat) (so σ p.toNat)))) := by
  refine Pur.of (cc := cX4_atHome) (maxL := 2) (ret := (some .int)) (by decide) rfl (Nat.le_of_ble_eq_true rfl) ?_
  intro p9 e s m args below meth c X hE hr hk ls hl
  have hl : lv_has ls 2 [(0, .ref (A 0)), (1, .int (wI (p)))] := hl
  have hin_RX4 : ∀ w ∈ u_ws RX4 TX4 16, w ∈ wsX4_atHome := by decide +kernel
  have hO : Ob g H (A 0) 5 [.int (wI th), .ref (A 1), .ref (A 2), .ref (A 3), .int (wI (sn σ : Int)), .ref (A 5), .ref (A 6), .ref (A 7), .ref (A 8), .ref (A 9), .ref (A 10), .ref (A 11), .ref (A 12), .ref (A 13), .ref (A 14), .ref (A 15)] := hM 0 _ rfl
  have hA7 : IA g H (A 7) 10 (fun j => wI (sp σ j 2)) := hM 6 _ rfl
  obtain ⟨hG, hH, hT⟩ := hσ.2.2.1 p.toNat (by omega)
  have hs10 := hσ.2.1
  obtain ⟨⟨b1, b2⟩, ⟨b3, b4, b5⟩, ⟨b6, b7⟩, ⟨b8, b9⟩, b10, -⟩ := id hG
  have hLH : lGood (sH σ p.toNat) := hσ.1 (sp σ p.toNat 0).toNat (by omega)
  have hLT : lGood (sT σ p.toNat) := hσ.1 (sp σ p.toNat 1).toNat (by omega)
  refine w_aload_n X dX4_atHome_0 hl 0 rfl rfl ?_
  refine w_iload_n X dX4_atHome_1 hl 1 rfl rfl ?_
  refine w_callV (v := .int (wI (wholeS (sp σ p.toNat) (sb σ p.toNat) (so σ p.toNat)))) 1 X hE (c_X4_whole l g H A th σ hM hσ p hp) hO hl dX4_atHome_2 gX4_atHome_X4_whole rfl rfl (by decide +kernel) ⟨(Nat.le_of_ble_eq_true rfl), (Nat.le_of_ble_eq_true rfl)⟩ rfl rfl (Nat.le_of_ble_eq_true rfl) ⟨Nat.le_refl _, Nat.le_refl _⟩ ?_
  have qw := whole_bd hG
  refine w_aload_n X dX4_atHome_5 hl 0 rfl rfl ?_
  refine w_get X hE hO 7 dX4_atHome_6 rfl hin_RX4 (by decide) (by decide +kernel) rfl rfl ?_
  refine w_iload_n X dX4_atHome_9 hl 1 rfl rfl ?_
  refine w_iald (y := wI (sp σ (p).toNat 2)) X hE hA7 dX4_atHome_10 (by omega) (by omega) (by omega) rfl ?_
  refine w_aload_n X dX4_atHome_11 hl 0 rfl rfl ?_
  refine w_iload_n X dX4_atHome_12 hl 1 rfl rfl ?_
  refine w_callV (v := .int (wI (monS (sp σ p.toNat)))) 1 X hE (c_X4_months l g H A th σ hM hσ p hp) hO hl dX4_atHome_13 gX4_atHome_X4_months rfl rfl (by decide +kernel) ⟨(Nat.le_of_ble_eq_true rfl), (Nat.le_of_ble_eq_true rfl)⟩ rfl rfl (Nat.le_of_ble_eq_true rfl) ⟨Nat.le_refl _, Nat.le_refl _⟩ ?_
  have qm := mon_bd hG
  refine w_imul X dX4_atHome_16 fun z_1 ez_1 => ?_
  refine w_isub X dX4_atHome_17 fun z_2 ez_2 => ?_
  refine w_aload_n X dX4_atHome_18 hl 0 rfl rfl ?_
  refine w_iload_n X dX4_atHome_19 hl 1 rfl rfl ?_
  refine w_callV (v := .int (wI (sumB (fun b => parS (sp σ p.toNat) (so σ p.toNat b)) (sb σ p.toNat)))) 1 X hE (c_X4_parts l g H A th σ hM hσ p hp) hO hl dX4_atHome_20 gX4_atHome_X4_parts rfl rfl (by decide +kernel) ⟨(Nat.le_of_ble_eq_true rfl), (Nat.le_of_ble_eq_true rfl)⟩ rfl rfl (Nat.le_of_ble_eq_true rfl) ⟨Nat.le_refl _, Nat.le_refl _⟩ ?_
  refine w_isub X dX4_atHome_23 fun z_3 ez_3 => ?_
  exact w_iret X hr hk dX4_atHome_24 (by rw [ah_alt]; omega)

set_option maxHeartbeats 4000000 in
set_option maxRecDepth 100000 in
theorem c_X4_taxAtHome (l : Launch) (g : wG) (H : Heap) (A : Nat → Nat) (th : Int) (σ : St) (hM : ModAt g H A th σ) (hσ : StGood σ) (p : Int) (hp : 0 ≤ p ∧ p < sn σ) : Pur l g H yX4_taxAtHome wsX4_taxAtHome 3 69 [.ref (A 0), .int (wI (p))] (.int (wI (tahS (sH σ p.toNat) (sp σ p.toNat) (sb σ p.toNat) (so σ p.toNat)))) := by
  refine Pur.of (cc := cX4_taxAtHome) (maxL := 3) (ret := (some .int)) (by decide) rfl (Nat.le_of_ble_eq_true rfl) ?_
  intro p9 e s m args below meth c X hE hr hk ls hl
  have hl : lv_has ls 3 [(0, .ref (A 0)), (1, .int (wI (p)))] := hl
  have hin_RX4 : ∀ w ∈ u_ws RX4 TX4 16, w ∈ wsX4_taxAtHome := by decide +kernel
  have hO : Ob g H (A 0) 5 [.int (wI th), .ref (A 1), .ref (A 2), .ref (A 3), .int (wI (sn σ : Int)), .ref (A 5), .ref (A 6), .ref (A 7), .ref (A 8), .ref (A 9), .ref (A 10), .ref (A 11), .ref (A 12), .ref (A 13), .ref (A 14), .ref (A 15)] := hM 0 _ rfl
  have hA5 : IA g H (A 5) 10 (fun j => wI (sp σ j 0)) := hM 4 _ rfl
  obtain ⟨hG, hH, hT⟩ := hσ.2.2.1 p.toNat (by omega)
  have hs10 := hσ.2.1
  obtain ⟨⟨b1, b2⟩, ⟨b3, b4, b5⟩, ⟨b6, b7⟩, ⟨b8, b9⟩, b10, -⟩ := id hG
  have hLH : lGood (sH σ p.toNat) := hσ.1 (sp σ p.toNat 0).toNat (by omega)
  have hLT : lGood (sT σ p.toNat) := hσ.1 (sp σ p.toNat 1).toNat (by omega)
  refine w_aload_n X dX4_taxAtHome_0 hl 0 rfl rfl ?_
  refine w_iload_n X dX4_taxAtHome_1 hl 1 rfl rfl ?_
  refine w_callV (v := .int (wI (wholeS (sp σ p.toNat) (sb σ p.toNat) (so σ p.toNat)))) 1 X hE (c_X4_whole l g H A th σ hM hσ p hp) hO hl dX4_taxAtHome_2 gX4_taxAtHome_X4_whole rfl rfl (by decide +kernel) ⟨(Nat.le_of_ble_eq_true rfl), (Nat.le_of_ble_eq_true rfl)⟩ rfl rfl (Nat.le_of_ble_eq_true rfl) ⟨Nat.le_refl _, Nat.le_refl _⟩ ?_
  have qw := whole_bd hG
  refine w_istore_n X [(2, .int (wI (wholeS (sp σ p.toNat) (sb σ p.toNat) (so σ p.toNat)))), (0, .ref (A 0)), (1, .int (wI (p)))] dX4_taxAtHome_5 hl rfl (by decide) rfl fun ls hl => ?_
  refine w_iload_n X dX4_taxAtHome_6 hl 0 rfl rfl ?_
  refine w_if_ne X 14 dX4_taxAtHome_7 (by decide) (by omega) (fun c_1 => ?_) (fun c_1 => ?_)
  · skip
    refine w_aload_n X dX4_taxAtHome_14 hl 1 rfl rfl ?_
    refine w_aload_n X dX4_taxAtHome_15 hl 1 rfl rfl ?_
    refine w_get X hE hO 5 dX4_taxAtHome_16 rfl hin_RX4 (by decide) (by decide +kernel) rfl rfl ?_
    refine w_iload_n X dX4_taxAtHome_19 hl 2 rfl rfl ?_
    refine w_iald (y := wI (sp σ (p).toNat 0)) X hE hA5 dX4_taxAtHome_20 (by omega) (by omega) (by omega) rfl ?_
    refine w_iload_n X dX4_taxAtHome_21 hl 0 rfl rfl ?_
    refine w_i2l X dX4_taxAtHome_22 (by omega) ?_
    refine w_callV (v := .long (wJ (taxS (sH σ p.toNat) (wholeS (sp σ p.toNat) (sb σ p.toNat) (so σ p.toNat))))) 2 X hE (c_X4_taxOf l g H A th σ hM hσ (sp σ (p).toNat 0) (by omega) (wholeS (sp σ p.toNat) (sb σ p.toNat) (so σ p.toNat)) (by omega)) hO hl dX4_taxAtHome_23 gX4_taxAtHome_X4_taxOf rfl rfl (by decide +kernel) ⟨(Nat.le_of_ble_eq_true rfl), (Nat.le_of_ble_eq_true rfl)⟩ rfl rfl (Nat.le_of_ble_eq_true rfl) ⟨Nat.le_refl _, Nat.le_refl _⟩ ?_
    have qsu := sup_bd hLH hG
    have qe : supS (sH σ p.toNat) (sp σ p.toNat) (sb σ p.toNat) (so σ p.toNat) = taxS (sH σ p.toNat) (wholeS (sp σ p.toNat) (sb σ p.toNat) (so σ p.toNat)) := rfl
    refine w_aload_n X dX4_taxAtHome_26 hl 1 rfl rfl ?_
    refine w_iload_n X dX4_taxAtHome_27 hl 2 rfl rfl ?_
    refine w_callV (v := .int (wI (ahS (sp σ p.toNat) (sb σ p.toNat) (so σ p.toNat)))) 1 X hE (c_X4_atHome l g H A th σ hM hσ p hp) hO hl dX4_taxAtHome_28 gX4_taxAtHome_X4_atHome rfl rfl (by decide +kernel) ⟨(Nat.le_of_ble_eq_true rfl), (Nat.le_of_ble_eq_true rfl)⟩ rfl rfl (Nat.le_of_ble_eq_true rfl) ⟨Nat.le_refl _, Nat.le_refl _⟩ ?_
    have qa := ah_bd hG
    have qsa := sah_bd hLH hG
    refine w_i2l X dX4_taxAtHome_31 (by omega) ?_
    refine w_lmul X dX4_taxAtHome_32 fun z_2 ez_2 => ?_
    refine w_iload_n X dX4_taxAtHome_33 hl 0 rfl rfl ?_
    refine w_i2l X dX4_taxAtHome_34 (by omega) ?_
    have qz : z_2 = supS (sH σ p.toNat) (sp σ p.toNat) (sb σ p.toNat) (so σ p.toNat) * ahS (sp σ p.toNat) (sb σ p.toNat) (so σ p.toNat) := by rw [ez_2]; rfl
    refine w_ldiv X dX4_taxAtHome_35 (by omega) (by omega) fun z_3 ez_3 => ?_
    refine w_l2i X dX4_taxAtHome_36 ?_
    exact w_iret X hr hk dX4_taxAtHome_37 (by unfold tahS; rw [if_neg (by omega), ez_3, qz])
  · skip
    refine w_iconst X dX4_taxAtHome_10 ?_
    refine w_goto X 37 dX4_taxAtHome_11 (by decide) ?_
    exact w_iret X hr hk dX4_taxAtHome_37 (by unfold tahS; rw [if_pos (by omega)])

set_option maxHeartbeats 4000000 in
set_option maxRecDepth 100000 in
theorem c_X4_abroad (l : Launch) (g : wG) (H : Heap) (A : Nat → Nat) (th : Int) (σ : St) (hM : ModAt g H A th σ) (hσ : StGood σ) (p : Int) (hp : 0 ≤ p ∧ p < sn σ) : Pur l g H yX4_abroad wsX4_abroad 2 48 [.ref (A 0), .int (wI (p))] (.int (wI (aosS (sp σ p.toNat) (sb σ p.toNat) (so σ p.toNat)))) := by
  refine Pur.of (cc := cX4_abroad) (maxL := 2) (ret := (some .int)) (by decide) rfl (Nat.le_of_ble_eq_true rfl) ?_
  intro p9 e s m args below meth c X hE hr hk ls hl
  have hl : lv_has ls 2 [(0, .ref (A 0)), (1, .int (wI (p)))] := hl
  have hin_RX4 : ∀ w ∈ u_ws RX4 TX4 16, w ∈ wsX4_abroad := by decide +kernel
  have hO : Ob g H (A 0) 5 [.int (wI th), .ref (A 1), .ref (A 2), .ref (A 3), .int (wI (sn σ : Int)), .ref (A 5), .ref (A 6), .ref (A 7), .ref (A 8), .ref (A 9), .ref (A 10), .ref (A 11), .ref (A 12), .ref (A 13), .ref (A 14), .ref (A 15)] := hM 0 _ rfl
  have hA7 : IA g H (A 7) 10 (fun j => wI (sp σ j 2)) := hM 6 _ rfl
  have hA10 : IA g H (A 10) 10 (fun j => wI (sp σ j 5)) := hM 9 _ rfl
  obtain ⟨hG, hH, hT⟩ := hσ.2.2.1 p.toNat (by omega)
  have hs10 := hσ.2.1
  obtain ⟨⟨b1, b2⟩, ⟨b3, b4, b5⟩, ⟨b6, b7⟩, ⟨b8, b9⟩, b10, -⟩ := id hG
  have hLH : lGood (sH σ p.toNat) := hσ.1 (sp σ p.toNat 0).toNat (by omega)
  have hLT : lGood (sT σ p.toNat) := hσ.1 (sp σ p.toNat 1).toNat (by omega)
  refine w_aload_n X dX4_abroad_0 hl 0 rfl rfl ?_
  refine w_get X hE hO 7 dX4_abroad_1 rfl hin_RX4 (by decide) (by decide +kernel) rfl rfl ?_
  refine w_iload_n X dX4_abroad_4 hl 1 rfl rfl ?_
  refine w_iald (y := wI (sp σ (p).toNat 2)) X hE hA7 dX4_abroad_5 (by omega) (by omega) (by omega) rfl ?_
  refine w_aload_n X dX4_abroad_6 hl 0 rfl rfl ?_
  refine w_iload_n X dX4_abroad_7 hl 1 rfl rfl ?_
  refine w_callV (v := .int (wI (monS (sp σ p.toNat)))) 1 X hE (c_X4_months l g H A th σ hM hσ p hp) hO hl dX4_abroad_8 gX4_abroad_X4_months rfl rfl (by decide +kernel) ⟨(Nat.le_of_ble_eq_true rfl), (Nat.le_of_ble_eq_true rfl)⟩ rfl rfl (Nat.le_of_ble_eq_true rfl) ⟨Nat.le_refl _, Nat.le_refl _⟩ ?_
  have qm := mon_bd hG
  refine w_imul X dX4_abroad_11 fun z_1 ez_1 => ?_
  refine w_aload_n X dX4_abroad_12 hl 0 rfl rfl ?_
  refine w_iload_n X dX4_abroad_13 hl 1 rfl rfl ?_
  refine w_callV (v := .int (wI (sumB (fun b => parS (sp σ p.toNat) (so σ p.toNat b)) (sb σ p.toNat)))) 1 X hE (c_X4_parts l g H A th σ hM hσ p hp) hO hl dX4_abroad_14 gX4_abroad_X4_parts rfl rfl (by decide +kernel) ⟨(Nat.le_of_ble_eq_true rfl), (Nat.le_of_ble_eq_true rfl)⟩ rfl rfl (Nat.le_of_ble_eq_true rfl) ⟨Nat.le_refl _, Nat.le_refl _⟩ ?_
  refine w_iadd X dX4_abroad_17 fun z_2 ez_2 => ?_
  refine w_aload_n X dX4_abroad_18 hl 0 rfl rfl ?_
  refine w_get X hE hO 10 dX4_abroad_19 rfl hin_RX4 (by decide) (by decide +kernel) rfl rfl ?_
  refine w_iload_n X dX4_abroad_22 hl 1 rfl rfl ?_
  refine w_iald (y := wI (sp σ (p).toNat 5)) X hE hA10 dX4_abroad_23 (by omega) (by omega) (by omega) rfl ?_
  refine w_aload_n X dX4_abroad_24 hl 0 rfl rfl ?_
  refine w_iload_n X dX4_abroad_25 hl 1 rfl rfl ?_
  refine w_callV (v := .int (wI (ownS (sp σ p.toNat)))) 1 X hE (c_X4_own l g H A th σ hM hσ p hp) hO hl dX4_abroad_26 gX4_abroad_X4_own rfl rfl (by decide +kernel) ⟨(Nat.le_of_ble_eq_true rfl), (Nat.le_of_ble_eq_true rfl)⟩ rfl rfl (Nat.le_of_ble_eq_true rfl) ⟨Nat.le_refl _, Nat.le_refl _⟩ ?_
  have qo := own_bd hG
  refine w_isub X dX4_abroad_29 fun z_3 ez_3 => ?_
  refine w_aload_n X dX4_abroad_30 hl 0 rfl rfl ?_
  refine w_iload_n X dX4_abroad_31 hl 1 rfl rfl ?_
  refine w_callV (v := .int (wI (monS (sp σ p.toNat)))) 1 X hE (c_X4_months l g H A th σ hM hσ p hp) hO hl dX4_abroad_32 gX4_abroad_X4_months rfl rfl (by decide +kernel) ⟨(Nat.le_of_ble_eq_true rfl), (Nat.le_of_ble_eq_true rfl)⟩ rfl rfl (Nat.le_of_ble_eq_true rfl) ⟨Nat.le_refl _, Nat.le_refl _⟩ ?_
  have qm := mon_bd hG
  refine w_imul X dX4_abroad_35 fun z_4 ez_4 => ?_
  have qz : z_4 = (sp σ p.toNat 5 - ownS (sp σ p.toNat)) * monS (sp σ p.toNat) := by rw [ez_4, ez_3]
  refine w_iadd X dX4_abroad_36 fun z_5 ez_5 => ?_
  exact w_iret X hr hk dX4_abroad_37 (by rw [aos_alt]; omega)

set_option maxHeartbeats 4000000 in
set_option maxRecDepth 100000 in
theorem c_X4_bears (l : Launch) (g : wG) (H : Heap) (A : Nat → Nat) (th : Int) (σ : St) (hM : ModAt g H A th σ) (hσ : StGood σ) (p : Int) (hp : 0 ≤ p ∧ p < sn σ) : Pur l g H yX4_bears wsX4_bears 4 91 [.ref (A 0), .int (wI (p))] (.int (wI (borS (sH σ p.toNat) (sp σ p.toNat) (sb σ p.toNat) (so σ p.toNat)))) := by
  refine Pur.of (cc := cX4_bears) (maxL := 2) (ret := (some .int)) (by decide) rfl (Nat.le_of_ble_eq_true rfl) ?_
  intro p9 e s m args below meth c X hE hr hk ls hl
  have hl : lv_has ls 2 [(0, .ref (A 0)), (1, .int (wI (p)))] := hl
  have hO : Ob g H (A 0) 5 [.int (wI th), .ref (A 1), .ref (A 2), .ref (A 3), .int (wI (sn σ : Int)), .ref (A 5), .ref (A 6), .ref (A 7), .ref (A 8), .ref (A 9), .ref (A 10), .ref (A 11), .ref (A 12), .ref (A 13), .ref (A 14), .ref (A 15)] := hM 0 _ rfl
  obtain ⟨hG, hH, hT⟩ := hσ.2.2.1 p.toNat (by omega)
  have hs10 := hσ.2.1
  obtain ⟨⟨b1, b2⟩, ⟨b3, b4, b5⟩, ⟨b6, b7⟩, ⟨b8, b9⟩, b10, -⟩ := id hG
  have hLH : lGood (sH σ p.toNat) := hσ.1 (sp σ p.toNat 0).toNat (by omega)
  have hLT : lGood (sT σ p.toNat) := hσ.1 (sp σ p.toNat 1).toNat (by omega)
  refine w_aload_n X dX4_bears_0 hl 0 rfl rfl ?_
  refine w_iload_n X dX4_bears_1 hl 1 rfl rfl ?_
  refine w_callV (v := .int (wI (heldS (sH σ p.toNat) (sp σ p.toNat)))) 1 X hE (c_X4_heldOf l g H A th σ hM hσ p hp) hO hl dX4_bears_2 gX4_bears_X4_heldOf rfl rfl (by decide +kernel) ⟨(Nat.le_of_ble_eq_true rfl), (Nat.le_of_ble_eq_true rfl)⟩ rfl rfl (Nat.le_of_ble_eq_true rfl) ⟨Nat.le_refl _, Nat.le_refl _⟩ ?_
  refine w_aload_n X dX4_bears_5 hl 0 rfl rfl ?_
  refine w_iload_n X dX4_bears_6 hl 1 rfl rfl ?_
  refine w_callV (v := .int (wI (monS (sp σ p.toNat)))) 1 X hE (c_X4_months l g H A th σ hM hσ p hp) hO hl dX4_bears_7 gX4_bears_X4_months rfl rfl (by decide +kernel) ⟨(Nat.le_of_ble_eq_true rfl), (Nat.le_of_ble_eq_true rfl)⟩ rfl rfl (Nat.le_of_ble_eq_true rfl) ⟨Nat.le_refl _, Nat.le_refl _⟩ ?_
  have qm := mon_bd hG
  refine w_imul X dX4_bears_10 fun z_1 ez_1 => ?_
  refine w_aload_n X dX4_bears_11 hl 0 rfl rfl ?_
  refine w_iload_n X dX4_bears_12 hl 1 rfl rfl ?_
  refine w_callV (v := .int (wI (tahS (sH σ p.toNat) (sp σ p.toNat) (sb σ p.toNat) (so σ p.toNat)))) 1 X hE (c_X4_taxAtHome l g H A th σ hM hσ p hp) hO hl dX4_bears_13 gX4_bears_X4_taxAtHome rfl rfl (by decide +kernel) ⟨(Nat.le_of_ble_eq_true rfl), (Nat.le_of_ble_eq_true rfl)⟩ rfl rfl (Nat.le_of_ble_eq_true rfl) ⟨Nat.le_refl _, Nat.le_refl _⟩ ?_
  refine w_iadd X dX4_bears_16 fun z_2 ez_2 => ?_
  exact w_iret X hr hk dX4_bears_17 (by rw [bor_alt]; omega)

set_option maxHeartbeats 4000000 in
set_option maxRecDepth 100000 in
theorem c_X4_costOf (l : Launch) (g : wG) (H : Heap) (A : Nat → Nat) (th : Int) (σ : St) (hM : ModAt g H A th σ) (hσ : StGood σ) (p : Int) (hp : 0 ≤ p ∧ p < sn σ) : Pur l g H yX4_costOf wsX4_costOf 5 112 [.ref (A 0), .int (wI (p))] (.int (wI (cosS (sH σ p.toNat) (sT σ p.toNat) (sp σ p.toNat) (sb σ p.toNat) (so σ p.toNat)))) := by
  refine Pur.of (cc := cX4_costOf) (maxL := 2) (ret := (some .int)) (by decide) rfl (Nat.le_of_ble_eq_true rfl) ?_
  intro p9 e s m args below meth c X hE hr hk ls hl
  have hl : lv_has ls 2 [(0, .ref (A 0)), (1, .int (wI (p)))] := hl
  have hin_RX4 : ∀ w ∈ u_ws RX4 TX4 16, w ∈ wsX4_costOf := by decide +kernel
  have hO : Ob g H (A 0) 5 [.int (wI th), .ref (A 1), .ref (A 2), .ref (A 3), .int (wI (sn σ : Int)), .ref (A 5), .ref (A 6), .ref (A 7), .ref (A 8), .ref (A 9), .ref (A 10), .ref (A 11), .ref (A 12), .ref (A 13), .ref (A 14), .ref (A 15)] := hM 0 _ rfl
  have hA6 : IA g H (A 6) 10 (fun j => wI (sp σ j 1)) := hM 5 _ rfl
  have hA10 : IA g H (A 10) 10 (fun j => wI (sp σ j 5)) := hM 9 _ rfl
  obtain ⟨hG, hH, hT⟩ := hσ.2.2.1 p.toNat (by omega)
  have hs10 := hσ.2.1
  obtain ⟨⟨b1, b2⟩, ⟨b3, b4, b5⟩, ⟨b6, b7⟩, ⟨b8, b9⟩, b10, -⟩ := id hG
  have hLH : lGood (sH σ p.toNat) := hσ.1 (sp σ p.toNat 0).toNat (by omega)
  have hLT : lGood (sT σ p.toNat) := hσ.1 (sp σ p.toNat 1).toNat (by omega)
  refine w_aload_n X dX4_costOf_0 hl 0 rfl rfl ?_
  refine w_aload_n X dX4_costOf_1 hl 0 rfl rfl ?_
  refine w_get X hE hO 6 dX4_costOf_2 rfl hin_RX4 (by decide) (by decide +kernel) rfl rfl ?_
  refine w_iload_n X dX4_costOf_5 hl 1 rfl rfl ?_
  refine w_iald (y := wI (sp σ (p).toNat 1)) X hE hA6 dX4_costOf_6 (by omega) (by omega) (by omega) rfl ?_
  refine w_aload_n X dX4_costOf_7 hl 0 rfl rfl ?_
  refine w_iload_n X dX4_costOf_8 hl 1 rfl rfl ?_
  refine w_callV (v := .int (wI (aosS (sp σ p.toNat) (sb σ p.toNat) (so σ p.toNat)))) 1 X hE (c_X4_abroad l g H A th σ hM hσ p hp) hO hl dX4_costOf_9 gX4_costOf_X4_abroad rfl rfl (by decide +kernel) ⟨(Nat.le_of_ble_eq_true rfl), (Nat.le_of_ble_eq_true rfl)⟩ rfl rfl (Nat.le_of_ble_eq_true rfl) ⟨Nat.le_refl _, Nat.le_refl _⟩ ?_
  have qx := aos_bd hG
  refine w_i2l X dX4_costOf_12 (by omega) ?_
  refine w_callV (v := .int (wI (grossS (sT σ p.toNat) (aosS (sp σ p.toNat) (sb σ p.toNat) (so σ p.toNat))))) 2 X hE (c_X4_gross l g H A th σ hM hσ (sp σ (p).toNat 1) (by omega) (aosS (sp σ p.toNat) (sb σ p.toNat) (so σ p.toNat)) (by omega)) hO hl dX4_costOf_13 gX4_costOf_X4_gross rfl rfl (by decide +kernel) ⟨(Nat.le_of_ble_eq_true rfl), (Nat.le_of_ble_eq_true rfl)⟩ rfl rfl (Nat.le_of_ble_eq_true rfl) ⟨Nat.le_refl _, Nat.le_refl _⟩ ?_
  refine w_aload_n X dX4_costOf_16 hl 0 rfl rfl ?_
  refine w_get X hE hO 10 dX4_costOf_17 rfl hin_RX4 (by decide) (by decide +kernel) rfl rfl ?_
  refine w_iload_n X dX4_costOf_20 hl 1 rfl rfl ?_
  refine w_iald (y := wI (sp σ (p).toNat 5)) X hE hA10 dX4_costOf_21 (by omega) (by omega) (by omega) rfl ?_
  refine w_aload_n X dX4_costOf_22 hl 0 rfl rfl ?_
  refine w_iload_n X dX4_costOf_23 hl 1 rfl rfl ?_
  refine w_callV (v := .int (wI (ownS (sp σ p.toNat)))) 1 X hE (c_X4_own l g H A th σ hM hσ p hp) hO hl dX4_costOf_24 gX4_costOf_X4_own rfl rfl (by decide +kernel) ⟨(Nat.le_of_ble_eq_true rfl), (Nat.le_of_ble_eq_true rfl)⟩ rfl rfl (Nat.le_of_ble_eq_true rfl) ⟨Nat.le_refl _, Nat.le_refl _⟩ ?_
  have qo := own_bd hG
  refine w_isub X dX4_costOf_27 fun z_1 ez_1 => ?_
  refine w_aload_n X dX4_costOf_28 hl 0 rfl rfl ?_
  refine w_iload_n X dX4_costOf_29 hl 1 rfl rfl ?_
  refine w_callV (v := .int (wI (heldS (sH σ p.toNat) (sp σ p.toNat)))) 1 X hE (c_X4_heldOf l g H A th σ hM hσ p hp) hO hl dX4_costOf_30 gX4_costOf_X4_heldOf rfl rfl (by decide +kernel) ⟨(Nat.le_of_ble_eq_true rfl), (Nat.le_of_ble_eq_true rfl)⟩ rfl rfl (Nat.le_of_ble_eq_true rfl) ⟨Nat.le_refl _, Nat.le_refl _⟩ ?_
  refine w_isub X dX4_costOf_33 fun z_2 ez_2 => ?_
  refine w_aload_n X dX4_costOf_34 hl 0 rfl rfl ?_
  refine w_iload_n X dX4_costOf_35 hl 1 rfl rfl ?_
  refine w_callV (v := .int (wI (monS (sp σ p.toNat)))) 1 X hE (c_X4_months l g H A th σ hM hσ p hp) hO hl dX4_costOf_36 gX4_costOf_X4_months rfl rfl (by decide +kernel) ⟨(Nat.le_of_ble_eq_true rfl), (Nat.le_of_ble_eq_true rfl)⟩ rfl rfl (Nat.le_of_ble_eq_true rfl) ⟨Nat.le_refl _, Nat.le_refl _⟩ ?_
  have qm := mon_bd hG
  refine w_imul X dX4_costOf_39 fun z_3 ez_3 => ?_
  have qz : z_3 = (sp σ p.toNat 5 - ownS (sp σ p.toNat) - heldS (sH σ p.toNat) (sp σ p.toNat)) * monS (sp σ p.toNat) := by rw [ez_3, ez_2, ez_1]
  refine w_iadd X dX4_costOf_40 fun z_4 ez_4 => ?_
  refine w_aload_n X dX4_costOf_41 hl 0 rfl rfl ?_
  refine w_iload_n X dX4_costOf_42 hl 1 rfl rfl ?_
  refine w_callV (v := .int (wI (supS (sH σ p.toNat) (sp σ p.toNat) (sb σ p.toNat) (so σ p.toNat)))) 1 X hE (c_X4_supposed l g H A th σ hM hσ p hp) hO hl dX4_costOf_43 gX4_costOf_X4_supposed rfl rfl (by decide +kernel) ⟨(Nat.le_of_ble_eq_true rfl), (Nat.le_of_ble_eq_true rfl)⟩ rfl rfl (Nat.le_of_ble_eq_true rfl) ⟨Nat.le_refl _, Nat.le_refl _⟩ ?_
  refine w_isub X dX4_costOf_46 fun z_5 ez_5 => ?_
  refine w_aload_n X dX4_costOf_47 hl 0 rfl rfl ?_
  refine w_iload_n X dX4_costOf_48 hl 1 rfl rfl ?_
  refine w_callV (v := .int (wI (borS (sH σ p.toNat) (sp σ p.toNat) (sb σ p.toNat) (so σ p.toNat)))) 1 X hE (c_X4_bears l g H A th σ hM hσ p hp) hO hl dX4_costOf_49 gX4_costOf_X4_bears rfl rfl (by decide +kernel) ⟨(Nat.le_of_ble_eq_true rfl), (Nat.le_of_ble_eq_true rfl)⟩ rfl rfl (Nat.le_of_ble_eq_true rfl) ⟨Nat.le_refl _, Nat.le_refl _⟩ ?_
  refine w_iadd X dX4_costOf_52 fun z_6 ez_6 => ?_
  exact w_iret X hr hk dX4_costOf_53 (by rw [cos_alt]; omega)
