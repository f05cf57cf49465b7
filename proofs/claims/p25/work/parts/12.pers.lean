/-! Person: what changes nothing -/
abbrev BonAt (g : wG) (H : Heap) (q : Nat) (bo : Nat → Int) : Prop := Ob g H q 1 [.int (wI (bo 0)), .int (wI (bo 1)), .int (wI (bo 2))]
abbrev PobAt (g : wG) (H : Heap) (a h t bl : Nat) (pf : Nat → Int) : Prop := Ob g H a 3 [.ref h, .ref t, .ref bl, .int (wI (pf 2)), .int (wI (pf 3)), .int (wI (pf 4)), .int (wI (pf 5)), .int (wI (pf 6))]
/-- a person a, who has the lands h (with LH) and t (with LT), the list bl of nb bonuses -/
def PersAt (g : wG) (H : Heap) (a : Nat) (LH LT pf : Nat → Int) (nb : Nat) (bo : Nat → Nat → Int) : Prop :=
  (pGood pf nb bo ∧ lGood LH ∧ lGood LT) ∧ ∃ (h t bl e9 : Nat) (mc : Int32) (f : Nat → Option Nat), PobAt g H a h t bl pf ∧ LandAt g H h LH ∧ LandAt g H t LT ∧ Ob g H bl 0 [.int mc, .ref e9, .int (wI (nb : Int))] ∧ (0 < nb → RA g H e9 10 f) ∧ ∀ b, b < nb → ∃ q, f b = some q ∧ BonAt g H q (bo b)

set_option maxHeartbeats 4000000 in
set_option maxRecDepth 100000 in
theorem c_X2_monthsAbroad (l : Launch) (g : wG) (H : Heap) (a : Nat) (LH LT pf : Nat → Int) (nb : Nat) (bo : Nat → Nat → Int) (hp : PersAt g H a LH LT pf nb bo) : Pur l g H yX2_monthsAbroad wsX2_monthsAbroad 0 0 [.ref a] (.int (wI (monS pf))) := by
  refine Pur.of (cc := cX2_monthsAbroad) (maxL := 1) (ret := (some .int)) (by decide) rfl (Nat.le_of_ble_eq_true rfl) ?_
  intro p9 e s m args below meth c X hE hr hk ls hl
  have hl : lv_has ls 1 [(0, .ref a)] := hl
  have hin_RX2 : ∀ w ∈ u_ws RX2 TX2 8, w ∈ wsX2_monthsAbroad := by decide +kernel
  obtain ⟨⟨hG, hLH, hLT⟩, h, t, bl, e9, mc, f, hO, hOh, hOt, hOb, hRA, hB⟩ := id hp
  obtain ⟨⟨b1, b2⟩, ⟨b3, b4, b5⟩, ⟨b6, b7⟩, ⟨b8, b9⟩, b10, -⟩ := id hG
  refine w_aload_n X dX2_monthsAbroad_0 hl 0 rfl rfl ?_
  refine w_get X hE hO 5 dX2_monthsAbroad_1 rfl hin_RX2 (by decide) (by decide +kernel) rfl rfl ?_
  refine w_aload_n X dX2_monthsAbroad_4 hl 0 rfl rfl ?_
  refine w_get X hE hO 4 dX2_monthsAbroad_5 rfl hin_RX2 (by decide) (by decide +kernel) rfl rfl ?_
  refine w_isub X dX2_monthsAbroad_8 fun z_1 ez_1 => ?_
  exact w_iret X hr hk dX2_monthsAbroad_9 (by unfold monS; omega)

set_option maxHeartbeats 4000000 in
set_option maxRecDepth 100000 in
theorem c_X2_isAbroadIn (l : Launch) (g : wG) (H : Heap) (a : Nat) (LH LT pf : Nat → Int) (nb : Nat) (bo : Nat → Nat → Int) (hp : PersAt g H a LH LT pf nb bo) (mo : Int) (hmo : wR mo) : Pur l g H yX2_isAbroadIn wsX2_isAbroadIn 0 0 [.ref a, .int (wI (mo))] (.int (wI (if pf 3 ≤ mo ∧ mo < pf 4 then 1 else 0))) := by
  refine Pur.of (cc := cX2_isAbroadIn) (maxL := 2) (ret := (some .boolean)) (by decide) rfl (Nat.le_of_ble_eq_true rfl) ?_
  intro p9 e s m args below meth c X hE hr hk ls hl
  have hl : lv_has ls 2 [(0, .ref a), (1, .int (wI (mo)))] := hl
  have hin_RX2 : ∀ w ∈ u_ws RX2 TX2 8, w ∈ wsX2_isAbroadIn := by decide +kernel
  obtain ⟨⟨hG, hLH, hLT⟩, h, t, bl, e9, mc, f, hO, hOh, hOt, hOb, hRA, hB⟩ := id hp
  obtain ⟨⟨b1, b2⟩, ⟨b3, b4, b5⟩, ⟨b6, b7⟩, ⟨b8, b9⟩, b10, -⟩ := id hG
  refine w_iload_n X dX2_isAbroadIn_0 hl 1 rfl rfl ?_
  refine w_aload_n X dX2_isAbroadIn_1 hl 0 rfl rfl ?_
  refine w_get X hE hO 4 dX2_isAbroadIn_2 rfl hin_RX2 (by decide) (by decide +kernel) rfl rfl ?_
  refine w_icmp_lt X 20 dX2_isAbroadIn_5 (by decide) (by omega) (by omega) (fun c_1 => ?_) (fun c_1 => ?_)
  · skip
    refine w_iconst X dX2_isAbroadIn_20 ?_
    exact w_zret X hr hk dX2_isAbroadIn_21 (by omega) (by split <;> omega)
  · skip
    refine w_iload_n X dX2_isAbroadIn_8 hl 1 rfl rfl ?_
    refine w_aload_n X dX2_isAbroadIn_9 hl 0 rfl rfl ?_
    refine w_get X hE hO 5 dX2_isAbroadIn_10 rfl hin_RX2 (by decide) (by decide +kernel) rfl rfl ?_
    refine w_icmp_ge X 20 dX2_isAbroadIn_13 (by decide) (by omega) (by omega) (fun c_2 => ?_) (fun c_2 => ?_)
    · skip
      refine w_iconst X dX2_isAbroadIn_20 ?_
      exact w_zret X hr hk dX2_isAbroadIn_21 (by omega) (by split <;> omega)
    · skip
      refine w_iconst X dX2_isAbroadIn_16 ?_
      refine w_goto X 21 dX2_isAbroadIn_17 (by decide) ?_
      exact w_zret X hr hk dX2_isAbroadIn_21 (by omega) (by split <;> omega)

set_option maxHeartbeats 4000000 in
set_option maxRecDepth 100000 in
theorem c_X2_ownShare (l : Launch) (g : wG) (H : Heap) (a : Nat) (LH LT pf : Nat → Int) (nb : Nat) (bo : Nat → Nat → Int) (hp : PersAt g H a LH LT pf nb bo) : Pur l g H yX2_ownShare wsX2_ownShare 1 21 [.ref a] (.int (wI (ownS pf))) := by
  refine Pur.of (cc := cX2_ownShare) (maxL := 1) (ret := (some .int)) (by decide) rfl (Nat.le_of_ble_eq_true rfl) ?_
  intro p9 e s m args below meth c X hE hr hk ls hl
  have hl : lv_has ls 1 [(0, .ref a)] := hl
  have hin_RX2 : ∀ w ∈ u_ws RX2 TX2 8, w ∈ wsX2_ownShare := by decide +kernel
  obtain ⟨⟨hG, hLH, hLT⟩, h, t, bl, e9, mc, f, hO, hOh, hOt, hOb, hRA, hB⟩ := id hp
  obtain ⟨⟨b1, b2⟩, ⟨b3, b4, b5⟩, ⟨b6, b7⟩, ⟨b8, b9⟩, b10, -⟩ := id hG
  refine w_aload_n X dX2_ownShare_0 hl 0 rfl rfl ?_
  refine w_get X hE hO 6 dX2_ownShare_1 rfl hin_RX2 (by decide) (by decide +kernel) rfl rfl ?_
  refine w_aload_n X dX2_ownShare_4 hl 0 rfl rfl ?_
  refine w_get X hE hO 3 dX2_ownShare_5 rfl hin_RX2 (by decide) (by decide +kernel) rfl rfl ?_
  refine w_aload_n X dX2_ownShare_8 hl 0 rfl rfl ?_
  refine w_get X hE hO 7 dX2_ownShare_9 rfl hin_RX2 (by decide) (by decide +kernel) rfl rfl ?_
  refine w_imul X dX2_ownShare_12 fun z_1 ez_1 => ?_
  have qn := pn_bd hG
  refine w_bipush X dX2_ownShare_13 (by decide) ?_
  refine w_idiv X dX2_ownShare_15 (by omega) (by omega) fun z_2 ez_2 => ?_
  refine w_mmin X hl dX2_ownShare_16 (by decide +kernel) (by omega) (by omega) ⟨(Nat.le_of_ble_eq_true rfl), (Nat.le_of_ble_eq_true rfl)⟩ ⟨Nat.le_refl _, Nat.le_refl _⟩ fun z_3 ez_3 => ?_
  exact w_iret X hr hk dX2_ownShare_19 (by unfold ownS; omega)

set_option maxHeartbeats 4000000 in
set_option maxRecDepth 100000 in
theorem c_X2_partAbroad (l : Launch) (g : wG) (H : Heap) (a : Nat) (LH LT pf : Nat → Int) (nb : Nat) (bo : Nat → Nat → Int) (hp : PersAt g H a LH LT pf nb bo) (q : Nat) (b1o : Nat → Int) (hb : bGood b1o) (hq : BonAt g H q b1o) : Pur l g H yX2_partAbroad wsX2_partAbroad 1 21 [.ref a, .ref q] (.int (wI (parS pf b1o))) := by
  refine Pur.of (cc := cX2_partAbroad) (maxL := 4) (ret := (some .int)) (by decide) rfl (Nat.le_of_ble_eq_true rfl) ?_
  intro p9 e s m args below meth c X hE hr hk ls hl
  have hl : lv_has ls 4 [(0, .ref a), (1, .ref q)] := hl
  have hin_RX0 : ∀ w ∈ u_ws RX0 TX0 3, w ∈ wsX2_partAbroad := by decide +kernel
  have hin_RX2 : ∀ w ∈ u_ws RX2 TX2 8, w ∈ wsX2_partAbroad := by decide +kernel
  obtain ⟨⟨hG, hLH, hLT⟩, h, t, bl, e9, mc, f, hO, hOh, hOt, hOb, hRA, hB⟩ := id hp
  obtain ⟨⟨b1, b2⟩, ⟨b3, b4, b5⟩, ⟨b6, b7⟩, ⟨b8, b9⟩, b10, -⟩ := id hG
  obtain ⟨⟨g1, g2⟩, g3, g4, g5⟩ := id hb
  refine w_aload_n X dX2_partAbroad_0 hl 1 rfl rfl ?_
  refine w_getN X hE hq 2 dX2_partAbroad_1 rfl hin_RX0 (by decide) (by decide +kernel) rfl rfl ?_
  refine w_aload_n X dX2_partAbroad_4 hl 1 rfl rfl ?_
  refine w_getN X hE hq 1 dX2_partAbroad_5 rfl hin_RX0 (by decide) (by decide +kernel) rfl rfl ?_
  refine w_isub X dX2_partAbroad_8 fun z_1 ez_1 => ?_
  refine w_istore_n X [(2, .int (wI (z_1))), (0, .ref a), (1, .ref q)] dX2_partAbroad_9 hl rfl (by decide) rfl fun ls hl => ?_
  refine w_iload_n X dX2_partAbroad_10 hl 0 rfl rfl ?_
  refine w_if_gt X 16 dX2_partAbroad_11 (by decide) (by omega) (fun c_2 => ?_) (fun c_2 => ?_)
  · skip
    refine w_iconst X dX2_partAbroad_16 ?_
    refine w_aload_n X dX2_partAbroad_17 hl 2 rfl rfl ?_
    refine w_getN X hE hq 2 dX2_partAbroad_18 rfl hin_RX0 (by decide) (by decide +kernel) rfl rfl ?_
    refine w_aload_n X dX2_partAbroad_21 hl 1 rfl rfl ?_
    refine w_get X hE hO 5 dX2_partAbroad_22 rfl hin_RX2 (by decide) (by decide +kernel) rfl rfl ?_
    refine w_mmin X hl dX2_partAbroad_25 (by decide +kernel) (by omega) (by omega) ⟨(Nat.le_of_ble_eq_true rfl), (Nat.le_of_ble_eq_true rfl)⟩ ⟨Nat.le_refl _, Nat.le_refl _⟩ fun z_3 ez_3 => ?_
    refine w_aload_n X dX2_partAbroad_28 hl 2 rfl rfl ?_
    refine w_getN X hE hq 1 dX2_partAbroad_29 rfl hin_RX0 (by decide) (by decide +kernel) rfl rfl ?_
    refine w_aload_n X dX2_partAbroad_32 hl 1 rfl rfl ?_
    refine w_get X hE hO 4 dX2_partAbroad_33 rfl hin_RX2 (by decide) (by decide +kernel) rfl rfl ?_
    refine w_mmax X hl dX2_partAbroad_36 (by decide +kernel) (by omega) (by omega) ⟨(Nat.le_of_ble_eq_true rfl), (Nat.le_of_ble_eq_true rfl)⟩ ⟨Nat.le_refl _, Nat.le_refl _⟩ fun z_4 ez_4 => ?_
    refine w_isub X dX2_partAbroad_39 fun z_5 ez_5 => ?_
    refine w_mmax X hl dX2_partAbroad_40 (by decide +kernel) (by omega) (by omega) ⟨(Nat.le_of_ble_eq_true rfl), (Nat.le_of_ble_eq_true rfl)⟩ ⟨Nat.le_refl _, Nat.le_refl _⟩ fun z_6 ez_6 => ?_
    refine w_istore_n X [(3, .int (wI (z_6))), (2, .int (wI (z_1))), (0, .ref a), (1, .ref q)] dX2_partAbroad_43 hl rfl (by decide) rfl fun ls hl => ?_
    refine w_aload_n X dX2_partAbroad_44 hl 3 rfl rfl ?_
    refine w_getN X hE hq 0 dX2_partAbroad_45 rfl hin_RX0 (by decide) (by decide +kernel) rfl rfl ?_
    refine w_iload_n X dX2_partAbroad_48 hl 0 rfl rfl ?_
    refine w_imul X dX2_partAbroad_49 fun z_7 ez_7 => ?_
    have qc := cov_bd (pf := pf) hb
    have qv := ov_bd (pf := pf) hb
    refine w_iload_n X dX2_partAbroad_50 hl 1 rfl rfl ?_
    have qz : z_7 = b1o 0 * ovS pf b1o := by rw [ez_7]; exact congrArg (b1o 0 * ·) (by unfold ovS; omega)
    refine w_idiv X dX2_partAbroad_51 (by omega) (by omega) fun z_8 ez_8 => ?_
    exact w_iret X hr hk dX2_partAbroad_52 (by rw [ez_8, qz]; unfold parS; exact congrArg (b1o 0 * ovS pf b1o / ·) (by omega))
  · skip
    exact absurd c_2 (by omega)

set_option maxHeartbeats 4000000 in
set_option maxRecDepth 100000 in
theorem c_X2_wholeIncome (l : Launch) (g : wG) (H : Heap) (a : Nat) (LH LT pf : Nat → Int) (nb : Nat) (bo : Nat → Nat → Int) (hp : PersAt g H a LH LT pf nb bo) : Pur l g H yX2_wholeIncome wsX2_wholeIncome 3 64 [.ref a] (.int (wI (wholeS pf nb bo))) := by
  refine Pur.of (cc := cX2_wholeIncome) (maxL := 3) (ret := some .int) (by decide) rfl (Nat.le_of_ble_eq_true rfl) ?_
  intro p e s m args below meth c X hE hr hk ls hl
  have hl : lv_has ls 3 [(0, .ref a)] := hl
  have hin_RX2 : ∀ w ∈ u_ws RX2 TX2 8, w ∈ wsX2_wholeIncome := by decide +kernel
  have hin_RX0 : ∀ w ∈ u_ws RX0 TX0 3, w ∈ wsX2_wholeIncome := by decide +kernel
  obtain ⟨⟨hG, hLH, hLT⟩, h, t, bl, e9, mc, f, hO, hOh, hOt, hOb, hRA, hB⟩ := id hp
  obtain ⟨⟨b1, b2⟩, ⟨b3, b4, b5⟩, ⟨b6, b7⟩, ⟨b8, b9⟩, b10, -⟩ := id hG
  have loop : ∀ (r b : Nat), b + r = nb → ∀ ls : Array Slot, lv_has ls 3 [(2, .int (wI ((b : Int)))), (1, .int (wI (12 * pf 2 + sumB (fun b => bo b 0) b))), (0, .ref a)] → W p l e { frames := 3, cells := 0, slots := 0, locals := 64 } s m args below meth c H [] 0 0 (MQ below (PQ H (.int (wI (wholeS pf nb bo)))) args s 0 0 (fun _ => False)) (F0 m 10 ls []) := by
    intro r
    induction r with
    | zero =>
      intro b hb ls hl
      refine w_iload_n X dX2_wholeIncome_10 hl 0 rfl rfl ?_
      refine w_aload_n X dX2_wholeIncome_11 hl 2 rfl rfl ?_
      refine w_get X hE hO 2 dX2_wholeIncome_12 rfl hin_RX2 (by decide) (by decide +kernel) rfl rfl ?_
      refine w_callF (v := .int (wI ((nb : Int)))) 0 X hE (c_Jx4a65c_size_8abf5 l g H bl mc e9 (nb : Int) hOb) hOb hl dX2_wholeIncome_15 gX2_wholeIncome_Jx4a65c_size_8abf5_f61Jx4a65c ew_size rfl rfl (by decide +kernel) ⟨(Nat.le_of_ble_eq_true rfl), (Nat.le_of_ble_eq_true rfl)⟩ rfl (Nat.le_of_ble_eq_true rfl) ⟨Nat.le_refl _, Nat.le_refl _⟩ ?_
      refine w_icmp_ge X 48 dX2_wholeIncome_20 (by decide) (by omega) (by omega) (fun c_1 => ?_) (fun c_1 => ?_)
      · skip
        refine w_iload_n X dX2_wholeIncome_48 hl 1 rfl rfl ?_
        exact w_iret X hr hk dX2_wholeIncome_49 (by rw [show b = nb by omega]; rfl)
      · skip
        exact absurd c_1 (by omega)
    | succ r ih =>
      intro b hb ls hl
      obtain ⟨q, hq1, hq2⟩ := hB b (by omega)
      have hq1 : f ((b : Int)).toNat = some q := by rw [show ((b : Int)).toNat = b by omega]; exact hq1
      refine w_iload_n X dX2_wholeIncome_10 hl 0 rfl rfl ?_
      refine w_aload_n X dX2_wholeIncome_11 hl 2 rfl rfl ?_
      refine w_get X hE hO 2 dX2_wholeIncome_12 rfl hin_RX2 (by decide) (by decide +kernel) rfl rfl ?_
      refine w_callF (v := .int (wI ((nb : Int)))) 0 X hE (c_Jx4a65c_size_8abf5 l g H bl mc e9 (nb : Int) hOb) hOb hl dX2_wholeIncome_15 gX2_wholeIncome_Jx4a65c_size_8abf5_f61Jx4a65c ew_size rfl rfl (by decide +kernel) ⟨(Nat.le_of_ble_eq_true rfl), (Nat.le_of_ble_eq_true rfl)⟩ rfl (Nat.le_of_ble_eq_true rfl) ⟨Nat.le_refl _, Nat.le_refl _⟩ ?_
      refine w_icmp_ge X 48 dX2_wholeIncome_20 (by decide) (by omega) (by omega) (fun c_1 => ?_) (fun c_1 => ?_)
      · skip
        exact absurd c_1 (by omega)
      · skip
        refine w_iload_n X dX2_wholeIncome_23 hl 1 rfl rfl ?_
        refine w_aload_n X dX2_wholeIncome_24 hl 2 rfl rfl ?_
        refine w_get X hE hO 2 dX2_wholeIncome_25 rfl hin_RX2 (by decide) (by decide +kernel) rfl rfl ?_
        refine w_iload_n X dX2_wholeIncome_28 hl 0 rfl rfl ?_
        refine w_callF (v := .ref q) 1 X hE (c_Jx4a65c_get_915e3 l g H bl mc e9 (nb : Int) hOb 10 f (hRA (by omega)) (b : Int) q (by omega) (by omega) (by omega) (by omega) hq1) hOb hl dX2_wholeIncome_29 gX2_wholeIncome_Jx4a65c_get_915e3_f67Jx4a65c ew_get rfl rfl (by decide +kernel) ⟨(Nat.le_of_ble_eq_true rfl), (Nat.le_of_ble_eq_true rfl)⟩ rfl (Nat.le_of_ble_eq_true rfl) ⟨Nat.le_refl _, Nat.le_refl _⟩ ?_
        refine w_cast X hE hq2 dX2_wholeIncome_34 rfl (by decide +kernel) ?_
        refine w_getN X hE hq2 0 dX2_wholeIncome_37 rfl hin_RX0 (by decide) (by decide +kernel) rfl rfl ?_
        refine w_iadd X dX2_wholeIncome_40 fun z_2 ez_2 => ?_
        refine w_istore_n X [(1, .int (wI (z_2))), (2, .int (wI ((b : Int)))), (0, .ref a)] dX2_wholeIncome_41 hl rfl (by decide) rfl fun ls hl => ?_
        refine w_iinc X (fun z_3 => [(2, .int (wI (z_3))), (1, .int (wI (z_2))), (0, .ref a)]) dX2_wholeIncome_42 hl 1 rfl (by decide) (fun _ => rfl) fun z_3 ez_3 ls hl => ?_
        refine w_goto X 10 dX2_wholeIncome_45 (by decide) ?_
        have eb : z_3 = ((b + 1 : Nat) : Int) := by omega
        have ea : z_2 = 12 * pf 2 + sumB (fun b => bo b 0) (b + 1) := by
          show _ = 12 * pf 2 + (sumB (fun b => bo b 0) b + (bo b 0))
          omega
        rw [eb, ea] at hl
        exact ih (b + 1) (by omega) ls (lv_sub hl [0, 1, 2] rfl)
  refine w_bipush X dX2_wholeIncome_0 (by decide) ?_
  refine w_aload_n X dX2_wholeIncome_2 hl 0 rfl rfl ?_
  refine w_get X hE hO 3 dX2_wholeIncome_3 rfl hin_RX2 (by decide) (by decide +kernel) rfl rfl ?_
  refine w_imul X dX2_wholeIncome_6 fun z_1 ez_1 => ?_
  refine w_istore_n X [(1, .int (wI (z_1))), (0, .ref a)] dX2_wholeIncome_7 hl rfl (by decide) rfl fun ls hl => ?_
  refine w_iconst X dX2_wholeIncome_8 ?_
  refine w_istore_n X [(2, .int (wI (0))), (1, .int (wI (z_1))), (0, .ref a)] dX2_wholeIncome_9 hl rfl (by decide) rfl fun ls hl => ?_
  have ea : z_1 = 12 * pf 2 + sumB (fun b => bo b 0) 0 := by
    show _ = 12 * pf 2 + 0
    omega
  rw [ea] at hl
  exact loop nb 0 (by omega) ls (lv_sub hl [0, 1, 2] rfl)

set_option maxHeartbeats 4000000 in
set_option maxRecDepth 100000 in
theorem c_X2_heldEachMonth (l : Launch) (g : wG) (H : Heap) (a : Nat) (LH LT pf : Nat → Int) (nb : Nat) (bo : Nat → Nat → Int) (hp : PersAt g H a LH LT pf nb bo) : Pur l g H yX2_heldEachMonth wsX2_heldEachMonth 2 48 [.ref a] (.int (wI (heldS LH pf))) := by
  refine Pur.of (cc := cX2_heldEachMonth) (maxL := 1) (ret := (some .int)) (by decide) rfl (Nat.le_of_ble_eq_true rfl) ?_
  intro p9 e s m args below meth c X hE hr hk ls hl
  have hl : lv_has ls 1 [(0, .ref a)] := hl
  have hin_RX2 : ∀ w ∈ u_ws RX2 TX2 8, w ∈ wsX2_heldEachMonth := by decide +kernel
  obtain ⟨⟨hG, hLH, hLT⟩, h, t, bl, e9, mc, f, hO, hOh, hOt, hOb, hRA, hB⟩ := id hp
  obtain ⟨⟨b1, b2⟩, ⟨b3, b4, b5⟩, ⟨b6, b7⟩, ⟨b8, b9⟩, b10, -⟩ := id hG
  refine w_aload_n X dX2_heldEachMonth_0 hl 0 rfl rfl ?_
  refine w_get X hE hO 0 dX2_heldEachMonth_1 rfl hin_RX2 (by decide) (by decide +kernel) rfl rfl ?_
  refine w_bipush X dX2_heldEachMonth_4 (by decide) ?_
  refine w_aload_n X dX2_heldEachMonth_6 hl 0 rfl rfl ?_
  refine w_get X hE hO 3 dX2_heldEachMonth_7 rfl hin_RX2 (by decide) (by decide +kernel) rfl rfl ?_
  refine w_imul X dX2_heldEachMonth_10 fun z_1 ez_1 => ?_
  refine w_callV (v := .int (wI (taxS LH (z_1)))) 1 X hE (c_X1_taxOf l g H h LH hLH hOh (z_1) (by omega)) hOh hl dX2_heldEachMonth_11 gX2_heldEachMonth_X1_taxOf rfl rfl (by decide +kernel) ⟨(Nat.le_of_ble_eq_true rfl), (Nat.le_of_ble_eq_true rfl)⟩ rfl rfl (Nat.le_of_ble_eq_true rfl) ⟨Nat.le_refl _, Nat.le_refl _⟩ ?_
  have qh := held_bd hLH hG
  have qz : taxS LH (z_1) = taxS LH (12 * pf 2) := congrArg (taxS LH) (by omega)
  have qh := held_bd hLH hG
  refine w_bipush X dX2_heldEachMonth_14 (by decide) ?_
  refine w_idiv X dX2_heldEachMonth_16 (by omega) (by omega) fun z_2 ez_2 => ?_
  exact w_iret X hr hk dX2_heldEachMonth_17 (by unfold heldS; omega)

set_option maxHeartbeats 4000000 in
set_option maxRecDepth 100000 in
theorem c_X2_heldInYear (l : Launch) (g : wG) (H : Heap) (a : Nat) (LH LT pf : Nat → Int) (nb : Nat) (bo : Nat → Nat → Int) (hp : PersAt g H a LH LT pf nb bo) : Pur l g H yX2_heldInYear wsX2_heldInYear 3 68 [.ref a] (.int (wI (hyS LH pf))) := by
  refine Pur.of (cc := cX2_heldInYear) (maxL := 1) (ret := (some .int)) (by decide) rfl (Nat.le_of_ble_eq_true rfl) ?_
  intro p9 e s m args below meth c X hE hr hk ls hl
  have hl : lv_has ls 1 [(0, .ref a)] := hl
  obtain ⟨⟨hG, hLH, hLT⟩, h, t, bl, e9, mc, f, hO, hOh, hOt, hOb, hRA, hB⟩ := id hp
  obtain ⟨⟨b1, b2⟩, ⟨b3, b4, b5⟩, ⟨b6, b7⟩, ⟨b8, b9⟩, b10, -⟩ := id hG
  refine w_aload_n X dX2_heldInYear_0 hl 0 rfl rfl ?_
  refine w_callV (v := .int (wI (monS pf))) 0 X hE (c_X2_monthsAbroad l g H a LH LT pf nb bo hp) hO hl dX2_heldInYear_1 gX2_heldInYear_X2_monthsAbroad rfl rfl (by decide +kernel) ⟨(Nat.le_of_ble_eq_true rfl), (Nat.le_of_ble_eq_true rfl)⟩ rfl rfl (Nat.le_of_ble_eq_true rfl) ⟨Nat.le_refl _, Nat.le_refl _⟩ ?_
  have qm := mon_bd hG
  refine w_aload_n X dX2_heldInYear_4 hl 0 rfl rfl ?_
  refine w_callV (v := .int (wI (heldS LH pf))) 0 X hE (c_X2_heldEachMonth l g H a LH LT pf nb bo hp) hO hl dX2_heldInYear_5 gX2_heldInYear_X2_heldEachMonth rfl rfl (by decide +kernel) ⟨(Nat.le_of_ble_eq_true rfl), (Nat.le_of_ble_eq_true rfl)⟩ rfl rfl (Nat.le_of_ble_eq_true rfl) ⟨Nat.le_refl _, Nat.le_refl _⟩ ?_
  refine w_imul X dX2_heldInYear_8 fun z_1 ez_1 => ?_
  exact w_iret X hr hk dX2_heldInYear_9 (by rw [ez_1]; rfl)

set_option maxHeartbeats 4000000 in
set_option maxRecDepth 100000 in
theorem c_X2_housingInYear (l : Launch) (g : wG) (H : Heap) (a : Nat) (LH LT pf : Nat → Int) (nb : Nat) (bo : Nat → Nat → Int) (hp : PersAt g H a LH LT pf nb bo) : Pur l g H yX2_housingInYear wsX2_housingInYear 2 41 [.ref a] (.int (wI (houS pf))) := by
  refine Pur.of (cc := cX2_housingInYear) (maxL := 1) (ret := (some .int)) (by decide) rfl (Nat.le_of_ble_eq_true rfl) ?_
  intro p9 e s m args below meth c X hE hr hk ls hl
  have hl : lv_has ls 1 [(0, .ref a)] := hl
  have hin_RX2 : ∀ w ∈ u_ws RX2 TX2 8, w ∈ wsX2_housingInYear := by decide +kernel
  obtain ⟨⟨hG, hLH, hLT⟩, h, t, bl, e9, mc, f, hO, hOh, hOt, hOb, hRA, hB⟩ := id hp
  obtain ⟨⟨b1, b2⟩, ⟨b3, b4, b5⟩, ⟨b6, b7⟩, ⟨b8, b9⟩, b10, -⟩ := id hG
  refine w_aload_n X dX2_housingInYear_0 hl 0 rfl rfl ?_
  refine w_callV (v := .int (wI (monS pf))) 0 X hE (c_X2_monthsAbroad l g H a LH LT pf nb bo hp) hO hl dX2_housingInYear_1 gX2_housingInYear_X2_monthsAbroad rfl rfl (by decide +kernel) ⟨(Nat.le_of_ble_eq_true rfl), (Nat.le_of_ble_eq_true rfl)⟩ rfl rfl (Nat.le_of_ble_eq_true rfl) ⟨Nat.le_refl _, Nat.le_refl _⟩ ?_
  have qm := mon_bd hG
  refine w_aload_n X dX2_housingInYear_4 hl 0 rfl rfl ?_
  refine w_get X hE hO 6 dX2_housingInYear_5 rfl hin_RX2 (by decide) (by decide +kernel) rfl rfl ?_
  refine w_aload_n X dX2_housingInYear_8 hl 0 rfl rfl ?_
  refine w_callV (v := .int (wI (ownS pf))) 0 X hE (c_X2_ownShare l g H a LH LT pf nb bo hp) hO hl dX2_housingInYear_9 gX2_housingInYear_X2_ownShare rfl rfl (by decide +kernel) ⟨(Nat.le_of_ble_eq_true rfl), (Nat.le_of_ble_eq_true rfl)⟩ rfl rfl (Nat.le_of_ble_eq_true rfl) ⟨Nat.le_refl _, Nat.le_refl _⟩ ?_
  have qo := own_bd hG
  refine w_isub X dX2_housingInYear_12 fun z_1 ez_1 => ?_
  refine w_imul X dX2_housingInYear_13 fun z_2 ez_2 => ?_
  exact w_iret X hr hk dX2_housingInYear_14 (by rw [ez_2, ez_1]; rfl)

set_option maxHeartbeats 4000000 in
set_option maxRecDepth 100000 in
theorem c_X2_supposedTaxOfYear (l : Launch) (g : wG) (H : Heap) (a : Nat) (LH LT pf : Nat → Int) (nb : Nat) (bo : Nat → Nat → Int) (hp : PersAt g H a LH LT pf nb bo) : Pur l g H yX2_supposedTaxOfYear wsX2_supposedTaxOfYear 4 86 [.ref a] (.int (wI (supS LH pf nb bo))) := by
  refine Pur.of (cc := cX2_supposedTaxOfYear) (maxL := 1) (ret := (some .int)) (by decide) rfl (Nat.le_of_ble_eq_true rfl) ?_
  intro p9 e s m args below meth c X hE hr hk ls hl
  have hl : lv_has ls 1 [(0, .ref a)] := hl
  have hin_RX2 : ∀ w ∈ u_ws RX2 TX2 8, w ∈ wsX2_supposedTaxOfYear := by decide +kernel
  obtain ⟨⟨hG, hLH, hLT⟩, h, t, bl, e9, mc, f, hO, hOh, hOt, hOb, hRA, hB⟩ := id hp
  obtain ⟨⟨b1, b2⟩, ⟨b3, b4, b5⟩, ⟨b6, b7⟩, ⟨b8, b9⟩, b10, -⟩ := id hG
  refine w_aload_n X dX2_supposedTaxOfYear_0 hl 0 rfl rfl ?_
  refine w_get X hE hO 0 dX2_supposedTaxOfYear_1 rfl hin_RX2 (by decide) (by decide +kernel) rfl rfl ?_
  refine w_aload_n X dX2_supposedTaxOfYear_4 hl 0 rfl rfl ?_
  refine w_callV (v := .int (wI (wholeS pf nb bo))) 0 X hE (c_X2_wholeIncome l g H a LH LT pf nb bo hp) hO hl dX2_supposedTaxOfYear_5 gX2_supposedTaxOfYear_X2_wholeIncome rfl rfl (by decide +kernel) ⟨(Nat.le_of_ble_eq_true rfl), (Nat.le_of_ble_eq_true rfl)⟩ rfl rfl (Nat.le_of_ble_eq_true rfl) ⟨Nat.le_refl _, Nat.le_refl _⟩ ?_
  have qw := whole_bd hG
  refine w_callV (v := .int (wI (taxS LH (wholeS pf nb bo)))) 1 X hE (c_X1_taxOf l g H h LH hLH hOh (wholeS pf nb bo) (by omega)) hOh hl dX2_supposedTaxOfYear_8 gX2_supposedTaxOfYear_X1_taxOf rfl rfl (by decide +kernel) ⟨(Nat.le_of_ble_eq_true rfl), (Nat.le_of_ble_eq_true rfl)⟩ rfl rfl (Nat.le_of_ble_eq_true rfl) ⟨Nat.le_refl _, Nat.le_refl _⟩ ?_
  exact w_iret X hr hk dX2_supposedTaxOfYear_11 rfl

set_option maxHeartbeats 4000000 in
set_option maxRecDepth 100000 in
theorem c_X2_incomeAtHome (l : Launch) (g : wG) (H : Heap) (a : Nat) (LH LT pf : Nat → Int) (nb : Nat) (bo : Nat → Nat → Int) (hp : PersAt g H a LH LT pf nb bo) : Pur l g H yX2_incomeAtHome wsX2_incomeAtHome 3 64 [.ref a] (.int (wI (ahS pf nb bo))) := by
  refine Pur.of (cc := cX2_incomeAtHome) (maxL := 4) (ret := some .int) (by decide) rfl (Nat.le_of_ble_eq_true rfl) ?_
  intro p e s m args below meth c X hE hr hk ls hl
  have hl : lv_has ls 4 [(0, .ref a)] := hl
  have hin_RX2 : ∀ w ∈ u_ws RX2 TX2 8, w ∈ wsX2_incomeAtHome := by decide +kernel
  have hin_RX0 : ∀ w ∈ u_ws RX0 TX0 3, w ∈ wsX2_incomeAtHome := by decide +kernel
  obtain ⟨⟨hG, hLH, hLT⟩, h, t, bl, e9, mc, f, hO, hOh, hOt, hOb, hRA, hB⟩ := id hp
  obtain ⟨⟨b1, b2⟩, ⟨b3, b4, b5⟩, ⟨b6, b7⟩, ⟨b8, b9⟩, b10, -⟩ := id hG
  have loop : ∀ (r b : Nat), b + r = nb → ∀ ls : Array Slot, lv_has ls 4 [(2, .int (wI ((b : Int)))), (1, .int (wI ((12 - monS pf) * pf 2 + sumB (fun b => bo b 0 - parS pf (bo b)) b))), (0, .ref a)] → W p l e { frames := 3, cells := 0, slots := 0, locals := 64 } s m args below meth c H [] 0 0 (MQ below (PQ H (.int (wI (ahS pf nb bo)))) args s 0 0 (fun _ => False)) (F0 m 15 ls []) := by
    intro r
    induction r with
    | zero =>
      intro b hb ls hl
      refine w_iload_n X dX2_incomeAtHome_15 hl 0 rfl rfl ?_
      refine w_aload_n X dX2_incomeAtHome_16 hl 2 rfl rfl ?_
      refine w_get X hE hO 2 dX2_incomeAtHome_17 rfl hin_RX2 (by decide) (by decide +kernel) rfl rfl ?_
      refine w_callF (v := .int (wI ((nb : Int)))) 0 X hE (c_Jx4a65c_size_8abf5 l g H bl mc e9 (nb : Int) hOb) hOb hl dX2_incomeAtHome_20 gX2_incomeAtHome_Jx4a65c_size_8abf5_f61Jx4a65c ew_size rfl rfl (by decide +kernel) ⟨(Nat.le_of_ble_eq_true rfl), (Nat.le_of_ble_eq_true rfl)⟩ rfl (Nat.le_of_ble_eq_true rfl) ⟨Nat.le_refl _, Nat.le_refl _⟩ ?_
      refine w_icmp_ge X 61 dX2_incomeAtHome_25 (by decide) (by omega) (by omega) (fun c_1 => ?_) (fun c_1 => ?_)
      · skip
        refine w_iload_n X dX2_incomeAtHome_61 hl 1 rfl rfl ?_
        exact w_iret X hr hk dX2_incomeAtHome_62 (by rw [show b = nb by omega]; rfl)
      · skip
        exact absurd c_1 (by omega)
    | succ r ih =>
      intro b hb ls hl
      obtain ⟨q, hq1, hq2⟩ := hB b (by omega)
      have hq1 : f ((b : Int)).toNat = some q := by rw [show ((b : Int)).toNat = b by omega]; exact hq1
      refine w_iload_n X dX2_incomeAtHome_15 hl 0 rfl rfl ?_
      refine w_aload_n X dX2_incomeAtHome_16 hl 2 rfl rfl ?_
      refine w_get X hE hO 2 dX2_incomeAtHome_17 rfl hin_RX2 (by decide) (by decide +kernel) rfl rfl ?_
      refine w_callF (v := .int (wI ((nb : Int)))) 0 X hE (c_Jx4a65c_size_8abf5 l g H bl mc e9 (nb : Int) hOb) hOb hl dX2_incomeAtHome_20 gX2_incomeAtHome_Jx4a65c_size_8abf5_f61Jx4a65c ew_size rfl rfl (by decide +kernel) ⟨(Nat.le_of_ble_eq_true rfl), (Nat.le_of_ble_eq_true rfl)⟩ rfl (Nat.le_of_ble_eq_true rfl) ⟨Nat.le_refl _, Nat.le_refl _⟩ ?_
      refine w_icmp_ge X 61 dX2_incomeAtHome_25 (by decide) (by omega) (by omega) (fun c_1 => ?_) (fun c_1 => ?_)
      · skip
        exact absurd c_1 (by omega)
      · skip
        refine w_aload_n X dX2_incomeAtHome_28 hl 2 rfl rfl ?_
        refine w_get X hE hO 2 dX2_incomeAtHome_29 rfl hin_RX2 (by decide) (by decide +kernel) rfl rfl ?_
        refine w_iload_n X dX2_incomeAtHome_32 hl 0 rfl rfl ?_
        refine w_callF (v := .ref q) 1 X hE (c_Jx4a65c_get_915e3 l g H bl mc e9 (nb : Int) hOb 10 f (hRA (by omega)) (b : Int) q (by omega) (by omega) (by omega) (by omega) hq1) hOb hl dX2_incomeAtHome_33 gX2_incomeAtHome_Jx4a65c_get_915e3_f67Jx4a65c ew_get rfl rfl (by decide +kernel) ⟨(Nat.le_of_ble_eq_true rfl), (Nat.le_of_ble_eq_true rfl)⟩ rfl (Nat.le_of_ble_eq_true rfl) ⟨Nat.le_refl _, Nat.le_refl _⟩ ?_
        refine w_cast X hE hq2 dX2_incomeAtHome_38 rfl (by decide +kernel) ?_
        refine w_astore_n X [(3, .ref q), (2, .int (wI ((b : Int)))), (1, .int (wI ((12 - monS pf) * pf 2 + sumB (fun b => bo b 0 - parS pf (bo b)) b))), (0, .ref a)] dX2_incomeAtHome_41 hl rfl (by decide) rfl fun ls hl => ?_
        refine w_iload_n X dX2_incomeAtHome_42 hl 2 rfl rfl ?_
        refine w_aload_n X dX2_incomeAtHome_43 hl 0 rfl rfl ?_
        refine w_getN X hE hq2 0 dX2_incomeAtHome_44 rfl hin_RX0 (by decide) (by decide +kernel) rfl rfl ?_
        refine w_aload_n X dX2_incomeAtHome_47 hl 3 rfl rfl ?_
        refine w_aload_n X dX2_incomeAtHome_48 hl 0 rfl rfl ?_
        refine w_callV (v := .int (wI (parS pf (bo b)))) 1 X hE (c_X2_partAbroad l g H a LH LT pf nb bo hp q (bo b) (hG.2.2.2.2.2 b (by omega)) hq2) hO hl dX2_incomeAtHome_49 gX2_incomeAtHome_X2_partAbroad rfl rfl (by decide +kernel) ⟨(Nat.le_of_ble_eq_true rfl), (Nat.le_of_ble_eq_true rfl)⟩ rfl rfl (Nat.le_of_ble_eq_true rfl) ⟨Nat.le_refl _, Nat.le_refl _⟩ ?_
        refine w_isub X dX2_incomeAtHome_52 fun z_2 ez_2 => ?_
        refine w_iadd X dX2_incomeAtHome_53 fun z_3 ez_3 => ?_
        refine w_istore_n X [(1, .int (wI (z_3))), (3, .ref q), (2, .int (wI ((b : Int)))), (0, .ref a)] dX2_incomeAtHome_54 hl rfl (by decide) rfl fun ls hl => ?_
        refine w_iinc X (fun z_4 => [(2, .int (wI (z_4))), (1, .int (wI (z_3))), (3, .ref q), (0, .ref a)]) dX2_incomeAtHome_55 hl 2 rfl (by decide) (fun _ => rfl) fun z_4 ez_4 ls hl => ?_
        refine w_goto X 15 dX2_incomeAtHome_58 (by decide) ?_
        have eb : z_4 = ((b + 1 : Nat) : Int) := by omega
        have ea : z_3 = (12 - monS pf) * pf 2 + sumB (fun b => bo b 0 - parS pf (bo b)) (b + 1) := by
          show _ = (12 - monS pf) * pf 2 + (sumB (fun b => bo b 0 - parS pf (bo b)) b + (bo b 0 - parS pf (bo b)))
          omega
        rw [eb, ea] at hl
        exact ih (b + 1) (by omega) ls (lv_sub hl [0, 1, 3] rfl)
  refine w_bipush X dX2_incomeAtHome_0 (by decide) ?_
  refine w_aload_n X dX2_incomeAtHome_2 hl 0 rfl rfl ?_
  refine w_callV (v := .int (wI (monS pf))) 0 X hE (c_X2_monthsAbroad l g H a LH LT pf nb bo hp) hO hl dX2_incomeAtHome_3 gX2_incomeAtHome_X2_monthsAbroad rfl rfl (by decide +kernel) ⟨(Nat.le_of_ble_eq_true rfl), (Nat.le_of_ble_eq_true rfl)⟩ rfl rfl (Nat.le_of_ble_eq_true rfl) ⟨Nat.le_refl _, Nat.le_refl _⟩ ?_
  have qm := mon_bd hG
  refine w_isub X dX2_incomeAtHome_6 fun z_1 ez_1 => ?_
  refine w_aload_n X dX2_incomeAtHome_7 hl 0 rfl rfl ?_
  refine w_get X hE hO 3 dX2_incomeAtHome_8 rfl hin_RX2 (by decide) (by decide +kernel) rfl rfl ?_
  refine w_imul X dX2_incomeAtHome_11 fun z_2 ez_2 => ?_
  have qs : z_2 = (12 - monS pf) * pf 2 := by rw [ez_2, ez_1]
  refine w_istore_n X [(1, .int (wI (z_2))), (0, .ref a)] dX2_incomeAtHome_12 hl rfl (by decide) rfl fun ls hl => ?_
  refine w_iconst X dX2_incomeAtHome_13 ?_
  refine w_istore_n X [(2, .int (wI (0))), (1, .int (wI (z_2))), (0, .ref a)] dX2_incomeAtHome_14 hl rfl (by decide) rfl fun ls hl => ?_
  have ea : z_2 = (12 - monS pf) * pf 2 + sumB (fun b => bo b 0 - parS pf (bo b)) 0 := by
    show _ = (12 - monS pf) * pf 2 + 0
    omega
  rw [ea] at hl
  exact loop nb 0 (by omega) ls (lv_sub hl [0, 1, 2] rfl)

set_option maxHeartbeats 4000000 in
set_option maxRecDepth 100000 in
theorem c_X2_taxAtHome (l : Launch) (g : wG) (H : Heap) (a : Nat) (LH LT pf : Nat → Int) (nb : Nat) (bo : Nat → Nat → Int) (hp : PersAt g H a LH LT pf nb bo) : Pur l g H yX2_taxAtHome wsX2_taxAtHome 4 87 [.ref a] (.int (wI (tahS LH pf nb bo))) := by
  refine Pur.of (cc := cX2_taxAtHome) (maxL := 2) (ret := (some .int)) (by decide) rfl (Nat.le_of_ble_eq_true rfl) ?_
  intro p9 e s m args below meth c X hE hr hk ls hl
  have hl : lv_has ls 2 [(0, .ref a)] := hl
  have hin_RX2 : ∀ w ∈ u_ws RX2 TX2 8, w ∈ wsX2_taxAtHome := by decide +kernel
  obtain ⟨⟨hG, hLH, hLT⟩, h, t, bl, e9, mc, f, hO, hOh, hOt, hOb, hRA, hB⟩ := id hp
  obtain ⟨⟨b1, b2⟩, ⟨b3, b4, b5⟩, ⟨b6, b7⟩, ⟨b8, b9⟩, b10, -⟩ := id hG
  refine w_aload_n X dX2_taxAtHome_0 hl 0 rfl rfl ?_
  refine w_callV (v := .int (wI (wholeS pf nb bo))) 0 X hE (c_X2_wholeIncome l g H a LH LT pf nb bo hp) hO hl dX2_taxAtHome_1 gX2_taxAtHome_X2_wholeIncome rfl rfl (by decide +kernel) ⟨(Nat.le_of_ble_eq_true rfl), (Nat.le_of_ble_eq_true rfl)⟩ rfl rfl (Nat.le_of_ble_eq_true rfl) ⟨Nat.le_refl _, Nat.le_refl _⟩ ?_
  have qw := whole_bd hG
  refine w_istore_n X [(1, .int (wI (wholeS pf nb bo))), (0, .ref a)] dX2_taxAtHome_4 hl rfl (by decide) rfl fun ls hl => ?_
  refine w_iload_n X dX2_taxAtHome_5 hl 0 rfl rfl ?_
  refine w_if_gt X 11 dX2_taxAtHome_6 (by decide) (by omega) (fun c_1 => ?_) (fun c_1 => ?_)
  · skip
    refine w_aload_n X dX2_taxAtHome_11 hl 1 rfl rfl ?_
    refine w_get X hE hO 0 dX2_taxAtHome_12 rfl hin_RX2 (by decide) (by decide +kernel) rfl rfl ?_
    refine w_iload_n X dX2_taxAtHome_15 hl 0 rfl rfl ?_
    refine w_callV (v := .int (wI (taxS LH (wholeS pf nb bo)))) 1 X hE (c_X1_taxOf l g H h LH hLH hOh (wholeS pf nb bo) (by omega)) hOh hl dX2_taxAtHome_16 gX2_taxAtHome_X1_taxOf rfl rfl (by decide +kernel) ⟨(Nat.le_of_ble_eq_true rfl), (Nat.le_of_ble_eq_true rfl)⟩ rfl rfl (Nat.le_of_ble_eq_true rfl) ⟨Nat.le_refl _, Nat.le_refl _⟩ ?_
    have qsu := sup_bd hLH hG
    have qe : supS LH pf nb bo = taxS LH (wholeS pf nb bo) := rfl
    refine w_i2l X dX2_taxAtHome_19 (by omega) ?_
    refine w_aload_n X dX2_taxAtHome_20 hl 1 rfl rfl ?_
    refine w_callV (v := .int (wI (ahS pf nb bo))) 0 X hE (c_X2_incomeAtHome l g H a LH LT pf nb bo hp) hO hl dX2_taxAtHome_21 gX2_taxAtHome_X2_incomeAtHome rfl rfl (by decide +kernel) ⟨(Nat.le_of_ble_eq_true rfl), (Nat.le_of_ble_eq_true rfl)⟩ rfl rfl (Nat.le_of_ble_eq_true rfl) ⟨Nat.le_refl _, Nat.le_refl _⟩ ?_
    have qa := ah_bd hG
    have qsa := sah_bd hLH hG
    refine w_i2l X dX2_taxAtHome_24 (by omega) ?_
    refine w_lmul X dX2_taxAtHome_25 fun z_2 ez_2 => ?_
    refine w_iload_n X dX2_taxAtHome_26 hl 0 rfl rfl ?_
    refine w_i2l X dX2_taxAtHome_27 (by omega) ?_
    have qz : z_2 = supS LH pf nb bo * ahS pf nb bo := by rw [ez_2]; rfl
    refine w_ldiv X dX2_taxAtHome_28 (by omega) (by omega) fun z_3 ez_3 => ?_
    refine w_l2i X dX2_taxAtHome_29 ?_
    exact w_iret X hr hk dX2_taxAtHome_30 (by unfold tahS; rw [if_neg (by omega), ez_3, qz])
  · skip
    refine w_iconst X dX2_taxAtHome_9 ?_
    exact w_iret X hr hk dX2_taxAtHome_10 (by unfold tahS; rw [if_pos (by omega)])

set_option maxHeartbeats 4000000 in
set_option maxRecDepth 100000 in
theorem c_X2_incomeAtHost (l : Launch) (g : wG) (H : Heap) (a : Nat) (LH LT pf : Nat → Int) (nb : Nat) (bo : Nat → Nat → Int) (hp : PersAt g H a LH LT pf nb bo) : Pur l g H yX2_incomeAtHost wsX2_incomeAtHost 3 64 [.ref a] (.int (wI (aosS pf nb bo))) := by
  refine Pur.of (cc := cX2_incomeAtHost) (maxL := 3) (ret := some .int) (by decide) rfl (Nat.le_of_ble_eq_true rfl) ?_
  intro p e s m args below meth c X hE hr hk ls hl
  have hl : lv_has ls 3 [(0, .ref a)] := hl
  have hin_RX2 : ∀ w ∈ u_ws RX2 TX2 8, w ∈ wsX2_incomeAtHost := by decide +kernel
  obtain ⟨⟨hG, hLH, hLT⟩, h, t, bl, e9, mc, f, hO, hOh, hOt, hOb, hRA, hB⟩ := id hp
  obtain ⟨⟨b1, b2⟩, ⟨b3, b4, b5⟩, ⟨b6, b7⟩, ⟨b8, b9⟩, b10, -⟩ := id hG
  have loop : ∀ (r b : Nat), b + r = nb → ∀ ls : Array Slot, lv_has ls 3 [(2, .int (wI ((b : Int)))), (1, .int (wI ((monS pf * pf 2 + houS pf) + sumB (fun b => parS pf (bo b)) b))), (0, .ref a)] → W p l e { frames := 3, cells := 0, slots := 0, locals := 64 } s m args below meth c H [] 0 0 (MQ below (PQ H (.int (wI (aosS pf nb bo)))) args s 0 0 (fun _ => False)) (F0 m 17 ls []) := by
    intro r
    induction r with
    | zero =>
      intro b hb ls hl
      refine w_iload_n X dX2_incomeAtHost_17 hl 0 rfl rfl ?_
      refine w_aload_n X dX2_incomeAtHost_18 hl 2 rfl rfl ?_
      refine w_get X hE hO 2 dX2_incomeAtHost_19 rfl hin_RX2 (by decide) (by decide +kernel) rfl rfl ?_
      refine w_callF (v := .int (wI ((nb : Int)))) 0 X hE (c_Jx4a65c_size_8abf5 l g H bl mc e9 (nb : Int) hOb) hOb hl dX2_incomeAtHost_22 gX2_incomeAtHost_Jx4a65c_size_8abf5_f61Jx4a65c ew_size rfl rfl (by decide +kernel) ⟨(Nat.le_of_ble_eq_true rfl), (Nat.le_of_ble_eq_true rfl)⟩ rfl (Nat.le_of_ble_eq_true rfl) ⟨Nat.le_refl _, Nat.le_refl _⟩ ?_
      refine w_icmp_ge X 56 dX2_incomeAtHost_27 (by decide) (by omega) (by omega) (fun c_1 => ?_) (fun c_1 => ?_)
      · skip
        refine w_iload_n X dX2_incomeAtHost_56 hl 1 rfl rfl ?_
        exact w_iret X hr hk dX2_incomeAtHost_57 (by rw [show b = nb by omega]; rfl)
      · skip
        exact absurd c_1 (by omega)
    | succ r ih =>
      intro b hb ls hl
      obtain ⟨q, hq1, hq2⟩ := hB b (by omega)
      have hq1 : f ((b : Int)).toNat = some q := by rw [show ((b : Int)).toNat = b by omega]; exact hq1
      refine w_iload_n X dX2_incomeAtHost_17 hl 0 rfl rfl ?_
      refine w_aload_n X dX2_incomeAtHost_18 hl 2 rfl rfl ?_
      refine w_get X hE hO 2 dX2_incomeAtHost_19 rfl hin_RX2 (by decide) (by decide +kernel) rfl rfl ?_
      refine w_callF (v := .int (wI ((nb : Int)))) 0 X hE (c_Jx4a65c_size_8abf5 l g H bl mc e9 (nb : Int) hOb) hOb hl dX2_incomeAtHost_22 gX2_incomeAtHost_Jx4a65c_size_8abf5_f61Jx4a65c ew_size rfl rfl (by decide +kernel) ⟨(Nat.le_of_ble_eq_true rfl), (Nat.le_of_ble_eq_true rfl)⟩ rfl (Nat.le_of_ble_eq_true rfl) ⟨Nat.le_refl _, Nat.le_refl _⟩ ?_
      refine w_icmp_ge X 56 dX2_incomeAtHost_27 (by decide) (by omega) (by omega) (fun c_1 => ?_) (fun c_1 => ?_)
      · skip
        exact absurd c_1 (by omega)
      · skip
        refine w_iload_n X dX2_incomeAtHost_30 hl 1 rfl rfl ?_
        refine w_aload_n X dX2_incomeAtHost_31 hl 2 rfl rfl ?_
        refine w_aload_n X dX2_incomeAtHost_32 hl 2 rfl rfl ?_
        refine w_get X hE hO 2 dX2_incomeAtHost_33 rfl hin_RX2 (by decide) (by decide +kernel) rfl rfl ?_
        refine w_iload_n X dX2_incomeAtHost_36 hl 0 rfl rfl ?_
        refine w_callF (v := .ref q) 1 X hE (c_Jx4a65c_get_915e3 l g H bl mc e9 (nb : Int) hOb 10 f (hRA (by omega)) (b : Int) q (by omega) (by omega) (by omega) (by omega) hq1) hOb hl dX2_incomeAtHost_37 gX2_incomeAtHost_Jx4a65c_get_915e3_f67Jx4a65c ew_get rfl rfl (by decide +kernel) ⟨(Nat.le_of_ble_eq_true rfl), (Nat.le_of_ble_eq_true rfl)⟩ rfl (Nat.le_of_ble_eq_true rfl) ⟨Nat.le_refl _, Nat.le_refl _⟩ ?_
        refine w_cast X hE hq2 dX2_incomeAtHost_42 rfl (by decide +kernel) ?_
        refine w_callV (v := .int (wI (parS pf (bo b)))) 1 X hE (c_X2_partAbroad l g H a LH LT pf nb bo hp q (bo b) (hG.2.2.2.2.2 b (by omega)) hq2) hO hl dX2_incomeAtHost_45 gX2_incomeAtHost_X2_partAbroad rfl rfl (by decide +kernel) ⟨(Nat.le_of_ble_eq_true rfl), (Nat.le_of_ble_eq_true rfl)⟩ rfl rfl (Nat.le_of_ble_eq_true rfl) ⟨Nat.le_refl _, Nat.le_refl _⟩ ?_
        refine w_iadd X dX2_incomeAtHost_48 fun z_2 ez_2 => ?_
        refine w_istore_n X [(1, .int (wI (z_2))), (2, .int (wI ((b : Int)))), (0, .ref a)] dX2_incomeAtHost_49 hl rfl (by decide) rfl fun ls hl => ?_
        refine w_iinc X (fun z_3 => [(2, .int (wI (z_3))), (1, .int (wI (z_2))), (0, .ref a)]) dX2_incomeAtHost_50 hl 1 rfl (by decide) (fun _ => rfl) fun z_3 ez_3 ls hl => ?_
        refine w_goto X 17 dX2_incomeAtHost_53 (by decide) ?_
        have eb : z_3 = ((b + 1 : Nat) : Int) := by omega
        have ea : z_2 = (monS pf * pf 2 + houS pf) + sumB (fun b => parS pf (bo b)) (b + 1) := by
          show _ = (monS pf * pf 2 + houS pf) + (sumB (fun b => parS pf (bo b)) b + (parS pf (bo b)))
          omega
        rw [eb, ea] at hl
        exact ih (b + 1) (by omega) ls (lv_sub hl [0, 1, 2] rfl)
  refine w_aload_n X dX2_incomeAtHost_0 hl 0 rfl rfl ?_
  refine w_callV (v := .int (wI (monS pf))) 0 X hE (c_X2_monthsAbroad l g H a LH LT pf nb bo hp) hO hl dX2_incomeAtHost_1 gX2_incomeAtHost_X2_monthsAbroad rfl rfl (by decide +kernel) ⟨(Nat.le_of_ble_eq_true rfl), (Nat.le_of_ble_eq_true rfl)⟩ rfl rfl (Nat.le_of_ble_eq_true rfl) ⟨Nat.le_refl _, Nat.le_refl _⟩ ?_
  have qm := mon_bd hG
  refine w_aload_n X dX2_incomeAtHost_4 hl 0 rfl rfl ?_
  refine w_get X hE hO 3 dX2_incomeAtHost_5 rfl hin_RX2 (by decide) (by decide +kernel) rfl rfl ?_
  refine w_imul X dX2_incomeAtHost_8 fun z_1 ez_1 => ?_
  refine w_aload_n X dX2_incomeAtHost_9 hl 0 rfl rfl ?_
  refine w_callV (v := .int (wI (houS pf))) 0 X hE (c_X2_housingInYear l g H a LH LT pf nb bo hp) hO hl dX2_incomeAtHost_10 gX2_incomeAtHost_X2_housingInYear rfl rfl (by decide +kernel) ⟨(Nat.le_of_ble_eq_true rfl), (Nat.le_of_ble_eq_true rfl)⟩ rfl rfl (Nat.le_of_ble_eq_true rfl) ⟨Nat.le_refl _, Nat.le_refl _⟩ ?_
  have qu := hou_bd hG
  refine w_iadd X dX2_incomeAtHost_13 fun z_2 ez_2 => ?_
  have qs : z_2 = monS pf * pf 2 + houS pf := by omega
  refine w_istore_n X [(1, .int (wI (z_2))), (0, .ref a)] dX2_incomeAtHost_14 hl rfl (by decide) rfl fun ls hl => ?_
  refine w_iconst X dX2_incomeAtHost_15 ?_
  refine w_istore_n X [(2, .int (wI (0))), (1, .int (wI (z_2))), (0, .ref a)] dX2_incomeAtHost_16 hl rfl (by decide) rfl fun ls hl => ?_
  have ea : z_2 = (monS pf * pf 2 + houS pf) + sumB (fun b => parS pf (bo b)) 0 := by
    show _ = (monS pf * pf 2 + houS pf) + 0
    omega
  rw [ea] at hl
  exact loop nb 0 (by omega) ls (lv_sub hl [0, 1, 2] rfl)

set_option maxHeartbeats 4000000 in
set_option maxRecDepth 100000 in
theorem c_X2_taxAtHost (l : Launch) (g : wG) (H : Heap) (a : Nat) (LH LT pf : Nat → Int) (nb : Nat) (bo : Nat → Nat → Int) (hp : PersAt g H a LH LT pf nb bo) : Pur l g H yX2_taxAtHost wsX2_taxAtHost 4 86 [.ref a] (.int (wI (taoS LT pf nb bo))) := by
  refine Pur.of (cc := cX2_taxAtHost) (maxL := 1) (ret := (some .int)) (by decide) rfl (Nat.le_of_ble_eq_true rfl) ?_
  intro p9 e s m args below meth c X hE hr hk ls hl
  have hl : lv_has ls 1 [(0, .ref a)] := hl
  have hin_RX2 : ∀ w ∈ u_ws RX2 TX2 8, w ∈ wsX2_taxAtHost := by decide +kernel
  obtain ⟨⟨hG, hLH, hLT⟩, h, t, bl, e9, mc, f, hO, hOh, hOt, hOb, hRA, hB⟩ := id hp
  obtain ⟨⟨b1, b2⟩, ⟨b3, b4, b5⟩, ⟨b6, b7⟩, ⟨b8, b9⟩, b10, -⟩ := id hG
  refine w_aload_n X dX2_taxAtHost_0 hl 0 rfl rfl ?_
  refine w_get X hE hO 1 dX2_taxAtHost_1 rfl hin_RX2 (by decide) (by decide +kernel) rfl rfl ?_
  refine w_aload_n X dX2_taxAtHost_4 hl 0 rfl rfl ?_
  refine w_callV (v := .int (wI (aosS pf nb bo))) 0 X hE (c_X2_incomeAtHost l g H a LH LT pf nb bo hp) hO hl dX2_taxAtHost_5 gX2_taxAtHost_X2_incomeAtHost rfl rfl (by decide +kernel) ⟨(Nat.le_of_ble_eq_true rfl), (Nat.le_of_ble_eq_true rfl)⟩ rfl rfl (Nat.le_of_ble_eq_true rfl) ⟨Nat.le_refl _, Nat.le_refl _⟩ ?_
  have qx := aos_bd hG
  refine w_callV (v := .int (wI (grossS LT (aosS pf nb bo)))) 1 X hE (c_X1_grossTaxOf l g H t LT hLT hOt (aosS pf nb bo) (by omega)) hOt hl dX2_taxAtHost_8 gX2_taxAtHost_X1_grossTaxOf rfl rfl (by decide +kernel) ⟨(Nat.le_of_ble_eq_true rfl), (Nat.le_of_ble_eq_true rfl)⟩ rfl rfl (Nat.le_of_ble_eq_true rfl) ⟨Nat.le_refl _, Nat.le_refl _⟩ ?_
  exact w_iret X hr hk dX2_taxAtHost_11 rfl

set_option maxHeartbeats 4000000 in
set_option maxRecDepth 100000 in
theorem c_X2_borneInYear (l : Launch) (g : wG) (H : Heap) (a : Nat) (LH LT pf : Nat → Int) (nb : Nat) (bo : Nat → Nat → Int) (hp : PersAt g H a LH LT pf nb bo) : Pur l g H yX2_borneInYear wsX2_borneInYear 5 108 [.ref a] (.int (wI (borS LH pf nb bo))) := by
  refine Pur.of (cc := cX2_borneInYear) (maxL := 1) (ret := (some .int)) (by decide) rfl (Nat.le_of_ble_eq_true rfl) ?_
  intro p9 e s m args below meth c X hE hr hk ls hl
  have hl : lv_has ls 1 [(0, .ref a)] := hl
  obtain ⟨⟨hG, hLH, hLT⟩, h, t, bl, e9, mc, f, hO, hOh, hOt, hOb, hRA, hB⟩ := id hp
  obtain ⟨⟨b1, b2⟩, ⟨b3, b4, b5⟩, ⟨b6, b7⟩, ⟨b8, b9⟩, b10, -⟩ := id hG
  refine w_aload_n X dX2_borneInYear_0 hl 0 rfl rfl ?_
  refine w_callV (v := .int (wI (hyS LH pf))) 0 X hE (c_X2_heldInYear l g H a LH LT pf nb bo hp) hO hl dX2_borneInYear_1 gX2_borneInYear_X2_heldInYear rfl rfl (by decide +kernel) ⟨(Nat.le_of_ble_eq_true rfl), (Nat.le_of_ble_eq_true rfl)⟩ rfl rfl (Nat.le_of_ble_eq_true rfl) ⟨Nat.le_refl _, Nat.le_refl _⟩ ?_
  refine w_aload_n X dX2_borneInYear_4 hl 0 rfl rfl ?_
  refine w_callV (v := .int (wI (tahS LH pf nb bo))) 0 X hE (c_X2_taxAtHome l g H a LH LT pf nb bo hp) hO hl dX2_borneInYear_5 gX2_borneInYear_X2_taxAtHome rfl rfl (by decide +kernel) ⟨(Nat.le_of_ble_eq_true rfl), (Nat.le_of_ble_eq_true rfl)⟩ rfl rfl (Nat.le_of_ble_eq_true rfl) ⟨Nat.le_refl _, Nat.le_refl _⟩ ?_
  refine w_iadd X dX2_borneInYear_8 fun z_1 ez_1 => ?_
  exact w_iret X hr hk dX2_borneInYear_9 (by unfold borS; omega)

set_option maxHeartbeats 4000000 in
set_option maxRecDepth 100000 in
theorem c_X2_settlementOfYear (l : Launch) (g : wG) (H : Heap) (a : Nat) (LH LT pf : Nat → Int) (nb : Nat) (bo : Nat → Nat → Int) (hp : PersAt g H a LH LT pf nb bo) : Pur l g H yX2_settlementOfYear wsX2_settlementOfYear 6 128 [.ref a] (.int (wI (setS LH pf nb bo))) := by
  refine Pur.of (cc := cX2_settlementOfYear) (maxL := 1) (ret := (some .int)) (by decide) rfl (Nat.le_of_ble_eq_true rfl) ?_
  intro p9 e s m args below meth c X hE hr hk ls hl
  have hl : lv_has ls 1 [(0, .ref a)] := hl
  obtain ⟨⟨hG, hLH, hLT⟩, h, t, bl, e9, mc, f, hO, hOh, hOt, hOb, hRA, hB⟩ := id hp
  obtain ⟨⟨b1, b2⟩, ⟨b3, b4, b5⟩, ⟨b6, b7⟩, ⟨b8, b9⟩, b10, -⟩ := id hG
  refine w_aload_n X dX2_settlementOfYear_0 hl 0 rfl rfl ?_
  refine w_callV (v := .int (wI (supS LH pf nb bo))) 0 X hE (c_X2_supposedTaxOfYear l g H a LH LT pf nb bo hp) hO hl dX2_settlementOfYear_1 gX2_settlementOfYear_X2_supposedTaxOfYear rfl rfl (by decide +kernel) ⟨(Nat.le_of_ble_eq_true rfl), (Nat.le_of_ble_eq_true rfl)⟩ rfl rfl (Nat.le_of_ble_eq_true rfl) ⟨Nat.le_refl _, Nat.le_refl _⟩ ?_
  refine w_aload_n X dX2_settlementOfYear_4 hl 0 rfl rfl ?_
  refine w_callV (v := .int (wI (borS LH pf nb bo))) 0 X hE (c_X2_borneInYear l g H a LH LT pf nb bo hp) hO hl dX2_settlementOfYear_5 gX2_settlementOfYear_X2_borneInYear rfl rfl (by decide +kernel) ⟨(Nat.le_of_ble_eq_true rfl), (Nat.le_of_ble_eq_true rfl)⟩ rfl rfl (Nat.le_of_ble_eq_true rfl) ⟨Nat.le_refl _, Nat.le_refl _⟩ ?_
  refine w_isub X dX2_settlementOfYear_8 fun z_1 ez_1 => ?_
  exact w_iret X hr hk dX2_settlementOfYear_9 (by unfold setS; omega)

set_option maxHeartbeats 4000000 in
set_option maxRecDepth 100000 in
theorem c_X2_costOfYear (l : Launch) (g : wG) (H : Heap) (a : Nat) (LH LT pf : Nat → Int) (nb : Nat) (bo : Nat → Nat → Int) (hp : PersAt g H a LH LT pf nb bo) : Pur l g H yX2_costOfYear wsX2_costOfYear 7 148 [.ref a] (.int (wI (cosS LH LT pf nb bo))) := by
  refine Pur.of (cc := cX2_costOfYear) (maxL := 1) (ret := (some .int)) (by decide) rfl (Nat.le_of_ble_eq_true rfl) ?_
  intro p9 e s m args below meth c X hE hr hk ls hl
  have hl : lv_has ls 1 [(0, .ref a)] := hl
  obtain ⟨⟨hG, hLH, hLT⟩, h, t, bl, e9, mc, f, hO, hOh, hOt, hOb, hRA, hB⟩ := id hp
  obtain ⟨⟨b1, b2⟩, ⟨b3, b4, b5⟩, ⟨b6, b7⟩, ⟨b8, b9⟩, b10, -⟩ := id hG
  refine w_aload_n X dX2_costOfYear_0 hl 0 rfl rfl ?_
  refine w_callV (v := .int (wI (taoS LT pf nb bo))) 0 X hE (c_X2_taxAtHost l g H a LH LT pf nb bo hp) hO hl dX2_costOfYear_1 gX2_costOfYear_X2_taxAtHost rfl rfl (by decide +kernel) ⟨(Nat.le_of_ble_eq_true rfl), (Nat.le_of_ble_eq_true rfl)⟩ rfl rfl (Nat.le_of_ble_eq_true rfl) ⟨Nat.le_refl _, Nat.le_refl _⟩ ?_
  refine w_aload_n X dX2_costOfYear_4 hl 0 rfl rfl ?_
  refine w_callV (v := .int (wI (houS pf))) 0 X hE (c_X2_housingInYear l g H a LH LT pf nb bo hp) hO hl dX2_costOfYear_5 gX2_costOfYear_X2_housingInYear rfl rfl (by decide +kernel) ⟨(Nat.le_of_ble_eq_true rfl), (Nat.le_of_ble_eq_true rfl)⟩ rfl rfl (Nat.le_of_ble_eq_true rfl) ⟨Nat.le_refl _, Nat.le_refl _⟩ ?_
  have qu := hou_bd hG
  refine w_iadd X dX2_costOfYear_8 fun z_1 ez_1 => ?_
  refine w_aload_n X dX2_costOfYear_9 hl 0 rfl rfl ?_
  refine w_callV (v := .int (wI (hyS LH pf))) 0 X hE (c_X2_heldInYear l g H a LH LT pf nb bo hp) hO hl dX2_costOfYear_10 gX2_costOfYear_X2_heldInYear rfl rfl (by decide +kernel) ⟨(Nat.le_of_ble_eq_true rfl), (Nat.le_of_ble_eq_true rfl)⟩ rfl rfl (Nat.le_of_ble_eq_true rfl) ⟨Nat.le_refl _, Nat.le_refl _⟩ ?_
  refine w_isub X dX2_costOfYear_13 fun z_2 ez_2 => ?_
  refine w_aload_n X dX2_costOfYear_14 hl 0 rfl rfl ?_
  refine w_callV (v := .int (wI (setS LH pf nb bo))) 0 X hE (c_X2_settlementOfYear l g H a LH LT pf nb bo hp) hO hl dX2_costOfYear_15 gX2_costOfYear_X2_settlementOfYear rfl rfl (by decide +kernel) ⟨(Nat.le_of_ble_eq_true rfl), (Nat.le_of_ble_eq_true rfl)⟩ rfl rfl (Nat.le_of_ble_eq_true rfl) ⟨Nat.le_refl _, Nat.le_refl _⟩ ?_
  refine w_isub X dX2_costOfYear_18 fun z_3 ez_3 => ?_
  exact w_iret X hr hk dX2_costOfYear_19 (by unfold cosS; omega)
