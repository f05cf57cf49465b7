/-! the object: people and bonuses added, the dearest, the object made -/

set_option maxHeartbeats 4000000 in
set_option maxRecDepth 100000 in
theorem c_X3_dearest (l : Launch) (g : wG) (H : Heap) (A : Nat → Prop) (x : Nat) (σ : St) (hσ : StGood σ) (hXv : XInv g A x σ H) : Pur l g H yX3_dearest wsX3_dearest 8 168 [.ref x] (.int (wI (dearS σ))) := by
  refine Pur.of (cc := cX3_dearest) (maxL := 5) (ret := some .int) (by decide) rfl (Nat.le_of_ble_eq_true rfl) ?_
  intro p e s m args below meth c X hE hr hk ls hl
  have hl : lv_has ls 5 [(0, .ref x)] := hl
  obtain ⟨al, el, mc, fl, Ld, P, hX⟩ := id hXv
  have hxO := hX.2.1.2
  obtain ⟨hs1, hs2, hs3, hs4⟩ := id hσ
  have hin_RX3 : ∀ w ∈ u_ws RX3 TX3 2, w ∈ wsX3_dearest := by decide +kernel
  have loop : ∀ (r i : Nat) (v most : Int), i + r = sn σ → IsBest σ i v → (0 ≤ v → most = cst σ v.toNat) → (-100000000 ≤ most ∧ most ≤ 100000000) → (-1 ≤ v ∧ v < 100) → ∀ ls : Array Slot, lv_has ls 5 [(3, .int (wI ((i : Int)))), (2, .int (wI (most))), (1, .int (wI (v))), (0, .ref x)] → W p l e { frames := 8, cells := 0, slots := 0, locals := 168 } s m args below meth c H [] 0 0 (MQ below (PQ H (.int (wI (dearS σ)))) args s 0 0 (fun _ => False)) (F0 m 6 ls []) := by
    intro r
    induction r with
    | zero =>
      intro i v most hr9 hB hm hmb hvb ls hl
      refine w_iload_n X dX3_dearest_6 hl 0 rfl rfl ?_
      refine w_aload_n X dX3_dearest_7 hl 3 rfl rfl ?_
      refine w_get X hE hxO 1 dX3_dearest_8 rfl hin_RX3 (by decide) (by decide +kernel) rfl rfl ?_
      refine w_callF (v := .int (wI ((sn σ : Int)))) 0 X hE (c_Jx4a65c_size_8abf5 l g H (al 1) (mc 1) (el 1) (sn σ : Int) hX.l1) hX.l1 hl dX3_dearest_11 gX3_dearest_Jx4a65c_size_8abf5_f63Jx4a65c ew_size rfl rfl (by decide +kernel) ⟨(Nat.le_of_ble_eq_true rfl), (Nat.le_of_ble_eq_true rfl)⟩ rfl (Nat.le_of_ble_eq_true rfl) ⟨Nat.le_refl _, Nat.le_refl _⟩ ?_
      refine w_icmp_ge X 58 dX3_dearest_16 (by decide) (by omega) (by omega) (fun c_1 => ?_) (fun c_1 => ?_)
      · skip
        refine w_iload_n X dX3_dearest_58 hl 2 rfl rfl ?_
        exact w_iret X hr hk dX3_dearest_59 (by rw [show i = sn σ by omega] at hB; exact (dearS_eq hB).symm)
      · skip
        exact absurd c_1 (by omega)
    | succ r ih =>
      intro i v most hr9 hB hm hmb hvb ls hl
      have hi : i < sn σ := by omega
      obtain ⟨hq1, hqA, hq2⟩ := hX.2.2.2.2.1 i hi
      have hq1 : fl 1 ((i : Int)).toNat = some (P i) := hq1
      have hpI := hX.pers hσ hi
      refine w_iload_n X dX3_dearest_6 hl 0 rfl rfl ?_
      refine w_aload_n X dX3_dearest_7 hl 3 rfl rfl ?_
      refine w_get X hE hxO 1 dX3_dearest_8 rfl hin_RX3 (by decide) (by decide +kernel) rfl rfl ?_
      refine w_callF (v := .int (wI ((sn σ : Int)))) 0 X hE (c_Jx4a65c_size_8abf5 l g H (al 1) (mc 1) (el 1) (sn σ : Int) hX.l1) hX.l1 hl dX3_dearest_11 gX3_dearest_Jx4a65c_size_8abf5_f63Jx4a65c ew_size rfl rfl (by decide +kernel) ⟨(Nat.le_of_ble_eq_true rfl), (Nat.le_of_ble_eq_true rfl)⟩ rfl (Nat.le_of_ble_eq_true rfl) ⟨Nat.le_refl _, Nat.le_refl _⟩ ?_
      refine w_icmp_ge X 58 dX3_dearest_16 (by decide) (by omega) (by omega) (fun c_1 => ?_) (fun c_1 => ?_)
      · skip
        exact absurd c_1 (by omega)
      · skip
        refine w_aload_n X dX3_dearest_19 hl 3 rfl rfl ?_
        refine w_get X hE hxO 1 dX3_dearest_20 rfl hin_RX3 (by decide) (by decide +kernel) rfl rfl ?_
        refine w_iload_n X dX3_dearest_23 hl 0 rfl rfl ?_
        refine w_callF (v := .ref (P i)) 1 X hE (c_Jx4a65c_get_915e3 l g H (al 1) (mc 1) (el 1) (sn σ : Int) hX.l1 10 (fl 1) (hX.r1 (by omega)) (i : Int) (P i) (by omega) (by omega) (by omega) (by omega) hq1) hX.l1 hl dX3_dearest_24 gX3_dearest_Jx4a65c_get_915e3_f119Jx4a65c ew_get rfl rfl (by decide +kernel) ⟨(Nat.le_of_ble_eq_true rfl), (Nat.le_of_ble_eq_true rfl)⟩ rfl (Nat.le_of_ble_eq_true rfl) ⟨Nat.le_refl _, Nat.le_refl _⟩ ?_
        refine w_cast X hE hq2 dX3_dearest_29 rfl (by decide +kernel) ?_
        refine w_callV (v := .int (wI (cst σ i))) 0 X hE (c_X2_costOfYear l g H (P i) (sH σ i) (sT σ i) (sp σ i) (sb σ i) (so σ i) hpI) hq2 hl dX3_dearest_32 gX3_dearest_X2_costOfYear rfl rfl (by decide +kernel) ⟨(Nat.le_of_ble_eq_true rfl), (Nat.le_of_ble_eq_true rfl)⟩ rfl rfl (Nat.le_of_ble_eq_true rfl) ⟨Nat.le_refl _, Nat.le_refl _⟩ ?_
        have qc : -100000000 ≤ cst σ i ∧ cst σ i ≤ 100000000 := cos_bd hpI.1.2.1 hpI.1.2.2 hpI.1.1
        refine w_istore X [(4, .int (wI (cst σ i))), (3, .int (wI ((i : Int)))), (2, .int (wI (most))), (1, .int (wI (v))), (0, .ref x)] dX3_dearest_35 hl (by decide) rfl fun ls hl => ?_
        refine w_iload_n X dX3_dearest_37 hl 3 rfl rfl ?_
        refine w_if_lt X 47 dX3_dearest_38 (by decide) (by omega) (fun c_2 => ?_) (fun c_2 => ?_)
        · skip
          refine w_iload_n X dX3_dearest_47 hl 1 rfl rfl ?_
          refine w_istore_n X [(1, .int (wI ((i : Int)))), (4, .int (wI (cst σ i))), (3, .int (wI ((i : Int)))), (2, .int (wI (most))), (0, .ref x)] dX3_dearest_48 hl rfl (by decide) rfl fun ls hl => ?_
          refine w_iload X dX3_dearest_49 hl 1 rfl ?_
          refine w_istore_n X [(2, .int (wI (cst σ i))), (1, .int (wI ((i : Int)))), (4, .int (wI (cst σ i))), (3, .int (wI ((i : Int)))), (0, .ref x)] dX3_dearest_51 hl rfl (by decide) rfl fun ls hl => ?_
          refine w_iinc X (fun z_3 => [(3, .int (wI (z_3))), (2, .int (wI (cst σ i))), (1, .int (wI ((i : Int)))), (4, .int (wI (cst σ i))), (0, .ref x)]) dX3_dearest_52 hl 3 rfl (by decide) (fun _ => rfl) fun z_3 ez_3 ls hl => ?_
          refine w_goto X 6 dX3_dearest_55 (by decide) ?_
          have eb : z_3 = ((i + 1 : Nat) : Int) := by omega
          rw [eb] at hl
          have hB1 : IsBest σ (i + 1) (i : Int) := hB.first (by rcases Int.lt_or_le v 0 with q | q; exact Or.inl q; (have := hm q; exact Or.inr (by omega)))
          exact ih (i + 1) (i : Int) (cst σ i) (by omega) hB1 (fun _ => rfl) qc (by omega) ls (lv_sub hl [0, 1, 2, 4] rfl)
        · skip
          refine w_iload X dX3_dearest_41 hl 0 rfl ?_
          refine w_iload_n X dX3_dearest_43 hl 2 rfl rfl ?_
          refine w_icmp_le X 52 dX3_dearest_44 (by decide) (by omega) (by omega) (fun c_4 => ?_) (fun c_4 => ?_)
          · skip
            refine w_iinc X (fun z_5 => [(3, .int (wI (z_5))), (4, .int (wI (cst σ i))), (2, .int (wI (most))), (1, .int (wI (v))), (0, .ref x)]) dX3_dearest_52 hl 1 rfl (by decide) (fun _ => rfl) fun z_5 ez_5 ls hl => ?_
            refine w_goto X 6 dX3_dearest_55 (by decide) ?_
            have eb : z_5 = ((i + 1 : Nat) : Int) := by omega
            rw [eb] at hl
            have hB1 : IsBest σ (i + 1) v := hB.same (by omega) (by have := hm (by omega); omega)
            exact ih (i + 1) v most (by omega) hB1 hm hmb hvb ls (lv_sub hl [0, 2, 3, 4] rfl)
          · skip
            refine w_iload_n X dX3_dearest_47 hl 1 rfl rfl ?_
            refine w_istore_n X [(1, .int (wI ((i : Int)))), (4, .int (wI (cst σ i))), (3, .int (wI ((i : Int)))), (2, .int (wI (most))), (0, .ref x)] dX3_dearest_48 hl rfl (by decide) rfl fun ls hl => ?_
            refine w_iload X dX3_dearest_49 hl 1 rfl ?_
            refine w_istore_n X [(2, .int (wI (cst σ i))), (1, .int (wI ((i : Int)))), (4, .int (wI (cst σ i))), (3, .int (wI ((i : Int)))), (0, .ref x)] dX3_dearest_51 hl rfl (by decide) rfl fun ls hl => ?_
            refine w_iinc X (fun z_6 => [(3, .int (wI (z_6))), (2, .int (wI (cst σ i))), (1, .int (wI ((i : Int)))), (4, .int (wI (cst σ i))), (0, .ref x)]) dX3_dearest_52 hl 3 rfl (by decide) (fun _ => rfl) fun z_6 ez_6 ls hl => ?_
            refine w_goto X 6 dX3_dearest_55 (by decide) ?_
            have eb : z_6 = ((i + 1 : Nat) : Int) := by omega
            rw [eb] at hl
            have hB1 : IsBest σ (i + 1) (i : Int) := hB.first (by rcases Int.lt_or_le v 0 with q | q; exact Or.inl q; (have := hm q; exact Or.inr (by omega)))
            exact ih (i + 1) (i : Int) (cst σ i) (by omega) hB1 (fun _ => rfl) qc (by omega) ls (lv_sub hl [0, 1, 2, 4] rfl)
  refine w_iconst X dX3_dearest_0 ?_
  refine w_istore_n X [(1, .int (wI (-1))), (0, .ref x)] dX3_dearest_1 hl rfl (by decide) rfl fun ls hl => ?_
  refine w_iconst X dX3_dearest_2 ?_
  refine w_istore_n X [(2, .int (wI (0))), (1, .int (wI (-1))), (0, .ref x)] dX3_dearest_3 hl rfl (by decide) rfl fun ls hl => ?_
  refine w_iconst X dX3_dearest_4 ?_
  refine w_istore_n X [(3, .int (wI (0))), (2, .int (wI (0))), (1, .int (wI (-1))), (0, .ref x)] dX3_dearest_5 hl rfl (by decide) rfl fun ls hl => ?_
  exact loop (sn σ) 0 (-1) 0 (by omega) (Or.inl ⟨rfl, rfl⟩) (fun q => absurd q (by omega)) (by omega) (by omega) ls (lv_sub hl [0, 1, 2, 3] rfl)

set_option maxHeartbeats 4000000 in
set_option maxRecDepth 100000 in
theorem c_X3_peopleP (l : Launch) (g : wG) (H : Heap) (A : Nat → Prop) (x : Nat) (σ : St) (hσ : StGood σ) (hXv : XInv g A x σ H) : Pur l g H yX3_people wsX3_people 1 20 [.ref x] (.int (wI (sn σ : Int))) := by
  refine Pur.of (cc := cX3_people) (maxL := 1) (ret := (some .int)) (by decide) rfl (Nat.le_of_ble_eq_true rfl) ?_
  intro p9 e s m args below meth c X hE hr hk ls hl
  have hl : lv_has ls 1 [(0, .ref x)] := hl
  have hin_RX3 : ∀ w ∈ u_ws RX3 TX3 2, w ∈ wsX3_people := by decide +kernel
  obtain ⟨al, el, mc, fl, Ld, P, hX⟩ := id hXv
  have hxO := hX.2.1.2
  obtain ⟨hs1, hs2, hs3, hs4⟩ := id hσ
  refine w_aload_n X dX3_people_0 hl 0 rfl rfl ?_
  refine w_get X hE hxO 1 dX3_people_1 rfl hin_RX3 (by decide) (by decide +kernel) rfl rfl ?_
  refine w_callF (v := .int (wI ((sn σ : Int)))) 0 X hE (c_Jx4a65c_size_8abf5 l g H (al 1) (mc 1) (el 1) (sn σ : Int) hX.l1) hX.l1 hl dX3_people_4 gX3_people_Jx4a65c_size_8abf5_f63Jx4a65c ew_size rfl rfl (by decide +kernel) ⟨(Nat.le_of_ble_eq_true rfl), (Nat.le_of_ble_eq_true rfl)⟩ rfl (Nat.le_of_ble_eq_true rfl) ⟨Nat.le_refl _, Nat.le_refl _⟩ ?_
  exact w_iret X hr hk dX3_people_9 rfl

set_option maxHeartbeats 4000000 in
set_option maxRecDepth 100000 in
theorem c_X3_add (l : Launch) (hl9 : l.stackTraces = false) (g : wG) (A : Nat → Prop) (H : Heap) (hA : ∀ q, H.size ≤ q → A q) (x : Nat) (σ : St) (hσ : StGood σ) (hXv : XInv g A x σ H) (i a b : Int) (hi : wR i) (ha : wR a) (hb : wR b) : ThrR l g A H yX3_add wsX3_add 7 114 6 39 [.ref x, .int (wI (i)), .int (wI (a)), .int (wI (b))] (fun v H1 => (((0 ≤ i ∧ i < 4) ∧ (0 ≤ a ∧ a < 4) ∧ (0 ≤ b ∧ b ≤ 100000) ∧ i ≠ a) ∧ (sn σ < 10)) ∧ v = .int (wI ((sn σ : Int))) ∧ XInv g A x (nxAdd σ (newS i a b)) H1) (fun E H1 => ((E = xnA ∧ ¬ ((0 ≤ i ∧ i < 4) ∧ (0 ≤ a ∧ a < 4) ∧ (0 ≤ b ∧ b ≤ 100000) ∧ i ≠ a)) ∨ (E = xnS ∧ ((0 ≤ i ∧ i < 4) ∧ (0 ≤ a ∧ a < 4) ∧ (0 ≤ b ∧ b ≤ 100000) ∧ i ≠ a) ∧ ¬ (sn σ < 10))) ∧ XInv g A x σ H1) := by
  refine Thr.of (cc := cX3_add) (maxL := 6) (ret := (some .int)) (by decide) rfl (Nat.le_of_ble_eq_true rfl) ?_
  intro p9 e s m args below meth c X hE hEs ht hr hk hS ls hl
  have hl : lv_has ls 6 [(0, .ref x), (1, .int (wI (i))), (2, .int (wI (a))), (3, .int (wI (b)))] := hl
  have hin_RX2 : ∀ w ∈ u_ws RX2 TX2 8, w ∈ wsX3_add := by decide +kernel
  have hin_RX3 : ∀ w ∈ u_ws RX3 TX3 2, w ∈ wsX3_add := by decide +kernel
  have hGd := hE.dis
  obtain ⟨al, el, mc, fl, Ld, P, hX⟩ := id hXv
  have hxO := hX.2.1.2
  obtain ⟨hs1, hs2, hs3, hs4⟩ := id hσ
  refine w_aload_n X dX3_add_0 hl 0 rfl rfl ?_
  refine w_iload_n X dX3_add_1 hl 1 rfl rfl ?_
  refine w_xr (vx_runV (As := [.int (wI (i))]) (rest := []) X (c_X3_landAt l hl9 g A H x (al 0) (al 1) hxO (mc 0) (el 0) hX.l0 (fl 0) hX.r0 hX.hB0 (i) (by omega)) (cwV 1 X.2.2.2.2 gX3_add_X3_landAt rfl rfl rfl (by decide +kernel) ⟨(Nat.le_of_ble_eq_true rfl), (Nat.le_of_ble_eq_true rfl)⟩) (w_prV hE hEs hS hxO rfl) rfl rfl hl.1 rfl (lv_room (Nat.le_of_ble_eq_true rfl)) dX3_add_2 ⟨(Nat.le_of_ble_eq_true rfl), (Nat.le_of_ble_eq_true rfl)⟩) hS (fun _ h => h) ?_ fun v_6 H_1 lo_2 hp_3 hz_4 hq_5 hS => ?_
  · exact fun E ce q9 H9 lo9 hxp hz9 hq9 hS9 hce hcv hcl => w_out ht hk hS9 hce hcv hcl (by obtain ⟨rE, rn, rx⟩ := hxp; exact ⟨Or.inl ⟨rE, by omega⟩, hXv.ext rx⟩) (Nat.le_of_ble_eq_true rfl) (Nat.le_of_ble_eq_true rfl)
  obtain ⟨e_n_7, ra_n_7, rb_n_7, q_n_7, f_n_7, rfl⟩ := hp_3
  have e_n_7 := e_n_7.symm
  subst e_n_7
  obtain ⟨gl_n_7, ga_n_7, hL_n_7⟩ := hX.2.2.1 (i).toNat (by omega)
  obtain rfl : Ld (i).toNat = q_n_7 := Option.some.inj (gl_n_7.symm.trans f_n_7)
  refine w_astore X [(4, .ref (Ld (i).toNat)), (0, .ref x), (1, .int (wI (i))), (2, .int (wI (a))), (3, .int (wI (b)))] dX3_add_5 hl (by decide) rfl fun ls hl => ?_
  refine w_aload_n X dX3_add_7 hl 1 rfl rfl ?_
  refine w_iload_n X dX3_add_8 hl 3 rfl rfl ?_
  refine w_xr (vx_runV (As := [.int (wI (a))]) (rest := []) X (c_X3_landAt l hl9 g A H x (al 0) (al 1) hxO (mc 0) (el 0) hX.l0 (fl 0) hX.r0 hX.hB0 (a) (by omega)) (cwV 1 X.2.2.2.2 gX3_add_X3_landAt rfl rfl rfl (by decide +kernel) ⟨(Nat.le_of_ble_eq_true rfl), (Nat.le_of_ble_eq_true rfl)⟩) (w_prV hE hEs hS hxO rfl) rfl rfl hl.1 rfl (lv_room (Nat.le_of_ble_eq_true rfl)) dX3_add_9 ⟨(Nat.le_of_ble_eq_true rfl), (Nat.le_of_ble_eq_true rfl)⟩) hS (fun _ h => h) ?_ fun v_13 H_8 lo_9 hp_10 hz_11 hq_12 hS => ?_
  · exact fun E ce q9 H9 lo9 hxp hz9 hq9 hS9 hce hcv hcl => w_out ht hk hS9 hce hcv hcl (by obtain ⟨rE, rn, rx⟩ := hxp; exact ⟨Or.inl ⟨rE, by omega⟩, hXv.ext rx⟩) (Nat.le_of_ble_eq_true rfl) (Nat.le_of_ble_eq_true rfl)
  obtain ⟨e_n_14, ra_n_14, rb_n_14, q_n_14, f_n_14, rfl⟩ := hp_10
  have e_n_14 := e_n_14.symm
  subst e_n_14
  obtain ⟨gl_n_14, ga_n_14, hL_n_14⟩ := hX.2.2.1 (a).toNat (by omega)
  obtain rfl : Ld (a).toNat = q_n_14 := Option.some.inj (gl_n_14.symm.trans f_n_14)
  refine w_astore X [(5, .ref (Ld (a).toNat)), (4, .ref (Ld (i).toNat)), (0, .ref x), (1, .int (wI (i))), (2, .int (wI (a))), (3, .int (wI (b)))] dX3_add_12 hl (by decide) rfl fun ls hl => ?_
  refine w_iload_n X dX3_add_14 hl 3 rfl rfl ?_
  refine w_iload_n X dX3_add_15 hl 4 rfl rfl ?_
  refine w_icmp_ne X 29 dX3_add_16 (by decide) (by omega) (by omega) (fun c_15 => ?_) (fun c_15 => ?_)
  · skip
    refine w_iload_n X dX3_add_29 hl 5 rfl rfl ?_
    refine w_iconst X dX3_add_30 ?_
    refine w_ldc (v := 100000) (z := 100000) X dX3_add_31 (by decide +kernel) (by decide) ?_
    refine w_xv (vx_runS (As := [.int (wI (b)), .int (wI (0)), .int (wI (100000))]) (rest := []) X (c_X3_requireRange l hl9 g A H (b) (0) (100000) (by omega) (by omega) (by omega)) (va_cwS 3 X.2.2.2.2 gX3_add_X3_requireRange rfl rfl rfl (by decide +kernel) ⟨(Nat.le_of_ble_eq_true rfl), (Nat.le_of_ble_eq_true rfl)⟩) (w_prS hE hEs hS) rfl rfl hl.1 rfl (lv_room (Nat.le_of_ble_eq_true rfl)) dX3_add_33 ⟨(Nat.le_of_ble_eq_true rfl), (Nat.le_of_ble_eq_true rfl)⟩) hS (fun _ h => h) ?_ fun H_16 lo_17 hp_18 hz_19 hq_20 hS => ?_
    · exact fun E ce q9 H9 lo9 hxp hz9 hq9 hS9 hce hcv hcl => w_out ht hk hS9 hce hcv hcl (by obtain ⟨rE, rn, rx⟩ := hxp; exact ⟨Or.inl ⟨rE, by omega⟩, hXv.ext rx⟩) (Nat.le_of_ble_eq_true rfl) (Nat.le_of_ble_eq_true rfl)
    obtain ⟨e_n_22, ra_n_22, rb_n_22⟩ := hp_18
    have e_n_22 := e_n_22.symm
    subst e_n_22
    refine w_aload_n X dX3_add_36 hl 2 rfl rfl ?_
    refine w_get X hE hxO 1 dX3_add_37 rfl hin_RX3 (by decide) (by decide +kernel) rfl rfl ?_
    refine w_callF (v := .int (wI ((sn σ : Int)))) 0 X hE (c_Jx4a65c_size_8abf5 l g H (al 1) ((mc 1)) (el 1) ((sn σ : Int)) hX.l1) hX.l1 hl dX3_add_40 gX3_add_Jx4a65c_size_8abf5_f63Jx4a65c ew_size rfl rfl (by decide +kernel) ⟨(Nat.le_of_ble_eq_true rfl), (Nat.le_of_ble_eq_true rfl)⟩ rfl (Nat.le_of_ble_eq_true rfl) ⟨(Nat.le_of_ble_eq_true rfl), (Nat.le_of_ble_eq_true rfl)⟩ ?_
    refine w_bipush X dX3_add_45 (by decide) ?_
    refine w_icmp_lt X 60 dX3_add_47 (by decide) (by omega) (by omega) (fun c_23 => ?_) (fun c_23 => ?_)
    · skip
      refine w_aload_n X dX3_add_60 hl 2 rfl rfl ?_
      refine w_get X hE hxO 1 dX3_add_61 rfl hin_RX3 (by decide) (by decide +kernel) rfl rfl ?_
      refine w_new (ci := 3) X hE hS [.null, .null, .null, .int 0, .int 0, .int 0, .int 0, .int 0] dX3_add_64 rfl hin_RX2 tyX2 tyX2_ok (by decide +kernel) (fun j hj => by rcases (by omega : j = 0 ∨ j = 1 ∨ j = 2 ∨ j = 3 ∨ j = 4 ∨ j = 5 ∨ j = 6 ∨ j = 7) with rfl | rfl | rfl | rfl | rfl | rfl | rfl | rfl <;> rfl) ⟨(Nat.le_of_ble_eq_true rfl), (Nat.le_of_ble_eq_true rfl)⟩ fun H_24 a_28 ea_28 ho_25 hz_26 hq_27 hS => ?_
      have ho_29 := (hxO).kept (hq_27 _ (hxO).lt)
      have ho_30 := (hX.l0).kept (hq_27 _ (hX.l0).lt)
      have ho_31 := (hX.l1).kept (hq_27 _ (hX.l1).lt)
      have ho_32 := (hL_n_7).kept (hq_27 _ (hL_n_7).lt)
      have ho_33 := (hL_n_14).kept (hq_27 _ (hL_n_14).lt)
      refine w_dup X dX3_add_67 rfl ?_
      refine w_aload X dX3_add_68 hl 1 rfl ?_
      refine w_aload X dX3_add_70 hl 0 rfl ?_
      refine w_iload_n X dX3_add_72 hl 5 rfl rfl ?_
      refine w_iv (va_runI (As := [.ref (Ld (i).toNat), .ref (Ld (a).toNat), .int (wI (b))]) (rest := [.ref a_28, .ref (al 1)]) X (c_X2_init l g A H_24 (fun q hq => hA q (by omega)) a_28 (Ld (i).toNat) (Ld (a).toNat) (b) ho_25 (hA _ (by omega))) (cwI 3 X.2.2.2.2 gX3_add_X2_init rfl rfl rfl (X.2.2.2.2 (.initialized yX2_init.cls) (by decide +kernel)) (X.2.2.2.2 (.methodLink RX3 74 yX2_init) (by decide +kernel)) (X.2.2.2.2 (.instanceMethod yX2_init) (by decide +kernel)) rfl (by decide +kernel) ⟨(Nat.le_of_ble_eq_true rfl), (Nat.le_of_ble_eq_true rfl)⟩) (w_prS hE hEs hS) rfl rfl hl.1 rfl (lv_room (Nat.le_of_ble_eq_true rfl)) dX3_add_73 ⟨(Nat.le_of_ble_eq_true rfl), (Nat.le_of_ble_eq_true rfl)⟩) hS (fun _ h => h) fun H_34 lo_35 hp_36 hz_37 hq_38 hS => ?_
      obtain ⟨b_40, eb_41, ho_42, ho_43, hz_44, hq_45⟩ := hp_36
      have ho_46 := (ho_29).kept (hq_45 _ (ho_29).lt (Ob.ne hGd (ho_29) (ho_25) (by decide) (by decide) (by decide)))
      have ho_47 := (ho_30).kept (hq_45 _ (ho_30).lt (Ob.ne hGd (ho_30) (ho_25) (by decide) (by decide) (by decide)))
      have ho_48 := (ho_31).kept (hq_45 _ (ho_31).lt (Ob.ne hGd (ho_31) (ho_25) (by decide) (by decide) (by decide)))
      have ho_49 := (ho_32).kept (hq_45 _ (ho_32).lt (Ob.ne hGd (ho_32) (ho_25) (by decide) (by decide) (by decide)))
      have ho_50 := (ho_33).kept (hq_45 _ (ho_33).lt (Ob.ne hGd (ho_33) (ho_25) (by decide) (by decide) (by decide)))
      have hkq : ∀ q, q < H.size → H_34[q]? = H[q]? := fun q hz9 => ((hq_45 _ (by omega) (by omega))).trans (hq_27 _ (by omega))
      have hRk : 0 < sn σ → A (el (1)) ∧ RA g H_34 (el (1)) 10 (fl (1)) := fun h => ⟨((hX.1.1 (1) (by omega)).2.1 h).1, (((hX.1.1 (1) (by omega)).2.1 h).2).kept (hkq _ (((hX.1.1 (1) (by omega)).2.1 h).2).lt)⟩
      refine w_ir5 (va_runF (hE.1.1 0 _ rfl).2 (As := [.ref a_28]) (rest := []) X (c_add l g A H_34 (fun q hq => hA q (by omega)) (al 1) (el (1)) ((sn σ)) (mc (1)) ho_48 (hX.1.1 (1) (by omega)).1.1 (by omega) (fl (1)) hRk (fun h => (hX.1.1 (1) (by omega)).2.2 h) a_28 3 8 _ ho_42 RX2 TX2 rfl (by decide +kernel) (by decide) (by decide)) (va_cwF 1 X.2.2.2.2 gX3_add_Jx4a65c_add_9ea2d_f22Jx4a65c rfl rfl rfl (hE.fw ew_add) (by decide +kernel) ⟨(Nat.le_of_ble_eq_true rfl), (Nat.le_of_ble_eq_true rfl)⟩) (w_prV hE hEs hS ho_48 rfl) rfl rfl hl.1 rfl (lv_room (Nat.le_of_ble_eq_true rfl)) dX3_add_76 ⟨(Nat.le_of_ble_eq_true rfl), (Nat.le_of_ble_eq_true rfl)⟩) hS (fun _ h => h) fun v_56 H_51 lo_52 hp_53 hz_54 hq_55 hS => ?_
      obtain ⟨rfl, e_n_57, f_n_57, ho_n_57, -⟩ := id hp_53
      have ho_58 := (ho_46).kept (hp_53.objs hGd ho_48 (fun h => (hRk h).2) (ho_46) (by decide) (by decide))
      have ho_59 := (ho_49).kept (hp_53.objs hGd ho_48 (fun h => (hRk h).2) (ho_49) (by decide) (by decide))
      have ho_60 := (ho_50).kept (hp_53.objs hGd ho_48 (fun h => (hRk h).2) (ho_50) (by decide) (by decide))
      have ho_61 := (ho_42).kept (hp_53.objs hGd ho_48 (fun h => (hRk h).2) (ho_42) (by decide) (by decide))
      refine w_pop X dX3_add_81 rfl ?_
      refine w_aload_n X dX3_add_82 hl 2 rfl rfl ?_
      refine w_get X hE ho_58 1 dX3_add_83 rfl hin_RX3 (by decide) (by decide +kernel) rfl rfl ?_
      refine w_callF (v := .int (wI (((sn σ) : Int) + 1))) 0 X hE (c_Jx4a65c_size_8abf5 l g H_51 (al 1) (mc (1) + wI 1) e_n_57 (((sn σ) : Int) + 1) ho_n_57) ho_n_57 hl dX3_add_86 gX3_add_Jx4a65c_size_8abf5_f63Jx4a65c ew_size rfl rfl (by decide +kernel) ⟨(Nat.le_of_ble_eq_true rfl), (Nat.le_of_ble_eq_true rfl)⟩ rfl (Nat.le_of_ble_eq_true rfl) ⟨(Nat.le_of_ble_eq_true rfl), (Nat.le_of_ble_eq_true rfl)⟩ ?_
      refine w_iconst X dX3_add_91 ?_
      refine w_isub X dX3_add_92 fun z_62 ez_62 => ?_
      exact vx_ret (w_irR X hr hk hS ⟨⟨by omega, by omega⟩, by rw [show z_62 = (sn σ : Int) by omega], hX.toAdd hGd hσ (by omega) (pf := newS i a b) hkq (by omega) (by omega) (hA _ (by omega)) (hA _ (by omega)) ho_42 ho_43 hp_53⟩ dX3_add_93 (Nat.le_of_ble_eq_true rfl) (Nat.le_of_ble_eq_true rfl))
    · skip
      exact w_throw (cls := xnS) (text := "no room for another person") X hE hEs hS hl9 ht hk hl dX3_add_50 dX3_add_53 dX3_add_54 dX3_add_56 dX3_add_59 (by decide) (by decide +kernel) (by decide +kernel) (fun w h => List.mem_cons_of_mem _ (List.mem_append_right _ h)) ew_xS (by decide +kernel) ⟨by decide +kernel, by decide +kernel⟩ ⟨(Nat.le_of_ble_eq_true rfl), (Nat.le_of_ble_eq_true rfl), (Nat.le_of_ble_eq_true rfl), (Nat.le_of_ble_eq_true rfl)⟩ ⟨(Nat.le_of_ble_eq_true rfl), (Nat.le_of_ble_eq_true rfl)⟩ (fun H9 hz9 hq9 => ⟨Or.inr ⟨rfl, by omega, by omega⟩, hXv.ext ⟨hz9, hq9⟩⟩)
  · skip
    exact w_throw (cls := xnA) (text := "home and host are the same land") X hE hEs hS hl9 ht hk hl dX3_add_19 dX3_add_22 dX3_add_23 dX3_add_25 dX3_add_28 (by decide) (by decide +kernel) (by decide +kernel) (fun w h => List.mem_cons_of_mem _ (List.mem_append_left _ (List.mem_append_right _ h))) ew_xA (by decide +kernel) ⟨by decide +kernel, by decide +kernel⟩ ⟨(Nat.le_of_ble_eq_true rfl), (Nat.le_of_ble_eq_true rfl), (Nat.le_of_ble_eq_true rfl), (Nat.le_of_ble_eq_true rfl)⟩ ⟨(Nat.le_of_ble_eq_true rfl), (Nat.le_of_ble_eq_true rfl)⟩ (fun H9 hz9 hq9 => ⟨Or.inl ⟨rfl, by omega⟩, hXv.ext ⟨hz9, hq9⟩⟩)

set_option maxHeartbeats 4000000 in
set_option maxRecDepth 100000 in
theorem c_X3_addBonus (l : Launch) (hl9 : l.stackTraces = false) (g : wG) (A : Nat → Prop) (H : Heap) (hA : ∀ q, H.size ≤ q → A q) (x : Nat) (σ : St) (hσ : StGood σ) (hXv : XInv g A x σ H) (i a b d : Int) (hi : wR i) (ha : wR a) (hb : wR b) (hd : wR d) : ThrR l g A H yX3_addBonus wsX3_addBonus 7 114 6 37 [.ref x, .int (wI (i)), .int (wI (a)), .int (wI (b)), .int (wI (d))] (fun v H1 => (((0 : Int) ≤ i ∧ i < (sn σ : Int)) ∧ ((1 ≤ a ∧ a ≤ 500000) ∧ (0 ≤ b ∧ b ≤ 11) ∧ b + 1 ≤ d ∧ d ≤ 12) ∧ (sb σ i.toNat < 6)) ∧ v = .int (wI ((sb σ i.toNat : Int))) ∧ XInv g A x (nxBon σ i.toNat (bonS a b d)) H1) (fun E H1 => ((E = xnB ∧ ¬ ((0 : Int) ≤ i ∧ i < (sn σ : Int))) ∨ (E = xnA ∧ ((0 : Int) ≤ i ∧ i < (sn σ : Int)) ∧ ¬ ((1 ≤ a ∧ a ≤ 500000) ∧ (0 ≤ b ∧ b ≤ 11) ∧ b + 1 ≤ d ∧ d ≤ 12)) ∨ (E = xnS ∧ ((0 : Int) ≤ i ∧ i < (sn σ : Int)) ∧ ((1 ≤ a ∧ a ≤ 500000) ∧ (0 ≤ b ∧ b ≤ 11) ∧ b + 1 ≤ d ∧ d ≤ 12) ∧ ¬ (sb σ i.toNat < 6))) ∧ XInv g A x σ H1) := by
  refine Thr.of (cc := cX3_addBonus) (maxL := 6) (ret := (some .int)) (by decide) rfl (Nat.le_of_ble_eq_true rfl) ?_
  intro p9 e s m args below meth c X hE hEs ht hr hk hS ls hl
  have hl : lv_has ls 6 [(0, .ref x), (1, .int (wI (i))), (2, .int (wI (a))), (3, .int (wI (b))), (4, .int (wI (d)))] := hl
  have hin_RX0 : ∀ w ∈ u_ws RX0 TX0 3, w ∈ wsX3_addBonus := by decide +kernel
  have hin_RX2 : ∀ w ∈ u_ws RX2 TX2 8, w ∈ wsX3_addBonus := by decide +kernel
  have hGd := hE.dis
  obtain ⟨al, el, mc, fl, Ld, P, hX⟩ := id hXv
  have hxO := hX.2.1.2
  obtain ⟨hs1, hs2, hs3, hs4⟩ := id hσ
  refine w_aload_n X dX3_addBonus_0 hl 0 rfl rfl ?_
  refine w_iload_n X dX3_addBonus_1 hl 1 rfl rfl ?_
  refine w_xr (vx_runV (As := [.int (wI (i))]) (rest := []) X (c_X3_personAt l hl9 g A H (sn σ) hs2 x (al 0) (al 1) hxO (mc 1) (el 1) hX.l1 (fl 1) hX.r1 hX.hB1 (i) (by omega)) (cwV 1 X.2.2.2.2 gX3_addBonus_X3_personAt rfl rfl rfl (by decide +kernel) ⟨(Nat.le_of_ble_eq_true rfl), (Nat.le_of_ble_eq_true rfl)⟩) (w_prV hE hEs hS hxO rfl) rfl rfl hl.1 rfl (lv_room (Nat.le_of_ble_eq_true rfl)) dX3_addBonus_2 ⟨(Nat.le_of_ble_eq_true rfl), (Nat.le_of_ble_eq_true rfl)⟩) hS (fun _ h => h) ?_ fun v_6 H_1 lo_2 hp_3 hz_4 hq_5 hS => ?_
  · exact fun E ce q9 H9 lo9 hxp hz9 hq9 hS9 hce hcv hcl => w_out ht hk hS9 hce hcv hcl (by obtain ⟨rE, rn, rx⟩ := hxp; exact ⟨Or.inl ⟨rE, by omega⟩, hXv.ext rx⟩) (Nat.le_of_ble_eq_true rfl) (Nat.le_of_ble_eq_true rfl)
  obtain ⟨e_n_7, ra_n_7, rb_n_7, q_n_7, f_n_7, rfl⟩ := hp_3
  have e_n_7 := e_n_7.symm
  subst e_n_7
  have hi_n_7 : (i).toNat < sn σ := by omega
  obtain ⟨gl_n_7, ga_n_7, hL_n_7⟩ := hX.2.2.2.2.1 (i).toNat hi_n_7
  obtain rfl : P (i).toNat = q_n_7 := Option.some.inj (gl_n_7.symm.trans f_n_7)
  have hp_n_7 := hX.pers hσ hi_n_7
  have hg_n_7 := (hs3 _ hi_n_7).1
  refine w_astore X [(5, .ref (P (i).toNat)), (0, .ref x), (1, .int (wI (i))), (2, .int (wI (a))), (3, .int (wI (b))), (4, .int (wI (d)))] dX3_addBonus_5 hl (by decide) rfl fun ls hl => ?_
  refine w_iload_n X dX3_addBonus_7 hl 3 rfl rfl ?_
  refine w_iconst X dX3_addBonus_8 ?_
  refine w_ldc (v := 500000) (z := 500000) X dX3_addBonus_9 (by decide +kernel) (by decide) ?_
  refine w_xv (vx_runS (As := [.int (wI (a)), .int (wI (1)), .int (wI (500000))]) (rest := []) X (c_X3_requireRange l hl9 g A H (a) (1) (500000) (by omega) (by omega) (by omega)) (va_cwS 3 X.2.2.2.2 gX3_addBonus_X3_requireRange rfl rfl rfl (by decide +kernel) ⟨(Nat.le_of_ble_eq_true rfl), (Nat.le_of_ble_eq_true rfl)⟩) (w_prS hE hEs hS) rfl rfl hl.1 rfl (lv_room (Nat.le_of_ble_eq_true rfl)) dX3_addBonus_11 ⟨(Nat.le_of_ble_eq_true rfl), (Nat.le_of_ble_eq_true rfl)⟩) hS (fun _ h => h) ?_ fun H_8 lo_9 hp_10 hz_11 hq_12 hS => ?_
  · exact fun E ce q9 H9 lo9 hxp hz9 hq9 hS9 hce hcv hcl => w_out ht hk hS9 hce hcv hcl (by obtain ⟨rE, rn, rx⟩ := hxp; exact ⟨Or.inr (Or.inl (⟨rE, by omega, by omega⟩)), hXv.ext rx⟩) (Nat.le_of_ble_eq_true rfl) (Nat.le_of_ble_eq_true rfl)
  obtain ⟨e_n_14, ra_n_14, rb_n_14⟩ := hp_10
  have e_n_14 := e_n_14.symm
  subst e_n_14
  refine w_iload_n X dX3_addBonus_14 hl 4 rfl rfl ?_
  refine w_iconst X dX3_addBonus_15 ?_
  refine w_bipush X dX3_addBonus_16 (by decide) ?_
  refine w_xv (vx_runS (As := [.int (wI (b)), .int (wI (0)), .int (wI (11))]) (rest := []) X (c_X3_requireRange l hl9 g A H (b) (0) (11) (by omega) (by omega) (by omega)) (va_cwS 3 X.2.2.2.2 gX3_addBonus_X3_requireRange rfl rfl rfl (by decide +kernel) ⟨(Nat.le_of_ble_eq_true rfl), (Nat.le_of_ble_eq_true rfl)⟩) (w_prS hE hEs hS) rfl rfl hl.1 rfl (lv_room (Nat.le_of_ble_eq_true rfl)) dX3_addBonus_18 ⟨(Nat.le_of_ble_eq_true rfl), (Nat.le_of_ble_eq_true rfl)⟩) hS (fun _ h => h) ?_ fun H_15 lo_16 hp_17 hz_18 hq_19 hS => ?_
  · exact fun E ce q9 H9 lo9 hxp hz9 hq9 hS9 hce hcv hcl => w_out ht hk hS9 hce hcv hcl (by obtain ⟨rE, rn, rx⟩ := hxp; exact ⟨Or.inr (Or.inl (⟨rE, by omega, by omega⟩)), hXv.ext rx⟩) (Nat.le_of_ble_eq_true rfl) (Nat.le_of_ble_eq_true rfl)
  obtain ⟨e_n_21, ra_n_21, rb_n_21⟩ := hp_17
  have e_n_21 := e_n_21.symm
  subst e_n_21
  refine w_iload X dX3_addBonus_21 hl 5 rfl ?_
  refine w_iload_n X dX3_addBonus_23 hl 4 rfl rfl ?_
  refine w_iconst X dX3_addBonus_24 ?_
  refine w_iadd X dX3_addBonus_25 fun z_22 ez_22 => ?_
  refine w_bipush X dX3_addBonus_26 (by decide) ?_
  refine w_xv (vx_runS (As := [.int (wI (d)), .int (wI (z_22)), .int (wI (12))]) (rest := []) X (c_X3_requireRange l hl9 g A H (d) (z_22) (12) (by omega) (by omega) (by omega)) (va_cwS 3 X.2.2.2.2 gX3_addBonus_X3_requireRange rfl rfl rfl (by decide +kernel) ⟨(Nat.le_of_ble_eq_true rfl), (Nat.le_of_ble_eq_true rfl)⟩) (w_prS hE hEs hS) rfl rfl hl.1 rfl (lv_room (Nat.le_of_ble_eq_true rfl)) dX3_addBonus_28 ⟨(Nat.le_of_ble_eq_true rfl), (Nat.le_of_ble_eq_true rfl)⟩) hS (fun _ h => h) ?_ fun H_23 lo_24 hp_25 hz_26 hq_27 hS => ?_
  · exact fun E ce q9 H9 lo9 hxp hz9 hq9 hS9 hce hcv hcl => w_out ht hk hS9 hce hcv hcl (by obtain ⟨rE, rn, rx⟩ := hxp; exact ⟨Or.inr (Or.inl (⟨rE, by omega, by omega⟩)), hXv.ext rx⟩) (Nat.le_of_ble_eq_true rfl) (Nat.le_of_ble_eq_true rfl)
  obtain ⟨e_n_29, ra_n_29, rb_n_29⟩ := hp_25
  have e_n_29 := e_n_29.symm
  subst e_n_29
  have hsb := hg_n_7.2.2.2.2.1
  refine w_aload X dX3_addBonus_31 hl 0 rfl ?_
  refine w_getN X hE hL_n_7 2 dX3_addBonus_33 rfl hin_RX2 (by decide) (by decide +kernel) rfl rfl ?_
  refine w_callF (v := .int (wI ((sb σ (i).toNat : Int)))) 0 X hE (c_Jx4a65c_size_8abf5 l g H (al ((i).toNat + 2)) ((mc ((i).toNat + 2))) (el ((i).toNat + 2)) ((sb σ (i).toNat : Int)) (hX.lb hi_n_7)) (hX.lb hi_n_7) hl dX3_addBonus_36 gX3_addBonus_Jx4a65c_size_8abf5_f63Jx4a65c ew_size rfl rfl (by decide +kernel) ⟨(Nat.le_of_ble_eq_true rfl), (Nat.le_of_ble_eq_true rfl)⟩ rfl (Nat.le_of_ble_eq_true rfl) ⟨(Nat.le_of_ble_eq_true rfl), (Nat.le_of_ble_eq_true rfl)⟩ ?_
  refine w_bipush X dX3_addBonus_41 (by decide) ?_
  refine w_icmp_lt X 56 dX3_addBonus_43 (by decide) (by omega) (by omega) (fun c_30 => ?_) (fun c_30 => ?_)
  · skip
    refine w_aload X dX3_addBonus_56 hl 0 rfl ?_
    refine w_getN X hE hL_n_7 2 dX3_addBonus_58 rfl hin_RX2 (by decide) (by decide +kernel) rfl rfl ?_
    refine w_new (ci := 1) X hE hS [.int 0, .int 0, .int 0] dX3_addBonus_61 rfl hin_RX0 tyX0 tyX0_ok (by decide +kernel) (fun j hj => by rcases (by omega : j = 0 ∨ j = 1 ∨ j = 2) with rfl | rfl | rfl <;> rfl) ⟨(Nat.le_of_ble_eq_true rfl), (Nat.le_of_ble_eq_true rfl)⟩ fun H_31 a_35 ea_35 ho_32 hz_33 hq_34 hS => ?_
    have ho_36 := (hxO).kept (hq_34 _ (hxO).lt)
    have ho_37 := (hX.l0).kept (hq_34 _ (hX.l0).lt)
    have ho_38 := (hX.l1).kept (hq_34 _ (hX.l1).lt)
    have ho_39 := (hL_n_7).kept (hq_34 _ (hL_n_7).lt)
    have ho_40 := ((hX.lb hi_n_7)).kept (hq_34 _ ((hX.lb hi_n_7)).lt)
    refine w_dup X dX3_addBonus_64 rfl ?_
    refine w_iload_n X dX3_addBonus_65 hl 3 rfl rfl ?_
    refine w_iload_n X dX3_addBonus_66 hl 4 rfl rfl ?_
    refine w_iload X dX3_addBonus_67 hl 5 rfl ?_
    refine w_iv (va_runI (As := [.int (wI (a)), .int (wI (b)), .int (wI (d))]) (rest := [.ref a_35, .ref (al ((i).toNat + 2))]) X (c_X0_init l g A H_31 a_35 ho_32 (hA _ (by omega)) (a) (b) (d)) (cwI 3 X.2.2.2.2 gX3_addBonus_X0_init rfl rfl rfl (X.2.2.2.2 (.initialized yX0_init.cls) (by decide +kernel)) (X.2.2.2.2 (.methodLink RX3 112 yX0_init) (by decide +kernel)) (X.2.2.2.2 (.instanceMethod yX0_init) (by decide +kernel)) rfl (by decide +kernel) ⟨(Nat.le_of_ble_eq_true rfl), (Nat.le_of_ble_eq_true rfl)⟩) (w_prS hE hEs hS) rfl rfl hl.1 rfl (lv_room (Nat.le_of_ble_eq_true rfl)) dX3_addBonus_69 ⟨(Nat.le_of_ble_eq_true rfl), (Nat.le_of_ble_eq_true rfl)⟩) hS (fun _ h => h) fun H_41 lo_42 hp_43 hz_44 hq_45 hS => ?_
    obtain ⟨ho_47, hz_48, hq_49⟩ := hp_43
    have ho_50 := (ho_36).kept (hq_49 _ (Ob.ne hGd (ho_36) (ho_32) (by decide) (by decide) (by decide)))
    have ho_51 := (ho_37).kept (hq_49 _ (Ob.ne hGd (ho_37) (ho_32) (by decide) (by decide) (by decide)))
    have ho_52 := (ho_38).kept (hq_49 _ (Ob.ne hGd (ho_38) (ho_32) (by decide) (by decide) (by decide)))
    have ho_53 := (ho_39).kept (hq_49 _ (Ob.ne hGd (ho_39) (ho_32) (by decide) (by decide) (by decide)))
    have ho_54 := (ho_40).kept (hq_49 _ (Ob.ne hGd (ho_40) (ho_32) (by decide) (by decide) (by decide)))
    have hkq : ∀ q, q < H.size → H_41[q]? = H[q]? := fun q hz9 => ((hq_49 _ (by omega))).trans (hq_34 _ (by omega))
    have hRk : 0 < sb σ i.toNat → A (el ((i).toNat + 2)) ∧ RA g H_41 (el ((i).toNat + 2)) 10 (fl ((i).toNat + 2)) := fun h => ⟨((hX.1.1 ((i).toNat + 2) (by omega)).2.1 h).1, (((hX.1.1 ((i).toNat + 2) (by omega)).2.1 h).2).kept (hkq _ (((hX.1.1 ((i).toNat + 2) (by omega)).2.1 h).2).lt)⟩
    refine w_ir5 (va_runF (hE.1.1 0 _ rfl).2 (As := [.ref a_35]) (rest := []) X (c_add l g A H_41 (fun q hq => hA q (by omega)) (al ((i).toNat + 2)) (el ((i).toNat + 2)) ((sb σ i.toNat)) (mc ((i).toNat + 2)) ho_54 (hX.1.1 ((i).toNat + 2) (by omega)).1.1 (by omega) (fl ((i).toNat + 2)) hRk (fun h => (hX.1.1 ((i).toNat + 2) (by omega)).2.2 h) a_35 1 3 _ ho_47 RX0 TX0 rfl (by decide +kernel) (by decide) (by decide)) (va_cwF 1 X.2.2.2.2 gX3_addBonus_Jx4a65c_add_9ea2d_f22Jx4a65c rfl rfl rfl (hE.fw ew_add) (by decide +kernel) ⟨(Nat.le_of_ble_eq_true rfl), (Nat.le_of_ble_eq_true rfl)⟩) (w_prV hE hEs hS ho_54 rfl) rfl rfl hl.1 rfl (lv_room (Nat.le_of_ble_eq_true rfl)) dX3_addBonus_72 ⟨(Nat.le_of_ble_eq_true rfl), (Nat.le_of_ble_eq_true rfl)⟩) hS (fun _ h => h) fun v_60 H_55 lo_56 hp_57 hz_58 hq_59 hS => ?_
    obtain ⟨rfl, e_n_61, f_n_61, ho_n_61, -⟩ := id hp_57
    have ho_62 := (ho_50).kept (hp_57.objs hGd ho_54 (fun h => (hRk h).2) (ho_50) (by decide) (by decide))
    have ho_63 := (ho_53).kept (hp_57.objs hGd ho_54 (fun h => (hRk h).2) (ho_53) (by decide) (by decide))
    have ho_64 := (ho_47).kept (hp_57.objs hGd ho_54 (fun h => (hRk h).2) (ho_47) (by decide) (by decide))
    refine w_pop X dX3_addBonus_77 rfl ?_
    refine w_aload X dX3_addBonus_78 hl 0 rfl ?_
    refine w_getN X hE ho_63 2 dX3_addBonus_80 rfl hin_RX2 (by decide) (by decide +kernel) rfl rfl ?_
    refine w_callF (v := .int (wI (((sb σ i.toNat) : Int) + 1))) 0 X hE (c_Jx4a65c_size_8abf5 l g H_55 (al ((i).toNat + 2)) (mc ((i).toNat + 2) + wI 1) e_n_61 (((sb σ i.toNat) : Int) + 1) ho_n_61) ho_n_61 hl dX3_addBonus_83 gX3_addBonus_Jx4a65c_size_8abf5_f63Jx4a65c ew_size rfl rfl (by decide +kernel) ⟨(Nat.le_of_ble_eq_true rfl), (Nat.le_of_ble_eq_true rfl)⟩ rfl (Nat.le_of_ble_eq_true rfl) ⟨(Nat.le_of_ble_eq_true rfl), (Nat.le_of_ble_eq_true rfl)⟩ ?_
    refine w_iconst X dX3_addBonus_88 ?_
    refine w_isub X dX3_addBonus_89 fun z_65 ez_65 => ?_
    exact vx_ret (w_irR X hr hk hS ⟨⟨by omega, by omega, by omega⟩, by rw [show z_65 = (sb σ i.toNat : Int) by omega], hX.toBon hGd hi_n_7 (bo := bonS a b d) hkq (hA _ (by omega)) ho_47 hp_57⟩ dX3_addBonus_90 (Nat.le_of_ble_eq_true rfl) (Nat.le_of_ble_eq_true rfl))
  · skip
    exact w_throw (cls := xnS) (text := "no room for another bonus") X hE hEs hS hl9 ht hk hl dX3_addBonus_46 dX3_addBonus_49 dX3_addBonus_50 dX3_addBonus_52 dX3_addBonus_55 (by decide) (by decide +kernel) (by decide +kernel) (fun w h => List.mem_cons_of_mem _ (List.mem_append_left _ (List.mem_append_left _ (List.mem_append_right _ h)))) ew_xS (by decide +kernel) ⟨by decide +kernel, by decide +kernel⟩ ⟨(Nat.le_of_ble_eq_true rfl), (Nat.le_of_ble_eq_true rfl), (Nat.le_of_ble_eq_true rfl), (Nat.le_of_ble_eq_true rfl)⟩ ⟨(Nat.le_of_ble_eq_true rfl), (Nat.le_of_ble_eq_true rfl)⟩ (fun H9 hz9 hq9 => ⟨Or.inr (Or.inr ⟨rfl, by omega, by omega, by omega⟩), hXv.ext ⟨hz9, hq9⟩⟩)
