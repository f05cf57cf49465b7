/-! the object: people -/

set_option maxHeartbeats 4000000 in
set_option maxRecDepth 100000 in
theorem c_X3_setAbroad (l : Launch) (hl9 : l.stackTraces = false) (g : wG) (A : Nat → Prop) (H : Heap) (x : Nat) (σ : St) (hσ : StGood σ) (hXv : XInv g A x σ H) (i a b : Int) (hi : wR i) (ha : wR a) (hb : wR b) : ThrR l g A H yX3_setAbroad wsX3_setAbroad 7 114 3 18 [.ref x, .int (wI (i)), .int (wI (a)), .int (wI (b))] (fun v H1 => (((0 : Int) ≤ i ∧ i < (sn σ : Int)) ∧ ((0 ≤ a ∧ a ≤ 12) ∧ a ≤ b ∧ b ≤ 12)) ∧ v = .int (wI (monS (sp σ i.toNat))) ∧ XInv g A x (nxPers σ i.toNat (absS (sp σ i.toNat) a b)) H1) (fun E H1 => ((E = xnB ∧ ¬ ((0 : Int) ≤ i ∧ i < (sn σ : Int))) ∨ (E = xnA ∧ ((0 : Int) ≤ i ∧ i < (sn σ : Int)) ∧ ¬ ((0 ≤ a ∧ a ≤ 12) ∧ a ≤ b ∧ b ≤ 12))) ∧ XInv g A x σ H1) := by
  refine Thr.of (cc := cX3_setAbroad) (maxL := 6) (ret := (some .int)) (by decide) rfl (Nat.le_of_ble_eq_true rfl) ?_
  intro p9 e s m args below meth c X hE hEs ht hr hk hS ls hl
  have hl : lv_has ls 6 [(0, .ref x), (1, .int (wI (i))), (2, .int (wI (a))), (3, .int (wI (b)))] := hl
  have hin_RX2 : ∀ w ∈ u_ws RX2 TX2 8, w ∈ wsX3_setAbroad := by decide +kernel
  have hGd := hE.dis
  obtain ⟨al, el, mc, fl, Ld, P, hX⟩ := id hXv
  have hxO := hX.2.1.2
  obtain ⟨hs1, hs2, hs3, hs4⟩ := id hσ
  refine w_aload_n X dX3_setAbroad_0 hl 0 rfl rfl ?_
  refine w_iload_n X dX3_setAbroad_1 hl 1 rfl rfl ?_
  refine w_xr (vx_runV (As := [.int (wI (i))]) (rest := []) X (c_X3_personAt l hl9 g A H (sn σ) hs2 x (al 0) (al 1) hxO (mc 1) (el 1) hX.l1 (fl 1) hX.r1 hX.hB1 (i) (by omega)) (cwV 1 X.2.2.2.2 gX3_setAbroad_X3_personAt rfl rfl rfl (by decide +kernel) ⟨(Nat.le_of_ble_eq_true rfl), (Nat.le_of_ble_eq_true rfl)⟩) (w_prV hE hEs hS hxO rfl) rfl rfl hl.1 rfl (lv_room (Nat.le_of_ble_eq_true rfl)) dX3_setAbroad_2 ⟨(Nat.le_of_ble_eq_true rfl), (Nat.le_of_ble_eq_true rfl)⟩) hS (fun _ h => h) ?_ fun v_6 H_1 lo_2 hp_3 hz_4 hq_5 hS => ?_
  · exact fun E ce q9 H9 lo9 hxp hz9 hq9 hS9 hce hcv hcl => w_out ht hk hS9 hce hcv hcl (by obtain ⟨rE, rn, rx⟩ := hxp; exact ⟨Or.inl ⟨rE, by omega⟩, hXv.ext rx⟩) (Nat.le_of_ble_eq_true rfl) (Nat.le_of_ble_eq_true rfl)
  obtain ⟨e_n_7, ra_n_7, rb_n_7, q_n_7, f_n_7, rfl⟩ := hp_3
  have e_n_7 := e_n_7.symm
  subst e_n_7
  have hi_n_7 : (i).toNat < sn σ := by omega
  obtain ⟨gl_n_7, ga_n_7, hL_n_7⟩ := hX.2.2.2.2.1 (i).toNat hi_n_7
  obtain rfl : P (i).toNat = q_n_7 := Option.some.inj (gl_n_7.symm.trans f_n_7)
  have hp_n_7 := hX.pers hσ hi_n_7
  have hg_n_7 := (hs3 _ hi_n_7).1
  refine w_astore X [(4, .ref (P (i).toNat)), (0, .ref x), (1, .int (wI (i))), (2, .int (wI (a))), (3, .int (wI (b)))] dX3_setAbroad_5 hl (by decide) rfl fun ls hl => ?_
  refine w_iload_n X dX3_setAbroad_7 hl 3 rfl rfl ?_
  refine w_iconst X dX3_setAbroad_8 ?_
  refine w_bipush X dX3_setAbroad_9 (by decide) ?_
  refine w_xv (vx_runS (As := [.int (wI (a)), .int (wI (0)), .int (wI (12))]) (rest := []) X (c_X3_requireRange l hl9 g A H (a) (0) (12) (by omega) (by omega) (by omega)) (va_cwS 3 X.2.2.2.2 gX3_setAbroad_X3_requireRange rfl rfl rfl (by decide +kernel) ⟨(Nat.le_of_ble_eq_true rfl), (Nat.le_of_ble_eq_true rfl)⟩) (w_prS hE hEs hS) rfl rfl hl.1 rfl (lv_room (Nat.le_of_ble_eq_true rfl)) dX3_setAbroad_11 ⟨(Nat.le_of_ble_eq_true rfl), (Nat.le_of_ble_eq_true rfl)⟩) hS (fun _ h => h) ?_ fun H_8 lo_9 hp_10 hz_11 hq_12 hS => ?_
  · exact fun E ce q9 H9 lo9 hxp hz9 hq9 hS9 hce hcv hcl => w_out ht hk hS9 hce hcv hcl (by obtain ⟨rE, rn, rx⟩ := hxp; exact ⟨Or.inr (⟨rE, by omega, by omega⟩), hXv.ext rx⟩) (Nat.le_of_ble_eq_true rfl) (Nat.le_of_ble_eq_true rfl)
  obtain ⟨e_n_14, ra_n_14, rb_n_14⟩ := hp_10
  have e_n_14 := e_n_14.symm
  subst e_n_14
  refine w_iload_n X dX3_setAbroad_14 hl 4 rfl rfl ?_
  refine w_iload_n X dX3_setAbroad_15 hl 3 rfl rfl ?_
  refine w_bipush X dX3_setAbroad_16 (by decide) ?_
  refine w_xv (vx_runS (As := [.int (wI (b)), .int (wI (a)), .int (wI (12))]) (rest := []) X (c_X3_requireRange l hl9 g A H (b) (a) (12) (by omega) (by omega) (by omega)) (va_cwS 3 X.2.2.2.2 gX3_setAbroad_X3_requireRange rfl rfl rfl (by decide +kernel) ⟨(Nat.le_of_ble_eq_true rfl), (Nat.le_of_ble_eq_true rfl)⟩) (w_prS hE hEs hS) rfl rfl hl.1 rfl (lv_room (Nat.le_of_ble_eq_true rfl)) dX3_setAbroad_18 ⟨(Nat.le_of_ble_eq_true rfl), (Nat.le_of_ble_eq_true rfl)⟩) hS (fun _ h => h) ?_ fun H_15 lo_16 hp_17 hz_18 hq_19 hS => ?_
  · exact fun E ce q9 H9 lo9 hxp hz9 hq9 hS9 hce hcv hcl => w_out ht hk hS9 hce hcv hcl (by obtain ⟨rE, rn, rx⟩ := hxp; exact ⟨Or.inr (⟨rE, by omega, by omega⟩), hXv.ext rx⟩) (Nat.le_of_ble_eq_true rfl) (Nat.le_of_ble_eq_true rfl)
  obtain ⟨e_n_21, ra_n_21, rb_n_21⟩ := hp_17
  have e_n_21 := e_n_21.symm
  subst e_n_21
  refine w_aload X dX3_setAbroad_21 hl 0 rfl ?_
  refine w_callV (v := .int (wI (monS (sp σ i.toNat)))) 0 X hE (c_X2_monthsAbroad l g H (P (i).toNat) (sH σ (i).toNat) (sT σ (i).toNat) (sp σ (i).toNat) (sb σ (i).toNat) (so σ (i).toNat) hp_n_7) hL_n_7 hl dX3_setAbroad_23 gX3_setAbroad_X2_monthsAbroad rfl rfl (by decide +kernel) ⟨(Nat.le_of_ble_eq_true rfl), (Nat.le_of_ble_eq_true rfl)⟩ rfl rfl (Nat.le_of_ble_eq_true rfl) ⟨(Nat.le_of_ble_eq_true rfl), (Nat.le_of_ble_eq_true rfl)⟩ ?_
  refine w_istore X [(5, .int (wI (monS (sp σ i.toNat)))), (4, .ref (P (i).toNat)), (0, .ref x), (1, .int (wI (i))), (2, .int (wI (a))), (3, .int (wI (b)))] dX3_setAbroad_26 hl (by decide) rfl fun ls hl => ?_
  refine w_aload X dX3_setAbroad_28 hl 1 rfl ?_
  refine w_iload_n X dX3_setAbroad_30 hl 4 rfl rfl ?_
  refine w_putN (ref := "TaxEqualiser$Person") (v := .int (wI (a))) X hE hL_n_7 hS ga_n_7 4 dX3_setAbroad_31 rfl hin_RX2 tyX2 tyX2_ok nmX2 (by decide) (by decide +kernel) (fun _ h => h) rfl rfl rfl (Nat.le_of_ble_eq_true rfl) fun H_22 lo_23 ho_24 hz_25 hq_26 hS => ?_
  have ho_24 : Ob g H_22 (P (i).toNat) 3 [.ref (Ld (sp σ (i).toNat 0).toNat), .ref (Ld (sp σ (i).toNat 1).toNat), .ref (al ((i).toNat + 2)), .int (wI (sp σ (i).toNat 2)), .int (wI (a)), .int (wI (sp σ (i).toNat 4)), .int (wI (sp σ (i).toNat 5)), .int (wI (sp σ (i).toNat 6))] := ho_24
  have ho_27 := (hxO).kept (hq_26 _ (Ob.ne hGd (hxO) (hL_n_7) (by decide) (by decide) (by decide)))
  have ho_28 := (hX.l0).kept (hq_26 _ (Ob.ne hGd (hX.l0) (hL_n_7) (by decide) (by decide) (by decide)))
  have ho_29 := (hX.l1).kept (hq_26 _ (Ob.ne hGd (hX.l1) (hL_n_7) (by decide) (by decide) (by decide)))
  have ho_30 := ((hX.lb hi_n_7)).kept (hq_26 _ (Ob.ne hGd ((hX.lb hi_n_7)) (hL_n_7) (by decide) (by decide) (by decide)))
  refine w_aload X dX3_setAbroad_34 hl 1 rfl ?_
  refine w_iload_n X dX3_setAbroad_36 hl 5 rfl rfl ?_
  refine w_putN (ref := "TaxEqualiser$Person") (v := .int (wI (b))) X hE ho_24 hS ga_n_7 5 dX3_setAbroad_37 rfl hin_RX2 tyX2 tyX2_ok nmX2 (by decide) (by decide +kernel) (fun _ h => h) rfl rfl rfl (Nat.le_of_ble_eq_true rfl) fun H_31 lo_32 ho_33 hz_34 hq_35 hS => ?_
  have ho_33 : Ob g H_31 (P (i).toNat) 3 [.ref (Ld (sp σ (i).toNat 0).toNat), .ref (Ld (sp σ (i).toNat 1).toNat), .ref (al ((i).toNat + 2)), .int (wI (sp σ (i).toNat 2)), .int (wI (a)), .int (wI (b)), .int (wI (sp σ (i).toNat 5)), .int (wI (sp σ (i).toNat 6))] := ho_33
  have ho_36 := (ho_27).kept (hq_35 _ (Ob.ne hGd (ho_27) (ho_24) (by decide) (by decide) (by decide)))
  have ho_37 := (ho_28).kept (hq_35 _ (Ob.ne hGd (ho_28) (ho_24) (by decide) (by decide) (by decide)))
  have ho_38 := (ho_29).kept (hq_35 _ (Ob.ne hGd (ho_29) (ho_24) (by decide) (by decide) (by decide)))
  have ho_39 := (ho_30).kept (hq_35 _ (Ob.ne hGd (ho_30) (ho_24) (by decide) (by decide) (by decide)))
  refine w_iload X dX3_setAbroad_40 hl 0 rfl ?_
  exact vx_ret (w_irR X hr hk hS ⟨by omega, rfl, hX.toPers hGd hi_n_7 (pf := absS (sp σ i.toNat) a b) rfl rfl ho_33 (fun q hq => ((hq_35 _ hq)).trans (hq_26 _ hq))⟩ dX3_setAbroad_42 (Nat.le_of_ble_eq_true rfl) (Nat.le_of_ble_eq_true rfl))

set_option maxHeartbeats 4000000 in
set_option maxRecDepth 100000 in
theorem c_X3_setPay (l : Launch) (hl9 : l.stackTraces = false) (g : wG) (A : Nat → Prop) (H : Heap) (x : Nat) (σ : St) (hσ : StGood σ) (hXv : XInv g A x σ H) (i a : Int) (hi : wR i) (ha : wR a) : ThrR l g A H yX3_setPay wsX3_setPay 7 114 2 12 [.ref x, .int (wI (i)), .int (wI (a))] (fun v H1 => (((0 : Int) ≤ i ∧ i < (sn σ : Int)) ∧ (0 ≤ a ∧ a ≤ 100000)) ∧ v = .int (wI (sp σ i.toNat 2)) ∧ XInv g A x (nxPers σ i.toNat (payS (sp σ i.toNat) a)) H1) (fun E H1 => ((E = xnB ∧ ¬ ((0 : Int) ≤ i ∧ i < (sn σ : Int))) ∨ (E = xnA ∧ ((0 : Int) ≤ i ∧ i < (sn σ : Int)) ∧ ¬ (0 ≤ a ∧ a ≤ 100000))) ∧ XInv g A x σ H1) := by
  refine Thr.of (cc := cX3_setPay) (maxL := 5) (ret := (some .int)) (by decide) rfl (Nat.le_of_ble_eq_true rfl) ?_
  intro p9 e s m args below meth c X hE hEs ht hr hk hS ls hl
  have hl : lv_has ls 5 [(0, .ref x), (1, .int (wI (i))), (2, .int (wI (a)))] := hl
  have hin_RX2 : ∀ w ∈ u_ws RX2 TX2 8, w ∈ wsX3_setPay := by decide +kernel
  have hGd := hE.dis
  obtain ⟨al, el, mc, fl, Ld, P, hX⟩ := id hXv
  have hxO := hX.2.1.2
  obtain ⟨hs1, hs2, hs3, hs4⟩ := id hσ
  refine w_aload_n X dX3_setPay_0 hl 0 rfl rfl ?_
  refine w_iload_n X dX3_setPay_1 hl 1 rfl rfl ?_
  refine w_xr (vx_runV (As := [.int (wI (i))]) (rest := []) X (c_X3_personAt l hl9 g A H (sn σ) hs2 x (al 0) (al 1) hxO (mc 1) (el 1) hX.l1 (fl 1) hX.r1 hX.hB1 (i) (by omega)) (cwV 1 X.2.2.2.2 gX3_setPay_X3_personAt rfl rfl rfl (by decide +kernel) ⟨(Nat.le_of_ble_eq_true rfl), (Nat.le_of_ble_eq_true rfl)⟩) (w_prV hE hEs hS hxO rfl) rfl rfl hl.1 rfl (lv_room (Nat.le_of_ble_eq_true rfl)) dX3_setPay_2 ⟨(Nat.le_of_ble_eq_true rfl), (Nat.le_of_ble_eq_true rfl)⟩) hS (fun _ h => h) ?_ fun v_6 H_1 lo_2 hp_3 hz_4 hq_5 hS => ?_
  · exact fun E ce q9 H9 lo9 hxp hz9 hq9 hS9 hce hcv hcl => w_out ht hk hS9 hce hcv hcl (by obtain ⟨rE, rn, rx⟩ := hxp; exact ⟨Or.inl ⟨rE, by omega⟩, hXv.ext rx⟩) (Nat.le_of_ble_eq_true rfl) (Nat.le_of_ble_eq_true rfl)
  obtain ⟨e_n_7, ra_n_7, rb_n_7, q_n_7, f_n_7, rfl⟩ := hp_3
  have e_n_7 := e_n_7.symm
  subst e_n_7
  have hi_n_7 : (i).toNat < sn σ := by omega
  obtain ⟨gl_n_7, ga_n_7, hL_n_7⟩ := hX.2.2.2.2.1 (i).toNat hi_n_7
  obtain rfl : P (i).toNat = q_n_7 := Option.some.inj (gl_n_7.symm.trans f_n_7)
  have hp_n_7 := hX.pers hσ hi_n_7
  have hg_n_7 := (hs3 _ hi_n_7).1
  refine w_astore_n X [(3, .ref (P (i).toNat)), (0, .ref x), (1, .int (wI (i))), (2, .int (wI (a)))] dX3_setPay_5 hl rfl (by decide) rfl fun ls hl => ?_
  refine w_iload_n X dX3_setPay_6 hl 3 rfl rfl ?_
  refine w_iconst X dX3_setPay_7 ?_
  refine w_ldc (v := 100000) (z := 100000) X dX3_setPay_8 (by decide +kernel) (by decide) ?_
  refine w_xv (vx_runS (As := [.int (wI (a)), .int (wI (0)), .int (wI (100000))]) (rest := []) X (c_X3_requireRange l hl9 g A H (a) (0) (100000) (by omega) (by omega) (by omega)) (va_cwS 3 X.2.2.2.2 gX3_setPay_X3_requireRange rfl rfl rfl (by decide +kernel) ⟨(Nat.le_of_ble_eq_true rfl), (Nat.le_of_ble_eq_true rfl)⟩) (w_prS hE hEs hS) rfl rfl hl.1 rfl (lv_room (Nat.le_of_ble_eq_true rfl)) dX3_setPay_10 ⟨(Nat.le_of_ble_eq_true rfl), (Nat.le_of_ble_eq_true rfl)⟩) hS (fun _ h => h) ?_ fun H_8 lo_9 hp_10 hz_11 hq_12 hS => ?_
  · exact fun E ce q9 H9 lo9 hxp hz9 hq9 hS9 hce hcv hcl => w_out ht hk hS9 hce hcv hcl (by obtain ⟨rE, rn, rx⟩ := hxp; exact ⟨Or.inr (⟨rE, by omega, by omega⟩), hXv.ext rx⟩) (Nat.le_of_ble_eq_true rfl) (Nat.le_of_ble_eq_true rfl)
  obtain ⟨e_n_14, ra_n_14, rb_n_14⟩ := hp_10
  have e_n_14 := e_n_14.symm
  subst e_n_14
  refine w_aload_n X dX3_setPay_13 hl 0 rfl rfl ?_
  refine w_getN X hE hL_n_7 3 dX3_setPay_14 rfl hin_RX2 (by decide) (by decide +kernel) rfl rfl ?_
  refine w_istore X [(4, .int (wI (sp σ (i).toNat 2))), (3, .ref (P (i).toNat)), (0, .ref x), (1, .int (wI (i))), (2, .int (wI (a)))] dX3_setPay_17 hl (by decide) rfl fun ls hl => ?_
  refine w_aload_n X dX3_setPay_19 hl 1 rfl rfl ?_
  refine w_iload_n X dX3_setPay_20 hl 4 rfl rfl ?_
  refine w_putN (ref := "TaxEqualiser$Person") (v := .int (wI (a))) X hE hL_n_7 hS ga_n_7 3 dX3_setPay_21 rfl hin_RX2 tyX2 tyX2_ok nmX2 (by decide) (by decide +kernel) (fun _ h => h) rfl rfl rfl (Nat.le_of_ble_eq_true rfl) fun H_15 lo_16 ho_17 hz_18 hq_19 hS => ?_
  have ho_17 : Ob g H_15 (P (i).toNat) 3 [.ref (Ld (sp σ (i).toNat 0).toNat), .ref (Ld (sp σ (i).toNat 1).toNat), .ref (al ((i).toNat + 2)), .int (wI (a)), .int (wI (sp σ (i).toNat 3)), .int (wI (sp σ (i).toNat 4)), .int (wI (sp σ (i).toNat 5)), .int (wI (sp σ (i).toNat 6))] := ho_17
  have ho_20 := (hxO).kept (hq_19 _ (Ob.ne hGd (hxO) (hL_n_7) (by decide) (by decide) (by decide)))
  have ho_21 := (hX.l0).kept (hq_19 _ (Ob.ne hGd (hX.l0) (hL_n_7) (by decide) (by decide) (by decide)))
  have ho_22 := (hX.l1).kept (hq_19 _ (Ob.ne hGd (hX.l1) (hL_n_7) (by decide) (by decide) (by decide)))
  have ho_23 := ((hX.lb hi_n_7)).kept (hq_19 _ (Ob.ne hGd ((hX.lb hi_n_7)) (hL_n_7) (by decide) (by decide) (by decide)))
  refine w_iload X dX3_setPay_24 hl 0 rfl ?_
  exact vx_ret (w_irR X hr hk hS ⟨by omega, rfl, hX.toPers hGd hi_n_7 (pf := payS (sp σ i.toNat) a) rfl rfl ho_17 (fun q hq => (hq_19 _ hq))⟩ dX3_setPay_26 (Nat.le_of_ble_eq_true rfl) (Nat.le_of_ble_eq_true rfl))

set_option maxHeartbeats 4000000 in
set_option maxRecDepth 100000 in
theorem c_X3_setHousing (l : Launch) (hl9 : l.stackTraces = false) (g : wG) (A : Nat → Prop) (H : Heap) (x : Nat) (σ : St) (hσ : StGood σ) (hXv : XInv g A x σ H) (i a b : Int) (hi : wR i) (ha : wR a) (hb : wR b) : ThrR l g A H yX3_setHousing wsX3_setHousing 7 114 3 18 [.ref x, .int (wI (i)), .int (wI (a)), .int (wI (b))] (fun v H1 => (((0 : Int) ≤ i ∧ i < (sn σ : Int)) ∧ ((0 ≤ a ∧ a ≤ 50000) ∧ 0 ≤ b ∧ b ≤ 40)) ∧ v = .int (wI (ownS (renS (sp σ i.toNat) a b))) ∧ XInv g A x (nxPers σ i.toNat (renS (sp σ i.toNat) a b)) H1) (fun E H1 => ((E = xnB ∧ ¬ ((0 : Int) ≤ i ∧ i < (sn σ : Int))) ∨ (E = xnA ∧ ((0 : Int) ≤ i ∧ i < (sn σ : Int)) ∧ ¬ ((0 ≤ a ∧ a ≤ 50000) ∧ 0 ≤ b ∧ b ≤ 40))) ∧ XInv g A x σ H1) := by
  refine Thr.of (cc := cX3_setHousing) (maxL := 5) (ret := (some .int)) (by decide) rfl (Nat.le_of_ble_eq_true rfl) ?_
  intro p9 e s m args below meth c X hE hEs ht hr hk hS ls hl
  have hl : lv_has ls 5 [(0, .ref x), (1, .int (wI (i))), (2, .int (wI (a))), (3, .int (wI (b)))] := hl
  have hin_RX2 : ∀ w ∈ u_ws RX2 TX2 8, w ∈ wsX3_setHousing := by decide +kernel
  have hGd := hE.dis
  obtain ⟨al, el, mc, fl, Ld, P, hX⟩ := id hXv
  have hxO := hX.2.1.2
  obtain ⟨hs1, hs2, hs3, hs4⟩ := id hσ
  refine w_aload_n X dX3_setHousing_0 hl 0 rfl rfl ?_
  refine w_iload_n X dX3_setHousing_1 hl 1 rfl rfl ?_
  refine w_xr (vx_runV (As := [.int (wI (i))]) (rest := []) X (c_X3_personAt l hl9 g A H (sn σ) hs2 x (al 0) (al 1) hxO (mc 1) (el 1) hX.l1 (fl 1) hX.r1 hX.hB1 (i) (by omega)) (cwV 1 X.2.2.2.2 gX3_setHousing_X3_personAt rfl rfl rfl (by decide +kernel) ⟨(Nat.le_of_ble_eq_true rfl), (Nat.le_of_ble_eq_true rfl)⟩) (w_prV hE hEs hS hxO rfl) rfl rfl hl.1 rfl (lv_room (Nat.le_of_ble_eq_true rfl)) dX3_setHousing_2 ⟨(Nat.le_of_ble_eq_true rfl), (Nat.le_of_ble_eq_true rfl)⟩) hS (fun _ h => h) ?_ fun v_6 H_1 lo_2 hp_3 hz_4 hq_5 hS => ?_
  · exact fun E ce q9 H9 lo9 hxp hz9 hq9 hS9 hce hcv hcl => w_out ht hk hS9 hce hcv hcl (by obtain ⟨rE, rn, rx⟩ := hxp; exact ⟨Or.inl ⟨rE, by omega⟩, hXv.ext rx⟩) (Nat.le_of_ble_eq_true rfl) (Nat.le_of_ble_eq_true rfl)
  obtain ⟨e_n_7, ra_n_7, rb_n_7, q_n_7, f_n_7, rfl⟩ := hp_3
  have e_n_7 := e_n_7.symm
  subst e_n_7
  have hi_n_7 : (i).toNat < sn σ := by omega
  obtain ⟨gl_n_7, ga_n_7, hL_n_7⟩ := hX.2.2.2.2.1 (i).toNat hi_n_7
  obtain rfl : P (i).toNat = q_n_7 := Option.some.inj (gl_n_7.symm.trans f_n_7)
  have hp_n_7 := hX.pers hσ hi_n_7
  have hg_n_7 := (hs3 _ hi_n_7).1
  refine w_astore X [(4, .ref (P (i).toNat)), (0, .ref x), (1, .int (wI (i))), (2, .int (wI (a))), (3, .int (wI (b)))] dX3_setHousing_5 hl (by decide) rfl fun ls hl => ?_
  refine w_iload_n X dX3_setHousing_7 hl 3 rfl rfl ?_
  refine w_iconst X dX3_setHousing_8 ?_
  refine w_ldc (v := 50000) (z := 50000) X dX3_setHousing_9 (by decide +kernel) (by decide) ?_
  refine w_xv (vx_runS (As := [.int (wI (a)), .int (wI (0)), .int (wI (50000))]) (rest := []) X (c_X3_requireRange l hl9 g A H (a) (0) (50000) (by omega) (by omega) (by omega)) (va_cwS 3 X.2.2.2.2 gX3_setHousing_X3_requireRange rfl rfl rfl (by decide +kernel) ⟨(Nat.le_of_ble_eq_true rfl), (Nat.le_of_ble_eq_true rfl)⟩) (w_prS hE hEs hS) rfl rfl hl.1 rfl (lv_room (Nat.le_of_ble_eq_true rfl)) dX3_setHousing_11 ⟨(Nat.le_of_ble_eq_true rfl), (Nat.le_of_ble_eq_true rfl)⟩) hS (fun _ h => h) ?_ fun H_8 lo_9 hp_10 hz_11 hq_12 hS => ?_
  · exact fun E ce q9 H9 lo9 hxp hz9 hq9 hS9 hce hcv hcl => w_out ht hk hS9 hce hcv hcl (by obtain ⟨rE, rn, rx⟩ := hxp; exact ⟨Or.inr (⟨rE, by omega, by omega⟩), hXv.ext rx⟩) (Nat.le_of_ble_eq_true rfl) (Nat.le_of_ble_eq_true rfl)
  obtain ⟨e_n_14, ra_n_14, rb_n_14⟩ := hp_10
  have e_n_14 := e_n_14.symm
  subst e_n_14
  refine w_iload_n X dX3_setHousing_14 hl 4 rfl rfl ?_
  refine w_iconst X dX3_setHousing_15 ?_
  refine w_bipush X dX3_setHousing_16 (by decide) ?_
  refine w_xv (vx_runS (As := [.int (wI (b)), .int (wI (0)), .int (wI (40))]) (rest := []) X (c_X3_requireRange l hl9 g A H (b) (0) (40) (by omega) (by omega) (by omega)) (va_cwS 3 X.2.2.2.2 gX3_setHousing_X3_requireRange rfl rfl rfl (by decide +kernel) ⟨(Nat.le_of_ble_eq_true rfl), (Nat.le_of_ble_eq_true rfl)⟩) (w_prS hE hEs hS) rfl rfl hl.1 rfl (lv_room (Nat.le_of_ble_eq_true rfl)) dX3_setHousing_18 ⟨(Nat.le_of_ble_eq_true rfl), (Nat.le_of_ble_eq_true rfl)⟩) hS (fun _ h => h) ?_ fun H_15 lo_16 hp_17 hz_18 hq_19 hS => ?_
  · exact fun E ce q9 H9 lo9 hxp hz9 hq9 hS9 hce hcv hcl => w_out ht hk hS9 hce hcv hcl (by obtain ⟨rE, rn, rx⟩ := hxp; exact ⟨Or.inr (⟨rE, by omega, by omega⟩), hXv.ext rx⟩) (Nat.le_of_ble_eq_true rfl) (Nat.le_of_ble_eq_true rfl)
  obtain ⟨e_n_21, ra_n_21, rb_n_21⟩ := hp_17
  have e_n_21 := e_n_21.symm
  subst e_n_21
  refine w_aload X dX3_setHousing_21 hl 0 rfl ?_
  refine w_iload_n X dX3_setHousing_23 hl 3 rfl rfl ?_
  refine w_putN (ref := "TaxEqualiser$Person") (v := .int (wI (a))) X hE hL_n_7 hS ga_n_7 6 dX3_setHousing_24 rfl hin_RX2 tyX2 tyX2_ok nmX2 (by decide) (by decide +kernel) (fun _ h => h) rfl rfl rfl (Nat.le_of_ble_eq_true rfl) fun H_22 lo_23 ho_24 hz_25 hq_26 hS => ?_
  have ho_24 : Ob g H_22 (P (i).toNat) 3 [.ref (Ld (sp σ (i).toNat 0).toNat), .ref (Ld (sp σ (i).toNat 1).toNat), .ref (al ((i).toNat + 2)), .int (wI (sp σ (i).toNat 2)), .int (wI (sp σ (i).toNat 3)), .int (wI (sp σ (i).toNat 4)), .int (wI (a)), .int (wI (sp σ (i).toNat 6))] := ho_24
  have ho_27 := (hxO).kept (hq_26 _ (Ob.ne hGd (hxO) (hL_n_7) (by decide) (by decide) (by decide)))
  have ho_28 := (hX.l0).kept (hq_26 _ (Ob.ne hGd (hX.l0) (hL_n_7) (by decide) (by decide) (by decide)))
  have ho_29 := (hX.l1).kept (hq_26 _ (Ob.ne hGd (hX.l1) (hL_n_7) (by decide) (by decide) (by decide)))
  have ho_30 := ((hX.lb hi_n_7)).kept (hq_26 _ (Ob.ne hGd ((hX.lb hi_n_7)) (hL_n_7) (by decide) (by decide) (by decide)))
  refine w_aload X dX3_setHousing_27 hl 0 rfl ?_
  refine w_iload_n X dX3_setHousing_29 hl 4 rfl rfl ?_
  refine w_putN (ref := "TaxEqualiser$Person") (v := .int (wI (b))) X hE ho_24 hS ga_n_7 7 dX3_setHousing_30 rfl hin_RX2 tyX2 tyX2_ok nmX2 (by decide) (by decide +kernel) (fun _ h => h) rfl rfl rfl (Nat.le_of_ble_eq_true rfl) fun H_31 lo_32 ho_33 hz_34 hq_35 hS => ?_
  have ho_33 : Ob g H_31 (P (i).toNat) 3 [.ref (Ld (sp σ (i).toNat 0).toNat), .ref (Ld (sp σ (i).toNat 1).toNat), .ref (al ((i).toNat + 2)), .int (wI (sp σ (i).toNat 2)), .int (wI (sp σ (i).toNat 3)), .int (wI (sp σ (i).toNat 4)), .int (wI (a)), .int (wI (b))] := ho_33
  have ho_36 := (ho_27).kept (hq_35 _ (Ob.ne hGd (ho_27) (ho_24) (by decide) (by decide) (by decide)))
  have ho_37 := (ho_28).kept (hq_35 _ (Ob.ne hGd (ho_28) (ho_24) (by decide) (by decide) (by decide)))
  have ho_38 := (ho_29).kept (hq_35 _ (Ob.ne hGd (ho_29) (ho_24) (by decide) (by decide) (by decide)))
  have ho_39 := (ho_30).kept (hq_35 _ (Ob.ne hGd (ho_30) (ho_24) (by decide) (by decide) (by decide)))
  have hgN : pGood (renS (sp σ i.toNat) a b) (sb σ i.toNat) (so σ i.toNat) := ⟨hg_n_7.1, hg_n_7.2.1, (by omega : 0 ≤ a ∧ a ≤ 50000), (by omega : 0 ≤ b ∧ b ≤ 40), hg_n_7.2.2.2.2⟩
  have hXN : XI g A H_31 x (nxPers σ i.toNat (renS (sp σ i.toNat) a b)) al el mc fl Ld P := hX.toPersI hGd hi_n_7 (pf := (renS (sp σ i.toNat) a b)) rfl rfl ho_33 (fun q hq => ((hq_35 _ hq)).trans (hq_26 _ hq))
  have hpN := hXN.pers (hσ.pers hi_n_7 hgN rfl rfl) (i := i.toNat) hi_n_7
  rw [show sp (nxPers σ i.toNat (renS (sp σ i.toNat) a b)) i.toNat = (renS (sp σ i.toNat) a b) from va_up_self _ _ _] at hpN
  refine w_aload X dX3_setHousing_33 hl 0 rfl ?_
  refine w_callV (v := .int (wI (ownS (renS (sp σ i.toNat) a b)))) 0 X hE (c_X2_ownShare l g H_31 (P (i).toNat) _ _ (renS (sp σ i.toNat) a b) _ _ hpN) ho_33 hl dX3_setHousing_35 gX3_setHousing_X2_ownShare rfl rfl (by decide +kernel) ⟨(Nat.le_of_ble_eq_true rfl), (Nat.le_of_ble_eq_true rfl)⟩ rfl rfl (Nat.le_of_ble_eq_true rfl) ⟨(Nat.le_of_ble_eq_true rfl), (Nat.le_of_ble_eq_true rfl)⟩ ?_
  exact vx_ret (w_irR X hr hk hS ⟨by omega, rfl, _, _, _, _, _, _, hXN⟩ dX3_setHousing_38 (Nat.le_of_ble_eq_true rfl) (Nat.le_of_ble_eq_true rfl))

set_option maxHeartbeats 4000000 in
set_option maxRecDepth 100000 in
theorem c_X3_supposedTax (l : Launch) (hl9 : l.stackTraces = false) (g : wG) (A : Nat → Prop) (H : Heap) (x : Nat) (σ : St) (hσ : StGood σ) (hXv : XInv g A x σ H) (i : Int) (hi : wR i) : ThrR l g A H yX3_supposedTax wsX3_supposedTax 7 113 1 6 [.ref x, .int (wI (i))] (fun v H1 => (((0 : Int) ≤ i ∧ i < (sn σ : Int))) ∧ v = .int (wI (supS (sH σ i.toNat) (sp σ i.toNat) (sb σ i.toNat) (so σ i.toNat))) ∧ XInv g A x (σ) H1) (fun E H1 => ((E = xnB ∧ ¬ ((0 : Int) ≤ i ∧ i < (sn σ : Int)))) ∧ XInv g A x σ H1) := by
  refine Thr.of (cc := cX3_supposedTax) (maxL := 2) (ret := (some .int)) (by decide) rfl (Nat.le_of_ble_eq_true rfl) ?_
  intro p9 e s m args below meth c X hE hEs ht hr hk hS ls hl
  have hl : lv_has ls 2 [(0, .ref x), (1, .int (wI (i)))] := hl
  have hGd := hE.dis
  obtain ⟨al, el, mc, fl, Ld, P, hX⟩ := id hXv
  have hxO := hX.2.1.2
  obtain ⟨hs1, hs2, hs3, hs4⟩ := id hσ
  refine w_aload_n X dX3_supposedTax_0 hl 0 rfl rfl ?_
  refine w_iload_n X dX3_supposedTax_1 hl 1 rfl rfl ?_
  refine w_xr (vx_runV (As := [.int (wI (i))]) (rest := []) X (c_X3_personAt l hl9 g A H (sn σ) hs2 x (al 0) (al 1) hxO (mc 1) (el 1) hX.l1 (fl 1) hX.r1 hX.hB1 (i) (by omega)) (cwV 1 X.2.2.2.2 gX3_supposedTax_X3_personAt rfl rfl rfl (by decide +kernel) ⟨(Nat.le_of_ble_eq_true rfl), (Nat.le_of_ble_eq_true rfl)⟩) (w_prV hE hEs hS hxO rfl) rfl rfl hl.1 rfl (lv_room (Nat.le_of_ble_eq_true rfl)) dX3_supposedTax_2 ⟨(Nat.le_of_ble_eq_true rfl), (Nat.le_of_ble_eq_true rfl)⟩) hS (fun _ h => h) ?_ fun v_6 H_1 lo_2 hp_3 hz_4 hq_5 hS => ?_
  · exact fun E ce q9 H9 lo9 hxp hz9 hq9 hS9 hce hcv hcl => w_out ht hk hS9 hce hcv hcl (by obtain ⟨rE, rn, rx⟩ := hxp; exact ⟨⟨rE, by omega⟩, hXv.ext rx⟩) (Nat.le_of_ble_eq_true rfl) (Nat.le_of_ble_eq_true rfl)
  obtain ⟨e_n_7, ra_n_7, rb_n_7, q_n_7, f_n_7, rfl⟩ := hp_3
  have e_n_7 := e_n_7.symm
  subst e_n_7
  have hi_n_7 : (i).toNat < sn σ := by omega
  obtain ⟨gl_n_7, ga_n_7, hL_n_7⟩ := hX.2.2.2.2.1 (i).toNat hi_n_7
  obtain rfl : P (i).toNat = q_n_7 := Option.some.inj (gl_n_7.symm.trans f_n_7)
  have hp_n_7 := hX.pers hσ hi_n_7
  have hg_n_7 := (hs3 _ hi_n_7).1
  refine w_callV (v := .int (wI (supS (sH σ i.toNat) (sp σ i.toNat) (sb σ i.toNat) (so σ i.toNat)))) 0 X hE (c_X2_supposedTaxOfYear l g H (P (i).toNat) (sH σ (i).toNat) (sT σ (i).toNat) (sp σ (i).toNat) (sb σ (i).toNat) (so σ (i).toNat) hp_n_7) hL_n_7 hl dX3_supposedTax_5 gX3_supposedTax_X2_supposedTaxOfYear rfl rfl (by decide +kernel) ⟨(Nat.le_of_ble_eq_true rfl), (Nat.le_of_ble_eq_true rfl)⟩ rfl rfl (Nat.le_of_ble_eq_true rfl) ⟨(Nat.le_of_ble_eq_true rfl), (Nat.le_of_ble_eq_true rfl)⟩ ?_
  exact vx_ret (w_irR X hr hk hS ⟨by omega, rfl, hXv⟩ dX3_supposedTax_8 (Nat.le_of_ble_eq_true rfl) (Nat.le_of_ble_eq_true rfl))

set_option maxHeartbeats 4000000 in
set_option maxRecDepth 100000 in
theorem c_X3_homeIncome (l : Launch) (hl9 : l.stackTraces = false) (g : wG) (A : Nat → Prop) (H : Heap) (x : Nat) (σ : St) (hσ : StGood σ) (hXv : XInv g A x σ H) (i : Int) (hi : wR i) : ThrR l g A H yX3_homeIncome wsX3_homeIncome 7 113 1 6 [.ref x, .int (wI (i))] (fun v H1 => (((0 : Int) ≤ i ∧ i < (sn σ : Int))) ∧ v = .int (wI (ahS (sp σ i.toNat) (sb σ i.toNat) (so σ i.toNat))) ∧ XInv g A x (σ) H1) (fun E H1 => ((E = xnB ∧ ¬ ((0 : Int) ≤ i ∧ i < (sn σ : Int)))) ∧ XInv g A x σ H1) := by
  refine Thr.of (cc := cX3_homeIncome) (maxL := 2) (ret := (some .int)) (by decide) rfl (Nat.le_of_ble_eq_true rfl) ?_
  intro p9 e s m args below meth c X hE hEs ht hr hk hS ls hl
  have hl : lv_has ls 2 [(0, .ref x), (1, .int (wI (i)))] := hl
  have hGd := hE.dis
  obtain ⟨al, el, mc, fl, Ld, P, hX⟩ := id hXv
  have hxO := hX.2.1.2
  obtain ⟨hs1, hs2, hs3, hs4⟩ := id hσ
  refine w_aload_n X dX3_homeIncome_0 hl 0 rfl rfl ?_
  refine w_iload_n X dX3_homeIncome_1 hl 1 rfl rfl ?_
  refine w_xr (vx_runV (As := [.int (wI (i))]) (rest := []) X (c_X3_personAt l hl9 g A H (sn σ) hs2 x (al 0) (al 1) hxO (mc 1) (el 1) hX.l1 (fl 1) hX.r1 hX.hB1 (i) (by omega)) (cwV 1 X.2.2.2.2 gX3_homeIncome_X3_personAt rfl rfl rfl (by decide +kernel) ⟨(Nat.le_of_ble_eq_true rfl), (Nat.le_of_ble_eq_true rfl)⟩) (w_prV hE hEs hS hxO rfl) rfl rfl hl.1 rfl (lv_room (Nat.le_of_ble_eq_true rfl)) dX3_homeIncome_2 ⟨(Nat.le_of_ble_eq_true rfl), (Nat.le_of_ble_eq_true rfl)⟩) hS (fun _ h => h) ?_ fun v_6 H_1 lo_2 hp_3 hz_4 hq_5 hS => ?_
  · exact fun E ce q9 H9 lo9 hxp hz9 hq9 hS9 hce hcv hcl => w_out ht hk hS9 hce hcv hcl (by obtain ⟨rE, rn, rx⟩ := hxp; exact ⟨⟨rE, by omega⟩, hXv.ext rx⟩) (Nat.le_of_ble_eq_true rfl) (Nat.le_of_ble_eq_true rfl)
  obtain ⟨e_n_7, ra_n_7, rb_n_7, q_n_7, f_n_7, rfl⟩ := hp_3
  have e_n_7 := e_n_7.symm
  subst e_n_7
  have hi_n_7 : (i).toNat < sn σ := by omega
  obtain ⟨gl_n_7, ga_n_7, hL_n_7⟩ := hX.2.2.2.2.1 (i).toNat hi_n_7
  obtain rfl : P (i).toNat = q_n_7 := Option.some.inj (gl_n_7.symm.trans f_n_7)
  have hp_n_7 := hX.pers hσ hi_n_7
  have hg_n_7 := (hs3 _ hi_n_7).1
  refine w_callV (v := .int (wI (ahS (sp σ i.toNat) (sb σ i.toNat) (so σ i.toNat)))) 0 X hE (c_X2_incomeAtHome l g H (P (i).toNat) (sH σ (i).toNat) (sT σ (i).toNat) (sp σ (i).toNat) (sb σ (i).toNat) (so σ (i).toNat) hp_n_7) hL_n_7 hl dX3_homeIncome_5 gX3_homeIncome_X2_incomeAtHome rfl rfl (by decide +kernel) ⟨(Nat.le_of_ble_eq_true rfl), (Nat.le_of_ble_eq_true rfl)⟩ rfl rfl (Nat.le_of_ble_eq_true rfl) ⟨(Nat.le_of_ble_eq_true rfl), (Nat.le_of_ble_eq_true rfl)⟩ ?_
  exact vx_ret (w_irR X hr hk hS ⟨by omega, rfl, hXv⟩ dX3_homeIncome_8 (Nat.le_of_ble_eq_true rfl) (Nat.le_of_ble_eq_true rfl))

set_option maxHeartbeats 4000000 in
set_option maxRecDepth 100000 in
theorem c_X3_homeTax (l : Launch) (hl9 : l.stackTraces = false) (g : wG) (A : Nat → Prop) (H : Heap) (x : Nat) (σ : St) (hσ : StGood σ) (hXv : XInv g A x σ H) (i : Int) (hi : wR i) : ThrR l g A H yX3_homeTax wsX3_homeTax 7 113 1 6 [.ref x, .int (wI (i))] (fun v H1 => (((0 : Int) ≤ i ∧ i < (sn σ : Int))) ∧ v = .int (wI (tahS (sH σ i.toNat) (sp σ i.toNat) (sb σ i.toNat) (so σ i.toNat))) ∧ XInv g A x (σ) H1) (fun E H1 => ((E = xnB ∧ ¬ ((0 : Int) ≤ i ∧ i < (sn σ : Int)))) ∧ XInv g A x σ H1) := by
  refine Thr.of (cc := cX3_homeTax) (maxL := 2) (ret := (some .int)) (by decide) rfl (Nat.le_of_ble_eq_true rfl) ?_
  intro p9 e s m args below meth c X hE hEs ht hr hk hS ls hl
  have hl : lv_has ls 2 [(0, .ref x), (1, .int (wI (i)))] := hl
  have hGd := hE.dis
  obtain ⟨al, el, mc, fl, Ld, P, hX⟩ := id hXv
  have hxO := hX.2.1.2
  obtain ⟨hs1, hs2, hs3, hs4⟩ := id hσ
  refine w_aload_n X dX3_homeTax_0 hl 0 rfl rfl ?_
  refine w_iload_n X dX3_homeTax_1 hl 1 rfl rfl ?_
  refine w_xr (vx_runV (As := [.int (wI (i))]) (rest := []) X (c_X3_personAt l hl9 g A H (sn σ) hs2 x (al 0) (al 1) hxO (mc 1) (el 1) hX.l1 (fl 1) hX.r1 hX.hB1 (i) (by omega)) (cwV 1 X.2.2.2.2 gX3_homeTax_X3_personAt rfl rfl rfl (by decide +kernel) ⟨(Nat.le_of_ble_eq_true rfl), (Nat.le_of_ble_eq_true rfl)⟩) (w_prV hE hEs hS hxO rfl) rfl rfl hl.1 rfl (lv_room (Nat.le_of_ble_eq_true rfl)) dX3_homeTax_2 ⟨(Nat.le_of_ble_eq_true rfl), (Nat.le_of_ble_eq_true rfl)⟩) hS (fun _ h => h) ?_ fun v_6 H_1 lo_2 hp_3 hz_4 hq_5 hS => ?_
  · exact fun E ce q9 H9 lo9 hxp hz9 hq9 hS9 hce hcv hcl => w_out ht hk hS9 hce hcv hcl (by obtain ⟨rE, rn, rx⟩ := hxp; exact ⟨⟨rE, by omega⟩, hXv.ext rx⟩) (Nat.le_of_ble_eq_true rfl) (Nat.le_of_ble_eq_true rfl)
  obtain ⟨e_n_7, ra_n_7, rb_n_7, q_n_7, f_n_7, rfl⟩ := hp_3
  have e_n_7 := e_n_7.symm
  subst e_n_7
  have hi_n_7 : (i).toNat < sn σ := by omega
  obtain ⟨gl_n_7, ga_n_7, hL_n_7⟩ := hX.2.2.2.2.1 (i).toNat hi_n_7
  obtain rfl : P (i).toNat = q_n_7 := Option.some.inj (gl_n_7.symm.trans f_n_7)
  have hp_n_7 := hX.pers hσ hi_n_7
  have hg_n_7 := (hs3 _ hi_n_7).1
  refine w_callV (v := .int (wI (tahS (sH σ i.toNat) (sp σ i.toNat) (sb σ i.toNat) (so σ i.toNat)))) 0 X hE (c_X2_taxAtHome l g H (P (i).toNat) (sH σ (i).toNat) (sT σ (i).toNat) (sp σ (i).toNat) (sb σ (i).toNat) (so σ (i).toNat) hp_n_7) hL_n_7 hl dX3_homeTax_5 gX3_homeTax_X2_taxAtHome rfl rfl (by decide +kernel) ⟨(Nat.le_of_ble_eq_true rfl), (Nat.le_of_ble_eq_true rfl)⟩ rfl rfl (Nat.le_of_ble_eq_true rfl) ⟨(Nat.le_of_ble_eq_true rfl), (Nat.le_of_ble_eq_true rfl)⟩ ?_
  exact vx_ret (w_irR X hr hk hS ⟨by omega, rfl, hXv⟩ dX3_homeTax_8 (Nat.le_of_ble_eq_true rfl) (Nat.le_of_ble_eq_true rfl))

set_option maxHeartbeats 4000000 in
set_option maxRecDepth 100000 in
theorem c_X3_hostIncome (l : Launch) (hl9 : l.stackTraces = false) (g : wG) (A : Nat → Prop) (H : Heap) (x : Nat) (σ : St) (hσ : StGood σ) (hXv : XInv g A x σ H) (i : Int) (hi : wR i) : ThrR l g A H yX3_hostIncome wsX3_hostIncome 7 113 1 6 [.ref x, .int (wI (i))] (fun v H1 => (((0 : Int) ≤ i ∧ i < (sn σ : Int))) ∧ v = .int (wI (aosS (sp σ i.toNat) (sb σ i.toNat) (so σ i.toNat))) ∧ XInv g A x (σ) H1) (fun E H1 => ((E = xnB ∧ ¬ ((0 : Int) ≤ i ∧ i < (sn σ : Int)))) ∧ XInv g A x σ H1) := by
  refine Thr.of (cc := cX3_hostIncome) (maxL := 2) (ret := (some .int)) (by decide) rfl (Nat.le_of_ble_eq_true rfl) ?_
  intro p9 e s m args below meth c X hE hEs ht hr hk hS ls hl
  have hl : lv_has ls 2 [(0, .ref x), (1, .int (wI (i)))] := hl
  have hGd := hE.dis
  obtain ⟨al, el, mc, fl, Ld, P, hX⟩ := id hXv
  have hxO := hX.2.1.2
  obtain ⟨hs1, hs2, hs3, hs4⟩ := id hσ
  refine w_aload_n X dX3_hostIncome_0 hl 0 rfl rfl ?_
  refine w_iload_n X dX3_hostIncome_1 hl 1 rfl rfl ?_
  refine w_xr (vx_runV (As := [.int (wI (i))]) (rest := []) X (c_X3_personAt l hl9 g A H (sn σ) hs2 x (al 0) (al 1) hxO (mc 1) (el 1) hX.l1 (fl 1) hX.r1 hX.hB1 (i) (by omega)) (cwV 1 X.2.2.2.2 gX3_hostIncome_X3_personAt rfl rfl rfl (by decide +kernel) ⟨(Nat.le_of_ble_eq_true rfl), (Nat.le_of_ble_eq_true rfl)⟩) (w_prV hE hEs hS hxO rfl) rfl rfl hl.1 rfl (lv_room (Nat.le_of_ble_eq_true rfl)) dX3_hostIncome_2 ⟨(Nat.le_of_ble_eq_true rfl), (Nat.le_of_ble_eq_true rfl)⟩) hS (fun _ h => h) ?_ fun v_6 H_1 lo_2 hp_3 hz_4 hq_5 hS => ?_
  · exact fun E ce q9 H9 lo9 hxp hz9 hq9 hS9 hce hcv hcl => w_out ht hk hS9 hce hcv hcl (by obtain ⟨rE, rn, rx⟩ := hxp; exact ⟨⟨rE, by omega⟩, hXv.ext rx⟩) (Nat.le_of_ble_eq_true rfl) (Nat.le_of_ble_eq_true rfl)
  obtain ⟨e_n_7, ra_n_7, rb_n_7, q_n_7, f_n_7, rfl⟩ := hp_3
  have e_n_7 := e_n_7.symm
  subst e_n_7
  have hi_n_7 : (i).toNat < sn σ := by omega
  obtain ⟨gl_n_7, ga_n_7, hL_n_7⟩ := hX.2.2.2.2.1 (i).toNat hi_n_7
  obtain rfl : P (i).toNat = q_n_7 := Option.some.inj (gl_n_7.symm.trans f_n_7)
  have hp_n_7 := hX.pers hσ hi_n_7
  have hg_n_7 := (hs3 _ hi_n_7).1
  refine w_callV (v := .int (wI (aosS (sp σ i.toNat) (sb σ i.toNat) (so σ i.toNat)))) 0 X hE (c_X2_incomeAtHost l g H (P (i).toNat) (sH σ (i).toNat) (sT σ (i).toNat) (sp σ (i).toNat) (sb σ (i).toNat) (so σ (i).toNat) hp_n_7) hL_n_7 hl dX3_hostIncome_5 gX3_hostIncome_X2_incomeAtHost rfl rfl (by decide +kernel) ⟨(Nat.le_of_ble_eq_true rfl), (Nat.le_of_ble_eq_true rfl)⟩ rfl rfl (Nat.le_of_ble_eq_true rfl) ⟨(Nat.le_of_ble_eq_true rfl), (Nat.le_of_ble_eq_true rfl)⟩ ?_
  exact vx_ret (w_irR X hr hk hS ⟨by omega, rfl, hXv⟩ dX3_hostIncome_8 (Nat.le_of_ble_eq_true rfl) (Nat.le_of_ble_eq_true rfl))

set_option maxHeartbeats 4000000 in
set_option maxRecDepth 100000 in
theorem c_X3_hostTax (l : Launch) (hl9 : l.stackTraces = false) (g : wG) (A : Nat → Prop) (H : Heap) (x : Nat) (σ : St) (hσ : StGood σ) (hXv : XInv g A x σ H) (i : Int) (hi : wR i) : ThrR l g A H yX3_hostTax wsX3_hostTax 7 113 1 6 [.ref x, .int (wI (i))] (fun v H1 => (((0 : Int) ≤ i ∧ i < (sn σ : Int))) ∧ v = .int (wI (taoS (sT σ i.toNat) (sp σ i.toNat) (sb σ i.toNat) (so σ i.toNat))) ∧ XInv g A x (σ) H1) (fun E H1 => ((E = xnB ∧ ¬ ((0 : Int) ≤ i ∧ i < (sn σ : Int)))) ∧ XInv g A x σ H1) := by
  refine Thr.of (cc := cX3_hostTax) (maxL := 2) (ret := (some .int)) (by decide) rfl (Nat.le_of_ble_eq_true rfl) ?_
  intro p9 e s m args below meth c X hE hEs ht hr hk hS ls hl
  have hl : lv_has ls 2 [(0, .ref x), (1, .int (wI (i)))] := hl
  have hGd := hE.dis
  obtain ⟨al, el, mc, fl, Ld, P, hX⟩ := id hXv
  have hxO := hX.2.1.2
  obtain ⟨hs1, hs2, hs3, hs4⟩ := id hσ
  refine w_aload_n X dX3_hostTax_0 hl 0 rfl rfl ?_
  refine w_iload_n X dX3_hostTax_1 hl 1 rfl rfl ?_
  refine w_xr (vx_runV (As := [.int (wI (i))]) (rest := []) X (c_X3_personAt l hl9 g A H (sn σ) hs2 x (al 0) (al 1) hxO (mc 1) (el 1) hX.l1 (fl 1) hX.r1 hX.hB1 (i) (by omega)) (cwV 1 X.2.2.2.2 gX3_hostTax_X3_personAt rfl rfl rfl (by decide +kernel) ⟨(Nat.le_of_ble_eq_true rfl), (Nat.le_of_ble_eq_true rfl)⟩) (w_prV hE hEs hS hxO rfl) rfl rfl hl.1 rfl (lv_room (Nat.le_of_ble_eq_true rfl)) dX3_hostTax_2 ⟨(Nat.le_of_ble_eq_true rfl), (Nat.le_of_ble_eq_true rfl)⟩) hS (fun _ h => h) ?_ fun v_6 H_1 lo_2 hp_3 hz_4 hq_5 hS => ?_
  · exact fun E ce q9 H9 lo9 hxp hz9 hq9 hS9 hce hcv hcl => w_out ht hk hS9 hce hcv hcl (by obtain ⟨rE, rn, rx⟩ := hxp; exact ⟨⟨rE, by omega⟩, hXv.ext rx⟩) (Nat.le_of_ble_eq_true rfl) (Nat.le_of_ble_eq_true rfl)
  obtain ⟨e_n_7, ra_n_7, rb_n_7, q_n_7, f_n_7, rfl⟩ := hp_3
  have e_n_7 := e_n_7.symm
  subst e_n_7
  have hi_n_7 : (i).toNat < sn σ := by omega
  obtain ⟨gl_n_7, ga_n_7, hL_n_7⟩ := hX.2.2.2.2.1 (i).toNat hi_n_7
  obtain rfl : P (i).toNat = q_n_7 := Option.some.inj (gl_n_7.symm.trans f_n_7)
  have hp_n_7 := hX.pers hσ hi_n_7
  have hg_n_7 := (hs3 _ hi_n_7).1
  refine w_callV (v := .int (wI (taoS (sT σ i.toNat) (sp σ i.toNat) (sb σ i.toNat) (so σ i.toNat)))) 0 X hE (c_X2_taxAtHost l g H (P (i).toNat) (sH σ (i).toNat) (sT σ (i).toNat) (sp σ (i).toNat) (sb σ (i).toNat) (so σ (i).toNat) hp_n_7) hL_n_7 hl dX3_hostTax_5 gX3_hostTax_X2_taxAtHost rfl rfl (by decide +kernel) ⟨(Nat.le_of_ble_eq_true rfl), (Nat.le_of_ble_eq_true rfl)⟩ rfl rfl (Nat.le_of_ble_eq_true rfl) ⟨(Nat.le_of_ble_eq_true rfl), (Nat.le_of_ble_eq_true rfl)⟩ ?_
  exact vx_ret (w_irR X hr hk hS ⟨by omega, rfl, hXv⟩ dX3_hostTax_8 (Nat.le_of_ble_eq_true rfl) (Nat.le_of_ble_eq_true rfl))

set_option maxHeartbeats 4000000 in
set_option maxRecDepth 100000 in
theorem c_X3_borne (l : Launch) (hl9 : l.stackTraces = false) (g : wG) (A : Nat → Prop) (H : Heap) (x : Nat) (σ : St) (hσ : StGood σ) (hXv : XInv g A x σ H) (i : Int) (hi : wR i) : ThrR l g A H yX3_borne wsX3_borne 7 128 1 6 [.ref x, .int (wI (i))] (fun v H1 => (((0 : Int) ≤ i ∧ i < (sn σ : Int))) ∧ v = .int (wI (borS (sH σ i.toNat) (sp σ i.toNat) (sb σ i.toNat) (so σ i.toNat))) ∧ XInv g A x (σ) H1) (fun E H1 => ((E = xnB ∧ ¬ ((0 : Int) ≤ i ∧ i < (sn σ : Int)))) ∧ XInv g A x σ H1) := by
  refine Thr.of (cc := cX3_borne) (maxL := 2) (ret := (some .int)) (by decide) rfl (Nat.le_of_ble_eq_true rfl) ?_
  intro p9 e s m args below meth c X hE hEs ht hr hk hS ls hl
  have hl : lv_has ls 2 [(0, .ref x), (1, .int (wI (i)))] := hl
  have hGd := hE.dis
  obtain ⟨al, el, mc, fl, Ld, P, hX⟩ := id hXv
  have hxO := hX.2.1.2
  obtain ⟨hs1, hs2, hs3, hs4⟩ := id hσ
  refine w_aload_n X dX3_borne_0 hl 0 rfl rfl ?_
  refine w_iload_n X dX3_borne_1 hl 1 rfl rfl ?_
  refine w_xr (vx_runV (As := [.int (wI (i))]) (rest := []) X (c_X3_personAt l hl9 g A H (sn σ) hs2 x (al 0) (al 1) hxO (mc 1) (el 1) hX.l1 (fl 1) hX.r1 hX.hB1 (i) (by omega)) (cwV 1 X.2.2.2.2 gX3_borne_X3_personAt rfl rfl rfl (by decide +kernel) ⟨(Nat.le_of_ble_eq_true rfl), (Nat.le_of_ble_eq_true rfl)⟩) (w_prV hE hEs hS hxO rfl) rfl rfl hl.1 rfl (lv_room (Nat.le_of_ble_eq_true rfl)) dX3_borne_2 ⟨(Nat.le_of_ble_eq_true rfl), (Nat.le_of_ble_eq_true rfl)⟩) hS (fun _ h => h) ?_ fun v_6 H_1 lo_2 hp_3 hz_4 hq_5 hS => ?_
  · exact fun E ce q9 H9 lo9 hxp hz9 hq9 hS9 hce hcv hcl => w_out ht hk hS9 hce hcv hcl (by obtain ⟨rE, rn, rx⟩ := hxp; exact ⟨⟨rE, by omega⟩, hXv.ext rx⟩) (Nat.le_of_ble_eq_true rfl) (Nat.le_of_ble_eq_true rfl)
  obtain ⟨e_n_7, ra_n_7, rb_n_7, q_n_7, f_n_7, rfl⟩ := hp_3
  have e_n_7 := e_n_7.symm
  subst e_n_7
  have hi_n_7 : (i).toNat < sn σ := by omega
  obtain ⟨gl_n_7, ga_n_7, hL_n_7⟩ := hX.2.2.2.2.1 (i).toNat hi_n_7
  obtain rfl : P (i).toNat = q_n_7 := Option.some.inj (gl_n_7.symm.trans f_n_7)
  have hp_n_7 := hX.pers hσ hi_n_7
  have hg_n_7 := (hs3 _ hi_n_7).1
  refine w_callV (v := .int (wI (borS (sH σ i.toNat) (sp σ i.toNat) (sb σ i.toNat) (so σ i.toNat)))) 0 X hE (c_X2_borneInYear l g H (P (i).toNat) (sH σ (i).toNat) (sT σ (i).toNat) (sp σ (i).toNat) (sb σ (i).toNat) (so σ (i).toNat) hp_n_7) hL_n_7 hl dX3_borne_5 gX3_borne_X2_borneInYear rfl rfl (by decide +kernel) ⟨(Nat.le_of_ble_eq_true rfl), (Nat.le_of_ble_eq_true rfl)⟩ rfl rfl (Nat.le_of_ble_eq_true rfl) ⟨(Nat.le_of_ble_eq_true rfl), (Nat.le_of_ble_eq_true rfl)⟩ ?_
  exact vx_ret (w_irR X hr hk hS ⟨by omega, rfl, hXv⟩ dX3_borne_8 (Nat.le_of_ble_eq_true rfl) (Nat.le_of_ble_eq_true rfl))

set_option maxHeartbeats 4000000 in
set_option maxRecDepth 100000 in
theorem c_X3_settlement (l : Launch) (hl9 : l.stackTraces = false) (g : wG) (A : Nat → Prop) (H : Heap) (x : Nat) (σ : St) (hσ : StGood σ) (hXv : XInv g A x σ H) (i : Int) (hi : wR i) : ThrR l g A H yX3_settlement wsX3_settlement 7 148 1 6 [.ref x, .int (wI (i))] (fun v H1 => (((0 : Int) ≤ i ∧ i < (sn σ : Int))) ∧ v = .int (wI (setS (sH σ i.toNat) (sp σ i.toNat) (sb σ i.toNat) (so σ i.toNat))) ∧ XInv g A x (σ) H1) (fun E H1 => ((E = xnB ∧ ¬ ((0 : Int) ≤ i ∧ i < (sn σ : Int)))) ∧ XInv g A x σ H1) := by
  refine Thr.of (cc := cX3_settlement) (maxL := 2) (ret := (some .int)) (by decide) rfl (Nat.le_of_ble_eq_true rfl) ?_
  intro p9 e s m args below meth c X hE hEs ht hr hk hS ls hl
  have hl : lv_has ls 2 [(0, .ref x), (1, .int (wI (i)))] := hl
  have hGd := hE.dis
  obtain ⟨al, el, mc, fl, Ld, P, hX⟩ := id hXv
  have hxO := hX.2.1.2
  obtain ⟨hs1, hs2, hs3, hs4⟩ := id hσ
  refine w_aload_n X dX3_settlement_0 hl 0 rfl rfl ?_
  refine w_iload_n X dX3_settlement_1 hl 1 rfl rfl ?_
  refine w_xr (vx_runV (As := [.int (wI (i))]) (rest := []) X (c_X3_personAt l hl9 g A H (sn σ) hs2 x (al 0) (al 1) hxO (mc 1) (el 1) hX.l1 (fl 1) hX.r1 hX.hB1 (i) (by omega)) (cwV 1 X.2.2.2.2 gX3_settlement_X3_personAt rfl rfl rfl (by decide +kernel) ⟨(Nat.le_of_ble_eq_true rfl), (Nat.le_of_ble_eq_true rfl)⟩) (w_prV hE hEs hS hxO rfl) rfl rfl hl.1 rfl (lv_room (Nat.le_of_ble_eq_true rfl)) dX3_settlement_2 ⟨(Nat.le_of_ble_eq_true rfl), (Nat.le_of_ble_eq_true rfl)⟩) hS (fun _ h => h) ?_ fun v_6 H_1 lo_2 hp_3 hz_4 hq_5 hS => ?_
  · exact fun E ce q9 H9 lo9 hxp hz9 hq9 hS9 hce hcv hcl => w_out ht hk hS9 hce hcv hcl (by obtain ⟨rE, rn, rx⟩ := hxp; exact ⟨⟨rE, by omega⟩, hXv.ext rx⟩) (Nat.le_of_ble_eq_true rfl) (Nat.le_of_ble_eq_true rfl)
  obtain ⟨e_n_7, ra_n_7, rb_n_7, q_n_7, f_n_7, rfl⟩ := hp_3
  have e_n_7 := e_n_7.symm
  subst e_n_7
  have hi_n_7 : (i).toNat < sn σ := by omega
  obtain ⟨gl_n_7, ga_n_7, hL_n_7⟩ := hX.2.2.2.2.1 (i).toNat hi_n_7
  obtain rfl : P (i).toNat = q_n_7 := Option.some.inj (gl_n_7.symm.trans f_n_7)
  have hp_n_7 := hX.pers hσ hi_n_7
  have hg_n_7 := (hs3 _ hi_n_7).1
  refine w_callV (v := .int (wI (setS (sH σ i.toNat) (sp σ i.toNat) (sb σ i.toNat) (so σ i.toNat)))) 0 X hE (c_X2_settlementOfYear l g H (P (i).toNat) (sH σ (i).toNat) (sT σ (i).toNat) (sp σ (i).toNat) (sb σ (i).toNat) (so σ (i).toNat) hp_n_7) hL_n_7 hl dX3_settlement_5 gX3_settlement_X2_settlementOfYear rfl rfl (by decide +kernel) ⟨(Nat.le_of_ble_eq_true rfl), (Nat.le_of_ble_eq_true rfl)⟩ rfl rfl (Nat.le_of_ble_eq_true rfl) ⟨(Nat.le_of_ble_eq_true rfl), (Nat.le_of_ble_eq_true rfl)⟩ ?_
  exact vx_ret (w_irR X hr hk hS ⟨by omega, rfl, hXv⟩ dX3_settlement_8 (Nat.le_of_ble_eq_true rfl) (Nat.le_of_ble_eq_true rfl))

set_option maxHeartbeats 4000000 in
set_option maxRecDepth 100000 in
theorem c_X3_cost (l : Launch) (hl9 : l.stackTraces = false) (g : wG) (A : Nat → Prop) (H : Heap) (x : Nat) (σ : St) (hσ : StGood σ) (hXv : XInv g A x σ H) (i : Int) (hi : wR i) : ThrR l g A H yX3_cost wsX3_cost 8 168 1 6 [.ref x, .int (wI (i))] (fun v H1 => (((0 : Int) ≤ i ∧ i < (sn σ : Int))) ∧ v = .int (wI (cosS (sH σ i.toNat) (sT σ i.toNat) (sp σ i.toNat) (sb σ i.toNat) (so σ i.toNat))) ∧ XInv g A x (σ) H1) (fun E H1 => ((E = xnB ∧ ¬ ((0 : Int) ≤ i ∧ i < (sn σ : Int)))) ∧ XInv g A x σ H1) := by
  refine Thr.of (cc := cX3_cost) (maxL := 2) (ret := (some .int)) (by decide) rfl (Nat.le_of_ble_eq_true rfl) ?_
  intro p9 e s m args below meth c X hE hEs ht hr hk hS ls hl
  have hl : lv_has ls 2 [(0, .ref x), (1, .int (wI (i)))] := hl
  have hGd := hE.dis
  obtain ⟨al, el, mc, fl, Ld, P, hX⟩ := id hXv
  have hxO := hX.2.1.2
  obtain ⟨hs1, hs2, hs3, hs4⟩ := id hσ
  refine w_aload_n X dX3_cost_0 hl 0 rfl rfl ?_
  refine w_iload_n X dX3_cost_1 hl 1 rfl rfl ?_
  refine w_xr (vx_runV (As := [.int (wI (i))]) (rest := []) X (c_X3_personAt l hl9 g A H (sn σ) hs2 x (al 0) (al 1) hxO (mc 1) (el 1) hX.l1 (fl 1) hX.r1 hX.hB1 (i) (by omega)) (cwV 1 X.2.2.2.2 gX3_cost_X3_personAt rfl rfl rfl (by decide +kernel) ⟨(Nat.le_of_ble_eq_true rfl), (Nat.le_of_ble_eq_true rfl)⟩) (w_prV hE hEs hS hxO rfl) rfl rfl hl.1 rfl (lv_room (Nat.le_of_ble_eq_true rfl)) dX3_cost_2 ⟨(Nat.le_of_ble_eq_true rfl), (Nat.le_of_ble_eq_true rfl)⟩) hS (fun _ h => h) ?_ fun v_6 H_1 lo_2 hp_3 hz_4 hq_5 hS => ?_
  · exact fun E ce q9 H9 lo9 hxp hz9 hq9 hS9 hce hcv hcl => w_out ht hk hS9 hce hcv hcl (by obtain ⟨rE, rn, rx⟩ := hxp; exact ⟨⟨rE, by omega⟩, hXv.ext rx⟩) (Nat.le_of_ble_eq_true rfl) (Nat.le_of_ble_eq_true rfl)
  obtain ⟨e_n_7, ra_n_7, rb_n_7, q_n_7, f_n_7, rfl⟩ := hp_3
  have e_n_7 := e_n_7.symm
  subst e_n_7
  have hi_n_7 : (i).toNat < sn σ := by omega
  obtain ⟨gl_n_7, ga_n_7, hL_n_7⟩ := hX.2.2.2.2.1 (i).toNat hi_n_7
  obtain rfl : P (i).toNat = q_n_7 := Option.some.inj (gl_n_7.symm.trans f_n_7)
  have hp_n_7 := hX.pers hσ hi_n_7
  have hg_n_7 := (hs3 _ hi_n_7).1
  refine w_callV (v := .int (wI (cosS (sH σ i.toNat) (sT σ i.toNat) (sp σ i.toNat) (sb σ i.toNat) (so σ i.toNat)))) 0 X hE (c_X2_costOfYear l g H (P (i).toNat) (sH σ (i).toNat) (sT σ (i).toNat) (sp σ (i).toNat) (sb σ (i).toNat) (so σ (i).toNat) hp_n_7) hL_n_7 hl dX3_cost_5 gX3_cost_X2_costOfYear rfl rfl (by decide +kernel) ⟨(Nat.le_of_ble_eq_true rfl), (Nat.le_of_ble_eq_true rfl)⟩ rfl rfl (Nat.le_of_ble_eq_true rfl) ⟨(Nat.le_of_ble_eq_true rfl), (Nat.le_of_ble_eq_true rfl)⟩ ?_
  exact vx_ret (w_irR X hr hk hS ⟨by omega, rfl, hXv⟩ dX3_cost_8 (Nat.le_of_ble_eq_true rfl) (Nat.le_of_ble_eq_true rfl))

set_option maxHeartbeats 4000000 in
set_option maxRecDepth 100000 in
theorem c_X3_held (l : Launch) (hl9 : l.stackTraces = false) (g : wG) (A : Nat → Prop) (H : Heap) (x : Nat) (σ : St) (hσ : StGood σ) (hXv : XInv g A x σ H) (i a : Int) (hi : wR i) (ha : wR a) : ThrR l g A H yX3_held wsX3_held 7 114 2 12 [.ref x, .int (wI (i)), .int (wI (a))] (fun v H1 => (((0 : Int) ≤ i ∧ i < (sn σ : Int)) ∧ (0 ≤ a ∧ a ≤ 11)) ∧ v = .int (wI (if sp σ i.toNat 3 ≤ a ∧ a < sp σ i.toNat 4 then heldS (sH σ i.toNat) (sp σ i.toNat) else 0)) ∧ XInv g A x (σ) H1) (fun E H1 => ((E = xnB ∧ ¬ ((0 : Int) ≤ i ∧ i < (sn σ : Int))) ∨ (E = xnA ∧ ((0 : Int) ≤ i ∧ i < (sn σ : Int)) ∧ ¬ (0 ≤ a ∧ a ≤ 11))) ∧ XInv g A x σ H1) := by
  refine Thr.of (cc := cX3_held) (maxL := 4) (ret := (some .int)) (by decide) rfl (Nat.le_of_ble_eq_true rfl) ?_
  intro p9 e s m args below meth c X hE hEs ht hr hk hS ls hl
  have hl : lv_has ls 4 [(0, .ref x), (1, .int (wI (i))), (2, .int (wI (a)))] := hl
  have hGd := hE.dis
  obtain ⟨al, el, mc, fl, Ld, P, hX⟩ := id hXv
  have hxO := hX.2.1.2
  obtain ⟨hs1, hs2, hs3, hs4⟩ := id hσ
  refine w_aload_n X dX3_held_0 hl 0 rfl rfl ?_
  refine w_iload_n X dX3_held_1 hl 1 rfl rfl ?_
  refine w_xr (vx_runV (As := [.int (wI (i))]) (rest := []) X (c_X3_personAt l hl9 g A H (sn σ) hs2 x (al 0) (al 1) hxO (mc 1) (el 1) hX.l1 (fl 1) hX.r1 hX.hB1 (i) (by omega)) (cwV 1 X.2.2.2.2 gX3_held_X3_personAt rfl rfl rfl (by decide +kernel) ⟨(Nat.le_of_ble_eq_true rfl), (Nat.le_of_ble_eq_true rfl)⟩) (w_prV hE hEs hS hxO rfl) rfl rfl hl.1 rfl (lv_room (Nat.le_of_ble_eq_true rfl)) dX3_held_2 ⟨(Nat.le_of_ble_eq_true rfl), (Nat.le_of_ble_eq_true rfl)⟩) hS (fun _ h => h) ?_ fun v_6 H_1 lo_2 hp_3 hz_4 hq_5 hS => ?_
  · exact fun E ce q9 H9 lo9 hxp hz9 hq9 hS9 hce hcv hcl => w_out ht hk hS9 hce hcv hcl (by obtain ⟨rE, rn, rx⟩ := hxp; exact ⟨Or.inl ⟨rE, by omega⟩, hXv.ext rx⟩) (Nat.le_of_ble_eq_true rfl) (Nat.le_of_ble_eq_true rfl)
  obtain ⟨e_n_7, ra_n_7, rb_n_7, q_n_7, f_n_7, rfl⟩ := hp_3
  have e_n_7 := e_n_7.symm
  subst e_n_7
  have hi_n_7 : (i).toNat < sn σ := by omega
  obtain ⟨gl_n_7, ga_n_7, hL_n_7⟩ := hX.2.2.2.2.1 (i).toNat hi_n_7
  obtain rfl : P (i).toNat = q_n_7 := Option.some.inj (gl_n_7.symm.trans f_n_7)
  have hp_n_7 := hX.pers hσ hi_n_7
  have hg_n_7 := (hs3 _ hi_n_7).1
  refine w_astore_n X [(3, .ref (P (i).toNat)), (0, .ref x), (1, .int (wI (i))), (2, .int (wI (a)))] dX3_held_5 hl rfl (by decide) rfl fun ls hl => ?_
  refine w_iload_n X dX3_held_6 hl 3 rfl rfl ?_
  refine w_iconst X dX3_held_7 ?_
  refine w_bipush X dX3_held_8 (by decide) ?_
  refine w_xv (vx_runS (As := [.int (wI (a)), .int (wI (0)), .int (wI (11))]) (rest := []) X (c_X3_requireRange l hl9 g A H (a) (0) (11) (by omega) (by omega) (by omega)) (va_cwS 3 X.2.2.2.2 gX3_held_X3_requireRange rfl rfl rfl (by decide +kernel) ⟨(Nat.le_of_ble_eq_true rfl), (Nat.le_of_ble_eq_true rfl)⟩) (w_prS hE hEs hS) rfl rfl hl.1 rfl (lv_room (Nat.le_of_ble_eq_true rfl)) dX3_held_10 ⟨(Nat.le_of_ble_eq_true rfl), (Nat.le_of_ble_eq_true rfl)⟩) hS (fun _ h => h) ?_ fun H_8 lo_9 hp_10 hz_11 hq_12 hS => ?_
  · exact fun E ce q9 H9 lo9 hxp hz9 hq9 hS9 hce hcv hcl => w_out ht hk hS9 hce hcv hcl (by obtain ⟨rE, rn, rx⟩ := hxp; exact ⟨Or.inr (⟨rE, by omega, by omega⟩), hXv.ext rx⟩) (Nat.le_of_ble_eq_true rfl) (Nat.le_of_ble_eq_true rfl)
  obtain ⟨e_n_14, ra_n_14, rb_n_14⟩ := hp_10
  have e_n_14 := e_n_14.symm
  subst e_n_14
  refine w_aload_n X dX3_held_13 hl 0 rfl rfl ?_
  refine w_iload_n X dX3_held_14 hl 3 rfl rfl ?_
  refine w_callV (v := .int (wI (if sp σ i.toNat 3 ≤ a ∧ a < sp σ i.toNat 4 then 1 else 0))) 1 X hE (c_X2_isAbroadIn l g H (P (i).toNat) (sH σ (i).toNat) (sT σ (i).toNat) (sp σ (i).toNat) (sb σ (i).toNat) (so σ (i).toNat) hp_n_7 a (by omega)) hL_n_7 hl dX3_held_15 gX3_held_X2_isAbroadIn rfl rfl (by decide +kernel) ⟨(Nat.le_of_ble_eq_true rfl), (Nat.le_of_ble_eq_true rfl)⟩ rfl rfl (Nat.le_of_ble_eq_true rfl) ⟨(Nat.le_of_ble_eq_true rfl), (Nat.le_of_ble_eq_true rfl)⟩ ?_
  have qif := if_sp (sp σ i.toNat 3 ≤ a ∧ a < sp σ i.toNat 4)
  refine w_if_eq X 28 dX3_held_18 (by decide) (by omega) (fun c_15 => ?_) (fun c_15 => ?_)
  · skip
    refine w_iconst X dX3_held_28 ?_
    exact vx_ret (w_irR X hr hk hS ⟨by omega, by rw [if_neg (by omega)], hXv⟩ dX3_held_29 (Nat.le_of_ble_eq_true rfl) (Nat.le_of_ble_eq_true rfl))
  · skip
    refine w_aload_n X dX3_held_21 hl 0 rfl rfl ?_
    refine w_callV (v := .int (wI (heldS (sH σ i.toNat) (sp σ i.toNat)))) 0 X hE (c_X2_heldEachMonth l g H (P (i).toNat) (sH σ (i).toNat) (sT σ (i).toNat) (sp σ (i).toNat) (sb σ (i).toNat) (so σ (i).toNat) hp_n_7) hL_n_7 hl dX3_held_22 gX3_held_X2_heldEachMonth rfl rfl (by decide +kernel) ⟨(Nat.le_of_ble_eq_true rfl), (Nat.le_of_ble_eq_true rfl)⟩ rfl rfl (Nat.le_of_ble_eq_true rfl) ⟨(Nat.le_of_ble_eq_true rfl), (Nat.le_of_ble_eq_true rfl)⟩ ?_
    refine w_goto X 29 dX3_held_25 (by decide) ?_
    exact vx_ret (w_irR X hr hk hS ⟨by omega, by rw [if_pos (by omega)], hXv⟩ dX3_held_29 (Nat.le_of_ble_eq_true rfl) (Nat.le_of_ble_eq_true rfl))

set_option maxHeartbeats 4000000 in
set_option maxRecDepth 100000 in
theorem c_X3_abroadPart (l : Launch) (hl9 : l.stackTraces = false) (g : wG) (A : Nat → Prop) (H : Heap) (x : Nat) (σ : St) (hσ : StGood σ) (hXv : XInv g A x σ H) (i a : Int) (hi : wR i) (ha : wR a) : ThrR l g A H yX3_abroadPart wsX3_abroadPart 7 113 2 12 [.ref x, .int (wI (i)), .int (wI (a))] (fun v H1 => ((((0 : Int) ≤ i ∧ i < (sn σ : Int)) ∧ 0 ≤ a ∧ a < (sb σ i.toNat : Int))) ∧ v = .int (wI (parS (sp σ i.toNat) (so σ i.toNat a.toNat))) ∧ XInv g A x (σ) H1) (fun E H1 => ((E = xnB ∧ ¬ (((0 : Int) ≤ i ∧ i < (sn σ : Int)) ∧ 0 ≤ a ∧ a < (sb σ i.toNat : Int)))) ∧ XInv g A x σ H1) := by
  refine Thr.of (cc := cX3_abroadPart) (maxL := 4) (ret := (some .int)) (by decide) rfl (Nat.le_of_ble_eq_true rfl) ?_
  intro p9 e s m args below meth c X hE hEs ht hr hk hS ls hl
  have hl : lv_has ls 4 [(0, .ref x), (1, .int (wI (i))), (2, .int (wI (a)))] := hl
  have hin_RX2 : ∀ w ∈ u_ws RX2 TX2 8, w ∈ wsX3_abroadPart := by decide +kernel
  have hGd := hE.dis
  obtain ⟨al, el, mc, fl, Ld, P, hX⟩ := id hXv
  have hxO := hX.2.1.2
  obtain ⟨hs1, hs2, hs3, hs4⟩ := id hσ
  refine w_aload_n X dX3_abroadPart_0 hl 0 rfl rfl ?_
  refine w_iload_n X dX3_abroadPart_1 hl 1 rfl rfl ?_
  refine w_xr (vx_runV (As := [.int (wI (i))]) (rest := []) X (c_X3_personAt l hl9 g A H (sn σ) hs2 x (al 0) (al 1) hxO (mc 1) (el 1) hX.l1 (fl 1) hX.r1 hX.hB1 (i) (by omega)) (cwV 1 X.2.2.2.2 gX3_abroadPart_X3_personAt rfl rfl rfl (by decide +kernel) ⟨(Nat.le_of_ble_eq_true rfl), (Nat.le_of_ble_eq_true rfl)⟩) (w_prV hE hEs hS hxO rfl) rfl rfl hl.1 rfl (lv_room (Nat.le_of_ble_eq_true rfl)) dX3_abroadPart_2 ⟨(Nat.le_of_ble_eq_true rfl), (Nat.le_of_ble_eq_true rfl)⟩) hS (fun _ h => h) ?_ fun v_6 H_1 lo_2 hp_3 hz_4 hq_5 hS => ?_
  · exact fun E ce q9 H9 lo9 hxp hz9 hq9 hS9 hce hcv hcl => w_out ht hk hS9 hce hcv hcl (by obtain ⟨rE, rn, rx⟩ := hxp; exact ⟨⟨rE, by omega⟩, hXv.ext rx⟩) (Nat.le_of_ble_eq_true rfl) (Nat.le_of_ble_eq_true rfl)
  obtain ⟨e_n_7, ra_n_7, rb_n_7, q_n_7, f_n_7, rfl⟩ := hp_3
  have e_n_7 := e_n_7.symm
  subst e_n_7
  have hi_n_7 : (i).toNat < sn σ := by omega
  obtain ⟨gl_n_7, ga_n_7, hL_n_7⟩ := hX.2.2.2.2.1 (i).toNat hi_n_7
  obtain rfl : P (i).toNat = q_n_7 := Option.some.inj (gl_n_7.symm.trans f_n_7)
  have hp_n_7 := hX.pers hσ hi_n_7
  have hg_n_7 := (hs3 _ hi_n_7).1
  refine w_astore_n X [(3, .ref (P (i).toNat)), (0, .ref x), (1, .int (wI (i))), (2, .int (wI (a)))] dX3_abroadPart_5 hl rfl (by decide) rfl fun ls hl => ?_
  have hsb := hg_n_7.2.2.2.2.1
  refine w_iload_n X dX3_abroadPart_6 hl 3 rfl rfl ?_
  refine w_if_lt X 23 dX3_abroadPart_7 (by decide) (by omega) (fun c_8 => ?_) (fun c_8 => ?_)
  · skip
    exact w_throw (cls := xnB) (text := "no such bonus") X hE hEs hS hl9 ht hk hl dX3_abroadPart_23 dX3_abroadPart_26 dX3_abroadPart_27 dX3_abroadPart_29 dX3_abroadPart_32 (by decide) (by decide +kernel) (by decide +kernel) (fun w h => List.mem_cons_of_mem _ (List.mem_append_right _ h)) ew_xB (by decide +kernel) ⟨by decide +kernel, by decide +kernel⟩ ⟨(Nat.le_of_ble_eq_true rfl), (Nat.le_of_ble_eq_true rfl), (Nat.le_of_ble_eq_true rfl), (Nat.le_of_ble_eq_true rfl)⟩ ⟨(Nat.le_of_ble_eq_true rfl), (Nat.le_of_ble_eq_true rfl)⟩ (fun H9 hz9 hq9 => ⟨⟨rfl, by omega⟩, hXv.ext ⟨hz9, hq9⟩⟩)
  · skip
    refine w_iload_n X dX3_abroadPart_10 hl 3 rfl rfl ?_
    refine w_aload_n X dX3_abroadPart_11 hl 0 rfl rfl ?_
    refine w_getN X hE hL_n_7 2 dX3_abroadPart_12 rfl hin_RX2 (by decide) (by decide +kernel) rfl rfl ?_
    refine w_callF (v := .int (wI ((sb σ i.toNat : Int)))) 0 X hE (c_Jx4a65c_size_8abf5 l g H (al ((i).toNat + 2)) (mc (i.toNat + 2)) (el ((i).toNat + 2)) (sb σ i.toNat : Int) (hX.lb hi_n_7)) (hX.lb hi_n_7) hl dX3_abroadPart_15 gX3_abroadPart_Jx4a65c_size_8abf5_f63Jx4a65c ew_size rfl rfl (by decide +kernel) ⟨(Nat.le_of_ble_eq_true rfl), (Nat.le_of_ble_eq_true rfl)⟩ rfl (Nat.le_of_ble_eq_true rfl) ⟨(Nat.le_of_ble_eq_true rfl), (Nat.le_of_ble_eq_true rfl)⟩ ?_
    refine w_icmp_lt X 33 dX3_abroadPart_20 (by decide) (by omega) (by omega) (fun c_9 => ?_) (fun c_9 => ?_)
    · skip
      have hsb := hg_n_7.2.2.2.2.1
      obtain ⟨bq, hbq, hbA, hbO⟩ := hX.2.2.2.2.2.2 i.toNat a.toNat hi_n_7 (by omega)
      refine w_aload_n X dX3_abroadPart_33 hl 0 rfl rfl ?_
      refine w_aload_n X dX3_abroadPart_34 hl 0 rfl rfl ?_
      refine w_getN X hE hL_n_7 2 dX3_abroadPart_35 rfl hin_RX2 (by decide) (by decide +kernel) rfl rfl ?_
      refine w_iload_n X dX3_abroadPart_38 hl 3 rfl rfl ?_
      refine w_callF (v := .ref bq) 1 X hE (c_Jx4a65c_get_915e3 l g H (al ((i).toNat + 2)) (mc (i.toNat + 2)) (el ((i).toNat + 2)) (sb σ i.toNat : Int) (hX.lb hi_n_7) 10 (fl (i.toNat + 2)) (hX.rb hi_n_7 (by omega)) a bq (by omega) (by omega) (by omega) (by omega) hbq) (hX.lb hi_n_7) hl dX3_abroadPart_39 gX3_abroadPart_Jx4a65c_get_915e3_f119Jx4a65c ew_get rfl rfl (by decide +kernel) ⟨(Nat.le_of_ble_eq_true rfl), (Nat.le_of_ble_eq_true rfl)⟩ rfl (Nat.le_of_ble_eq_true rfl) ⟨(Nat.le_of_ble_eq_true rfl), (Nat.le_of_ble_eq_true rfl)⟩ ?_
      refine w_cast X hE hbO dX3_abroadPart_44 rfl (by decide +kernel) ?_
      refine w_callV (v := .int (wI (parS (sp σ i.toNat) (so σ i.toNat a.toNat)))) 1 X hE (c_X2_partAbroad l g H (P (i).toNat) (sH σ (i).toNat) (sT σ (i).toNat) (sp σ (i).toNat) (sb σ (i).toNat) (so σ (i).toNat) hp_n_7 bq (so σ i.toNat a.toNat) (hg_n_7.2.2.2.2.2 _ (by omega)) hbO) hL_n_7 hl dX3_abroadPart_47 gX3_abroadPart_X2_partAbroad rfl rfl (by decide +kernel) ⟨(Nat.le_of_ble_eq_true rfl), (Nat.le_of_ble_eq_true rfl)⟩ rfl rfl (Nat.le_of_ble_eq_true rfl) ⟨(Nat.le_of_ble_eq_true rfl), (Nat.le_of_ble_eq_true rfl)⟩ ?_
      exact vx_ret (w_irR X hr hk hS ⟨by omega, rfl, hXv⟩ dX3_abroadPart_50 (Nat.le_of_ble_eq_true rfl) (Nat.le_of_ble_eq_true rfl))
    · skip
      exact w_throw (cls := xnB) (text := "no such bonus") X hE hEs hS hl9 ht hk hl dX3_abroadPart_23 dX3_abroadPart_26 dX3_abroadPart_27 dX3_abroadPart_29 dX3_abroadPart_32 (by decide) (by decide +kernel) (by decide +kernel) (fun w h => List.mem_cons_of_mem _ (List.mem_append_right _ h)) ew_xB (by decide +kernel) ⟨by decide +kernel, by decide +kernel⟩ ⟨(Nat.le_of_ble_eq_true rfl), (Nat.le_of_ble_eq_true rfl), (Nat.le_of_ble_eq_true rfl), (Nat.le_of_ble_eq_true rfl)⟩ ⟨(Nat.le_of_ble_eq_true rfl), (Nat.le_of_ble_eq_true rfl)⟩ (fun H9 hz9 hq9 => ⟨⟨rfl, by omega⟩, hXv.ext ⟨hz9, hq9⟩⟩)
