/-! the wrappers -/

set_option maxHeartbeats 4000000 in
set_option maxRecDepth 100000 in
theorem c_L_setLimits (l : Launch) (hl9 : l.stackTraces = false) (g : wG) (H : Heap) (AX : Nat → Prop) (out : Nat) (hno : ¬ AX out) (x : Nat) (σ : St) (hσ : StGood σ) (hXv : XInv g AX x σ H) (fo : Nat → Int64) (hJ : JA g H out 1 fo) (i a b : Int) (hi : wR i) (ha : wR a) (hb : wR b) : WrpR l g (AW AX out) H yL_setLimits wsL_setLimits 8 138 3 18 [.ref x, .int (wI (i)), .int (wI (a)), .int (wI (b))] (fun w H1 => w = .int (wI (cd (((0 ≤ i ∧ i < 4) ∧ (0 ≤ a ∧ a ≤ 1000000) ∧ (a ≤ b ∧ b ≤ 1000000))) (True) (True))) ∧ XInv g AX x (stp (((0 ≤ i ∧ i < 4) ∧ (0 ≤ a ∧ a ≤ 1000000) ∧ (a ≤ b ∧ b ≤ 1000000))) (True) (True) (nxLand σ i.toNat (limS (σ.1 i.toNat) a b)) σ) H1 ∧ ∃ fo' : Nat → Int64, JA g H1 out 1 fo' ∧ True) := by
  refine Wrp.of (cc := cL_setLimits) (maxL := 5) (ret := some .int) (hh := [(0, 7, 10, 13)]) (by decide) rfl (Nat.le_of_ble_eq_true rfl) ?_
  intro p9 e s m args below meth c X hE hEs hNx hT hr hk hS ls hl
  have hl : lv_has ls 5 [(0, .ref x), (1, .int (wI (i))), (2, .int (wI (a))), (3, .int (wI (b)))] := hl
  obtain ⟨hAx, fs9, hxO⟩ := hXv.ob
  refine w_aload_n X dL_setLimits_0 hl 0 rfl rfl ?_
  refine w_iload_n X dL_setLimits_1 hl 1 rfl rfl ?_
  refine w_iload_n X dL_setLimits_2 hl 2 rfl rfl ?_
  refine w_iload_n X dL_setLimits_3 hl 3 rfl rfl ?_
  refine w_xv (vx_runV (As := [.int (wI (i)), .int (wI (a)), .int (wI (b))]) (rest := []) X (c_X3_setLimits l hl9 g AX H x σ hσ hXv i a b hi ha hb) (cwV 3 X.2.2.2.2 gL_setLimits_X3_setLimits rfl rfl rfl (by decide +kernel) ⟨(Nat.le_of_ble_eq_true rfl), (Nat.le_of_ble_eq_true rfl)⟩) (w_prVN hE hEs hS (fun _ h => Or.inl h) hxO rfl) rfl rfl hl.1 rfl (lv_room (Nat.le_of_ble_eq_true rfl)) dL_setLimits_4 ⟨(Nat.le_of_ble_eq_true rfl), (Nat.le_of_ble_eq_true rfl)⟩) hS (fun _ h => Or.inl h) ?_ fun H1 lo1 hp hz1 hq1 hS => ?_
  · intro E ce q9 H9 lo9 hxp hz9 hq9 hS9 hce hcv hcl
    obtain ⟨hd, hX9⟩ := hxp
    obtain ⟨rfl, n1⟩ := hd
    refine vx_catch (E := xnA) (name := xnA) X.2.2.2.1 [] { startPc := 0, endPc := 7, handlerPc := 10, catchType := 13 } [] hT (fun z h => absurd h List.not_mem_nil) rfl (by decide) (X.2.2.2.2 (.classLink RL 13 xnA) (by decide +kernel)) (va_Nw.use rfl hNx.2.1) hce hcv hcl ?_
    refine w_astore X [(4, .ref q9), (0, .ref x), (1, .int (wI (i))), (2, .int (wI (a))), (3, .int (wI (b)))] dL_setLimits_10 hl (by decide) rfl fun ls hl => ?_
    refine w_iconst X dL_setLimits_12 ?_
    exact w_irR X hr hk hS9 ⟨by rw [cd_1 n1], by rw [stp_n (fun q => n1 q.1)]; exact hX9, fo, hJ.kept (hq9 _ hJ.lt hno), trivial⟩ dL_setLimits_13 (Nat.le_of_ble_eq_true rfl) (Nat.le_of_ble_eq_true rfl)
  obtain ⟨p1, hXn⟩ := hp
  have hJ1 := hJ.kept (hq1 _ hJ.lt hno)
  refine w_goto X 14 dL_setLimits_7 (by decide) ?_
  refine w_iconst X dL_setLimits_14 ?_
  exact w_irR X hr hk hS ⟨by rw [cd_0 p1 trivial trivial], by rw [stp_y p1 trivial trivial]; exact hXn, fo, hJ1, trivial⟩ dL_setLimits_15 (Nat.le_of_ble_eq_true rfl) (Nat.le_of_ble_eq_true rfl)

set_option maxHeartbeats 4000000 in
set_option maxRecDepth 100000 in
theorem c_L_setRates (l : Launch) (hl9 : l.stackTraces = false) (g : wG) (H : Heap) (AX : Nat → Prop) (out : Nat) (hno : ¬ AX out) (x : Nat) (σ : St) (hσ : StGood σ) (hXv : XInv g AX x σ H) (fo : Nat → Int64) (hJ : JA g H out 1 fo) (i a b d : Int) (hi : wR i) (ha : wR a) (hb : wR b) (hd : wR d) : WrpR l g (AW AX out) H yL_setRates wsL_setRates 8 139 4 24 [.ref x, .int (wI (i)), .int (wI (a)), .int (wI (b)), .int (wI (d))] (fun w H1 => w = .int (wI (cd (((0 ≤ i ∧ i < 4) ∧ (0 ≤ a ∧ a ≤ 60) ∧ (0 ≤ b ∧ b ≤ 60) ∧ (0 ≤ d ∧ d ≤ 60))) (True) (True))) ∧ XInv g AX x (stp (((0 ≤ i ∧ i < 4) ∧ (0 ≤ a ∧ a ≤ 60) ∧ (0 ≤ b ∧ b ≤ 60) ∧ (0 ≤ d ∧ d ≤ 60))) (True) (True) (nxLand σ i.toNat (ratS (σ.1 i.toNat) a b d)) σ) H1 ∧ ∃ fo' : Nat → Int64, JA g H1 out 1 fo' ∧ True) := by
  refine Wrp.of (cc := cL_setRates) (maxL := 6) (ret := some .int) (hh := [(0, 9, 12, 13)]) (by decide) rfl (Nat.le_of_ble_eq_true rfl) ?_
  intro p9 e s m args below meth c X hE hEs hNx hT hr hk hS ls hl
  have hl : lv_has ls 6 [(0, .ref x), (1, .int (wI (i))), (2, .int (wI (a))), (3, .int (wI (b))), (4, .int (wI (d)))] := hl
  obtain ⟨hAx, fs9, hxO⟩ := hXv.ob
  refine w_aload_n X dL_setRates_0 hl 0 rfl rfl ?_
  refine w_iload_n X dL_setRates_1 hl 1 rfl rfl ?_
  refine w_iload_n X dL_setRates_2 hl 2 rfl rfl ?_
  refine w_iload_n X dL_setRates_3 hl 3 rfl rfl ?_
  refine w_iload X dL_setRates_4 hl 4 rfl ?_
  refine w_xv (vx_runV (As := [.int (wI (i)), .int (wI (a)), .int (wI (b)), .int (wI (d))]) (rest := []) X (c_X3_setRates l hl9 g AX H x σ hσ hXv i a b d hi ha hb hd) (cwV 4 X.2.2.2.2 gL_setRates_X3_setRates rfl rfl rfl (by decide +kernel) ⟨(Nat.le_of_ble_eq_true rfl), (Nat.le_of_ble_eq_true rfl)⟩) (w_prVN hE hEs hS (fun _ h => Or.inl h) hxO rfl) rfl rfl hl.1 rfl (lv_room (Nat.le_of_ble_eq_true rfl)) dL_setRates_6 ⟨(Nat.le_of_ble_eq_true rfl), (Nat.le_of_ble_eq_true rfl)⟩) hS (fun _ h => Or.inl h) ?_ fun H1 lo1 hp hz1 hq1 hS => ?_
  · intro E ce q9 H9 lo9 hxp hz9 hq9 hS9 hce hcv hcl
    obtain ⟨hd, hX9⟩ := hxp
    obtain ⟨rfl, n1⟩ := hd
    refine vx_catch (E := xnA) (name := xnA) X.2.2.2.1 [] { startPc := 0, endPc := 9, handlerPc := 12, catchType := 13 } [] hT (fun z h => absurd h List.not_mem_nil) rfl (by decide) (X.2.2.2.2 (.classLink RL 13 xnA) (by decide +kernel)) (va_Nw.use rfl hNx.2.1) hce hcv hcl ?_
    refine w_astore X [(5, .ref q9), (0, .ref x), (1, .int (wI (i))), (2, .int (wI (a))), (3, .int (wI (b))), (4, .int (wI (d)))] dL_setRates_12 hl (by decide) rfl fun ls hl => ?_
    refine w_iconst X dL_setRates_14 ?_
    exact w_irR X hr hk hS9 ⟨by rw [cd_1 n1], by rw [stp_n (fun q => n1 q.1)]; exact hX9, fo, hJ.kept (hq9 _ hJ.lt hno), trivial⟩ dL_setRates_15 (Nat.le_of_ble_eq_true rfl) (Nat.le_of_ble_eq_true rfl)
  obtain ⟨p1, hXn⟩ := hp
  have hJ1 := hJ.kept (hq1 _ hJ.lt hno)
  refine w_goto X 16 dL_setRates_9 (by decide) ?_
  refine w_iconst X dL_setRates_16 ?_
  exact w_irR X hr hk hS ⟨by rw [cd_0 p1 trivial trivial], by rw [stp_y p1 trivial trivial]; exact hXn, fo, hJ1, trivial⟩ dL_setRates_17 (Nat.le_of_ble_eq_true rfl) (Nat.le_of_ble_eq_true rfl)

set_option maxHeartbeats 4000000 in
set_option maxRecDepth 100000 in
theorem c_L_tax (l : Launch) (hl9 : l.stackTraces = false) (g : wG) (H : Heap) (AX : Nat → Prop) (out : Nat) (hno : ¬ AX out) (x : Nat) (σ : St) (hσ : StGood σ) (hXv : XInv g AX x σ H) (fo : Nat → Int64) (hJ : JA g H out 1 fo) (i a : Int) (hi : wR i) (ha : wR a) : WrpR l g (AW AX out) H yL_tax wsL_tax 8 137 2 12 [.ref x, .int (wI (i)), .int (wI (a)), .ref out] (fun w H1 => w = .int (wI (cd (((0 ≤ i ∧ i < 4) ∧ 0 ≤ a ∧ a ≤ 10000000)) (True) (True))) ∧ XInv g AX x (stp (((0 ≤ i ∧ i < 4) ∧ 0 ≤ a ∧ a ≤ 10000000)) (True) (True) (σ) σ) H1 ∧ ∃ fo' : Nat → Int64, JA g H1 out 1 fo' ∧ (cd (((0 ≤ i ∧ i < 4) ∧ 0 ≤ a ∧ a ≤ 10000000)) (True) (True) = 0 → fo' 0 = (wI (stv (((0 ≤ i ∧ i < 4) ∧ 0 ≤ a ∧ a ≤ 10000000)) (True) (True) (taxS (σ.1 i.toNat) a))).toInt64)) := by
  refine Wrp.of (cc := cL_tax) (maxL := 5) (ret := some .int) (hh := [(0, 10, 13, 13)]) (by decide) rfl (Nat.le_of_ble_eq_true rfl) ?_
  intro p9 e s m args below meth c X hE hEs hNx hT hr hk hS ls hl
  have hl : lv_has ls 5 [(0, .ref x), (1, .int (wI (i))), (2, .int (wI (a))), (3, .ref out)] := hl
  obtain ⟨hAx, fs9, hxO⟩ := hXv.ob
  refine w_aload_n X dL_tax_0 hl 3 rfl rfl ?_
  refine w_iconst X dL_tax_1 ?_
  refine w_aload_n X dL_tax_2 hl 0 rfl rfl ?_
  refine w_iload_n X dL_tax_3 hl 1 rfl rfl ?_
  refine w_iload_n X dL_tax_4 hl 2 rfl rfl ?_
  refine w_xr (vx_runV (As := [.int (wI (i)), .int (wI (a))]) (rest := [.int (wI (0)), .ref out]) X (c_X3_tax l hl9 g AX H x σ hσ hXv i a hi ha) (cwV 2 X.2.2.2.2 gL_tax_X3_tax rfl rfl rfl (by decide +kernel) ⟨(Nat.le_of_ble_eq_true rfl), (Nat.le_of_ble_eq_true rfl)⟩) (w_prVN hE hEs hS (fun _ h => Or.inl h) hxO rfl) rfl rfl hl.1 rfl (lv_room (Nat.le_of_ble_eq_true rfl)) dL_tax_5 ⟨(Nat.le_of_ble_eq_true rfl), (Nat.le_of_ble_eq_true rfl)⟩) hS (fun _ h => Or.inl h) ?_ fun v1 H1 lo1 hp hz1 hq1 hS => ?_
  · intro E ce q9 H9 lo9 hxp hz9 hq9 hS9 hce hcv hcl
    obtain ⟨hd, hX9⟩ := hxp
    obtain ⟨rfl, n1⟩ := hd
    refine vx_catch (E := xnA) (name := xnA) X.2.2.2.1 [] { startPc := 0, endPc := 10, handlerPc := 13, catchType := 13 } [] hT (fun z h => absurd h List.not_mem_nil) rfl (by decide) (X.2.2.2.2 (.classLink RL 13 xnA) (by decide +kernel)) (va_Nw.use rfl hNx.2.1) hce hcv hcl ?_
    refine w_astore X [(4, .ref q9), (0, .ref x), (1, .int (wI (i))), (2, .int (wI (a))), (3, .ref out)] dL_tax_13 hl (by decide) rfl fun ls hl => ?_
    refine w_iconst X dL_tax_15 ?_
    exact w_irR X hr hk hS9 ⟨by rw [cd_1 n1], by rw [stp_n (fun q => n1 q.1)]; exact hX9, fo, hJ.kept (hq9 _ hJ.lt hno), fun q => absurd q (by rw [cd_1 n1]; omega)⟩ dL_tax_16 (Nat.le_of_ble_eq_true rfl) (Nat.le_of_ble_eq_true rfl)
  obtain ⟨p1, rfl, hXn⟩ := hp
  have hJ1 := hJ.kept (hq1 _ hJ.lt hno)
  refine lv_i2l (v := (wI (taxS (σ.1 i.toNat) a)).toInt64) X.1 X.2.1 dL_tax_8 rfl ?_
  refine w_last X hE hJ1 hS (Or.inr rfl) dL_tax_9 fun H_1 lo_2 f_3 hf_4 hj_5 hz_6 hq_7 hS => ?_
  refine w_goto X 17 dL_tax_10 (by decide) ?_
  refine w_iconst X dL_tax_17 ?_
  exact w_irR X hr hk hS ⟨by rw [cd_0 p1 trivial trivial], by rw [stp_y p1 trivial trivial]; exact hXn.kept (fun q hq _ => hq_7 q (fun e => hno (e ▸ hq))), f_3, hj_5, fun _ => by rw [stv_y p1 trivial trivial]; exact hf_4⟩ dL_tax_18 (Nat.le_of_ble_eq_true rfl) (Nat.le_of_ble_eq_true rfl)

set_option maxHeartbeats 4000000 in
set_option maxRecDepth 100000 in
theorem c_L_grossTax (l : Launch) (hl9 : l.stackTraces = false) (g : wG) (H : Heap) (AX : Nat → Prop) (out : Nat) (hno : ¬ AX out) (x : Nat) (σ : St) (hσ : StGood σ) (hXv : XInv g AX x σ H) (fo : Nat → Int64) (hJ : JA g H out 1 fo) (i a : Int) (hi : wR i) (ha : wR a) : WrpR l g (AW AX out) H yL_grossTax wsL_grossTax 8 137 2 12 [.ref x, .int (wI (i)), .int (wI (a)), .ref out] (fun w H1 => w = .int (wI (cd (((0 ≤ i ∧ i < 4) ∧ 0 ≤ a ∧ a ≤ 10000000)) (True) (True))) ∧ XInv g AX x (stp (((0 ≤ i ∧ i < 4) ∧ 0 ≤ a ∧ a ≤ 10000000)) (True) (True) (σ) σ) H1 ∧ ∃ fo' : Nat → Int64, JA g H1 out 1 fo' ∧ (cd (((0 ≤ i ∧ i < 4) ∧ 0 ≤ a ∧ a ≤ 10000000)) (True) (True) = 0 → fo' 0 = (wI (stv (((0 ≤ i ∧ i < 4) ∧ 0 ≤ a ∧ a ≤ 10000000)) (True) (True) (grossS (σ.1 i.toNat) a))).toInt64)) := by
  refine Wrp.of (cc := cL_grossTax) (maxL := 5) (ret := some .int) (hh := [(0, 10, 13, 13)]) (by decide) rfl (Nat.le_of_ble_eq_true rfl) ?_
  intro p9 e s m args below meth c X hE hEs hNx hT hr hk hS ls hl
  have hl : lv_has ls 5 [(0, .ref x), (1, .int (wI (i))), (2, .int (wI (a))), (3, .ref out)] := hl
  obtain ⟨hAx, fs9, hxO⟩ := hXv.ob
  refine w_aload_n X dL_grossTax_0 hl 3 rfl rfl ?_
  refine w_iconst X dL_grossTax_1 ?_
  refine w_aload_n X dL_grossTax_2 hl 0 rfl rfl ?_
  refine w_iload_n X dL_grossTax_3 hl 1 rfl rfl ?_
  refine w_iload_n X dL_grossTax_4 hl 2 rfl rfl ?_
  refine w_xr (vx_runV (As := [.int (wI (i)), .int (wI (a))]) (rest := [.int (wI (0)), .ref out]) X (c_X3_grossTax l hl9 g AX H x σ hσ hXv i a hi ha) (cwV 2 X.2.2.2.2 gL_grossTax_X3_grossTax rfl rfl rfl (by decide +kernel) ⟨(Nat.le_of_ble_eq_true rfl), (Nat.le_of_ble_eq_true rfl)⟩) (w_prVN hE hEs hS (fun _ h => Or.inl h) hxO rfl) rfl rfl hl.1 rfl (lv_room (Nat.le_of_ble_eq_true rfl)) dL_grossTax_5 ⟨(Nat.le_of_ble_eq_true rfl), (Nat.le_of_ble_eq_true rfl)⟩) hS (fun _ h => Or.inl h) ?_ fun v1 H1 lo1 hp hz1 hq1 hS => ?_
  · intro E ce q9 H9 lo9 hxp hz9 hq9 hS9 hce hcv hcl
    obtain ⟨hd, hX9⟩ := hxp
    obtain ⟨rfl, n1⟩ := hd
    refine vx_catch (E := xnA) (name := xnA) X.2.2.2.1 [] { startPc := 0, endPc := 10, handlerPc := 13, catchType := 13 } [] hT (fun z h => absurd h List.not_mem_nil) rfl (by decide) (X.2.2.2.2 (.classLink RL 13 xnA) (by decide +kernel)) (va_Nw.use rfl hNx.2.1) hce hcv hcl ?_
    refine w_astore X [(4, .ref q9), (0, .ref x), (1, .int (wI (i))), (2, .int (wI (a))), (3, .ref out)] dL_grossTax_13 hl (by decide) rfl fun ls hl => ?_
    refine w_iconst X dL_grossTax_15 ?_
    exact w_irR X hr hk hS9 ⟨by rw [cd_1 n1], by rw [stp_n (fun q => n1 q.1)]; exact hX9, fo, hJ.kept (hq9 _ hJ.lt hno), fun q => absurd q (by rw [cd_1 n1]; omega)⟩ dL_grossTax_16 (Nat.le_of_ble_eq_true rfl) (Nat.le_of_ble_eq_true rfl)
  obtain ⟨p1, rfl, hXn⟩ := hp
  have hJ1 := hJ.kept (hq1 _ hJ.lt hno)
  refine lv_i2l (v := (wI (grossS (σ.1 i.toNat) a)).toInt64) X.1 X.2.1 dL_grossTax_8 rfl ?_
  refine w_last X hE hJ1 hS (Or.inr rfl) dL_grossTax_9 fun H_1 lo_2 f_3 hf_4 hj_5 hz_6 hq_7 hS => ?_
  refine w_goto X 17 dL_grossTax_10 (by decide) ?_
  refine w_iconst X dL_grossTax_17 ?_
  exact w_irR X hr hk hS ⟨by rw [cd_0 p1 trivial trivial], by rw [stp_y p1 trivial trivial]; exact hXn.kept (fun q hq _ => hq_7 q (fun e => hno (e ▸ hq))), f_3, hj_5, fun _ => by rw [stv_y p1 trivial trivial]; exact hf_4⟩ dL_grossTax_18 (Nat.le_of_ble_eq_true rfl) (Nat.le_of_ble_eq_true rfl)

set_option maxHeartbeats 4000000 in
set_option maxRecDepth 100000 in
theorem c_L_grossTaxByTrying (l : Launch) (hl9 : l.stackTraces = false) (g : wG) (H : Heap) (AX : Nat → Prop) (out : Nat) (hno : ¬ AX out) (x : Nat) (σ : St) (hσ : StGood σ) (hXv : XInv g AX x σ H) (fo : Nat → Int64) (hJ : JA g H out 1 fo) (i a : Int) (hi : wR i) (ha : wR a) : WrpR l g (AW AX out) H yL_grossTaxByTrying wsL_grossTaxByTrying 8 137 2 12 [.ref x, .int (wI (i)), .int (wI (a)), .ref out] (fun w H1 => w = .int (wI (cd (((0 ≤ i ∧ i < 4) ∧ 0 ≤ a ∧ a ≤ 20000)) (True) (True))) ∧ XInv g AX x (stp (((0 ≤ i ∧ i < 4) ∧ 0 ≤ a ∧ a ≤ 20000)) (True) (True) (σ) σ) H1 ∧ ∃ fo' : Nat → Int64, JA g H1 out 1 fo' ∧ (cd (((0 ≤ i ∧ i < 4) ∧ 0 ≤ a ∧ a ≤ 20000)) (True) (True) = 0 → fo' 0 = (wI (stv (((0 ≤ i ∧ i < 4) ∧ 0 ≤ a ∧ a ≤ 20000)) (True) (True) (grossS (σ.1 i.toNat) a))).toInt64)) := by
  refine Wrp.of (cc := cL_grossTaxByTrying) (maxL := 5) (ret := some .int) (hh := [(0, 10, 13, 13)]) (by decide) rfl (Nat.le_of_ble_eq_true rfl) ?_
  intro p9 e s m args below meth c X hE hEs hNx hT hr hk hS ls hl
  have hl : lv_has ls 5 [(0, .ref x), (1, .int (wI (i))), (2, .int (wI (a))), (3, .ref out)] := hl
  obtain ⟨hAx, fs9, hxO⟩ := hXv.ob
  refine w_aload_n X dL_grossTaxByTrying_0 hl 3 rfl rfl ?_
  refine w_iconst X dL_grossTaxByTrying_1 ?_
  refine w_aload_n X dL_grossTaxByTrying_2 hl 0 rfl rfl ?_
  refine w_iload_n X dL_grossTaxByTrying_3 hl 1 rfl rfl ?_
  refine w_iload_n X dL_grossTaxByTrying_4 hl 2 rfl rfl ?_
  refine w_xr (vx_runV (As := [.int (wI (i)), .int (wI (a))]) (rest := [.int (wI (0)), .ref out]) X (c_X3_grossTaxByTrying l hl9 g AX H x σ hσ hXv i a hi ha) (cwV 2 X.2.2.2.2 gL_grossTaxByTrying_X3_grossTaxByTrying rfl rfl rfl (by decide +kernel) ⟨(Nat.le_of_ble_eq_true rfl), (Nat.le_of_ble_eq_true rfl)⟩) (w_prVN hE hEs hS (fun _ h => Or.inl h) hxO rfl) rfl rfl hl.1 rfl (lv_room (Nat.le_of_ble_eq_true rfl)) dL_grossTaxByTrying_5 ⟨(Nat.le_of_ble_eq_true rfl), (Nat.le_of_ble_eq_true rfl)⟩) hS (fun _ h => Or.inl h) ?_ fun v1 H1 lo1 hp hz1 hq1 hS => ?_
  · intro E ce q9 H9 lo9 hxp hz9 hq9 hS9 hce hcv hcl
    obtain ⟨hd, hX9⟩ := hxp
    obtain ⟨rfl, n1⟩ := hd
    refine vx_catch (E := xnA) (name := xnA) X.2.2.2.1 [] { startPc := 0, endPc := 10, handlerPc := 13, catchType := 13 } [] hT (fun z h => absurd h List.not_mem_nil) rfl (by decide) (X.2.2.2.2 (.classLink RL 13 xnA) (by decide +kernel)) (va_Nw.use rfl hNx.2.1) hce hcv hcl ?_
    refine w_astore X [(4, .ref q9), (0, .ref x), (1, .int (wI (i))), (2, .int (wI (a))), (3, .ref out)] dL_grossTaxByTrying_13 hl (by decide) rfl fun ls hl => ?_
    refine w_iconst X dL_grossTaxByTrying_15 ?_
    exact w_irR X hr hk hS9 ⟨by rw [cd_1 n1], by rw [stp_n (fun q => n1 q.1)]; exact hX9, fo, hJ.kept (hq9 _ hJ.lt hno), fun q => absurd q (by rw [cd_1 n1]; omega)⟩ dL_grossTaxByTrying_16 (Nat.le_of_ble_eq_true rfl) (Nat.le_of_ble_eq_true rfl)
  obtain ⟨p1, rfl, hXn⟩ := hp
  have hJ1 := hJ.kept (hq1 _ hJ.lt hno)
  refine lv_i2l (v := (wI (grossS (σ.1 i.toNat) a)).toInt64) X.1 X.2.1 dL_grossTaxByTrying_8 rfl ?_
  refine w_last X hE hJ1 hS (Or.inr rfl) dL_grossTaxByTrying_9 fun H_1 lo_2 f_3 hf_4 hj_5 hz_6 hq_7 hS => ?_
  refine w_goto X 17 dL_grossTaxByTrying_10 (by decide) ?_
  refine w_iconst X dL_grossTaxByTrying_17 ?_
  exact w_irR X hr hk hS ⟨by rw [cd_0 p1 trivial trivial], by rw [stp_y p1 trivial trivial]; exact hXn.kept (fun q hq _ => hq_7 q (fun e => hno (e ▸ hq))), f_3, hj_5, fun _ => by rw [stv_y p1 trivial trivial]; exact hf_4⟩ dL_grossTaxByTrying_18 (Nat.le_of_ble_eq_true rfl) (Nat.le_of_ble_eq_true rfl)

set_option maxHeartbeats 4000000 in
set_option maxRecDepth 100000 in
theorem c_L_setAbroad (l : Launch) (hl9 : l.stackTraces = false) (g : wG) (H : Heap) (AX : Nat → Prop) (out : Nat) (hno : ¬ AX out) (x : Nat) (σ : St) (hσ : StGood σ) (hXv : XInv g AX x σ H) (fo : Nat → Int64) (hJ : JA g H out 1 fo) (i a b : Int) (hi : wR i) (ha : wR a) (hb : wR b) : WrpR l g (AW AX out) H yL_setAbroad wsL_setAbroad 8 139 3 18 [.ref x, .int (wI (i)), .int (wI (a)), .int (wI (b)), .ref out] (fun w H1 => w = .int (wI (cd (((0 : Int) ≤ i ∧ i < (sn σ : Int))) (((0 ≤ a ∧ a ≤ 12) ∧ a ≤ b ∧ b ≤ 12)) (True))) ∧ XInv g AX x (stp (((0 : Int) ≤ i ∧ i < (sn σ : Int))) (((0 ≤ a ∧ a ≤ 12) ∧ a ≤ b ∧ b ≤ 12)) (True) (nxPers σ i.toNat (absS (sp σ i.toNat) a b)) σ) H1 ∧ ∃ fo' : Nat → Int64, JA g H1 out 1 fo' ∧ (cd (((0 : Int) ≤ i ∧ i < (sn σ : Int))) (((0 ≤ a ∧ a ≤ 12) ∧ a ≤ b ∧ b ≤ 12)) (True) = 0 → fo' 0 = (wI (stv (((0 : Int) ≤ i ∧ i < (sn σ : Int))) (((0 ≤ a ∧ a ≤ 12) ∧ a ≤ b ∧ b ≤ 12)) (True) (monS (sp σ i.toNat)))).toInt64)) := by
  refine Wrp.of (cc := cL_setAbroad) (maxL := 6) (ret := some .int) (hh := [(0, 12, 15, 38), (0, 12, 19, 13)]) (by decide) rfl (Nat.le_of_ble_eq_true rfl) ?_
  intro p9 e s m args below meth c X hE hEs hNx hT hr hk hS ls hl
  have hl : lv_has ls 6 [(0, .ref x), (1, .int (wI (i))), (2, .int (wI (a))), (3, .int (wI (b))), (4, .ref out)] := hl
  obtain ⟨hAx, fs9, hxO⟩ := hXv.ob
  refine w_aload X dL_setAbroad_0 hl 4 rfl ?_
  refine w_iconst X dL_setAbroad_2 ?_
  refine w_aload_n X dL_setAbroad_3 hl 0 rfl rfl ?_
  refine w_iload_n X dL_setAbroad_4 hl 1 rfl rfl ?_
  refine w_iload_n X dL_setAbroad_5 hl 2 rfl rfl ?_
  refine w_iload_n X dL_setAbroad_6 hl 3 rfl rfl ?_
  refine w_xr (vx_runV (As := [.int (wI (i)), .int (wI (a)), .int (wI (b))]) (rest := [.int (wI (0)), .ref out]) X (c_X3_setAbroad l hl9 g AX H x σ hσ hXv i a b hi ha hb) (cwV 3 X.2.2.2.2 gL_setAbroad_X3_setAbroad rfl rfl rfl (by decide +kernel) ⟨(Nat.le_of_ble_eq_true rfl), (Nat.le_of_ble_eq_true rfl)⟩) (w_prVN hE hEs hS (fun _ h => Or.inl h) hxO rfl) rfl rfl hl.1 rfl (lv_room (Nat.le_of_ble_eq_true rfl)) dL_setAbroad_7 ⟨(Nat.le_of_ble_eq_true rfl), (Nat.le_of_ble_eq_true rfl)⟩) hS (fun _ h => Or.inl h) ?_ fun v1 H1 lo1 hp hz1 hq1 hS => ?_
  · intro E ce q9 H9 lo9 hxp hz9 hq9 hS9 hce hcv hcl
    obtain ⟨hd, hX9⟩ := hxp
    rcases hd with ⟨rfl, n1⟩ | ⟨rfl, n1, n2⟩
    · skip
      refine vx_catch (E := xnB) (name := xnB) X.2.2.2.1 [] { startPc := 0, endPc := 12, handlerPc := 15, catchType := 38 } [{ startPc := 0, endPc := 12, handlerPc := 19, catchType := 13 }] hT (fun z h => absurd h List.not_mem_nil) rfl (by decide) (X.2.2.2.2 (.classLink RL 38 xnB) (by decide +kernel)) (va_Nw.use rfl hNx.2.2.2) hce hcv hcl ?_
      refine w_astore X [(5, .ref q9), (0, .ref x), (1, .int (wI (i))), (2, .int (wI (a))), (3, .int (wI (b))), (4, .ref out)] dL_setAbroad_15 hl (by decide) rfl fun ls hl => ?_
      refine w_iconst X dL_setAbroad_17 ?_
      exact w_irR X hr hk hS9 ⟨by rw [cd_1 n1], by rw [stp_n (fun q => n1 q.1)]; exact hX9, fo, hJ.kept (hq9 _ hJ.lt hno), fun q => absurd q (by rw [cd_1 n1]; omega)⟩ dL_setAbroad_18 (Nat.le_of_ble_eq_true rfl) (Nat.le_of_ble_eq_true rfl)
    · skip
      refine vx_catch (E := xnA) (name := xnA) X.2.2.2.1 [{ startPc := 0, endPc := 12, handlerPc := 15, catchType := 38 }] { startPc := 0, endPc := 12, handlerPc := 19, catchType := 13 } [] hT (fun z h => by obtain rfl := List.mem_singleton.mp h; exact Or.inr ⟨by decide, _, X.2.2.2.2 (.classLink RL 38 xnB) (by decide +kernel), hNx.1.1⟩) rfl (by decide) (X.2.2.2.2 (.classLink RL 13 xnA) (by decide +kernel)) (va_Nw.use rfl hNx.2.1) hce hcv hcl ?_
      refine w_astore X [(5, .ref q9), (0, .ref x), (1, .int (wI (i))), (2, .int (wI (a))), (3, .int (wI (b))), (4, .ref out)] dL_setAbroad_19 hl (by decide) rfl fun ls hl => ?_
      refine w_iconst X dL_setAbroad_21 ?_
      exact w_irR X hr hk hS9 ⟨by rw [cd_2 n1 n2], by rw [stp_n (fun q => n2 q.2.1)]; exact hX9, fo, hJ.kept (hq9 _ hJ.lt hno), fun q => absurd q (by rw [cd_2 n1 n2]; omega)⟩ dL_setAbroad_22 (Nat.le_of_ble_eq_true rfl) (Nat.le_of_ble_eq_true rfl)
  obtain ⟨⟨p1, p2⟩, rfl, hXn⟩ := hp
  have hJ1 := hJ.kept (hq1 _ hJ.lt hno)
  refine lv_i2l (v := (wI (monS (sp σ i.toNat))).toInt64) X.1 X.2.1 dL_setAbroad_10 rfl ?_
  refine w_last X hE hJ1 hS (Or.inr rfl) dL_setAbroad_11 fun H_1 lo_2 f_3 hf_4 hj_5 hz_6 hq_7 hS => ?_
  refine w_goto X 23 dL_setAbroad_12 (by decide) ?_
  refine w_iconst X dL_setAbroad_23 ?_
  exact w_irR X hr hk hS ⟨by rw [cd_0 p1 p2 trivial], by rw [stp_y p1 p2 trivial]; exact hXn.kept (fun q hq _ => hq_7 q (fun e => hno (e ▸ hq))), f_3, hj_5, fun _ => by rw [stv_y p1 p2 trivial]; exact hf_4⟩ dL_setAbroad_24 (Nat.le_of_ble_eq_true rfl) (Nat.le_of_ble_eq_true rfl)

set_option maxHeartbeats 4000000 in
set_option maxRecDepth 100000 in
theorem c_L_setPay (l : Launch) (hl9 : l.stackTraces = false) (g : wG) (H : Heap) (AX : Nat → Prop) (out : Nat) (hno : ¬ AX out) (x : Nat) (σ : St) (hσ : StGood σ) (hXv : XInv g AX x σ H) (fo : Nat → Int64) (hJ : JA g H out 1 fo) (i a : Int) (hi : wR i) (ha : wR a) : WrpR l g (AW AX out) H yL_setPay wsL_setPay 8 138 2 12 [.ref x, .int (wI (i)), .int (wI (a)), .ref out] (fun w H1 => w = .int (wI (cd (((0 : Int) ≤ i ∧ i < (sn σ : Int))) ((0 ≤ a ∧ a ≤ 100000)) (True))) ∧ XInv g AX x (stp (((0 : Int) ≤ i ∧ i < (sn σ : Int))) ((0 ≤ a ∧ a ≤ 100000)) (True) (nxPers σ i.toNat (payS (sp σ i.toNat) a)) σ) H1 ∧ ∃ fo' : Nat → Int64, JA g H1 out 1 fo' ∧ (cd (((0 : Int) ≤ i ∧ i < (sn σ : Int))) ((0 ≤ a ∧ a ≤ 100000)) (True) = 0 → fo' 0 = (wI (stv (((0 : Int) ≤ i ∧ i < (sn σ : Int))) ((0 ≤ a ∧ a ≤ 100000)) (True) (sp σ i.toNat 2))).toInt64)) := by
  refine Wrp.of (cc := cL_setPay) (maxL := 5) (ret := some .int) (hh := [(0, 10, 13, 38), (0, 10, 17, 13)]) (by decide) rfl (Nat.le_of_ble_eq_true rfl) ?_
  intro p9 e s m args below meth c X hE hEs hNx hT hr hk hS ls hl
  have hl : lv_has ls 5 [(0, .ref x), (1, .int (wI (i))), (2, .int (wI (a))), (3, .ref out)] := hl
  obtain ⟨hAx, fs9, hxO⟩ := hXv.ob
  refine w_aload_n X dL_setPay_0 hl 3 rfl rfl ?_
  refine w_iconst X dL_setPay_1 ?_
  refine w_aload_n X dL_setPay_2 hl 0 rfl rfl ?_
  refine w_iload_n X dL_setPay_3 hl 1 rfl rfl ?_
  refine w_iload_n X dL_setPay_4 hl 2 rfl rfl ?_
  refine w_xr (vx_runV (As := [.int (wI (i)), .int (wI (a))]) (rest := [.int (wI (0)), .ref out]) X (c_X3_setPay l hl9 g AX H x σ hσ hXv i a hi ha) (cwV 2 X.2.2.2.2 gL_setPay_X3_setPay rfl rfl rfl (by decide +kernel) ⟨(Nat.le_of_ble_eq_true rfl), (Nat.le_of_ble_eq_true rfl)⟩) (w_prVN hE hEs hS (fun _ h => Or.inl h) hxO rfl) rfl rfl hl.1 rfl (lv_room (Nat.le_of_ble_eq_true rfl)) dL_setPay_5 ⟨(Nat.le_of_ble_eq_true rfl), (Nat.le_of_ble_eq_true rfl)⟩) hS (fun _ h => Or.inl h) ?_ fun v1 H1 lo1 hp hz1 hq1 hS => ?_
  · intro E ce q9 H9 lo9 hxp hz9 hq9 hS9 hce hcv hcl
    obtain ⟨hd, hX9⟩ := hxp
    rcases hd with ⟨rfl, n1⟩ | ⟨rfl, n1, n2⟩
    · skip
      refine vx_catch (E := xnB) (name := xnB) X.2.2.2.1 [] { startPc := 0, endPc := 10, handlerPc := 13, catchType := 38 } [{ startPc := 0, endPc := 10, handlerPc := 17, catchType := 13 }] hT (fun z h => absurd h List.not_mem_nil) rfl (by decide) (X.2.2.2.2 (.classLink RL 38 xnB) (by decide +kernel)) (va_Nw.use rfl hNx.2.2.2) hce hcv hcl ?_
      refine w_astore X [(4, .ref q9), (0, .ref x), (1, .int (wI (i))), (2, .int (wI (a))), (3, .ref out)] dL_setPay_13 hl (by decide) rfl fun ls hl => ?_
      refine w_iconst X dL_setPay_15 ?_
      exact w_irR X hr hk hS9 ⟨by rw [cd_1 n1], by rw [stp_n (fun q => n1 q.1)]; exact hX9, fo, hJ.kept (hq9 _ hJ.lt hno), fun q => absurd q (by rw [cd_1 n1]; omega)⟩ dL_setPay_16 (Nat.le_of_ble_eq_true rfl) (Nat.le_of_ble_eq_true rfl)
    · skip
      refine vx_catch (E := xnA) (name := xnA) X.2.2.2.1 [{ startPc := 0, endPc := 10, handlerPc := 13, catchType := 38 }] { startPc := 0, endPc := 10, handlerPc := 17, catchType := 13 } [] hT (fun z h => by obtain rfl := List.mem_singleton.mp h; exact Or.inr ⟨by decide, _, X.2.2.2.2 (.classLink RL 38 xnB) (by decide +kernel), hNx.1.1⟩) rfl (by decide) (X.2.2.2.2 (.classLink RL 13 xnA) (by decide +kernel)) (va_Nw.use rfl hNx.2.1) hce hcv hcl ?_
      refine w_astore X [(4, .ref q9), (0, .ref x), (1, .int (wI (i))), (2, .int (wI (a))), (3, .ref out)] dL_setPay_17 hl (by decide) rfl fun ls hl => ?_
      refine w_iconst X dL_setPay_19 ?_
      exact w_irR X hr hk hS9 ⟨by rw [cd_2 n1 n2], by rw [stp_n (fun q => n2 q.2.1)]; exact hX9, fo, hJ.kept (hq9 _ hJ.lt hno), fun q => absurd q (by rw [cd_2 n1 n2]; omega)⟩ dL_setPay_20 (Nat.le_of_ble_eq_true rfl) (Nat.le_of_ble_eq_true rfl)
  obtain ⟨⟨p1, p2⟩, rfl, hXn⟩ := hp
  have hJ1 := hJ.kept (hq1 _ hJ.lt hno)
  refine lv_i2l (v := (wI (sp σ i.toNat 2)).toInt64) X.1 X.2.1 dL_setPay_8 rfl ?_
  refine w_last X hE hJ1 hS (Or.inr rfl) dL_setPay_9 fun H_1 lo_2 f_3 hf_4 hj_5 hz_6 hq_7 hS => ?_
  refine w_goto X 21 dL_setPay_10 (by decide) ?_
  refine w_iconst X dL_setPay_21 ?_
  exact w_irR X hr hk hS ⟨by rw [cd_0 p1 p2 trivial], by rw [stp_y p1 p2 trivial]; exact hXn.kept (fun q hq _ => hq_7 q (fun e => hno (e ▸ hq))), f_3, hj_5, fun _ => by rw [stv_y p1 p2 trivial]; exact hf_4⟩ dL_setPay_22 (Nat.le_of_ble_eq_true rfl) (Nat.le_of_ble_eq_true rfl)

set_option maxHeartbeats 4000000 in
set_option maxRecDepth 100000 in
theorem c_L_setHousing (l : Launch) (hl9 : l.stackTraces = false) (g : wG) (H : Heap) (AX : Nat → Prop) (out : Nat) (hno : ¬ AX out) (x : Nat) (σ : St) (hσ : StGood σ) (hXv : XInv g AX x σ H) (fo : Nat → Int64) (hJ : JA g H out 1 fo) (i a b : Int) (hi : wR i) (ha : wR a) (hb : wR b) : WrpR l g (AW AX out) H yL_setHousing wsL_setHousing 8 138 3 18 [.ref x, .int (wI (i)), .int (wI (a)), .int (wI (b)), .ref out] (fun w H1 => w = .int (wI (cd (((0 : Int) ≤ i ∧ i < (sn σ : Int))) (((0 ≤ a ∧ a ≤ 50000) ∧ 0 ≤ b ∧ b ≤ 40)) (True))) ∧ XInv g AX x (stp (((0 : Int) ≤ i ∧ i < (sn σ : Int))) (((0 ≤ a ∧ a ≤ 50000) ∧ 0 ≤ b ∧ b ≤ 40)) (True) (nxPers σ i.toNat (renS (sp σ i.toNat) a b)) σ) H1 ∧ ∃ fo' : Nat → Int64, JA g H1 out 1 fo' ∧ (cd (((0 : Int) ≤ i ∧ i < (sn σ : Int))) (((0 ≤ a ∧ a ≤ 50000) ∧ 0 ≤ b ∧ b ≤ 40)) (True) = 0 → fo' 0 = (wI (stv (((0 : Int) ≤ i ∧ i < (sn σ : Int))) (((0 ≤ a ∧ a ≤ 50000) ∧ 0 ≤ b ∧ b ≤ 40)) (True) (ownS (renS (sp σ i.toNat) a b)))).toInt64)) := by
  refine Wrp.of (cc := cL_setHousing) (maxL := 6) (ret := some .int) (hh := [(0, 12, 15, 38), (0, 12, 19, 13)]) (by decide) rfl (Nat.le_of_ble_eq_true rfl) ?_
  intro p9 e s m args below meth c X hE hEs hNx hT hr hk hS ls hl
  have hl : lv_has ls 6 [(0, .ref x), (1, .int (wI (i))), (2, .int (wI (a))), (3, .int (wI (b))), (4, .ref out)] := hl
  obtain ⟨hAx, fs9, hxO⟩ := hXv.ob
  refine w_aload X dL_setHousing_0 hl 4 rfl ?_
  refine w_iconst X dL_setHousing_2 ?_
  refine w_aload_n X dL_setHousing_3 hl 0 rfl rfl ?_
  refine w_iload_n X dL_setHousing_4 hl 1 rfl rfl ?_
  refine w_iload_n X dL_setHousing_5 hl 2 rfl rfl ?_
  refine w_iload_n X dL_setHousing_6 hl 3 rfl rfl ?_
  refine w_xr (vx_runV (As := [.int (wI (i)), .int (wI (a)), .int (wI (b))]) (rest := [.int (wI (0)), .ref out]) X (c_X3_setHousing l hl9 g AX H x σ hσ hXv i a b hi ha hb) (cwV 3 X.2.2.2.2 gL_setHousing_X3_setHousing rfl rfl rfl (by decide +kernel) ⟨(Nat.le_of_ble_eq_true rfl), (Nat.le_of_ble_eq_true rfl)⟩) (w_prVN hE hEs hS (fun _ h => Or.inl h) hxO rfl) rfl rfl hl.1 rfl (lv_room (Nat.le_of_ble_eq_true rfl)) dL_setHousing_7 ⟨(Nat.le_of_ble_eq_true rfl), (Nat.le_of_ble_eq_true rfl)⟩) hS (fun _ h => Or.inl h) ?_ fun v1 H1 lo1 hp hz1 hq1 hS => ?_
  · intro E ce q9 H9 lo9 hxp hz9 hq9 hS9 hce hcv hcl
    obtain ⟨hd, hX9⟩ := hxp
    rcases hd with ⟨rfl, n1⟩ | ⟨rfl, n1, n2⟩
    · skip
      refine vx_catch (E := xnB) (name := xnB) X.2.2.2.1 [] { startPc := 0, endPc := 12, handlerPc := 15, catchType := 38 } [{ startPc := 0, endPc := 12, handlerPc := 19, catchType := 13 }] hT (fun z h => absurd h List.not_mem_nil) rfl (by decide) (X.2.2.2.2 (.classLink RL 38 xnB) (by decide +kernel)) (va_Nw.use rfl hNx.2.2.2) hce hcv hcl ?_
      refine w_astore X [(5, .ref q9), (0, .ref x), (1, .int (wI (i))), (2, .int (wI (a))), (3, .int (wI (b))), (4, .ref out)] dL_setHousing_15 hl (by decide) rfl fun ls hl => ?_
      refine w_iconst X dL_setHousing_17 ?_
      exact w_irR X hr hk hS9 ⟨by rw [cd_1 n1], by rw [stp_n (fun q => n1 q.1)]; exact hX9, fo, hJ.kept (hq9 _ hJ.lt hno), fun q => absurd q (by rw [cd_1 n1]; omega)⟩ dL_setHousing_18 (Nat.le_of_ble_eq_true rfl) (Nat.le_of_ble_eq_true rfl)
    · skip
      refine vx_catch (E := xnA) (name := xnA) X.2.2.2.1 [{ startPc := 0, endPc := 12, handlerPc := 15, catchType := 38 }] { startPc := 0, endPc := 12, handlerPc := 19, catchType := 13 } [] hT (fun z h => by obtain rfl := List.mem_singleton.mp h; exact Or.inr ⟨by decide, _, X.2.2.2.2 (.classLink RL 38 xnB) (by decide +kernel), hNx.1.1⟩) rfl (by decide) (X.2.2.2.2 (.classLink RL 13 xnA) (by decide +kernel)) (va_Nw.use rfl hNx.2.1) hce hcv hcl ?_
      refine w_astore X [(5, .ref q9), (0, .ref x), (1, .int (wI (i))), (2, .int (wI (a))), (3, .int (wI (b))), (4, .ref out)] dL_setHousing_19 hl (by decide) rfl fun ls hl => ?_
      refine w_iconst X dL_setHousing_21 ?_
      exact w_irR X hr hk hS9 ⟨by rw [cd_2 n1 n2], by rw [stp_n (fun q => n2 q.2.1)]; exact hX9, fo, hJ.kept (hq9 _ hJ.lt hno), fun q => absurd q (by rw [cd_2 n1 n2]; omega)⟩ dL_setHousing_22 (Nat.le_of_ble_eq_true rfl) (Nat.le_of_ble_eq_true rfl)
  obtain ⟨⟨p1, p2⟩, rfl, hXn⟩ := hp
  have hJ1 := hJ.kept (hq1 _ hJ.lt hno)
  refine lv_i2l (v := (wI (ownS (renS (sp σ i.toNat) a b))).toInt64) X.1 X.2.1 dL_setHousing_10 rfl ?_
  refine w_last X hE hJ1 hS (Or.inr rfl) dL_setHousing_11 fun H_1 lo_2 f_3 hf_4 hj_5 hz_6 hq_7 hS => ?_
  refine w_goto X 23 dL_setHousing_12 (by decide) ?_
  refine w_iconst X dL_setHousing_23 ?_
  exact w_irR X hr hk hS ⟨by rw [cd_0 p1 p2 trivial], by rw [stp_y p1 p2 trivial]; exact hXn.kept (fun q hq _ => hq_7 q (fun e => hno (e ▸ hq))), f_3, hj_5, fun _ => by rw [stv_y p1 p2 trivial]; exact hf_4⟩ dL_setHousing_24 (Nat.le_of_ble_eq_true rfl) (Nat.le_of_ble_eq_true rfl)

set_option maxHeartbeats 4000000 in
set_option maxRecDepth 100000 in
theorem c_L_supposedTax (l : Launch) (hl9 : l.stackTraces = false) (g : wG) (H : Heap) (AX : Nat → Prop) (out : Nat) (hno : ¬ AX out) (x : Nat) (σ : St) (hσ : StGood σ) (hXv : XInv g AX x σ H) (fo : Nat → Int64) (hJ : JA g H out 1 fo) (i : Int) (hi : wR i) : WrpR l g (AW AX out) H yL_supposedTax wsL_supposedTax 8 134 1 6 [.ref x, .int (wI (i)), .ref out] (fun w H1 => w = .int (wI (cd (((0 : Int) ≤ i ∧ i < (sn σ : Int))) (True) (True))) ∧ XInv g AX x (stp (((0 : Int) ≤ i ∧ i < (sn σ : Int))) (True) (True) (σ) σ) H1 ∧ ∃ fo' : Nat → Int64, JA g H1 out 1 fo' ∧ (cd (((0 : Int) ≤ i ∧ i < (sn σ : Int))) (True) (True) = 0 → fo' 0 = (wI (stv (((0 : Int) ≤ i ∧ i < (sn σ : Int))) (True) (True) (supS (sH σ i.toNat) (sp σ i.toNat) (sb σ i.toNat) (so σ i.toNat)))).toInt64)) := by
  refine Wrp.of (cc := cL_supposedTax) (maxL := 4) (ret := some .int) (hh := [(0, 9, 12, 38)]) (by decide) rfl (Nat.le_of_ble_eq_true rfl) ?_
  intro p9 e s m args below meth c X hE hEs hNx hT hr hk hS ls hl
  have hl : lv_has ls 4 [(0, .ref x), (1, .int (wI (i))), (2, .ref out)] := hl
  obtain ⟨hAx, fs9, hxO⟩ := hXv.ob
  refine w_aload_n X dL_supposedTax_0 hl 2 rfl rfl ?_
  refine w_iconst X dL_supposedTax_1 ?_
  refine w_aload_n X dL_supposedTax_2 hl 0 rfl rfl ?_
  refine w_iload_n X dL_supposedTax_3 hl 1 rfl rfl ?_
  refine w_xr (vx_runV (As := [.int (wI (i))]) (rest := [.int (wI (0)), .ref out]) X (c_X3_supposedTax l hl9 g AX H x σ hσ hXv i hi) (cwV 1 X.2.2.2.2 gL_supposedTax_X3_supposedTax rfl rfl rfl (by decide +kernel) ⟨(Nat.le_of_ble_eq_true rfl), (Nat.le_of_ble_eq_true rfl)⟩) (w_prVN hE hEs hS (fun _ h => Or.inl h) hxO rfl) rfl rfl hl.1 rfl (lv_room (Nat.le_of_ble_eq_true rfl)) dL_supposedTax_4 ⟨(Nat.le_of_ble_eq_true rfl), (Nat.le_of_ble_eq_true rfl)⟩) hS (fun _ h => Or.inl h) ?_ fun v1 H1 lo1 hp hz1 hq1 hS => ?_
  · intro E ce q9 H9 lo9 hxp hz9 hq9 hS9 hce hcv hcl
    obtain ⟨hd, hX9⟩ := hxp
    obtain ⟨rfl, n1⟩ := hd
    refine vx_catch (E := xnB) (name := xnB) X.2.2.2.1 [] { startPc := 0, endPc := 9, handlerPc := 12, catchType := 38 } [] hT (fun z h => absurd h List.not_mem_nil) rfl (by decide) (X.2.2.2.2 (.classLink RL 38 xnB) (by decide +kernel)) (va_Nw.use rfl hNx.2.2.2) hce hcv hcl ?_
    refine w_astore_n X [(3, .ref q9), (0, .ref x), (1, .int (wI (i))), (2, .ref out)] dL_supposedTax_12 hl rfl (by decide) rfl fun ls hl => ?_
    refine w_iconst X dL_supposedTax_13 ?_
    exact w_irR X hr hk hS9 ⟨by rw [cd_1 n1], by rw [stp_n (fun q => n1 q.1)]; exact hX9, fo, hJ.kept (hq9 _ hJ.lt hno), fun q => absurd q (by rw [cd_1 n1]; omega)⟩ dL_supposedTax_14 (Nat.le_of_ble_eq_true rfl) (Nat.le_of_ble_eq_true rfl)
  obtain ⟨p1, rfl, hXn⟩ := hp
  have hJ1 := hJ.kept (hq1 _ hJ.lt hno)
  refine lv_i2l (v := (wI (supS (sH σ i.toNat) (sp σ i.toNat) (sb σ i.toNat) (so σ i.toNat))).toInt64) X.1 X.2.1 dL_supposedTax_7 rfl ?_
  refine w_last X hE hJ1 hS (Or.inr rfl) dL_supposedTax_8 fun H_1 lo_2 f_3 hf_4 hj_5 hz_6 hq_7 hS => ?_
  refine w_goto X 15 dL_supposedTax_9 (by decide) ?_
  refine w_iconst X dL_supposedTax_15 ?_
  exact w_irR X hr hk hS ⟨by rw [cd_0 p1 trivial trivial], by rw [stp_y p1 trivial trivial]; exact hXn.kept (fun q hq _ => hq_7 q (fun e => hno (e ▸ hq))), f_3, hj_5, fun _ => by rw [stv_y p1 trivial trivial]; exact hf_4⟩ dL_supposedTax_16 (Nat.le_of_ble_eq_true rfl) (Nat.le_of_ble_eq_true rfl)

set_option maxHeartbeats 4000000 in
set_option maxRecDepth 100000 in
theorem c_L_homeIncome (l : Launch) (hl9 : l.stackTraces = false) (g : wG) (H : Heap) (AX : Nat → Prop) (out : Nat) (hno : ¬ AX out) (x : Nat) (σ : St) (hσ : StGood σ) (hXv : XInv g AX x σ H) (fo : Nat → Int64) (hJ : JA g H out 1 fo) (i : Int) (hi : wR i) : WrpR l g (AW AX out) H yL_homeIncome wsL_homeIncome 8 134 1 6 [.ref x, .int (wI (i)), .ref out] (fun w H1 => w = .int (wI (cd (((0 : Int) ≤ i ∧ i < (sn σ : Int))) (True) (True))) ∧ XInv g AX x (stp (((0 : Int) ≤ i ∧ i < (sn σ : Int))) (True) (True) (σ) σ) H1 ∧ ∃ fo' : Nat → Int64, JA g H1 out 1 fo' ∧ (cd (((0 : Int) ≤ i ∧ i < (sn σ : Int))) (True) (True) = 0 → fo' 0 = (wI (stv (((0 : Int) ≤ i ∧ i < (sn σ : Int))) (True) (True) (ahS (sp σ i.toNat) (sb σ i.toNat) (so σ i.toNat)))).toInt64)) := by
  refine Wrp.of (cc := cL_homeIncome) (maxL := 4) (ret := some .int) (hh := [(0, 9, 12, 38)]) (by decide) rfl (Nat.le_of_ble_eq_true rfl) ?_
  intro p9 e s m args below meth c X hE hEs hNx hT hr hk hS ls hl
  have hl : lv_has ls 4 [(0, .ref x), (1, .int (wI (i))), (2, .ref out)] := hl
  obtain ⟨hAx, fs9, hxO⟩ := hXv.ob
  refine w_aload_n X dL_homeIncome_0 hl 2 rfl rfl ?_
  refine w_iconst X dL_homeIncome_1 ?_
  refine w_aload_n X dL_homeIncome_2 hl 0 rfl rfl ?_
  refine w_iload_n X dL_homeIncome_3 hl 1 rfl rfl ?_
  refine w_xr (vx_runV (As := [.int (wI (i))]) (rest := [.int (wI (0)), .ref out]) X (c_X3_homeIncome l hl9 g AX H x σ hσ hXv i hi) (cwV 1 X.2.2.2.2 gL_homeIncome_X3_homeIncome rfl rfl rfl (by decide +kernel) ⟨(Nat.le_of_ble_eq_true rfl), (Nat.le_of_ble_eq_true rfl)⟩) (w_prVN hE hEs hS (fun _ h => Or.inl h) hxO rfl) rfl rfl hl.1 rfl (lv_room (Nat.le_of_ble_eq_true rfl)) dL_homeIncome_4 ⟨(Nat.le_of_ble_eq_true rfl), (Nat.le_of_ble_eq_true rfl)⟩) hS (fun _ h => Or.inl h) ?_ fun v1 H1 lo1 hp hz1 hq1 hS => ?_
  · intro E ce q9 H9 lo9 hxp hz9 hq9 hS9 hce hcv hcl
    obtain ⟨hd, hX9⟩ := hxp
    obtain ⟨rfl, n1⟩ := hd
    refine vx_catch (E := xnB) (name := xnB) X.2.2.2.1 [] { startPc := 0, endPc := 9, handlerPc := 12, catchType := 38 } [] hT (fun z h => absurd h List.not_mem_nil) rfl (by decide) (X.2.2.2.2 (.classLink RL 38 xnB) (by decide +kernel)) (va_Nw.use rfl hNx.2.2.2) hce hcv hcl ?_
    refine w_astore_n X [(3, .ref q9), (0, .ref x), (1, .int (wI (i))), (2, .ref out)] dL_homeIncome_12 hl rfl (by decide) rfl fun ls hl => ?_
    refine w_iconst X dL_homeIncome_13 ?_
    exact w_irR X hr hk hS9 ⟨by rw [cd_1 n1], by rw [stp_n (fun q => n1 q.1)]; exact hX9, fo, hJ.kept (hq9 _ hJ.lt hno), fun q => absurd q (by rw [cd_1 n1]; omega)⟩ dL_homeIncome_14 (Nat.le_of_ble_eq_true rfl) (Nat.le_of_ble_eq_true rfl)
  obtain ⟨p1, rfl, hXn⟩ := hp
  have hJ1 := hJ.kept (hq1 _ hJ.lt hno)
  refine lv_i2l (v := (wI (ahS (sp σ i.toNat) (sb σ i.toNat) (so σ i.toNat))).toInt64) X.1 X.2.1 dL_homeIncome_7 rfl ?_
  refine w_last X hE hJ1 hS (Or.inr rfl) dL_homeIncome_8 fun H_1 lo_2 f_3 hf_4 hj_5 hz_6 hq_7 hS => ?_
  refine w_goto X 15 dL_homeIncome_9 (by decide) ?_
  refine w_iconst X dL_homeIncome_15 ?_
  exact w_irR X hr hk hS ⟨by rw [cd_0 p1 trivial trivial], by rw [stp_y p1 trivial trivial]; exact hXn.kept (fun q hq _ => hq_7 q (fun e => hno (e ▸ hq))), f_3, hj_5, fun _ => by rw [stv_y p1 trivial trivial]; exact hf_4⟩ dL_homeIncome_16 (Nat.le_of_ble_eq_true rfl) (Nat.le_of_ble_eq_true rfl)

set_option maxHeartbeats 4000000 in
set_option maxRecDepth 100000 in
theorem c_L_homeTax (l : Launch) (hl9 : l.stackTraces = false) (g : wG) (H : Heap) (AX : Nat → Prop) (out : Nat) (hno : ¬ AX out) (x : Nat) (σ : St) (hσ : StGood σ) (hXv : XInv g AX x σ H) (fo : Nat → Int64) (hJ : JA g H out 1 fo) (i : Int) (hi : wR i) : WrpR l g (AW AX out) H yL_homeTax wsL_homeTax 8 134 1 6 [.ref x, .int (wI (i)), .ref out] (fun w H1 => w = .int (wI (cd (((0 : Int) ≤ i ∧ i < (sn σ : Int))) (True) (True))) ∧ XInv g AX x (stp (((0 : Int) ≤ i ∧ i < (sn σ : Int))) (True) (True) (σ) σ) H1 ∧ ∃ fo' : Nat → Int64, JA g H1 out 1 fo' ∧ (cd (((0 : Int) ≤ i ∧ i < (sn σ : Int))) (True) (True) = 0 → fo' 0 = (wI (stv (((0 : Int) ≤ i ∧ i < (sn σ : Int))) (True) (True) (tahS (sH σ i.toNat) (sp σ i.toNat) (sb σ i.toNat) (so σ i.toNat)))).toInt64)) := by
  refine Wrp.of (cc := cL_homeTax) (maxL := 4) (ret := some .int) (hh := [(0, 9, 12, 38)]) (by decide) rfl (Nat.le_of_ble_eq_true rfl) ?_
  intro p9 e s m args below meth c X hE hEs hNx hT hr hk hS ls hl
  have hl : lv_has ls 4 [(0, .ref x), (1, .int (wI (i))), (2, .ref out)] := hl
  obtain ⟨hAx, fs9, hxO⟩ := hXv.ob
  refine w_aload_n X dL_homeTax_0 hl 2 rfl rfl ?_
  refine w_iconst X dL_homeTax_1 ?_
  refine w_aload_n X dL_homeTax_2 hl 0 rfl rfl ?_
  refine w_iload_n X dL_homeTax_3 hl 1 rfl rfl ?_
  refine w_xr (vx_runV (As := [.int (wI (i))]) (rest := [.int (wI (0)), .ref out]) X (c_X3_homeTax l hl9 g AX H x σ hσ hXv i hi) (cwV 1 X.2.2.2.2 gL_homeTax_X3_homeTax rfl rfl rfl (by decide +kernel) ⟨(Nat.le_of_ble_eq_true rfl), (Nat.le_of_ble_eq_true rfl)⟩) (w_prVN hE hEs hS (fun _ h => Or.inl h) hxO rfl) rfl rfl hl.1 rfl (lv_room (Nat.le_of_ble_eq_true rfl)) dL_homeTax_4 ⟨(Nat.le_of_ble_eq_true rfl), (Nat.le_of_ble_eq_true rfl)⟩) hS (fun _ h => Or.inl h) ?_ fun v1 H1 lo1 hp hz1 hq1 hS => ?_
  · intro E ce q9 H9 lo9 hxp hz9 hq9 hS9 hce hcv hcl
    obtain ⟨hd, hX9⟩ := hxp
    obtain ⟨rfl, n1⟩ := hd
    refine vx_catch (E := xnB) (name := xnB) X.2.2.2.1 [] { startPc := 0, endPc := 9, handlerPc := 12, catchType := 38 } [] hT (fun z h => absurd h List.not_mem_nil) rfl (by decide) (X.2.2.2.2 (.classLink RL 38 xnB) (by decide +kernel)) (va_Nw.use rfl hNx.2.2.2) hce hcv hcl ?_
    refine w_astore_n X [(3, .ref q9), (0, .ref x), (1, .int (wI (i))), (2, .ref out)] dL_homeTax_12 hl rfl (by decide) rfl fun ls hl => ?_
    refine w_iconst X dL_homeTax_13 ?_
    exact w_irR X hr hk hS9 ⟨by rw [cd_1 n1], by rw [stp_n (fun q => n1 q.1)]; exact hX9, fo, hJ.kept (hq9 _ hJ.lt hno), fun q => absurd q (by rw [cd_1 n1]; omega)⟩ dL_homeTax_14 (Nat.le_of_ble_eq_true rfl) (Nat.le_of_ble_eq_true rfl)
  obtain ⟨p1, rfl, hXn⟩ := hp
  have hJ1 := hJ.kept (hq1 _ hJ.lt hno)
  refine lv_i2l (v := (wI (tahS (sH σ i.toNat) (sp σ i.toNat) (sb σ i.toNat) (so σ i.toNat))).toInt64) X.1 X.2.1 dL_homeTax_7 rfl ?_
  refine w_last X hE hJ1 hS (Or.inr rfl) dL_homeTax_8 fun H_1 lo_2 f_3 hf_4 hj_5 hz_6 hq_7 hS => ?_
  refine w_goto X 15 dL_homeTax_9 (by decide) ?_
  refine w_iconst X dL_homeTax_15 ?_
  exact w_irR X hr hk hS ⟨by rw [cd_0 p1 trivial trivial], by rw [stp_y p1 trivial trivial]; exact hXn.kept (fun q hq _ => hq_7 q (fun e => hno (e ▸ hq))), f_3, hj_5, fun _ => by rw [stv_y p1 trivial trivial]; exact hf_4⟩ dL_homeTax_16 (Nat.le_of_ble_eq_true rfl) (Nat.le_of_ble_eq_true rfl)

set_option maxHeartbeats 4000000 in
set_option maxRecDepth 100000 in
theorem c_L_hostIncome (l : Launch) (hl9 : l.stackTraces = false) (g : wG) (H : Heap) (AX : Nat → Prop) (out : Nat) (hno : ¬ AX out) (x : Nat) (σ : St) (hσ : StGood σ) (hXv : XInv g AX x σ H) (fo : Nat → Int64) (hJ : JA g H out 1 fo) (i : Int) (hi : wR i) : WrpR l g (AW AX out) H yL_hostIncome wsL_hostIncome 8 134 1 6 [.ref x, .int (wI (i)), .ref out] (fun w H1 => w = .int (wI (cd (((0 : Int) ≤ i ∧ i < (sn σ : Int))) (True) (True))) ∧ XInv g AX x (stp (((0 : Int) ≤ i ∧ i < (sn σ : Int))) (True) (True) (σ) σ) H1 ∧ ∃ fo' : Nat → Int64, JA g H1 out 1 fo' ∧ (cd (((0 : Int) ≤ i ∧ i < (sn σ : Int))) (True) (True) = 0 → fo' 0 = (wI (stv (((0 : Int) ≤ i ∧ i < (sn σ : Int))) (True) (True) (aosS (sp σ i.toNat) (sb σ i.toNat) (so σ i.toNat)))).toInt64)) := by
  refine Wrp.of (cc := cL_hostIncome) (maxL := 4) (ret := some .int) (hh := [(0, 9, 12, 38)]) (by decide) rfl (Nat.le_of_ble_eq_true rfl) ?_
  intro p9 e s m args below meth c X hE hEs hNx hT hr hk hS ls hl
  have hl : lv_has ls 4 [(0, .ref x), (1, .int (wI (i))), (2, .ref out)] := hl
  obtain ⟨hAx, fs9, hxO⟩ := hXv.ob
  refine w_aload_n X dL_hostIncome_0 hl 2 rfl rfl ?_
  refine w_iconst X dL_hostIncome_1 ?_
  refine w_aload_n X dL_hostIncome_2 hl 0 rfl rfl ?_
  refine w_iload_n X dL_hostIncome_3 hl 1 rfl rfl ?_
  refine w_xr (vx_runV (As := [.int (wI (i))]) (rest := [.int (wI (0)), .ref out]) X (c_X3_hostIncome l hl9 g AX H x σ hσ hXv i hi) (cwV 1 X.2.2.2.2 gL_hostIncome_X3_hostIncome rfl rfl rfl (by decide +kernel) ⟨(Nat.le_of_ble_eq_true rfl), (Nat.le_of_ble_eq_true rfl)⟩) (w_prVN hE hEs hS (fun _ h => Or.inl h) hxO rfl) rfl rfl hl.1 rfl (lv_room (Nat.le_of_ble_eq_true rfl)) dL_hostIncome_4 ⟨(Nat.le_of_ble_eq_true rfl), (Nat.le_of_ble_eq_true rfl)⟩) hS (fun _ h => Or.inl h) ?_ fun v1 H1 lo1 hp hz1 hq1 hS => ?_
  · intro E ce q9 H9 lo9 hxp hz9 hq9 hS9 hce hcv hcl
    obtain ⟨hd, hX9⟩ := hxp
    obtain ⟨rfl, n1⟩ := hd
    refine vx_catch (E := xnB) (name := xnB) X.2.2.2.1 [] { startPc := 0, endPc := 9, handlerPc := 12, catchType := 38 } [] hT (fun z h => absurd h List.not_mem_nil) rfl (by decide) (X.2.2.2.2 (.classLink RL 38 xnB) (by decide +kernel)) (va_Nw.use rfl hNx.2.2.2) hce hcv hcl ?_
    refine w_astore_n X [(3, .ref q9), (0, .ref x), (1, .int (wI (i))), (2, .ref out)] dL_hostIncome_12 hl rfl (by decide) rfl fun ls hl => ?_
    refine w_iconst X dL_hostIncome_13 ?_
    exact w_irR X hr hk hS9 ⟨by rw [cd_1 n1], by rw [stp_n (fun q => n1 q.1)]; exact hX9, fo, hJ.kept (hq9 _ hJ.lt hno), fun q => absurd q (by rw [cd_1 n1]; omega)⟩ dL_hostIncome_14 (Nat.le_of_ble_eq_true rfl) (Nat.le_of_ble_eq_true rfl)
  obtain ⟨p1, rfl, hXn⟩ := hp
  have hJ1 := hJ.kept (hq1 _ hJ.lt hno)
  refine lv_i2l (v := (wI (aosS (sp σ i.toNat) (sb σ i.toNat) (so σ i.toNat))).toInt64) X.1 X.2.1 dL_hostIncome_7 rfl ?_
  refine w_last X hE hJ1 hS (Or.inr rfl) dL_hostIncome_8 fun H_1 lo_2 f_3 hf_4 hj_5 hz_6 hq_7 hS => ?_
  refine w_goto X 15 dL_hostIncome_9 (by decide) ?_
  refine w_iconst X dL_hostIncome_15 ?_
  exact w_irR X hr hk hS ⟨by rw [cd_0 p1 trivial trivial], by rw [stp_y p1 trivial trivial]; exact hXn.kept (fun q hq _ => hq_7 q (fun e => hno (e ▸ hq))), f_3, hj_5, fun _ => by rw [stv_y p1 trivial trivial]; exact hf_4⟩ dL_hostIncome_16 (Nat.le_of_ble_eq_true rfl) (Nat.le_of_ble_eq_true rfl)

set_option maxHeartbeats 4000000 in
set_option maxRecDepth 100000 in
theorem c_L_hostTax (l : Launch) (hl9 : l.stackTraces = false) (g : wG) (H : Heap) (AX : Nat → Prop) (out : Nat) (hno : ¬ AX out) (x : Nat) (σ : St) (hσ : StGood σ) (hXv : XInv g AX x σ H) (fo : Nat → Int64) (hJ : JA g H out 1 fo) (i : Int) (hi : wR i) : WrpR l g (AW AX out) H yL_hostTax wsL_hostTax 8 134 1 6 [.ref x, .int (wI (i)), .ref out] (fun w H1 => w = .int (wI (cd (((0 : Int) ≤ i ∧ i < (sn σ : Int))) (True) (True))) ∧ XInv g AX x (stp (((0 : Int) ≤ i ∧ i < (sn σ : Int))) (True) (True) (σ) σ) H1 ∧ ∃ fo' : Nat → Int64, JA g H1 out 1 fo' ∧ (cd (((0 : Int) ≤ i ∧ i < (sn σ : Int))) (True) (True) = 0 → fo' 0 = (wI (stv (((0 : Int) ≤ i ∧ i < (sn σ : Int))) (True) (True) (taoS (sT σ i.toNat) (sp σ i.toNat) (sb σ i.toNat) (so σ i.toNat)))).toInt64)) := by
  refine Wrp.of (cc := cL_hostTax) (maxL := 4) (ret := some .int) (hh := [(0, 9, 12, 38)]) (by decide) rfl (Nat.le_of_ble_eq_true rfl) ?_
  intro p9 e s m args below meth c X hE hEs hNx hT hr hk hS ls hl
  have hl : lv_has ls 4 [(0, .ref x), (1, .int (wI (i))), (2, .ref out)] := hl
  obtain ⟨hAx, fs9, hxO⟩ := hXv.ob
  refine w_aload_n X dL_hostTax_0 hl 2 rfl rfl ?_
  refine w_iconst X dL_hostTax_1 ?_
  refine w_aload_n X dL_hostTax_2 hl 0 rfl rfl ?_
  refine w_iload_n X dL_hostTax_3 hl 1 rfl rfl ?_
  refine w_xr (vx_runV (As := [.int (wI (i))]) (rest := [.int (wI (0)), .ref out]) X (c_X3_hostTax l hl9 g AX H x σ hσ hXv i hi) (cwV 1 X.2.2.2.2 gL_hostTax_X3_hostTax rfl rfl rfl (by decide +kernel) ⟨(Nat.le_of_ble_eq_true rfl), (Nat.le_of_ble_eq_true rfl)⟩) (w_prVN hE hEs hS (fun _ h => Or.inl h) hxO rfl) rfl rfl hl.1 rfl (lv_room (Nat.le_of_ble_eq_true rfl)) dL_hostTax_4 ⟨(Nat.le_of_ble_eq_true rfl), (Nat.le_of_ble_eq_true rfl)⟩) hS (fun _ h => Or.inl h) ?_ fun v1 H1 lo1 hp hz1 hq1 hS => ?_
  · intro E ce q9 H9 lo9 hxp hz9 hq9 hS9 hce hcv hcl
    obtain ⟨hd, hX9⟩ := hxp
    obtain ⟨rfl, n1⟩ := hd
    refine vx_catch (E := xnB) (name := xnB) X.2.2.2.1 [] { startPc := 0, endPc := 9, handlerPc := 12, catchType := 38 } [] hT (fun z h => absurd h List.not_mem_nil) rfl (by decide) (X.2.2.2.2 (.classLink RL 38 xnB) (by decide +kernel)) (va_Nw.use rfl hNx.2.2.2) hce hcv hcl ?_
    refine w_astore_n X [(3, .ref q9), (0, .ref x), (1, .int (wI (i))), (2, .ref out)] dL_hostTax_12 hl rfl (by decide) rfl fun ls hl => ?_
    refine w_iconst X dL_hostTax_13 ?_
    exact w_irR X hr hk hS9 ⟨by rw [cd_1 n1], by rw [stp_n (fun q => n1 q.1)]; exact hX9, fo, hJ.kept (hq9 _ hJ.lt hno), fun q => absurd q (by rw [cd_1 n1]; omega)⟩ dL_hostTax_14 (Nat.le_of_ble_eq_true rfl) (Nat.le_of_ble_eq_true rfl)
  obtain ⟨p1, rfl, hXn⟩ := hp
  have hJ1 := hJ.kept (hq1 _ hJ.lt hno)
  refine lv_i2l (v := (wI (taoS (sT σ i.toNat) (sp σ i.toNat) (sb σ i.toNat) (so σ i.toNat))).toInt64) X.1 X.2.1 dL_hostTax_7 rfl ?_
  refine w_last X hE hJ1 hS (Or.inr rfl) dL_hostTax_8 fun H_1 lo_2 f_3 hf_4 hj_5 hz_6 hq_7 hS => ?_
  refine w_goto X 15 dL_hostTax_9 (by decide) ?_
  refine w_iconst X dL_hostTax_15 ?_
  exact w_irR X hr hk hS ⟨by rw [cd_0 p1 trivial trivial], by rw [stp_y p1 trivial trivial]; exact hXn.kept (fun q hq _ => hq_7 q (fun e => hno (e ▸ hq))), f_3, hj_5, fun _ => by rw [stv_y p1 trivial trivial]; exact hf_4⟩ dL_hostTax_16 (Nat.le_of_ble_eq_true rfl) (Nat.le_of_ble_eq_true rfl)

set_option maxHeartbeats 4000000 in
set_option maxRecDepth 100000 in
theorem c_L_borne (l : Launch) (hl9 : l.stackTraces = false) (g : wG) (H : Heap) (AX : Nat → Prop) (out : Nat) (hno : ¬ AX out) (x : Nat) (σ : St) (hσ : StGood σ) (hXv : XInv g AX x σ H) (fo : Nat → Int64) (hJ : JA g H out 1 fo) (i : Int) (hi : wR i) : WrpR l g (AW AX out) H yL_borne wsL_borne 8 149 1 6 [.ref x, .int (wI (i)), .ref out] (fun w H1 => w = .int (wI (cd (((0 : Int) ≤ i ∧ i < (sn σ : Int))) (True) (True))) ∧ XInv g AX x (stp (((0 : Int) ≤ i ∧ i < (sn σ : Int))) (True) (True) (σ) σ) H1 ∧ ∃ fo' : Nat → Int64, JA g H1 out 1 fo' ∧ (cd (((0 : Int) ≤ i ∧ i < (sn σ : Int))) (True) (True) = 0 → fo' 0 = (wI (stv (((0 : Int) ≤ i ∧ i < (sn σ : Int))) (True) (True) (borS (sH σ i.toNat) (sp σ i.toNat) (sb σ i.toNat) (so σ i.toNat)))).toInt64)) := by
  refine Wrp.of (cc := cL_borne) (maxL := 4) (ret := some .int) (hh := [(0, 9, 12, 38)]) (by decide) rfl (Nat.le_of_ble_eq_true rfl) ?_
  intro p9 e s m args below meth c X hE hEs hNx hT hr hk hS ls hl
  have hl : lv_has ls 4 [(0, .ref x), (1, .int (wI (i))), (2, .ref out)] := hl
  obtain ⟨hAx, fs9, hxO⟩ := hXv.ob
  refine w_aload_n X dL_borne_0 hl 2 rfl rfl ?_
  refine w_iconst X dL_borne_1 ?_
  refine w_aload_n X dL_borne_2 hl 0 rfl rfl ?_
  refine w_iload_n X dL_borne_3 hl 1 rfl rfl ?_
  refine w_xr (vx_runV (As := [.int (wI (i))]) (rest := [.int (wI (0)), .ref out]) X (c_X3_borne l hl9 g AX H x σ hσ hXv i hi) (cwV 1 X.2.2.2.2 gL_borne_X3_borne rfl rfl rfl (by decide +kernel) ⟨(Nat.le_of_ble_eq_true rfl), (Nat.le_of_ble_eq_true rfl)⟩) (w_prVN hE hEs hS (fun _ h => Or.inl h) hxO rfl) rfl rfl hl.1 rfl (lv_room (Nat.le_of_ble_eq_true rfl)) dL_borne_4 ⟨(Nat.le_of_ble_eq_true rfl), (Nat.le_of_ble_eq_true rfl)⟩) hS (fun _ h => Or.inl h) ?_ fun v1 H1 lo1 hp hz1 hq1 hS => ?_
  · intro E ce q9 H9 lo9 hxp hz9 hq9 hS9 hce hcv hcl
    obtain ⟨hd, hX9⟩ := hxp
    obtain ⟨rfl, n1⟩ := hd
    refine vx_catch (E := xnB) (name := xnB) X.2.2.2.1 [] { startPc := 0, endPc := 9, handlerPc := 12, catchType := 38 } [] hT (fun z h => absurd h List.not_mem_nil) rfl (by decide) (X.2.2.2.2 (.classLink RL 38 xnB) (by decide +kernel)) (va_Nw.use rfl hNx.2.2.2) hce hcv hcl ?_
    refine w_astore_n X [(3, .ref q9), (0, .ref x), (1, .int (wI (i))), (2, .ref out)] dL_borne_12 hl rfl (by decide) rfl fun ls hl => ?_
    refine w_iconst X dL_borne_13 ?_
    exact w_irR X hr hk hS9 ⟨by rw [cd_1 n1], by rw [stp_n (fun q => n1 q.1)]; exact hX9, fo, hJ.kept (hq9 _ hJ.lt hno), fun q => absurd q (by rw [cd_1 n1]; omega)⟩ dL_borne_14 (Nat.le_of_ble_eq_true rfl) (Nat.le_of_ble_eq_true rfl)
  obtain ⟨p1, rfl, hXn⟩ := hp
  have hJ1 := hJ.kept (hq1 _ hJ.lt hno)
  refine lv_i2l (v := (wI (borS (sH σ i.toNat) (sp σ i.toNat) (sb σ i.toNat) (so σ i.toNat))).toInt64) X.1 X.2.1 dL_borne_7 rfl ?_
  refine w_last X hE hJ1 hS (Or.inr rfl) dL_borne_8 fun H_1 lo_2 f_3 hf_4 hj_5 hz_6 hq_7 hS => ?_
  refine w_goto X 15 dL_borne_9 (by decide) ?_
  refine w_iconst X dL_borne_15 ?_
  exact w_irR X hr hk hS ⟨by rw [cd_0 p1 trivial trivial], by rw [stp_y p1 trivial trivial]; exact hXn.kept (fun q hq _ => hq_7 q (fun e => hno (e ▸ hq))), f_3, hj_5, fun _ => by rw [stv_y p1 trivial trivial]; exact hf_4⟩ dL_borne_16 (Nat.le_of_ble_eq_true rfl) (Nat.le_of_ble_eq_true rfl)

set_option maxHeartbeats 4000000 in
set_option maxRecDepth 100000 in
theorem c_L_settlement (l : Launch) (hl9 : l.stackTraces = false) (g : wG) (H : Heap) (AX : Nat → Prop) (out : Nat) (hno : ¬ AX out) (x : Nat) (σ : St) (hσ : StGood σ) (hXv : XInv g AX x σ H) (fo : Nat → Int64) (hJ : JA g H out 1 fo) (i : Int) (hi : wR i) : WrpR l g (AW AX out) H yL_settlement wsL_settlement 8 169 1 6 [.ref x, .int (wI (i)), .ref out] (fun w H1 => w = .int (wI (cd (((0 : Int) ≤ i ∧ i < (sn σ : Int))) (True) (True))) ∧ XInv g AX x (stp (((0 : Int) ≤ i ∧ i < (sn σ : Int))) (True) (True) (σ) σ) H1 ∧ ∃ fo' : Nat → Int64, JA g H1 out 1 fo' ∧ (cd (((0 : Int) ≤ i ∧ i < (sn σ : Int))) (True) (True) = 0 → fo' 0 = (wI (stv (((0 : Int) ≤ i ∧ i < (sn σ : Int))) (True) (True) (setS (sH σ i.toNat) (sp σ i.toNat) (sb σ i.toNat) (so σ i.toNat)))).toInt64)) := by
  refine Wrp.of (cc := cL_settlement) (maxL := 4) (ret := some .int) (hh := [(0, 9, 12, 38)]) (by decide) rfl (Nat.le_of_ble_eq_true rfl) ?_
  intro p9 e s m args below meth c X hE hEs hNx hT hr hk hS ls hl
  have hl : lv_has ls 4 [(0, .ref x), (1, .int (wI (i))), (2, .ref out)] := hl
  obtain ⟨hAx, fs9, hxO⟩ := hXv.ob
  refine w_aload_n X dL_settlement_0 hl 2 rfl rfl ?_
  refine w_iconst X dL_settlement_1 ?_
  refine w_aload_n X dL_settlement_2 hl 0 rfl rfl ?_
  refine w_iload_n X dL_settlement_3 hl 1 rfl rfl ?_
  refine w_xr (vx_runV (As := [.int (wI (i))]) (rest := [.int (wI (0)), .ref out]) X (c_X3_settlement l hl9 g AX H x σ hσ hXv i hi) (cwV 1 X.2.2.2.2 gL_settlement_X3_settlement rfl rfl rfl (by decide +kernel) ⟨(Nat.le_of_ble_eq_true rfl), (Nat.le_of_ble_eq_true rfl)⟩) (w_prVN hE hEs hS (fun _ h => Or.inl h) hxO rfl) rfl rfl hl.1 rfl (lv_room (Nat.le_of_ble_eq_true rfl)) dL_settlement_4 ⟨(Nat.le_of_ble_eq_true rfl), (Nat.le_of_ble_eq_true rfl)⟩) hS (fun _ h => Or.inl h) ?_ fun v1 H1 lo1 hp hz1 hq1 hS => ?_
  · intro E ce q9 H9 lo9 hxp hz9 hq9 hS9 hce hcv hcl
    obtain ⟨hd, hX9⟩ := hxp
    obtain ⟨rfl, n1⟩ := hd
    refine vx_catch (E := xnB) (name := xnB) X.2.2.2.1 [] { startPc := 0, endPc := 9, handlerPc := 12, catchType := 38 } [] hT (fun z h => absurd h List.not_mem_nil) rfl (by decide) (X.2.2.2.2 (.classLink RL 38 xnB) (by decide +kernel)) (va_Nw.use rfl hNx.2.2.2) hce hcv hcl ?_
    refine w_astore_n X [(3, .ref q9), (0, .ref x), (1, .int (wI (i))), (2, .ref out)] dL_settlement_12 hl rfl (by decide) rfl fun ls hl => ?_
    refine w_iconst X dL_settlement_13 ?_
    exact w_irR X hr hk hS9 ⟨by rw [cd_1 n1], by rw [stp_n (fun q => n1 q.1)]; exact hX9, fo, hJ.kept (hq9 _ hJ.lt hno), fun q => absurd q (by rw [cd_1 n1]; omega)⟩ dL_settlement_14 (Nat.le_of_ble_eq_true rfl) (Nat.le_of_ble_eq_true rfl)
  obtain ⟨p1, rfl, hXn⟩ := hp
  have hJ1 := hJ.kept (hq1 _ hJ.lt hno)
  refine lv_i2l (v := (wI (setS (sH σ i.toNat) (sp σ i.toNat) (sb σ i.toNat) (so σ i.toNat))).toInt64) X.1 X.2.1 dL_settlement_7 rfl ?_
  refine w_last X hE hJ1 hS (Or.inr rfl) dL_settlement_8 fun H_1 lo_2 f_3 hf_4 hj_5 hz_6 hq_7 hS => ?_
  refine w_goto X 15 dL_settlement_9 (by decide) ?_
  refine w_iconst X dL_settlement_15 ?_
  exact w_irR X hr hk hS ⟨by rw [cd_0 p1 trivial trivial], by rw [stp_y p1 trivial trivial]; exact hXn.kept (fun q hq _ => hq_7 q (fun e => hno (e ▸ hq))), f_3, hj_5, fun _ => by rw [stv_y p1 trivial trivial]; exact hf_4⟩ dL_settlement_16 (Nat.le_of_ble_eq_true rfl) (Nat.le_of_ble_eq_true rfl)

set_option maxHeartbeats 4000000 in
set_option maxRecDepth 100000 in
theorem c_L_cost (l : Launch) (hl9 : l.stackTraces = false) (g : wG) (H : Heap) (AX : Nat → Prop) (out : Nat) (hno : ¬ AX out) (x : Nat) (σ : St) (hσ : StGood σ) (hXv : XInv g AX x σ H) (fo : Nat → Int64) (hJ : JA g H out 1 fo) (i : Int) (hi : wR i) : WrpR l g (AW AX out) H yL_cost wsL_cost 9 189 1 6 [.ref x, .int (wI (i)), .ref out] (fun w H1 => w = .int (wI (cd (((0 : Int) ≤ i ∧ i < (sn σ : Int))) (True) (True))) ∧ XInv g AX x (stp (((0 : Int) ≤ i ∧ i < (sn σ : Int))) (True) (True) (σ) σ) H1 ∧ ∃ fo' : Nat → Int64, JA g H1 out 1 fo' ∧ (cd (((0 : Int) ≤ i ∧ i < (sn σ : Int))) (True) (True) = 0 → fo' 0 = (wI (stv (((0 : Int) ≤ i ∧ i < (sn σ : Int))) (True) (True) (cosS (sH σ i.toNat) (sT σ i.toNat) (sp σ i.toNat) (sb σ i.toNat) (so σ i.toNat)))).toInt64)) := by
  refine Wrp.of (cc := cL_cost) (maxL := 4) (ret := some .int) (hh := [(0, 9, 12, 38)]) (by decide) rfl (Nat.le_of_ble_eq_true rfl) ?_
  intro p9 e s m args below meth c X hE hEs hNx hT hr hk hS ls hl
  have hl : lv_has ls 4 [(0, .ref x), (1, .int (wI (i))), (2, .ref out)] := hl
  obtain ⟨hAx, fs9, hxO⟩ := hXv.ob
  refine w_aload_n X dL_cost_0 hl 2 rfl rfl ?_
  refine w_iconst X dL_cost_1 ?_
  refine w_aload_n X dL_cost_2 hl 0 rfl rfl ?_
  refine w_iload_n X dL_cost_3 hl 1 rfl rfl ?_
  refine w_xr (vx_runV (As := [.int (wI (i))]) (rest := [.int (wI (0)), .ref out]) X (c_X3_cost l hl9 g AX H x σ hσ hXv i hi) (cwV 1 X.2.2.2.2 gL_cost_X3_cost rfl rfl rfl (by decide +kernel) ⟨(Nat.le_of_ble_eq_true rfl), (Nat.le_of_ble_eq_true rfl)⟩) (w_prVN hE hEs hS (fun _ h => Or.inl h) hxO rfl) rfl rfl hl.1 rfl (lv_room (Nat.le_of_ble_eq_true rfl)) dL_cost_4 ⟨(Nat.le_of_ble_eq_true rfl), (Nat.le_of_ble_eq_true rfl)⟩) hS (fun _ h => Or.inl h) ?_ fun v1 H1 lo1 hp hz1 hq1 hS => ?_
  · intro E ce q9 H9 lo9 hxp hz9 hq9 hS9 hce hcv hcl
    obtain ⟨hd, hX9⟩ := hxp
    obtain ⟨rfl, n1⟩ := hd
    refine vx_catch (E := xnB) (name := xnB) X.2.2.2.1 [] { startPc := 0, endPc := 9, handlerPc := 12, catchType := 38 } [] hT (fun z h => absurd h List.not_mem_nil) rfl (by decide) (X.2.2.2.2 (.classLink RL 38 xnB) (by decide +kernel)) (va_Nw.use rfl hNx.2.2.2) hce hcv hcl ?_
    refine w_astore_n X [(3, .ref q9), (0, .ref x), (1, .int (wI (i))), (2, .ref out)] dL_cost_12 hl rfl (by decide) rfl fun ls hl => ?_
    refine w_iconst X dL_cost_13 ?_
    exact w_irR X hr hk hS9 ⟨by rw [cd_1 n1], by rw [stp_n (fun q => n1 q.1)]; exact hX9, fo, hJ.kept (hq9 _ hJ.lt hno), fun q => absurd q (by rw [cd_1 n1]; omega)⟩ dL_cost_14 (Nat.le_of_ble_eq_true rfl) (Nat.le_of_ble_eq_true rfl)
  obtain ⟨p1, rfl, hXn⟩ := hp
  have hJ1 := hJ.kept (hq1 _ hJ.lt hno)
  refine lv_i2l (v := (wI (cosS (sH σ i.toNat) (sT σ i.toNat) (sp σ i.toNat) (sb σ i.toNat) (so σ i.toNat))).toInt64) X.1 X.2.1 dL_cost_7 rfl ?_
  refine w_last X hE hJ1 hS (Or.inr rfl) dL_cost_8 fun H_1 lo_2 f_3 hf_4 hj_5 hz_6 hq_7 hS => ?_
  refine w_goto X 15 dL_cost_9 (by decide) ?_
  refine w_iconst X dL_cost_15 ?_
  exact w_irR X hr hk hS ⟨by rw [cd_0 p1 trivial trivial], by rw [stp_y p1 trivial trivial]; exact hXn.kept (fun q hq _ => hq_7 q (fun e => hno (e ▸ hq))), f_3, hj_5, fun _ => by rw [stv_y p1 trivial trivial]; exact hf_4⟩ dL_cost_16 (Nat.le_of_ble_eq_true rfl) (Nat.le_of_ble_eq_true rfl)

set_option maxHeartbeats 4000000 in
set_option maxRecDepth 100000 in
theorem c_L_held (l : Launch) (hl9 : l.stackTraces = false) (g : wG) (H : Heap) (AX : Nat → Prop) (out : Nat) (hno : ¬ AX out) (x : Nat) (σ : St) (hσ : StGood σ) (hXv : XInv g AX x σ H) (fo : Nat → Int64) (hJ : JA g H out 1 fo) (i a : Int) (hi : wR i) (ha : wR a) : WrpR l g (AW AX out) H yL_held wsL_held 8 137 2 12 [.ref x, .int (wI (i)), .int (wI (a)), .ref out] (fun w H1 => w = .int (wI (cd (((0 : Int) ≤ i ∧ i < (sn σ : Int))) ((0 ≤ a ∧ a ≤ 11)) (True))) ∧ XInv g AX x (stp (((0 : Int) ≤ i ∧ i < (sn σ : Int))) ((0 ≤ a ∧ a ≤ 11)) (True) (σ) σ) H1 ∧ ∃ fo' : Nat → Int64, JA g H1 out 1 fo' ∧ (cd (((0 : Int) ≤ i ∧ i < (sn σ : Int))) ((0 ≤ a ∧ a ≤ 11)) (True) = 0 → fo' 0 = (wI (stv (((0 : Int) ≤ i ∧ i < (sn σ : Int))) ((0 ≤ a ∧ a ≤ 11)) (True) (if sp σ i.toNat 3 ≤ a ∧ a < sp σ i.toNat 4 then heldS (sH σ i.toNat) (sp σ i.toNat) else 0))).toInt64)) := by
  refine Wrp.of (cc := cL_held) (maxL := 5) (ret := some .int) (hh := [(0, 10, 13, 38), (0, 10, 17, 13)]) (by decide) rfl (Nat.le_of_ble_eq_true rfl) ?_
  intro p9 e s m args below meth c X hE hEs hNx hT hr hk hS ls hl
  have hl : lv_has ls 5 [(0, .ref x), (1, .int (wI (i))), (2, .int (wI (a))), (3, .ref out)] := hl
  obtain ⟨hAx, fs9, hxO⟩ := hXv.ob
  refine w_aload_n X dL_held_0 hl 3 rfl rfl ?_
  refine w_iconst X dL_held_1 ?_
  refine w_aload_n X dL_held_2 hl 0 rfl rfl ?_
  refine w_iload_n X dL_held_3 hl 1 rfl rfl ?_
  refine w_iload_n X dL_held_4 hl 2 rfl rfl ?_
  refine w_xr (vx_runV (As := [.int (wI (i)), .int (wI (a))]) (rest := [.int (wI (0)), .ref out]) X (c_X3_held l hl9 g AX H x σ hσ hXv i a hi ha) (cwV 2 X.2.2.2.2 gL_held_X3_held rfl rfl rfl (by decide +kernel) ⟨(Nat.le_of_ble_eq_true rfl), (Nat.le_of_ble_eq_true rfl)⟩) (w_prVN hE hEs hS (fun _ h => Or.inl h) hxO rfl) rfl rfl hl.1 rfl (lv_room (Nat.le_of_ble_eq_true rfl)) dL_held_5 ⟨(Nat.le_of_ble_eq_true rfl), (Nat.le_of_ble_eq_true rfl)⟩) hS (fun _ h => Or.inl h) ?_ fun v1 H1 lo1 hp hz1 hq1 hS => ?_
  · intro E ce q9 H9 lo9 hxp hz9 hq9 hS9 hce hcv hcl
    obtain ⟨hd, hX9⟩ := hxp
    rcases hd with ⟨rfl, n1⟩ | ⟨rfl, n1, n2⟩
    · skip
      refine vx_catch (E := xnB) (name := xnB) X.2.2.2.1 [] { startPc := 0, endPc := 10, handlerPc := 13, catchType := 38 } [{ startPc := 0, endPc := 10, handlerPc := 17, catchType := 13 }] hT (fun z h => absurd h List.not_mem_nil) rfl (by decide) (X.2.2.2.2 (.classLink RL 38 xnB) (by decide +kernel)) (va_Nw.use rfl hNx.2.2.2) hce hcv hcl ?_
      refine w_astore X [(4, .ref q9), (0, .ref x), (1, .int (wI (i))), (2, .int (wI (a))), (3, .ref out)] dL_held_13 hl (by decide) rfl fun ls hl => ?_
      refine w_iconst X dL_held_15 ?_
      exact w_irR X hr hk hS9 ⟨by rw [cd_1 n1], by rw [stp_n (fun q => n1 q.1)]; exact hX9, fo, hJ.kept (hq9 _ hJ.lt hno), fun q => absurd q (by rw [cd_1 n1]; omega)⟩ dL_held_16 (Nat.le_of_ble_eq_true rfl) (Nat.le_of_ble_eq_true rfl)
    · skip
      refine vx_catch (E := xnA) (name := xnA) X.2.2.2.1 [{ startPc := 0, endPc := 10, handlerPc := 13, catchType := 38 }] { startPc := 0, endPc := 10, handlerPc := 17, catchType := 13 } [] hT (fun z h => by obtain rfl := List.mem_singleton.mp h; exact Or.inr ⟨by decide, _, X.2.2.2.2 (.classLink RL 38 xnB) (by decide +kernel), hNx.1.1⟩) rfl (by decide) (X.2.2.2.2 (.classLink RL 13 xnA) (by decide +kernel)) (va_Nw.use rfl hNx.2.1) hce hcv hcl ?_
      refine w_astore X [(4, .ref q9), (0, .ref x), (1, .int (wI (i))), (2, .int (wI (a))), (3, .ref out)] dL_held_17 hl (by decide) rfl fun ls hl => ?_
      refine w_iconst X dL_held_19 ?_
      exact w_irR X hr hk hS9 ⟨by rw [cd_2 n1 n2], by rw [stp_n (fun q => n2 q.2.1)]; exact hX9, fo, hJ.kept (hq9 _ hJ.lt hno), fun q => absurd q (by rw [cd_2 n1 n2]; omega)⟩ dL_held_20 (Nat.le_of_ble_eq_true rfl) (Nat.le_of_ble_eq_true rfl)
  obtain ⟨⟨p1, p2⟩, rfl, hXn⟩ := hp
  have hJ1 := hJ.kept (hq1 _ hJ.lt hno)
  refine lv_i2l (v := (wI (if sp σ i.toNat 3 ≤ a ∧ a < sp σ i.toNat 4 then heldS (sH σ i.toNat) (sp σ i.toNat) else 0)).toInt64) X.1 X.2.1 dL_held_8 rfl ?_
  refine w_last X hE hJ1 hS (Or.inr rfl) dL_held_9 fun H_1 lo_2 f_3 hf_4 hj_5 hz_6 hq_7 hS => ?_
  refine w_goto X 21 dL_held_10 (by decide) ?_
  refine w_iconst X dL_held_21 ?_
  exact w_irR X hr hk hS ⟨by rw [cd_0 p1 p2 trivial], by rw [stp_y p1 p2 trivial]; exact hXn.kept (fun q hq _ => hq_7 q (fun e => hno (e ▸ hq))), f_3, hj_5, fun _ => by rw [stv_y p1 p2 trivial]; exact hf_4⟩ dL_held_22 (Nat.le_of_ble_eq_true rfl) (Nat.le_of_ble_eq_true rfl)

set_option maxHeartbeats 4000000 in
set_option maxRecDepth 100000 in
theorem c_L_abroadPart (l : Launch) (hl9 : l.stackTraces = false) (g : wG) (H : Heap) (AX : Nat → Prop) (out : Nat) (hno : ¬ AX out) (x : Nat) (σ : St) (hσ : StGood σ) (hXv : XInv g AX x σ H) (fo : Nat → Int64) (hJ : JA g H out 1 fo) (i a : Int) (hi : wR i) (ha : wR a) : WrpR l g (AW AX out) H yL_abroadPart wsL_abroadPart 8 136 2 12 [.ref x, .int (wI (i)), .int (wI (a)), .ref out] (fun w H1 => w = .int (wI (cd ((((0 : Int) ≤ i ∧ i < (sn σ : Int)) ∧ 0 ≤ a ∧ a < (sb σ i.toNat : Int))) (True) (True))) ∧ XInv g AX x (stp ((((0 : Int) ≤ i ∧ i < (sn σ : Int)) ∧ 0 ≤ a ∧ a < (sb σ i.toNat : Int))) (True) (True) (σ) σ) H1 ∧ ∃ fo' : Nat → Int64, JA g H1 out 1 fo' ∧ (cd ((((0 : Int) ≤ i ∧ i < (sn σ : Int)) ∧ 0 ≤ a ∧ a < (sb σ i.toNat : Int))) (True) (True) = 0 → fo' 0 = (wI (stv ((((0 : Int) ≤ i ∧ i < (sn σ : Int)) ∧ 0 ≤ a ∧ a < (sb σ i.toNat : Int))) (True) (True) (parS (sp σ i.toNat) (so σ i.toNat a.toNat)))).toInt64)) := by
  refine Wrp.of (cc := cL_abroadPart) (maxL := 5) (ret := some .int) (hh := [(0, 10, 13, 38)]) (by decide) rfl (Nat.le_of_ble_eq_true rfl) ?_
  intro p9 e s m args below meth c X hE hEs hNx hT hr hk hS ls hl
  have hl : lv_has ls 5 [(0, .ref x), (1, .int (wI (i))), (2, .int (wI (a))), (3, .ref out)] := hl
  obtain ⟨hAx, fs9, hxO⟩ := hXv.ob
  refine w_aload_n X dL_abroadPart_0 hl 3 rfl rfl ?_
  refine w_iconst X dL_abroadPart_1 ?_
  refine w_aload_n X dL_abroadPart_2 hl 0 rfl rfl ?_
  refine w_iload_n X dL_abroadPart_3 hl 1 rfl rfl ?_
  refine w_iload_n X dL_abroadPart_4 hl 2 rfl rfl ?_
  refine w_xr (vx_runV (As := [.int (wI (i)), .int (wI (a))]) (rest := [.int (wI (0)), .ref out]) X (c_X3_abroadPart l hl9 g AX H x σ hσ hXv i a hi ha) (cwV 2 X.2.2.2.2 gL_abroadPart_X3_abroadPart rfl rfl rfl (by decide +kernel) ⟨(Nat.le_of_ble_eq_true rfl), (Nat.le_of_ble_eq_true rfl)⟩) (w_prVN hE hEs hS (fun _ h => Or.inl h) hxO rfl) rfl rfl hl.1 rfl (lv_room (Nat.le_of_ble_eq_true rfl)) dL_abroadPart_5 ⟨(Nat.le_of_ble_eq_true rfl), (Nat.le_of_ble_eq_true rfl)⟩) hS (fun _ h => Or.inl h) ?_ fun v1 H1 lo1 hp hz1 hq1 hS => ?_
  · intro E ce q9 H9 lo9 hxp hz9 hq9 hS9 hce hcv hcl
    obtain ⟨hd, hX9⟩ := hxp
    obtain ⟨rfl, n1⟩ := hd
    refine vx_catch (E := xnB) (name := xnB) X.2.2.2.1 [] { startPc := 0, endPc := 10, handlerPc := 13, catchType := 38 } [] hT (fun z h => absurd h List.not_mem_nil) rfl (by decide) (X.2.2.2.2 (.classLink RL 38 xnB) (by decide +kernel)) (va_Nw.use rfl hNx.2.2.2) hce hcv hcl ?_
    refine w_astore X [(4, .ref q9), (0, .ref x), (1, .int (wI (i))), (2, .int (wI (a))), (3, .ref out)] dL_abroadPart_13 hl (by decide) rfl fun ls hl => ?_
    refine w_iconst X dL_abroadPart_15 ?_
    exact w_irR X hr hk hS9 ⟨by rw [cd_1 n1], by rw [stp_n (fun q => n1 q.1)]; exact hX9, fo, hJ.kept (hq9 _ hJ.lt hno), fun q => absurd q (by rw [cd_1 n1]; omega)⟩ dL_abroadPart_16 (Nat.le_of_ble_eq_true rfl) (Nat.le_of_ble_eq_true rfl)
  obtain ⟨p1, rfl, hXn⟩ := hp
  have hJ1 := hJ.kept (hq1 _ hJ.lt hno)
  refine lv_i2l (v := (wI (parS (sp σ i.toNat) (so σ i.toNat a.toNat))).toInt64) X.1 X.2.1 dL_abroadPart_8 rfl ?_
  refine w_last X hE hJ1 hS (Or.inr rfl) dL_abroadPart_9 fun H_1 lo_2 f_3 hf_4 hj_5 hz_6 hq_7 hS => ?_
  refine w_goto X 17 dL_abroadPart_10 (by decide) ?_
  refine w_iconst X dL_abroadPart_17 ?_
  exact w_irR X hr hk hS ⟨by rw [cd_0 p1 trivial trivial], by rw [stp_y p1 trivial trivial]; exact hXn.kept (fun q hq _ => hq_7 q (fun e => hno (e ▸ hq))), f_3, hj_5, fun _ => by rw [stv_y p1 trivial trivial]; exact hf_4⟩ dL_abroadPart_18 (Nat.le_of_ble_eq_true rfl) (Nat.le_of_ble_eq_true rfl)

set_option maxHeartbeats 4000000 in
set_option maxRecDepth 100000 in
theorem c_L_add (l : Launch) (hl9 : l.stackTraces = false) (g : wG) (H : Heap) (AX : Nat → Prop) (out : Nat) (hno : ¬ AX out) (hA : ∀ q, H.size ≤ q → AX q) (x : Nat) (σ : St) (hσ : StGood σ) (hXv : XInv g AX x σ H) (fo : Nat → Int64) (hJ : JA g H out 1 fo) (i a b : Int) (hi : wR i) (ha : wR a) (hb : wR b) : WrpR l g (AW AX out) H yL_add wsL_add 8 139 6 39 [.ref x, .int (wI (i)), .int (wI (a)), .int (wI (b)), .ref out] (fun w H1 => w = .int (wI (cd (((0 ≤ i ∧ i < 4) ∧ (0 ≤ a ∧ a < 4) ∧ (0 ≤ b ∧ b ≤ 100000) ∧ i ≠ a)) ((sn σ < 10)) (True))) ∧ XInv g AX x (stp (((0 ≤ i ∧ i < 4) ∧ (0 ≤ a ∧ a < 4) ∧ (0 ≤ b ∧ b ≤ 100000) ∧ i ≠ a)) ((sn σ < 10)) (True) (nxAdd σ (newS i a b)) σ) H1 ∧ ∃ fo' : Nat → Int64, JA g H1 out 1 fo' ∧ (cd (((0 ≤ i ∧ i < 4) ∧ (0 ≤ a ∧ a < 4) ∧ (0 ≤ b ∧ b ≤ 100000) ∧ i ≠ a)) ((sn σ < 10)) (True) = 0 → fo' 0 = (wI (stv (((0 ≤ i ∧ i < 4) ∧ (0 ≤ a ∧ a < 4) ∧ (0 ≤ b ∧ b ≤ 100000) ∧ i ≠ a)) ((sn σ < 10)) (True) ((sn σ : Int)))).toInt64)) := by
  refine Wrp.of (cc := cL_add) (maxL := 6) (ret := some .int) (hh := [(0, 12, 15, 13), (0, 12, 19, 33)]) (by decide) rfl (Nat.le_of_ble_eq_true rfl) ?_
  intro p9 e s m args below meth c X hE hEs hNx hT hr hk hS ls hl
  have hl : lv_has ls 6 [(0, .ref x), (1, .int (wI (i))), (2, .int (wI (a))), (3, .int (wI (b))), (4, .ref out)] := hl
  obtain ⟨hAx, fs9, hxO⟩ := hXv.ob
  refine w_aload X dL_add_0 hl 4 rfl ?_
  refine w_iconst X dL_add_2 ?_
  refine w_aload_n X dL_add_3 hl 0 rfl rfl ?_
  refine w_iload_n X dL_add_4 hl 1 rfl rfl ?_
  refine w_iload_n X dL_add_5 hl 2 rfl rfl ?_
  refine w_iload_n X dL_add_6 hl 3 rfl rfl ?_
  refine w_xr (vx_runV (As := [.int (wI (i)), .int (wI (a)), .int (wI (b))]) (rest := [.int (wI (0)), .ref out]) X (c_X3_add l hl9 g AX H hA x σ hσ hXv i a b hi ha hb) (cwV 3 X.2.2.2.2 gL_add_X3_add rfl rfl rfl (by decide +kernel) ⟨(Nat.le_of_ble_eq_true rfl), (Nat.le_of_ble_eq_true rfl)⟩) (w_prVN hE hEs hS (fun _ h => Or.inl h) hxO rfl) rfl rfl hl.1 rfl (lv_room (Nat.le_of_ble_eq_true rfl)) dL_add_7 ⟨(Nat.le_of_ble_eq_true rfl), (Nat.le_of_ble_eq_true rfl)⟩) hS (fun _ h => Or.inl h) ?_ fun v1 H1 lo1 hp hz1 hq1 hS => ?_
  · intro E ce q9 H9 lo9 hxp hz9 hq9 hS9 hce hcv hcl
    obtain ⟨hd, hX9⟩ := hxp
    rcases hd with ⟨rfl, n1⟩ | ⟨rfl, n1, n2⟩
    · skip
      refine vx_catch (E := xnA) (name := xnA) X.2.2.2.1 [] { startPc := 0, endPc := 12, handlerPc := 15, catchType := 13 } [{ startPc := 0, endPc := 12, handlerPc := 19, catchType := 33 }] hT (fun z h => absurd h List.not_mem_nil) rfl (by decide) (X.2.2.2.2 (.classLink RL 13 xnA) (by decide +kernel)) (va_Nw.use rfl hNx.2.1) hce hcv hcl ?_
      refine w_astore X [(5, .ref q9), (0, .ref x), (1, .int (wI (i))), (2, .int (wI (a))), (3, .int (wI (b))), (4, .ref out)] dL_add_15 hl (by decide) rfl fun ls hl => ?_
      refine w_iconst X dL_add_17 ?_
      exact w_irR X hr hk hS9 ⟨by rw [cd_1 n1], by rw [stp_n (fun q => n1 q.1)]; exact hX9, fo, hJ.kept (hq9 _ hJ.lt hno), fun q => absurd q (by rw [cd_1 n1]; omega)⟩ dL_add_18 (Nat.le_of_ble_eq_true rfl) (Nat.le_of_ble_eq_true rfl)
    · skip
      refine vx_catch (E := xnS) (name := xnS) X.2.2.2.1 [{ startPc := 0, endPc := 12, handlerPc := 15, catchType := 13 }] { startPc := 0, endPc := 12, handlerPc := 19, catchType := 33 } [] hT (fun z h => by obtain rfl := List.mem_singleton.mp h; exact Or.inr ⟨by decide, _, X.2.2.2.2 (.classLink RL 13 xnA) (by decide +kernel), hNx.1.2.2⟩) rfl (by decide) (X.2.2.2.2 (.classLink RL 33 xnS) (by decide +kernel)) (va_Nw.use rfl hNx.2.2.1) hce hcv hcl ?_
      refine w_astore X [(5, .ref q9), (0, .ref x), (1, .int (wI (i))), (2, .int (wI (a))), (3, .int (wI (b))), (4, .ref out)] dL_add_19 hl (by decide) rfl fun ls hl => ?_
      refine w_iconst X dL_add_21 ?_
      exact w_irR X hr hk hS9 ⟨by rw [cd_2 n1 n2], by rw [stp_n (fun q => n2 q.2.1)]; exact hX9, fo, hJ.kept (hq9 _ hJ.lt hno), fun q => absurd q (by rw [cd_2 n1 n2]; omega)⟩ dL_add_22 (Nat.le_of_ble_eq_true rfl) (Nat.le_of_ble_eq_true rfl)
  obtain ⟨⟨p1, p2⟩, rfl, hXn⟩ := hp
  have hJ1 := hJ.kept (hq1 _ hJ.lt hno)
  refine lv_i2l (v := (wI ((sn σ : Int))).toInt64) X.1 X.2.1 dL_add_10 rfl ?_
  refine w_last X hE hJ1 hS (Or.inr rfl) dL_add_11 fun H_1 lo_2 f_3 hf_4 hj_5 hz_6 hq_7 hS => ?_
  refine w_goto X 23 dL_add_12 (by decide) ?_
  refine w_iconst X dL_add_23 ?_
  exact w_irR X hr hk hS ⟨by rw [cd_0 p1 p2 trivial], by rw [stp_y p1 p2 trivial]; exact hXn.kept (fun q hq _ => hq_7 q (fun e => hno (e ▸ hq))), f_3, hj_5, fun _ => by rw [stv_y p1 p2 trivial]; exact hf_4⟩ dL_add_24 (Nat.le_of_ble_eq_true rfl) (Nat.le_of_ble_eq_true rfl)

set_option maxHeartbeats 4000000 in
set_option maxRecDepth 100000 in
theorem c_L_addBonus (l : Launch) (hl9 : l.stackTraces = false) (g : wG) (H : Heap) (AX : Nat → Prop) (out : Nat) (hno : ¬ AX out) (hA : ∀ q, H.size ≤ q → AX q) (x : Nat) (σ : St) (hσ : StGood σ) (hXv : XInv g AX x σ H) (fo : Nat → Int64) (hJ : JA g H out 1 fo) (i a b d : Int) (hi : wR i) (ha : wR a) (hb : wR b) (hd : wR d) : WrpR l g (AW AX out) H yL_addBonus wsL_addBonus 8 139 6 37 [.ref x, .int (wI (i)), .int (wI (a)), .int (wI (b)), .int (wI (d)), .ref out] (fun w H1 => w = .int (wI (cd (((0 : Int) ≤ i ∧ i < (sn σ : Int))) (((1 ≤ a ∧ a ≤ 500000) ∧ (0 ≤ b ∧ b ≤ 11) ∧ b + 1 ≤ d ∧ d ≤ 12)) ((sb σ i.toNat < 6)))) ∧ XInv g AX x (stp (((0 : Int) ≤ i ∧ i < (sn σ : Int))) (((1 ≤ a ∧ a ≤ 500000) ∧ (0 ≤ b ∧ b ≤ 11) ∧ b + 1 ≤ d ∧ d ≤ 12)) ((sb σ i.toNat < 6)) (nxBon σ i.toNat (bonS a b d)) σ) H1 ∧ ∃ fo' : Nat → Int64, JA g H1 out 1 fo' ∧ (cd (((0 : Int) ≤ i ∧ i < (sn σ : Int))) (((1 ≤ a ∧ a ≤ 500000) ∧ (0 ≤ b ∧ b ≤ 11) ∧ b + 1 ≤ d ∧ d ≤ 12)) ((sb σ i.toNat < 6)) = 0 → fo' 0 = (wI (stv (((0 : Int) ≤ i ∧ i < (sn σ : Int))) (((1 ≤ a ∧ a ≤ 500000) ∧ (0 ≤ b ∧ b ≤ 11) ∧ b + 1 ≤ d ∧ d ≤ 12)) ((sb σ i.toNat < 6)) ((sb σ i.toNat : Int)))).toInt64)) := by
  refine Wrp.of (cc := cL_addBonus) (maxL := 7) (ret := some .int) (hh := [(0, 14, 17, 38), (0, 14, 21, 13), (0, 14, 25, 33)]) (by decide) rfl (Nat.le_of_ble_eq_true rfl) ?_
  intro p9 e s m args below meth c X hE hEs hNx hT hr hk hS ls hl
  have hl : lv_has ls 7 [(0, .ref x), (1, .int (wI (i))), (2, .int (wI (a))), (3, .int (wI (b))), (4, .int (wI (d))), (5, .ref out)] := hl
  obtain ⟨hAx, fs9, hxO⟩ := hXv.ob
  refine w_aload X dL_addBonus_0 hl 5 rfl ?_
  refine w_iconst X dL_addBonus_2 ?_
  refine w_aload_n X dL_addBonus_3 hl 0 rfl rfl ?_
  refine w_iload_n X dL_addBonus_4 hl 1 rfl rfl ?_
  refine w_iload_n X dL_addBonus_5 hl 2 rfl rfl ?_
  refine w_iload_n X dL_addBonus_6 hl 3 rfl rfl ?_
  refine w_iload X dL_addBonus_7 hl 4 rfl ?_
  refine w_xr (vx_runV (As := [.int (wI (i)), .int (wI (a)), .int (wI (b)), .int (wI (d))]) (rest := [.int (wI (0)), .ref out]) X (c_X3_addBonus l hl9 g AX H hA x σ hσ hXv i a b d hi ha hb hd) (cwV 4 X.2.2.2.2 gL_addBonus_X3_addBonus rfl rfl rfl (by decide +kernel) ⟨(Nat.le_of_ble_eq_true rfl), (Nat.le_of_ble_eq_true rfl)⟩) (w_prVN hE hEs hS (fun _ h => Or.inl h) hxO rfl) rfl rfl hl.1 rfl (lv_room (Nat.le_of_ble_eq_true rfl)) dL_addBonus_9 ⟨(Nat.le_of_ble_eq_true rfl), (Nat.le_of_ble_eq_true rfl)⟩) hS (fun _ h => Or.inl h) ?_ fun v1 H1 lo1 hp hz1 hq1 hS => ?_
  · intro E ce q9 H9 lo9 hxp hz9 hq9 hS9 hce hcv hcl
    obtain ⟨hd, hX9⟩ := hxp
    rcases hd with ⟨rfl, n1⟩ | ⟨rfl, n1, n2⟩ | ⟨rfl, n1, n2, n3⟩
    · skip
      refine vx_catch (E := xnB) (name := xnB) X.2.2.2.1 [] { startPc := 0, endPc := 14, handlerPc := 17, catchType := 38 } [{ startPc := 0, endPc := 14, handlerPc := 21, catchType := 13 }, { startPc := 0, endPc := 14, handlerPc := 25, catchType := 33 }] hT (fun z h => absurd h List.not_mem_nil) rfl (by decide) (X.2.2.2.2 (.classLink RL 38 xnB) (by decide +kernel)) (va_Nw.use rfl hNx.2.2.2) hce hcv hcl ?_
      refine w_astore X [(6, .ref q9), (0, .ref x), (1, .int (wI (i))), (2, .int (wI (a))), (3, .int (wI (b))), (4, .int (wI (d))), (5, .ref out)] dL_addBonus_17 hl (by decide) rfl fun ls hl => ?_
      refine w_iconst X dL_addBonus_19 ?_
      exact w_irR X hr hk hS9 ⟨by rw [cd_1 n1], by rw [stp_n (fun q => n1 q.1)]; exact hX9, fo, hJ.kept (hq9 _ hJ.lt hno), fun q => absurd q (by rw [cd_1 n1]; omega)⟩ dL_addBonus_20 (Nat.le_of_ble_eq_true rfl) (Nat.le_of_ble_eq_true rfl)
    · skip
      refine vx_catch (E := xnA) (name := xnA) X.2.2.2.1 [{ startPc := 0, endPc := 14, handlerPc := 17, catchType := 38 }] { startPc := 0, endPc := 14, handlerPc := 21, catchType := 13 } [{ startPc := 0, endPc := 14, handlerPc := 25, catchType := 33 }] hT (fun z h => by obtain rfl := List.mem_singleton.mp h; exact Or.inr ⟨by decide, _, X.2.2.2.2 (.classLink RL 38 xnB) (by decide +kernel), hNx.1.1⟩) rfl (by decide) (X.2.2.2.2 (.classLink RL 13 xnA) (by decide +kernel)) (va_Nw.use rfl hNx.2.1) hce hcv hcl ?_
      refine w_astore X [(6, .ref q9), (0, .ref x), (1, .int (wI (i))), (2, .int (wI (a))), (3, .int (wI (b))), (4, .int (wI (d))), (5, .ref out)] dL_addBonus_21 hl (by decide) rfl fun ls hl => ?_
      refine w_iconst X dL_addBonus_23 ?_
      exact w_irR X hr hk hS9 ⟨by rw [cd_2 n1 n2], by rw [stp_n (fun q => n2 q.2.1)]; exact hX9, fo, hJ.kept (hq9 _ hJ.lt hno), fun q => absurd q (by rw [cd_2 n1 n2]; omega)⟩ dL_addBonus_24 (Nat.le_of_ble_eq_true rfl) (Nat.le_of_ble_eq_true rfl)
    · skip
      refine vx_catch (E := xnS) (name := xnS) X.2.2.2.1 [{ startPc := 0, endPc := 14, handlerPc := 17, catchType := 38 }, { startPc := 0, endPc := 14, handlerPc := 21, catchType := 13 }] { startPc := 0, endPc := 14, handlerPc := 25, catchType := 33 } [] hT (fun z h => by rcases List.mem_cons.mp h with rfl | h; exact Or.inr ⟨by decide, _, X.2.2.2.2 (.classLink RL 38 xnB) (by decide +kernel), hNx.1.2.1⟩; (obtain rfl := List.mem_singleton.mp h; exact Or.inr ⟨by decide, _, X.2.2.2.2 (.classLink RL 13 xnA) (by decide +kernel), hNx.1.2.2⟩)) rfl (by decide) (X.2.2.2.2 (.classLink RL 33 xnS) (by decide +kernel)) (va_Nw.use rfl hNx.2.2.1) hce hcv hcl ?_
      refine w_astore X [(6, .ref q9), (0, .ref x), (1, .int (wI (i))), (2, .int (wI (a))), (3, .int (wI (b))), (4, .int (wI (d))), (5, .ref out)] dL_addBonus_25 hl (by decide) rfl fun ls hl => ?_
      refine w_iconst X dL_addBonus_27 ?_
      exact w_irR X hr hk hS9 ⟨by rw [cd_3 n1 n2 n3], by rw [stp_n (fun q => n3 q.2.2)]; exact hX9, fo, hJ.kept (hq9 _ hJ.lt hno), fun q => absurd q (by rw [cd_3 n1 n2 n3]; omega)⟩ dL_addBonus_28 (Nat.le_of_ble_eq_true rfl) (Nat.le_of_ble_eq_true rfl)
  obtain ⟨⟨p1, p2, p3⟩, rfl, hXn⟩ := hp
  have hJ1 := hJ.kept (hq1 _ hJ.lt hno)
  refine lv_i2l (v := (wI ((sb σ i.toNat : Int))).toInt64) X.1 X.2.1 dL_addBonus_12 rfl ?_
  refine w_last X hE hJ1 hS (Or.inr rfl) dL_addBonus_13 fun H_1 lo_2 f_3 hf_4 hj_5 hz_6 hq_7 hS => ?_
  refine w_goto X 29 dL_addBonus_14 (by decide) ?_
  refine w_iconst X dL_addBonus_29 ?_
  exact w_irR X hr hk hS ⟨by rw [cd_0 p1 p2 p3], by rw [stp_y p1 p2 p3]; exact hXn.kept (fun q hq _ => hq_7 q (fun e => hno (e ▸ hq))), f_3, hj_5, fun _ => by rw [stv_y p1 p2 p3]; exact hf_4⟩ dL_addBonus_30 (Nat.le_of_ble_eq_true rfl) (Nat.le_of_ble_eq_true rfl)
