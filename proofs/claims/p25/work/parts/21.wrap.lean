/-! the law's methods with catches -/

set_option maxHeartbeats 4000000 in
set_option maxRecDepth 100000 in
theorem c_L_part (l : Launch) (hl9 : l.stackTraces = false) (g : wG) (AX : Nat → Prop) (H : Heap) (x : Nat) (σ : St) (hσ : StGood σ) (hXv : XInv g AX x σ H) (k : Int) (hk9 : 0 ≤ k ∧ k < (sn σ : Int)) (n : Int) (hn : 0 ≤ n ∧ n ≤ 6) : WrpR l g AX H yL_part wsL_part 8 136 2 12 [.ref x, .int (wI (k)), .int (wI (n))] (fun w H1 => (∃ y : Int, w = .int (wI y) ∧ (n < (sb σ k.toNat : Int) → y = parS (sp σ k.toNat) (so σ k.toNat n.toNat)) ∧ (¬ n < (sb σ k.toNat : Int) → y = -4)) ∧ XInv g AX x σ H1) := by
  refine Wrp.of (cc := cL_part) (maxL := 4) (ret := some .int) (hh := [(0, 6, 7, 22)]) (by decide) rfl (Nat.le_of_ble_eq_true rfl) ?_
  intro p9 e s m args below meth c X hE hEs hNx hT hr hk hS ls hl
  have hl : lv_has ls 4 [(0, .ref x), (1, .int (wI (k))), (2, .int (wI (n)))] := hl
  obtain ⟨hAx, fs9, hxO⟩ := hXv.ob
  have h10 := hσ.2.1
  refine w_aload_n X dL_part_0 hl 0 rfl rfl ?_
  refine w_iload_n X dL_part_1 hl 1 rfl rfl ?_
  refine w_iload_n X dL_part_2 hl 2 rfl rfl ?_
  refine w_xr (vx_runV (As := [.int (wI (k)), .int (wI (n))]) (rest := []) X (c_X3_abroadPart l hl9 g AX H x σ hσ hXv (k) (n) (by omega) (by omega)) (cwV 2 X.2.2.2.2 gL_part_X3_abroadPart rfl rfl rfl (by decide +kernel) ⟨(Nat.le_of_ble_eq_true rfl), (Nat.le_of_ble_eq_true rfl)⟩) (w_prVN hE hEs hS (fun _ h => h) hxO rfl) rfl rfl hl.1 rfl (lv_room (Nat.le_of_ble_eq_true rfl)) dL_part_3 ⟨(Nat.le_of_ble_eq_true rfl), (Nat.le_of_ble_eq_true rfl)⟩) hS (fun _ h => h) ?_ fun v1 H1 lo1 hp hz1 hq1 hS => ?_
  · intro E ce q9 H9 lo9 hxp hz9 hq9 hS9 hce hcv hcl
    obtain ⟨hd, hX9⟩ := hxp
    obtain ⟨rfl, n1⟩ := hd
    refine vx_catch (E := xnB) (name := xnB) X.2.2.2.1 [] { startPc := 0, endPc := 6, handlerPc := 7, catchType := 22 } [] hT (fun z h => absurd h List.not_mem_nil) rfl (by decide) (X.2.2.2.2 (.classLink RL 22 xnB) (by decide +kernel)) (va_Nw.use rfl hNx.2) hce hcv hcl ?_
    refine w_astore_n X [(3, .ref q9), (0, .ref x), (1, .int (wI (k))), (2, .int (wI (n)))] dL_part_7 hl rfl (by decide) rfl fun ls hl => ?_
    refine w_bipush X dL_part_8 (by decide) ?_
    exact w_irR X hr hk hS9 (⟨⟨_, rfl, fun h => absurd n1 (by omega), fun _ => rfl⟩, hX9⟩) dL_part_10 (Nat.le_of_ble_eq_true rfl) (Nat.le_of_ble_eq_true rfl)
  obtain ⟨hp, rfl, hXn⟩ := hp
  exact w_irR X hr hk hS (⟨⟨_, rfl, fun _ => rfl, fun h => absurd hp (by omega)⟩, hXn⟩) dL_part_6 (Nat.le_of_ble_eq_true rfl) (Nat.le_of_ble_eq_true rfl)

set_option maxHeartbeats 4000000 in
set_option maxRecDepth 100000 in
theorem c_L_bonus (l : Launch) (hl9 : l.stackTraces = false) (g : wG) (AX : Nat → Prop) (H : Heap) (hAn : ∀ q, H.size ≤ q → AX q) (x : Nat) (σ : St) (hσ : StGood σ) (hXv : XInv g AX x σ H) (k : Int) (hk9 : 0 ≤ k ∧ k < (sn σ : Int)) (a b d : Int) (ha : 1 ≤ a ∧ a ≤ 500000) (hb : 0 ≤ b ∧ b ≤ 11) (hd : b + 1 ≤ d ∧ d ≤ 12) : WrpR l g AX H yL_bonus wsL_bonus 8 139 6 37 [.ref x, .int (wI (k)), .int (wI (a)), .int (wI (b)), .int (wI (d))] (fun w H1 => (sb σ k.toNat < 6 ∧ w = .int (wI (sb σ k.toNat : Int)) ∧ XInv g AX x (nxBon σ k.toNat (bonS a b d)) H1) ∨ (¬ sb σ k.toNat < 6 ∧ w = .int (wI (-3)) ∧ XInv g AX x σ H1)) := by
  refine Wrp.of (cc := cL_bonus) (maxL := 6) (ret := some .int) (hh := [(0, 9, 10, 16)]) (by decide) rfl (Nat.le_of_ble_eq_true rfl) ?_
  intro p9 e s m args below meth c X hE hEs hNx hT hr hk hS ls hl
  have hl : lv_has ls 6 [(0, .ref x), (1, .int (wI (k))), (2, .int (wI (a))), (3, .int (wI (b))), (4, .int (wI (d)))] := hl
  obtain ⟨hAx, fs9, hxO⟩ := hXv.ob
  have h10 := hσ.2.1
  refine w_aload_n X dL_bonus_0 hl 0 rfl rfl ?_
  refine w_iload_n X dL_bonus_1 hl 1 rfl rfl ?_
  refine w_iload_n X dL_bonus_2 hl 2 rfl rfl ?_
  refine w_iload_n X dL_bonus_3 hl 3 rfl rfl ?_
  refine w_iload X dL_bonus_4 hl 4 rfl ?_
  refine w_xr (vx_runV (As := [.int (wI (k)), .int (wI (a)), .int (wI (b)), .int (wI (d))]) (rest := []) X (c_X3_addBonus l hl9 g AX H hAn x σ hσ hXv (k) (a) (b) (d) (by omega) (by omega) (by omega) (by omega)) (cwV 4 X.2.2.2.2 gL_bonus_X3_addBonus rfl rfl rfl (by decide +kernel) ⟨(Nat.le_of_ble_eq_true rfl), (Nat.le_of_ble_eq_true rfl)⟩) (w_prVN hE hEs hS (fun _ h => h) hxO rfl) rfl rfl hl.1 rfl (lv_room (Nat.le_of_ble_eq_true rfl)) dL_bonus_6 ⟨(Nat.le_of_ble_eq_true rfl), (Nat.le_of_ble_eq_true rfl)⟩) hS (fun _ h => h) ?_ fun v1 H1 lo1 hp hz1 hq1 hS => ?_
  · intro E ce q9 H9 lo9 hxp hz9 hq9 hS9 hce hcv hcl
    obtain ⟨hd, hX9⟩ := hxp
    rcases hd with ⟨-, n1⟩ | ⟨-, -, n1⟩ | ⟨rfl, -, -, n1⟩
    · exact absurd n1 (by omega)
    · exact absurd n1 (by omega)
    refine vx_catch (E := xnS) (name := xnS) X.2.2.2.1 [] { startPc := 0, endPc := 9, handlerPc := 10, catchType := 16 } [] hT (fun z h => absurd h List.not_mem_nil) rfl (by decide) (X.2.2.2.2 (.classLink RL 16 xnS) (by decide +kernel)) (va_Nw.use rfl hNx.1) hce hcv hcl ?_
    refine w_astore X [(5, .ref q9), (0, .ref x), (1, .int (wI (k))), (2, .int (wI (a))), (3, .int (wI (b))), (4, .int (wI (d)))] dL_bonus_10 hl (by decide) rfl fun ls hl => ?_
    refine w_bipush X dL_bonus_12 (by decide) ?_
    exact w_irR X hr hk hS9 (Or.inr ⟨n1, rfl, hX9⟩) dL_bonus_14 (Nat.le_of_ble_eq_true rfl) (Nat.le_of_ble_eq_true rfl)
  obtain ⟨hp, rfl, hXn⟩ := hp
  exact w_irR X hr hk hS (Or.inl ⟨by omega, rfl, hXn⟩) dL_bonus_9 (Nat.le_of_ble_eq_true rfl) (Nat.le_of_ble_eq_true rfl)
