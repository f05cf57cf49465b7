/-! the law: its calls -/

theorem best_ex (σ : St) (k : Nat) : ∃ v, IsBest σ k v := by
  induction k with
  | zero => exact ⟨-1, Or.inl ⟨rfl, rfl⟩⟩
  | succ k ih =>
    obtain ⟨v, hv⟩ := ih
    by_cases h : v < 0 ∨ cst σ v.toNat < cst σ k
    · exact ⟨k, hv.first h⟩
    · exact ⟨v, hv.same (by omega) (by omega)⟩
theorem dear_wR {σ : St} (hσ : StGood σ) : wR (dearS σ) := by
  obtain ⟨v, hv⟩ := best_ex σ (sn σ)
  rw [dearS_eq hv]
  have := hσ.2.1
  rcases hv with ⟨q1, q2⟩ | ⟨q1, q2, -⟩
  · omega
  · omega

set_option maxHeartbeats 4000000 in
set_option maxRecDepth 100000 in
theorem law_homeTax {p : Program} {l : Launch} {e : Env} {s : State} {m : MethodId} {below : List Frame} {meth : Method} {c : Code} {B0 L : Nat} {xs : Nat → Int32} {g : wG} {x out : Nat} {M : Nat → Nat} {AX AM : Nat → Prop} {H : Heap} {locs : List Loc} {cells slots : Nat} {Q : State → Prop} {σ : St} {th : Int} {fo : Nat → Int64} (E : LE p l s m c B0 L xs g out M AX AM) (I : LI s g x out M AX σ th fo H locs) (hroom : cells + 6 ≤ 634029 ∧ slots + 39 ≤ 7194018) (t : Nat) (ht : t + 4 < L) (ls : Array Slot) (hl : lv_has ls 7 [(4, .int (wI ((t : Int)))), (3, .ref out), (2, .ref (M 0)), (1, .ref x), (0, .ref B0)])
    (hk : ∀ (σ1 : St) (th1 : Int) (fo1 : Nat → Int64) (H1 : Heap) (locs1 : List Loc), LI s g x out M AX σ1 th1 fo1 H1 locs1 → ∀ ls : Array Slot, lv_has ls 7 [(4, .int (wI ((t : Int)))), (3, .ref out), (2, .ref (M 0)), (1, .ref x), (0, .ref B0)] → W p l e room_1 s m #[Value.ref B0] below meth c H1 locs1 (cells + 6) (slots + 39) Q (F0 m 1486 ls [])) : W p l e room_1 s m #[Value.ref B0] below meth c H locs cells slots Q (F0 m 1137 ls []) := by
  obtain ⟨X, ⟨hE, hEs, hNx⟩, ⟨hXs, hbl, hl9, hL⟩, ⟨hsX, hsM, hso⟩, ⟨hdis, hno, hmo⟩, hAM, hMj⟩ := E
  obtain ⟨hσ, hXv, hM, hJ, hS, hA⟩ := I
  obtain ⟨hr1, hr2⟩ := hroom
  have hbA : ¬ ALs s B0 := Nat.not_le.mpr hbl
  have hW : ∀ q, AW AX out q → ALs s q := fun q h => h.elim (fun h => hsX q h) (fun h => h ▸ hso)
  have hGd := hE.dis
  obtain ⟨i, e1, hi⟩ : ∃ z : Int, xs (t + 1) = wI z ∧ wR z := ⟨_, (wI_ofInt _).symm, wR_toInt _⟩
  refine w_aload_n X dL_law_1137 hl 3 rfl rfl ?_
  refine w_aload_n X dL_law_1138 hl 4 rfl rfl ?_
  refine w_iload X dL_law_1139 hl 0 rfl ?_
  refine w_iconst X dL_law_1141 ?_
  refine w_iadd X dL_law_1142 fun z_1 ez_1 => ?_
  refine w_sld (y := i) X hXs hbl hbA hS hL (t + 1) (by omega) (by omega) e1 dL_law_1143 ?_
  refine w_aload_n X dL_law_1144 hl 1 rfl rfl ?_
  refine w_ir (vx_runSW (As := [.ref x, .int (wI (i)), .ref out]) (rest := []) X (c_L_homeTax l hl9 g H AX out hno x σ hσ hXv fo hJ i hi) (vx_cwSW 3 X.2.2.2.2 gL_law_L_homeTax rfl rfl rfl (by decide +kernel) ⟨(Nat.le_of_ble_eq_true rfl), (Nat.le_of_ble_eq_true rfl)⟩) (w_pr2 hE hEs hNx hS hW) rfl rfl hl.1 rfl (lv_room (Nat.le_of_ble_eq_true rfl)) dL_law_1145 ⟨by show _ ≤ 634029; omega, by show _ ≤ 7194018; omega⟩) hS hW fun v1 H1 lo1 hp1 hz1 hq1 hS => ?_
  obtain ⟨rfl, hX1, fo1, hJ1, hf1⟩ := hp1
  have hcd := cd_r (((0 : Int) ≤ i ∧ i < (sn σ : Int))) (True) (True)
  have hM1 := hM.kept (fun k h1 h2 => hq1 _ (hM.lt k h1 h2) (fun h => h.elim (fun h => hdis _ h (hAM k h1 h2)) (fun h => hmo (h ▸ hAM k h1 h2))))
  obtain ⟨fs8, hOm⟩ := hM1.ob
  have hA1 : ∀ q, H1.size ≤ q → AX q := fun q hq => hA q (by omega)
  refine w_istore X [(5, .int (wI (cd (((0 : Int) ≤ i ∧ i < (sn σ : Int))) (True) (True)))), (4, .int (wI ((t : Int)))), (3, .ref out), (2, .ref (M 0)), (1, .ref x), (0, .ref B0)] dL_law_1148 hl (by decide) rfl fun ls hl => ?_
  refine w_aload_n X dL_law_1150 hl 3 rfl rfl ?_
  refine w_aload_n X dL_law_1151 hl 5 rfl rfl ?_
  refine w_iload X dL_law_1152 hl 1 rfl ?_
  refine w_iconst X dL_law_1154 ?_
  refine w_iadd X dL_law_1155 fun z_2 ez_2 => ?_
  refine w_sld (y := i) X hXs hbl hbA hS hL (t + 1) (by omega) (by omega) e1 dL_law_1156 ?_
  refine w_ir (va_runV (As := [.int (wI (i))]) (rest := []) X (c_X4_homeTax l g AM H1 M hAM hMj th σ hM1 hσ i hi) (cwV 1 X.2.2.2.2 gL_law_X4_homeTax rfl rfl rfl (by decide +kernel) ⟨(Nat.le_of_ble_eq_true rfl), (Nat.le_of_ble_eq_true rfl)⟩) (w_prVN hE hEs hS hsM hOm rfl) rfl rfl hl.1 rfl (lv_room (Nat.le_of_ble_eq_true rfl)) dL_law_1157 ⟨by show _ ≤ 634029; omega, by show _ ≤ 7194018; omega⟩) hS hsM fun v2 H2 lo2 hp2 hz2 hq2 hS => ?_
  obtain ⟨rfl, hM2⟩ := hp2
  obtain ⟨fs7, hOm2⟩ := hM2.ob
  have hX2 := hX1.kept (fun q h1 h2 => hq2 q h2 (hdis q h1))
  have hJ2 := hJ1.kept (hq2 _ hJ1.lt hmo)
  have hA2 : ∀ q, H2.size ≤ q → AX q := fun q hq => hA1 q (by omega)
  refine w_istore X [(6, .int (wI (stv (((0 : Int) ≤ i ∧ i < (sn σ : Int))) (True) (True) (tahS (sH σ i.toNat) (sp σ i.toNat) (sb σ i.toNat) (so σ i.toNat))))), (5, .int (wI (cd (((0 : Int) ≤ i ∧ i < (sn σ : Int))) (True) (True)))), (4, .int (wI ((t : Int)))), (3, .ref out), (2, .ref (M 0)), (1, .ref x), (0, .ref B0)] dL_law_1160 hl (by decide) rfl fun ls hl => ?_
  refine w_aload_n X dL_law_1162 hl 4 rfl rfl ?_
  refine w_callV (v := .int (wI (cd (((0 : Int) ≤ i ∧ i < (sn σ : Int))) (True) (True)))) 0 X hE (c_X4_thrown l g H2 M (cd (((0 : Int) ≤ i ∧ i < (sn σ : Int))) (True) (True)) (stp (((0 : Int) ≤ i ∧ i < (sn σ : Int))) (True) (True) (σ) σ) hM2) hOm2 hl dL_law_1163 gL_law_X4_thrown rfl rfl (by decide +kernel) ⟨(Nat.le_of_ble_eq_true rfl), (Nat.le_of_ble_eq_true rfl)⟩ rfl rfl (Nat.le_of_ble_eq_true rfl) ⟨by show _ ≤ 634029; omega, by show _ ≤ 7194018; omega⟩ ?_
  refine w_iload X dL_law_1166 hl 1 rfl ?_
  refine w_icmp_eq X 1173 dL_law_1168 (by decide) (by omega) (by omega) (fun c_3 => ?_) (fun c_3 => ?_)
  · skip
    refine w_iload X dL_law_1173 hl 1 rfl ?_
    refine w_if_ne X 1190 dL_law_1175 (by decide) (by omega) (fun c_4 => ?_) (fun c_4 => ?_)
    · skip
      refine w_goto X 1486 dL_law_1190 (by decide) ?_
      refine W.widen (k := cells + 6) (n := slots + 39) (by omega) (by omega) ?_
      exact hk (stp (((0 : Int) ≤ i ∧ i < (sn σ : Int))) (True) (True) (σ) σ) (cd (((0 : Int) ≤ i ∧ i < (sn σ : Int))) (True) (True)) fo1 H2 lo2 ⟨stp_good (fun _ _ _ => hσ) hσ, hX2, hM2, hJ2, hS, hA2⟩ ls (lv_sub hl [2, 3, 4, 5, 6] rfl)
    · skip
      refine w_aload_n X dL_law_1178 hl 3 rfl rfl ?_
      refine w_iconst X dL_law_1179 ?_
      refine w_lald0 X hE hJ2 dL_law_1180 ?_
      rw [hf1 (by omega)]
      refine w_iload X dL_law_1181 hl 0 rfl ?_
      refine lv_i2l (v := (wI (stv (((0 : Int) ≤ i ∧ i < (sn σ : Int))) (True) (True) (tahS (sH σ i.toNat) (sp σ i.toNat) (sb σ i.toNat) (so σ i.toNat)))).toInt64) X.1 X.2.1 dL_law_1183 rfl ?_
      refine w_lcmpEq X dL_law_1184 ?_
      refine w_if_eq X 1190 dL_law_1185 (by decide) (by omega) (fun c_5 => ?_) (fun c_5 => ?_)
      · skip
        refine w_goto X 1486 dL_law_1190 (by decide) ?_
        refine W.widen (k := cells + 6) (n := slots + 39) (by omega) (by omega) ?_
        exact hk (stp (((0 : Int) ≤ i ∧ i < (sn σ : Int))) (True) (True) (σ) σ) (cd (((0 : Int) ≤ i ∧ i < (sn σ : Int))) (True) (True)) fo1 H2 lo2 ⟨stp_good (fun _ _ _ => hσ) hσ, hX2, hM2, hJ2, hS, hA2⟩ ls (lv_sub hl [2, 3, 4, 5, 6] rfl)
      · skip
        exact absurd c_5 (by omega)
  · skip
    exact absurd c_3 (by omega)

set_option maxHeartbeats 4000000 in
set_option maxRecDepth 100000 in
theorem law_hostIncome {p : Program} {l : Launch} {e : Env} {s : State} {m : MethodId} {below : List Frame} {meth : Method} {c : Code} {B0 L : Nat} {xs : Nat → Int32} {g : wG} {x out : Nat} {M : Nat → Nat} {AX AM : Nat → Prop} {H : Heap} {locs : List Loc} {cells slots : Nat} {Q : State → Prop} {σ : St} {th : Int} {fo : Nat → Int64} (E : LE p l s m c B0 L xs g out M AX AM) (I : LI s g x out M AX σ th fo H locs) (hroom : cells + 6 ≤ 634029 ∧ slots + 39 ≤ 7194018) (t : Nat) (ht : t + 4 < L) (ls : Array Slot) (hl : lv_has ls 7 [(4, .int (wI ((t : Int)))), (3, .ref out), (2, .ref (M 0)), (1, .ref x), (0, .ref B0)])
    (hk : ∀ (σ1 : St) (th1 : Int) (fo1 : Nat → Int64) (H1 : Heap) (locs1 : List Loc), LI s g x out M AX σ1 th1 fo1 H1 locs1 → ∀ ls : Array Slot, lv_has ls 7 [(4, .int (wI ((t : Int)))), (3, .ref out), (2, .ref (M 0)), (1, .ref x), (0, .ref B0)] → W p l e room_1 s m #[Value.ref B0] below meth c H1 locs1 (cells + 6) (slots + 39) Q (F0 m 1486 ls [])) : W p l e room_1 s m #[Value.ref B0] below meth c H locs cells slots Q (F0 m 1193 ls []) := by
  obtain ⟨X, ⟨hE, hEs, hNx⟩, ⟨hXs, hbl, hl9, hL⟩, ⟨hsX, hsM, hso⟩, ⟨hdis, hno, hmo⟩, hAM, hMj⟩ := E
  obtain ⟨hσ, hXv, hM, hJ, hS, hA⟩ := I
  obtain ⟨hr1, hr2⟩ := hroom
  have hbA : ¬ ALs s B0 := Nat.not_le.mpr hbl
  have hW : ∀ q, AW AX out q → ALs s q := fun q h => h.elim (fun h => hsX q h) (fun h => h ▸ hso)
  have hGd := hE.dis
  obtain ⟨i, e1, hi⟩ : ∃ z : Int, xs (t + 1) = wI z ∧ wR z := ⟨_, (wI_ofInt _).symm, wR_toInt _⟩
  refine w_aload_n X dL_law_1193 hl 3 rfl rfl ?_
  refine w_aload_n X dL_law_1194 hl 4 rfl rfl ?_
  refine w_iload X dL_law_1195 hl 0 rfl ?_
  refine w_iconst X dL_law_1197 ?_
  refine w_iadd X dL_law_1198 fun z_1 ez_1 => ?_
  refine w_sld (y := i) X hXs hbl hbA hS hL (t + 1) (by omega) (by omega) e1 dL_law_1199 ?_
  refine w_aload_n X dL_law_1200 hl 1 rfl rfl ?_
  refine w_ir (vx_runSW (As := [.ref x, .int (wI (i)), .ref out]) (rest := []) X (c_L_hostIncome l hl9 g H AX out hno x σ hσ hXv fo hJ i hi) (vx_cwSW 3 X.2.2.2.2 gL_law_L_hostIncome rfl rfl rfl (by decide +kernel) ⟨(Nat.le_of_ble_eq_true rfl), (Nat.le_of_ble_eq_true rfl)⟩) (w_pr2 hE hEs hNx hS hW) rfl rfl hl.1 rfl (lv_room (Nat.le_of_ble_eq_true rfl)) dL_law_1201 ⟨by show _ ≤ 634029; omega, by show _ ≤ 7194018; omega⟩) hS hW fun v1 H1 lo1 hp1 hz1 hq1 hS => ?_
  obtain ⟨rfl, hX1, fo1, hJ1, hf1⟩ := hp1
  have hcd := cd_r (((0 : Int) ≤ i ∧ i < (sn σ : Int))) (True) (True)
  have hM1 := hM.kept (fun k h1 h2 => hq1 _ (hM.lt k h1 h2) (fun h => h.elim (fun h => hdis _ h (hAM k h1 h2)) (fun h => hmo (h ▸ hAM k h1 h2))))
  obtain ⟨fs8, hOm⟩ := hM1.ob
  have hA1 : ∀ q, H1.size ≤ q → AX q := fun q hq => hA q (by omega)
  refine w_istore X [(5, .int (wI (cd (((0 : Int) ≤ i ∧ i < (sn σ : Int))) (True) (True)))), (4, .int (wI ((t : Int)))), (3, .ref out), (2, .ref (M 0)), (1, .ref x), (0, .ref B0)] dL_law_1204 hl (by decide) rfl fun ls hl => ?_
  refine w_aload_n X dL_law_1206 hl 3 rfl rfl ?_
  refine w_aload_n X dL_law_1207 hl 5 rfl rfl ?_
  refine w_iload X dL_law_1208 hl 1 rfl ?_
  refine w_iconst X dL_law_1210 ?_
  refine w_iadd X dL_law_1211 fun z_2 ez_2 => ?_
  refine w_sld (y := i) X hXs hbl hbA hS hL (t + 1) (by omega) (by omega) e1 dL_law_1212 ?_
  refine w_ir (va_runV (As := [.int (wI (i))]) (rest := []) X (c_X4_hostIncome l g AM H1 M hAM hMj th σ hM1 hσ i hi) (cwV 1 X.2.2.2.2 gL_law_X4_hostIncome rfl rfl rfl (by decide +kernel) ⟨(Nat.le_of_ble_eq_true rfl), (Nat.le_of_ble_eq_true rfl)⟩) (w_prVN hE hEs hS hsM hOm rfl) rfl rfl hl.1 rfl (lv_room (Nat.le_of_ble_eq_true rfl)) dL_law_1213 ⟨by show _ ≤ 634029; omega, by show _ ≤ 7194018; omega⟩) hS hsM fun v2 H2 lo2 hp2 hz2 hq2 hS => ?_
  obtain ⟨rfl, hM2⟩ := hp2
  obtain ⟨fs7, hOm2⟩ := hM2.ob
  have hX2 := hX1.kept (fun q h1 h2 => hq2 q h2 (hdis q h1))
  have hJ2 := hJ1.kept (hq2 _ hJ1.lt hmo)
  have hA2 : ∀ q, H2.size ≤ q → AX q := fun q hq => hA1 q (by omega)
  refine w_istore X [(6, .int (wI (stv (((0 : Int) ≤ i ∧ i < (sn σ : Int))) (True) (True) (aosS (sp σ i.toNat) (sb σ i.toNat) (so σ i.toNat))))), (5, .int (wI (cd (((0 : Int) ≤ i ∧ i < (sn σ : Int))) (True) (True)))), (4, .int (wI ((t : Int)))), (3, .ref out), (2, .ref (M 0)), (1, .ref x), (0, .ref B0)] dL_law_1216 hl (by decide) rfl fun ls hl => ?_
  refine w_aload_n X dL_law_1218 hl 4 rfl rfl ?_
  refine w_callV (v := .int (wI (cd (((0 : Int) ≤ i ∧ i < (sn σ : Int))) (True) (True)))) 0 X hE (c_X4_thrown l g H2 M (cd (((0 : Int) ≤ i ∧ i < (sn σ : Int))) (True) (True)) (stp (((0 : Int) ≤ i ∧ i < (sn σ : Int))) (True) (True) (σ) σ) hM2) hOm2 hl dL_law_1219 gL_law_X4_thrown rfl rfl (by decide +kernel) ⟨(Nat.le_of_ble_eq_true rfl), (Nat.le_of_ble_eq_true rfl)⟩ rfl rfl (Nat.le_of_ble_eq_true rfl) ⟨by show _ ≤ 634029; omega, by show _ ≤ 7194018; omega⟩ ?_
  refine w_iload X dL_law_1222 hl 1 rfl ?_
  refine w_icmp_eq X 1229 dL_law_1224 (by decide) (by omega) (by omega) (fun c_3 => ?_) (fun c_3 => ?_)
  · skip
    refine w_iload X dL_law_1229 hl 1 rfl ?_
    refine w_if_ne X 1246 dL_law_1231 (by decide) (by omega) (fun c_4 => ?_) (fun c_4 => ?_)
    · skip
      refine w_goto X 1486 dL_law_1246 (by decide) ?_
      refine W.widen (k := cells + 6) (n := slots + 39) (by omega) (by omega) ?_
      exact hk (stp (((0 : Int) ≤ i ∧ i < (sn σ : Int))) (True) (True) (σ) σ) (cd (((0 : Int) ≤ i ∧ i < (sn σ : Int))) (True) (True)) fo1 H2 lo2 ⟨stp_good (fun _ _ _ => hσ) hσ, hX2, hM2, hJ2, hS, hA2⟩ ls (lv_sub hl [2, 3, 4, 5, 6] rfl)
    · skip
      refine w_aload_n X dL_law_1234 hl 3 rfl rfl ?_
      refine w_iconst X dL_law_1235 ?_
      refine w_lald0 X hE hJ2 dL_law_1236 ?_
      rw [hf1 (by omega)]
      refine w_iload X dL_law_1237 hl 0 rfl ?_
      refine lv_i2l (v := (wI (stv (((0 : Int) ≤ i ∧ i < (sn σ : Int))) (True) (True) (aosS (sp σ i.toNat) (sb σ i.toNat) (so σ i.toNat)))).toInt64) X.1 X.2.1 dL_law_1239 rfl ?_
      refine w_lcmpEq X dL_law_1240 ?_
      refine w_if_eq X 1246 dL_law_1241 (by decide) (by omega) (fun c_5 => ?_) (fun c_5 => ?_)
      · skip
        refine w_goto X 1486 dL_law_1246 (by decide) ?_
        refine W.widen (k := cells + 6) (n := slots + 39) (by omega) (by omega) ?_
        exact hk (stp (((0 : Int) ≤ i ∧ i < (sn σ : Int))) (True) (True) (σ) σ) (cd (((0 : Int) ≤ i ∧ i < (sn σ : Int))) (True) (True)) fo1 H2 lo2 ⟨stp_good (fun _ _ _ => hσ) hσ, hX2, hM2, hJ2, hS, hA2⟩ ls (lv_sub hl [2, 3, 4, 5, 6] rfl)
      · skip
        exact absurd c_5 (by omega)
  · skip
    exact absurd c_3 (by omega)

set_option maxHeartbeats 4000000 in
set_option maxRecDepth 100000 in
theorem law_hostTax {p : Program} {l : Launch} {e : Env} {s : State} {m : MethodId} {below : List Frame} {meth : Method} {c : Code} {B0 L : Nat} {xs : Nat → Int32} {g : wG} {x out : Nat} {M : Nat → Nat} {AX AM : Nat → Prop} {H : Heap} {locs : List Loc} {cells slots : Nat} {Q : State → Prop} {σ : St} {th : Int} {fo : Nat → Int64} (E : LE p l s m c B0 L xs g out M AX AM) (I : LI s g x out M AX σ th fo H locs) (hroom : cells + 6 ≤ 634029 ∧ slots + 39 ≤ 7194018) (t : Nat) (ht : t + 4 < L) (ls : Array Slot) (hl : lv_has ls 7 [(4, .int (wI ((t : Int)))), (3, .ref out), (2, .ref (M 0)), (1, .ref x), (0, .ref B0)])
    (hk : ∀ (σ1 : St) (th1 : Int) (fo1 : Nat → Int64) (H1 : Heap) (locs1 : List Loc), LI s g x out M AX σ1 th1 fo1 H1 locs1 → ∀ ls : Array Slot, lv_has ls 7 [(4, .int (wI ((t : Int)))), (3, .ref out), (2, .ref (M 0)), (1, .ref x), (0, .ref B0)] → W p l e room_1 s m #[Value.ref B0] below meth c H1 locs1 (cells + 6) (slots + 39) Q (F0 m 1486 ls [])) : W p l e room_1 s m #[Value.ref B0] below meth c H locs cells slots Q (F0 m 1249 ls []) := by
  obtain ⟨X, ⟨hE, hEs, hNx⟩, ⟨hXs, hbl, hl9, hL⟩, ⟨hsX, hsM, hso⟩, ⟨hdis, hno, hmo⟩, hAM, hMj⟩ := E
  obtain ⟨hσ, hXv, hM, hJ, hS, hA⟩ := I
  obtain ⟨hr1, hr2⟩ := hroom
  have hbA : ¬ ALs s B0 := Nat.not_le.mpr hbl
  have hW : ∀ q, AW AX out q → ALs s q := fun q h => h.elim (fun h => hsX q h) (fun h => h ▸ hso)
  have hGd := hE.dis
  obtain ⟨i, e1, hi⟩ : ∃ z : Int, xs (t + 1) = wI z ∧ wR z := ⟨_, (wI_ofInt _).symm, wR_toInt _⟩
  refine w_aload_n X dL_law_1249 hl 3 rfl rfl ?_
  refine w_aload_n X dL_law_1250 hl 4 rfl rfl ?_
  refine w_iload X dL_law_1251 hl 0 rfl ?_
  refine w_iconst X dL_law_1253 ?_
  refine w_iadd X dL_law_1254 fun z_1 ez_1 => ?_
  refine w_sld (y := i) X hXs hbl hbA hS hL (t + 1) (by omega) (by omega) e1 dL_law_1255 ?_
  refine w_aload_n X dL_law_1256 hl 1 rfl rfl ?_
  refine w_ir (vx_runSW (As := [.ref x, .int (wI (i)), .ref out]) (rest := []) X (c_L_hostTax l hl9 g H AX out hno x σ hσ hXv fo hJ i hi) (vx_cwSW 3 X.2.2.2.2 gL_law_L_hostTax rfl rfl rfl (by decide +kernel) ⟨(Nat.le_of_ble_eq_true rfl), (Nat.le_of_ble_eq_true rfl)⟩) (w_pr2 hE hEs hNx hS hW) rfl rfl hl.1 rfl (lv_room (Nat.le_of_ble_eq_true rfl)) dL_law_1257 ⟨by show _ ≤ 634029; omega, by show _ ≤ 7194018; omega⟩) hS hW fun v1 H1 lo1 hp1 hz1 hq1 hS => ?_
  obtain ⟨rfl, hX1, fo1, hJ1, hf1⟩ := hp1
  have hcd := cd_r (((0 : Int) ≤ i ∧ i < (sn σ : Int))) (True) (True)
  have hM1 := hM.kept (fun k h1 h2 => hq1 _ (hM.lt k h1 h2) (fun h => h.elim (fun h => hdis _ h (hAM k h1 h2)) (fun h => hmo (h ▸ hAM k h1 h2))))
  obtain ⟨fs8, hOm⟩ := hM1.ob
  have hA1 : ∀ q, H1.size ≤ q → AX q := fun q hq => hA q (by omega)
  refine w_istore X [(5, .int (wI (cd (((0 : Int) ≤ i ∧ i < (sn σ : Int))) (True) (True)))), (4, .int (wI ((t : Int)))), (3, .ref out), (2, .ref (M 0)), (1, .ref x), (0, .ref B0)] dL_law_1260 hl (by decide) rfl fun ls hl => ?_
  refine w_aload_n X dL_law_1262 hl 3 rfl rfl ?_
  refine w_aload_n X dL_law_1263 hl 5 rfl rfl ?_
  refine w_iload X dL_law_1264 hl 1 rfl ?_
  refine w_iconst X dL_law_1266 ?_
  refine w_iadd X dL_law_1267 fun z_2 ez_2 => ?_
  refine w_sld (y := i) X hXs hbl hbA hS hL (t + 1) (by omega) (by omega) e1 dL_law_1268 ?_
  refine w_ir (va_runV (As := [.int (wI (i))]) (rest := []) X (c_X4_hostTax l g AM H1 M hAM hMj th σ hM1 hσ i hi) (cwV 1 X.2.2.2.2 gL_law_X4_hostTax rfl rfl rfl (by decide +kernel) ⟨(Nat.le_of_ble_eq_true rfl), (Nat.le_of_ble_eq_true rfl)⟩) (w_prVN hE hEs hS hsM hOm rfl) rfl rfl hl.1 rfl (lv_room (Nat.le_of_ble_eq_true rfl)) dL_law_1269 ⟨by show _ ≤ 634029; omega, by show _ ≤ 7194018; omega⟩) hS hsM fun v2 H2 lo2 hp2 hz2 hq2 hS => ?_
  obtain ⟨rfl, hM2⟩ := hp2
  obtain ⟨fs7, hOm2⟩ := hM2.ob
  have hX2 := hX1.kept (fun q h1 h2 => hq2 q h2 (hdis q h1))
  have hJ2 := hJ1.kept (hq2 _ hJ1.lt hmo)
  have hA2 : ∀ q, H2.size ≤ q → AX q := fun q hq => hA1 q (by omega)
  refine w_istore X [(6, .int (wI (stv (((0 : Int) ≤ i ∧ i < (sn σ : Int))) (True) (True) (taoS (sT σ i.toNat) (sp σ i.toNat) (sb σ i.toNat) (so σ i.toNat))))), (5, .int (wI (cd (((0 : Int) ≤ i ∧ i < (sn σ : Int))) (True) (True)))), (4, .int (wI ((t : Int)))), (3, .ref out), (2, .ref (M 0)), (1, .ref x), (0, .ref B0)] dL_law_1272 hl (by decide) rfl fun ls hl => ?_
  refine w_aload_n X dL_law_1274 hl 4 rfl rfl ?_
  refine w_callV (v := .int (wI (cd (((0 : Int) ≤ i ∧ i < (sn σ : Int))) (True) (True)))) 0 X hE (c_X4_thrown l g H2 M (cd (((0 : Int) ≤ i ∧ i < (sn σ : Int))) (True) (True)) (stp (((0 : Int) ≤ i ∧ i < (sn σ : Int))) (True) (True) (σ) σ) hM2) hOm2 hl dL_law_1275 gL_law_X4_thrown rfl rfl (by decide +kernel) ⟨(Nat.le_of_ble_eq_true rfl), (Nat.le_of_ble_eq_true rfl)⟩ rfl rfl (Nat.le_of_ble_eq_true rfl) ⟨by show _ ≤ 634029; omega, by show _ ≤ 7194018; omega⟩ ?_
  refine w_iload X dL_law_1278 hl 1 rfl ?_
  refine w_icmp_eq X 1285 dL_law_1280 (by decide) (by omega) (by omega) (fun c_3 => ?_) (fun c_3 => ?_)
  · skip
    refine w_iload X dL_law_1285 hl 1 rfl ?_
    refine w_if_ne X 1302 dL_law_1287 (by decide) (by omega) (fun c_4 => ?_) (fun c_4 => ?_)
    · skip
      refine w_goto X 1486 dL_law_1302 (by decide) ?_
      refine W.widen (k := cells + 6) (n := slots + 39) (by omega) (by omega) ?_
      exact hk (stp (((0 : Int) ≤ i ∧ i < (sn σ : Int))) (True) (True) (σ) σ) (cd (((0 : Int) ≤ i ∧ i < (sn σ : Int))) (True) (True)) fo1 H2 lo2 ⟨stp_good (fun _ _ _ => hσ) hσ, hX2, hM2, hJ2, hS, hA2⟩ ls (lv_sub hl [2, 3, 4, 5, 6] rfl)
    · skip
      refine w_aload_n X dL_law_1290 hl 3 rfl rfl ?_
      refine w_iconst X dL_law_1291 ?_
      refine w_lald0 X hE hJ2 dL_law_1292 ?_
      rw [hf1 (by omega)]
      refine w_iload X dL_law_1293 hl 0 rfl ?_
      refine lv_i2l (v := (wI (stv (((0 : Int) ≤ i ∧ i < (sn σ : Int))) (True) (True) (taoS (sT σ i.toNat) (sp σ i.toNat) (sb σ i.toNat) (so σ i.toNat)))).toInt64) X.1 X.2.1 dL_law_1295 rfl ?_
      refine w_lcmpEq X dL_law_1296 ?_
      refine w_if_eq X 1302 dL_law_1297 (by decide) (by omega) (fun c_5 => ?_) (fun c_5 => ?_)
      · skip
        refine w_goto X 1486 dL_law_1302 (by decide) ?_
        refine W.widen (k := cells + 6) (n := slots + 39) (by omega) (by omega) ?_
        exact hk (stp (((0 : Int) ≤ i ∧ i < (sn σ : Int))) (True) (True) (σ) σ) (cd (((0 : Int) ≤ i ∧ i < (sn σ : Int))) (True) (True)) fo1 H2 lo2 ⟨stp_good (fun _ _ _ => hσ) hσ, hX2, hM2, hJ2, hS, hA2⟩ ls (lv_sub hl [2, 3, 4, 5, 6] rfl)
      · skip
        exact absurd c_5 (by omega)
  · skip
    exact absurd c_3 (by omega)

set_option maxHeartbeats 4000000 in
set_option maxRecDepth 100000 in
theorem law_borne {p : Program} {l : Launch} {e : Env} {s : State} {m : MethodId} {below : List Frame} {meth : Method} {c : Code} {B0 L : Nat} {xs : Nat → Int32} {g : wG} {x out : Nat} {M : Nat → Nat} {AX AM : Nat → Prop} {H : Heap} {locs : List Loc} {cells slots : Nat} {Q : State → Prop} {σ : St} {th : Int} {fo : Nat → Int64} (E : LE p l s m c B0 L xs g out M AX AM) (I : LI s g x out M AX σ th fo H locs) (hroom : cells + 6 ≤ 634029 ∧ slots + 39 ≤ 7194018) (t : Nat) (ht : t + 4 < L) (ls : Array Slot) (hl : lv_has ls 7 [(4, .int (wI ((t : Int)))), (3, .ref out), (2, .ref (M 0)), (1, .ref x), (0, .ref B0)])
    (hk : ∀ (σ1 : St) (th1 : Int) (fo1 : Nat → Int64) (H1 : Heap) (locs1 : List Loc), LI s g x out M AX σ1 th1 fo1 H1 locs1 → ∀ ls : Array Slot, lv_has ls 7 [(4, .int (wI ((t : Int)))), (3, .ref out), (2, .ref (M 0)), (1, .ref x), (0, .ref B0)] → W p l e room_1 s m #[Value.ref B0] below meth c H1 locs1 (cells + 6) (slots + 39) Q (F0 m 1486 ls [])) : W p l e room_1 s m #[Value.ref B0] below meth c H locs cells slots Q (F0 m 1305 ls []) := by
  obtain ⟨X, ⟨hE, hEs, hNx⟩, ⟨hXs, hbl, hl9, hL⟩, ⟨hsX, hsM, hso⟩, ⟨hdis, hno, hmo⟩, hAM, hMj⟩ := E
  obtain ⟨hσ, hXv, hM, hJ, hS, hA⟩ := I
  obtain ⟨hr1, hr2⟩ := hroom
  have hbA : ¬ ALs s B0 := Nat.not_le.mpr hbl
  have hW : ∀ q, AW AX out q → ALs s q := fun q h => h.elim (fun h => hsX q h) (fun h => h ▸ hso)
  have hGd := hE.dis
  obtain ⟨i, e1, hi⟩ : ∃ z : Int, xs (t + 1) = wI z ∧ wR z := ⟨_, (wI_ofInt _).symm, wR_toInt _⟩
  refine w_aload_n X dL_law_1305 hl 3 rfl rfl ?_
  refine w_aload_n X dL_law_1306 hl 4 rfl rfl ?_
  refine w_iload X dL_law_1307 hl 0 rfl ?_
  refine w_iconst X dL_law_1309 ?_
  refine w_iadd X dL_law_1310 fun z_1 ez_1 => ?_
  refine w_sld (y := i) X hXs hbl hbA hS hL (t + 1) (by omega) (by omega) e1 dL_law_1311 ?_
  refine w_aload_n X dL_law_1312 hl 1 rfl rfl ?_
  refine w_ir (vx_runSW (As := [.ref x, .int (wI (i)), .ref out]) (rest := []) X (c_L_borne l hl9 g H AX out hno x σ hσ hXv fo hJ i hi) (vx_cwSW 3 X.2.2.2.2 gL_law_L_borne rfl rfl rfl (by decide +kernel) ⟨(Nat.le_of_ble_eq_true rfl), (Nat.le_of_ble_eq_true rfl)⟩) (w_pr2 hE hEs hNx hS hW) rfl rfl hl.1 rfl (lv_room (Nat.le_of_ble_eq_true rfl)) dL_law_1313 ⟨by show _ ≤ 634029; omega, by show _ ≤ 7194018; omega⟩) hS hW fun v1 H1 lo1 hp1 hz1 hq1 hS => ?_
  obtain ⟨rfl, hX1, fo1, hJ1, hf1⟩ := hp1
  have hcd := cd_r (((0 : Int) ≤ i ∧ i < (sn σ : Int))) (True) (True)
  have hM1 := hM.kept (fun k h1 h2 => hq1 _ (hM.lt k h1 h2) (fun h => h.elim (fun h => hdis _ h (hAM k h1 h2)) (fun h => hmo (h ▸ hAM k h1 h2))))
  obtain ⟨fs8, hOm⟩ := hM1.ob
  have hA1 : ∀ q, H1.size ≤ q → AX q := fun q hq => hA q (by omega)
  refine w_istore X [(5, .int (wI (cd (((0 : Int) ≤ i ∧ i < (sn σ : Int))) (True) (True)))), (4, .int (wI ((t : Int)))), (3, .ref out), (2, .ref (M 0)), (1, .ref x), (0, .ref B0)] dL_law_1316 hl (by decide) rfl fun ls hl => ?_
  refine w_aload_n X dL_law_1318 hl 3 rfl rfl ?_
  refine w_aload_n X dL_law_1319 hl 5 rfl rfl ?_
  refine w_iload X dL_law_1320 hl 1 rfl ?_
  refine w_iconst X dL_law_1322 ?_
  refine w_iadd X dL_law_1323 fun z_2 ez_2 => ?_
  refine w_sld (y := i) X hXs hbl hbA hS hL (t + 1) (by omega) (by omega) e1 dL_law_1324 ?_
  refine w_ir (va_runV (As := [.int (wI (i))]) (rest := []) X (c_X4_borne l g AM H1 M hAM hMj th σ hM1 hσ i hi) (cwV 1 X.2.2.2.2 gL_law_X4_borne rfl rfl rfl (by decide +kernel) ⟨(Nat.le_of_ble_eq_true rfl), (Nat.le_of_ble_eq_true rfl)⟩) (w_prVN hE hEs hS hsM hOm rfl) rfl rfl hl.1 rfl (lv_room (Nat.le_of_ble_eq_true rfl)) dL_law_1325 ⟨by show _ ≤ 634029; omega, by show _ ≤ 7194018; omega⟩) hS hsM fun v2 H2 lo2 hp2 hz2 hq2 hS => ?_
  obtain ⟨rfl, hM2⟩ := hp2
  obtain ⟨fs7, hOm2⟩ := hM2.ob
  have hX2 := hX1.kept (fun q h1 h2 => hq2 q h2 (hdis q h1))
  have hJ2 := hJ1.kept (hq2 _ hJ1.lt hmo)
  have hA2 : ∀ q, H2.size ≤ q → AX q := fun q hq => hA1 q (by omega)
  refine w_istore X [(6, .int (wI (stv (((0 : Int) ≤ i ∧ i < (sn σ : Int))) (True) (True) (borS (sH σ i.toNat) (sp σ i.toNat) (sb σ i.toNat) (so σ i.toNat))))), (5, .int (wI (cd (((0 : Int) ≤ i ∧ i < (sn σ : Int))) (True) (True)))), (4, .int (wI ((t : Int)))), (3, .ref out), (2, .ref (M 0)), (1, .ref x), (0, .ref B0)] dL_law_1328 hl (by decide) rfl fun ls hl => ?_
  refine w_aload_n X dL_law_1330 hl 4 rfl rfl ?_
  refine w_callV (v := .int (wI (cd (((0 : Int) ≤ i ∧ i < (sn σ : Int))) (True) (True)))) 0 X hE (c_X4_thrown l g H2 M (cd (((0 : Int) ≤ i ∧ i < (sn σ : Int))) (True) (True)) (stp (((0 : Int) ≤ i ∧ i < (sn σ : Int))) (True) (True) (σ) σ) hM2) hOm2 hl dL_law_1331 gL_law_X4_thrown rfl rfl (by decide +kernel) ⟨(Nat.le_of_ble_eq_true rfl), (Nat.le_of_ble_eq_true rfl)⟩ rfl rfl (Nat.le_of_ble_eq_true rfl) ⟨by show _ ≤ 634029; omega, by show _ ≤ 7194018; omega⟩ ?_
  refine w_iload X dL_law_1334 hl 1 rfl ?_
  refine w_icmp_eq X 1341 dL_law_1336 (by decide) (by omega) (by omega) (fun c_3 => ?_) (fun c_3 => ?_)
  · skip
    refine w_iload X dL_law_1341 hl 1 rfl ?_
    refine w_if_ne X 1358 dL_law_1343 (by decide) (by omega) (fun c_4 => ?_) (fun c_4 => ?_)
    · skip
      refine w_goto X 1486 dL_law_1358 (by decide) ?_
      refine W.widen (k := cells + 6) (n := slots + 39) (by omega) (by omega) ?_
      exact hk (stp (((0 : Int) ≤ i ∧ i < (sn σ : Int))) (True) (True) (σ) σ) (cd (((0 : Int) ≤ i ∧ i < (sn σ : Int))) (True) (True)) fo1 H2 lo2 ⟨stp_good (fun _ _ _ => hσ) hσ, hX2, hM2, hJ2, hS, hA2⟩ ls (lv_sub hl [2, 3, 4, 5, 6] rfl)
    · skip
      refine w_aload_n X dL_law_1346 hl 3 rfl rfl ?_
      refine w_iconst X dL_law_1347 ?_
      refine w_lald0 X hE hJ2 dL_law_1348 ?_
      rw [hf1 (by omega)]
      refine w_iload X dL_law_1349 hl 0 rfl ?_
      refine lv_i2l (v := (wI (stv (((0 : Int) ≤ i ∧ i < (sn σ : Int))) (True) (True) (borS (sH σ i.toNat) (sp σ i.toNat) (sb σ i.toNat) (so σ i.toNat)))).toInt64) X.1 X.2.1 dL_law_1351 rfl ?_
      refine w_lcmpEq X dL_law_1352 ?_
      refine w_if_eq X 1358 dL_law_1353 (by decide) (by omega) (fun c_5 => ?_) (fun c_5 => ?_)
      · skip
        refine w_goto X 1486 dL_law_1358 (by decide) ?_
        refine W.widen (k := cells + 6) (n := slots + 39) (by omega) (by omega) ?_
        exact hk (stp (((0 : Int) ≤ i ∧ i < (sn σ : Int))) (True) (True) (σ) σ) (cd (((0 : Int) ≤ i ∧ i < (sn σ : Int))) (True) (True)) fo1 H2 lo2 ⟨stp_good (fun _ _ _ => hσ) hσ, hX2, hM2, hJ2, hS, hA2⟩ ls (lv_sub hl [2, 3, 4, 5, 6] rfl)
      · skip
        exact absurd c_5 (by omega)
  · skip
    exact absurd c_3 (by omega)

set_option maxHeartbeats 4000000 in
set_option maxRecDepth 100000 in
theorem law_settlement {p : Program} {l : Launch} {e : Env} {s : State} {m : MethodId} {below : List Frame} {meth : Method} {c : Code} {B0 L : Nat} {xs : Nat → Int32} {g : wG} {x out : Nat} {M : Nat → Nat} {AX AM : Nat → Prop} {H : Heap} {locs : List Loc} {cells slots : Nat} {Q : State → Prop} {σ : St} {th : Int} {fo : Nat → Int64} (E : LE p l s m c B0 L xs g out M AX AM) (I : LI s g x out M AX σ th fo H locs) (hroom : cells + 6 ≤ 634029 ∧ slots + 39 ≤ 7194018) (t : Nat) (ht : t + 4 < L) (ls : Array Slot) (hl : lv_has ls 7 [(4, .int (wI ((t : Int)))), (3, .ref out), (2, .ref (M 0)), (1, .ref x), (0, .ref B0)])
    (hk : ∀ (σ1 : St) (th1 : Int) (fo1 : Nat → Int64) (H1 : Heap) (locs1 : List Loc), LI s g x out M AX σ1 th1 fo1 H1 locs1 → ∀ ls : Array Slot, lv_has ls 7 [(4, .int (wI ((t : Int)))), (3, .ref out), (2, .ref (M 0)), (1, .ref x), (0, .ref B0)] → W p l e room_1 s m #[Value.ref B0] below meth c H1 locs1 (cells + 6) (slots + 39) Q (F0 m 1486 ls [])) : W p l e room_1 s m #[Value.ref B0] below meth c H locs cells slots Q (F0 m 1361 ls []) := by
  obtain ⟨X, ⟨hE, hEs, hNx⟩, ⟨hXs, hbl, hl9, hL⟩, ⟨hsX, hsM, hso⟩, ⟨hdis, hno, hmo⟩, hAM, hMj⟩ := E
  obtain ⟨hσ, hXv, hM, hJ, hS, hA⟩ := I
  obtain ⟨hr1, hr2⟩ := hroom
  have hbA : ¬ ALs s B0 := Nat.not_le.mpr hbl
  have hW : ∀ q, AW AX out q → ALs s q := fun q h => h.elim (fun h => hsX q h) (fun h => h ▸ hso)
  have hGd := hE.dis
  obtain ⟨i, e1, hi⟩ : ∃ z : Int, xs (t + 1) = wI z ∧ wR z := ⟨_, (wI_ofInt _).symm, wR_toInt _⟩
  refine w_aload_n X dL_law_1361 hl 3 rfl rfl ?_
  refine w_aload_n X dL_law_1362 hl 4 rfl rfl ?_
  refine w_iload X dL_law_1363 hl 0 rfl ?_
  refine w_iconst X dL_law_1365 ?_
  refine w_iadd X dL_law_1366 fun z_1 ez_1 => ?_
  refine w_sld (y := i) X hXs hbl hbA hS hL (t + 1) (by omega) (by omega) e1 dL_law_1367 ?_
  refine w_aload_n X dL_law_1368 hl 1 rfl rfl ?_
  refine w_ir (vx_runSW (As := [.ref x, .int (wI (i)), .ref out]) (rest := []) X (c_L_settlement l hl9 g H AX out hno x σ hσ hXv fo hJ i hi) (vx_cwSW 3 X.2.2.2.2 gL_law_L_settlement rfl rfl rfl (by decide +kernel) ⟨(Nat.le_of_ble_eq_true rfl), (Nat.le_of_ble_eq_true rfl)⟩) (w_pr2 hE hEs hNx hS hW) rfl rfl hl.1 rfl (lv_room (Nat.le_of_ble_eq_true rfl)) dL_law_1369 ⟨by show _ ≤ 634029; omega, by show _ ≤ 7194018; omega⟩) hS hW fun v1 H1 lo1 hp1 hz1 hq1 hS => ?_
  obtain ⟨rfl, hX1, fo1, hJ1, hf1⟩ := hp1
  have hcd := cd_r (((0 : Int) ≤ i ∧ i < (sn σ : Int))) (True) (True)
  have hM1 := hM.kept (fun k h1 h2 => hq1 _ (hM.lt k h1 h2) (fun h => h.elim (fun h => hdis _ h (hAM k h1 h2)) (fun h => hmo (h ▸ hAM k h1 h2))))
  obtain ⟨fs8, hOm⟩ := hM1.ob
  have hA1 : ∀ q, H1.size ≤ q → AX q := fun q hq => hA q (by omega)
  refine w_istore X [(5, .int (wI (cd (((0 : Int) ≤ i ∧ i < (sn σ : Int))) (True) (True)))), (4, .int (wI ((t : Int)))), (3, .ref out), (2, .ref (M 0)), (1, .ref x), (0, .ref B0)] dL_law_1372 hl (by decide) rfl fun ls hl => ?_
  refine w_aload_n X dL_law_1374 hl 3 rfl rfl ?_
  refine w_aload_n X dL_law_1375 hl 5 rfl rfl ?_
  refine w_iload X dL_law_1376 hl 1 rfl ?_
  refine w_iconst X dL_law_1378 ?_
  refine w_iadd X dL_law_1379 fun z_2 ez_2 => ?_
  refine w_sld (y := i) X hXs hbl hbA hS hL (t + 1) (by omega) (by omega) e1 dL_law_1380 ?_
  refine w_ir (va_runV (As := [.int (wI (i))]) (rest := []) X (c_X4_settlement l g AM H1 M hAM hMj th σ hM1 hσ i hi) (cwV 1 X.2.2.2.2 gL_law_X4_settlement rfl rfl rfl (by decide +kernel) ⟨(Nat.le_of_ble_eq_true rfl), (Nat.le_of_ble_eq_true rfl)⟩) (w_prVN hE hEs hS hsM hOm rfl) rfl rfl hl.1 rfl (lv_room (Nat.le_of_ble_eq_true rfl)) dL_law_1381 ⟨by show _ ≤ 634029; omega, by show _ ≤ 7194018; omega⟩) hS hsM fun v2 H2 lo2 hp2 hz2 hq2 hS => ?_
  obtain ⟨rfl, hM2⟩ := hp2
  obtain ⟨fs7, hOm2⟩ := hM2.ob
  have hX2 := hX1.kept (fun q h1 h2 => hq2 q h2 (hdis q h1))
  have hJ2 := hJ1.kept (hq2 _ hJ1.lt hmo)
  have hA2 : ∀ q, H2.size ≤ q → AX q := fun q hq => hA1 q (by omega)
  refine w_istore X [(6, .int (wI (stv (((0 : Int) ≤ i ∧ i < (sn σ : Int))) (True) (True) (setS (sH σ i.toNat) (sp σ i.toNat) (sb σ i.toNat) (so σ i.toNat))))), (5, .int (wI (cd (((0 : Int) ≤ i ∧ i < (sn σ : Int))) (True) (True)))), (4, .int (wI ((t : Int)))), (3, .ref out), (2, .ref (M 0)), (1, .ref x), (0, .ref B0)] dL_law_1384 hl (by decide) rfl fun ls hl => ?_
  refine w_aload_n X dL_law_1386 hl 4 rfl rfl ?_
  refine w_callV (v := .int (wI (cd (((0 : Int) ≤ i ∧ i < (sn σ : Int))) (True) (True)))) 0 X hE (c_X4_thrown l g H2 M (cd (((0 : Int) ≤ i ∧ i < (sn σ : Int))) (True) (True)) (stp (((0 : Int) ≤ i ∧ i < (sn σ : Int))) (True) (True) (σ) σ) hM2) hOm2 hl dL_law_1387 gL_law_X4_thrown rfl rfl (by decide +kernel) ⟨(Nat.le_of_ble_eq_true rfl), (Nat.le_of_ble_eq_true rfl)⟩ rfl rfl (Nat.le_of_ble_eq_true rfl) ⟨by show _ ≤ 634029; omega, by show _ ≤ 7194018; omega⟩ ?_
  refine w_iload X dL_law_1390 hl 1 rfl ?_
  refine w_icmp_eq X 1397 dL_law_1392 (by decide) (by omega) (by omega) (fun c_3 => ?_) (fun c_3 => ?_)
  · skip
    refine w_iload X dL_law_1397 hl 1 rfl ?_
    refine w_if_ne X 1414 dL_law_1399 (by decide) (by omega) (fun c_4 => ?_) (fun c_4 => ?_)
    · skip
      refine w_goto X 1486 dL_law_1414 (by decide) ?_
      refine W.widen (k := cells + 6) (n := slots + 39) (by omega) (by omega) ?_
      exact hk (stp (((0 : Int) ≤ i ∧ i < (sn σ : Int))) (True) (True) (σ) σ) (cd (((0 : Int) ≤ i ∧ i < (sn σ : Int))) (True) (True)) fo1 H2 lo2 ⟨stp_good (fun _ _ _ => hσ) hσ, hX2, hM2, hJ2, hS, hA2⟩ ls (lv_sub hl [2, 3, 4, 5, 6] rfl)
    · skip
      refine w_aload_n X dL_law_1402 hl 3 rfl rfl ?_
      refine w_iconst X dL_law_1403 ?_
      refine w_lald0 X hE hJ2 dL_law_1404 ?_
      rw [hf1 (by omega)]
      refine w_iload X dL_law_1405 hl 0 rfl ?_
      refine lv_i2l (v := (wI (stv (((0 : Int) ≤ i ∧ i < (sn σ : Int))) (True) (True) (setS (sH σ i.toNat) (sp σ i.toNat) (sb σ i.toNat) (so σ i.toNat)))).toInt64) X.1 X.2.1 dL_law_1407 rfl ?_
      refine w_lcmpEq X dL_law_1408 ?_
      refine w_if_eq X 1414 dL_law_1409 (by decide) (by omega) (fun c_5 => ?_) (fun c_5 => ?_)
      · skip
        refine w_goto X 1486 dL_law_1414 (by decide) ?_
        refine W.widen (k := cells + 6) (n := slots + 39) (by omega) (by omega) ?_
        exact hk (stp (((0 : Int) ≤ i ∧ i < (sn σ : Int))) (True) (True) (σ) σ) (cd (((0 : Int) ≤ i ∧ i < (sn σ : Int))) (True) (True)) fo1 H2 lo2 ⟨stp_good (fun _ _ _ => hσ) hσ, hX2, hM2, hJ2, hS, hA2⟩ ls (lv_sub hl [2, 3, 4, 5, 6] rfl)
      · skip
        exact absurd c_5 (by omega)
  · skip
    exact absurd c_3 (by omega)

set_option maxHeartbeats 4000000 in
set_option maxRecDepth 100000 in
theorem law_cost {p : Program} {l : Launch} {e : Env} {s : State} {m : MethodId} {below : List Frame} {meth : Method} {c : Code} {B0 L : Nat} {xs : Nat → Int32} {g : wG} {x out : Nat} {M : Nat → Nat} {AX AM : Nat → Prop} {H : Heap} {locs : List Loc} {cells slots : Nat} {Q : State → Prop} {σ : St} {th : Int} {fo : Nat → Int64} (E : LE p l s m c B0 L xs g out M AX AM) (I : LI s g x out M AX σ th fo H locs) (hroom : cells + 6 ≤ 634029 ∧ slots + 39 ≤ 7194018) (t : Nat) (ht : t + 4 < L) (ls : Array Slot) (hl : lv_has ls 7 [(4, .int (wI ((t : Int)))), (3, .ref out), (2, .ref (M 0)), (1, .ref x), (0, .ref B0)])
    (hk : ∀ (σ1 : St) (th1 : Int) (fo1 : Nat → Int64) (H1 : Heap) (locs1 : List Loc), LI s g x out M AX σ1 th1 fo1 H1 locs1 → ∀ ls : Array Slot, lv_has ls 7 [(4, .int (wI ((t : Int)))), (3, .ref out), (2, .ref (M 0)), (1, .ref x), (0, .ref B0)] → W p l e room_1 s m #[Value.ref B0] below meth c H1 locs1 (cells + 6) (slots + 39) Q (F0 m 1486 ls [])) : W p l e room_1 s m #[Value.ref B0] below meth c H locs cells slots Q (F0 m 1417 ls []) := by
  obtain ⟨X, ⟨hE, hEs, hNx⟩, ⟨hXs, hbl, hl9, hL⟩, ⟨hsX, hsM, hso⟩, ⟨hdis, hno, hmo⟩, hAM, hMj⟩ := E
  obtain ⟨hσ, hXv, hM, hJ, hS, hA⟩ := I
  obtain ⟨hr1, hr2⟩ := hroom
  have hbA : ¬ ALs s B0 := Nat.not_le.mpr hbl
  have hW : ∀ q, AW AX out q → ALs s q := fun q h => h.elim (fun h => hsX q h) (fun h => h ▸ hso)
  have hGd := hE.dis
  obtain ⟨i, e1, hi⟩ : ∃ z : Int, xs (t + 1) = wI z ∧ wR z := ⟨_, (wI_ofInt _).symm, wR_toInt _⟩
  refine w_aload_n X dL_law_1417 hl 3 rfl rfl ?_
  refine w_aload_n X dL_law_1418 hl 4 rfl rfl ?_
  refine w_iload X dL_law_1419 hl 0 rfl ?_
  refine w_iconst X dL_law_1421 ?_
  refine w_iadd X dL_law_1422 fun z_1 ez_1 => ?_
  refine w_sld (y := i) X hXs hbl hbA hS hL (t + 1) (by omega) (by omega) e1 dL_law_1423 ?_
  refine w_aload_n X dL_law_1424 hl 1 rfl rfl ?_
  refine w_ir (vx_runSW (As := [.ref x, .int (wI (i)), .ref out]) (rest := []) X (c_L_cost l hl9 g H AX out hno x σ hσ hXv fo hJ i hi) (vx_cwSW 3 X.2.2.2.2 gL_law_L_cost rfl rfl rfl (by decide +kernel) ⟨(Nat.le_of_ble_eq_true rfl), (Nat.le_of_ble_eq_true rfl)⟩) (w_pr2 hE hEs hNx hS hW) rfl rfl hl.1 rfl (lv_room (Nat.le_of_ble_eq_true rfl)) dL_law_1425 ⟨by show _ ≤ 634029; omega, by show _ ≤ 7194018; omega⟩) hS hW fun v1 H1 lo1 hp1 hz1 hq1 hS => ?_
  obtain ⟨rfl, hX1, fo1, hJ1, hf1⟩ := hp1
  have hcd := cd_r (((0 : Int) ≤ i ∧ i < (sn σ : Int))) (True) (True)
  have hM1 := hM.kept (fun k h1 h2 => hq1 _ (hM.lt k h1 h2) (fun h => h.elim (fun h => hdis _ h (hAM k h1 h2)) (fun h => hmo (h ▸ hAM k h1 h2))))
  obtain ⟨fs8, hOm⟩ := hM1.ob
  have hA1 : ∀ q, H1.size ≤ q → AX q := fun q hq => hA q (by omega)
  refine w_istore X [(5, .int (wI (cd (((0 : Int) ≤ i ∧ i < (sn σ : Int))) (True) (True)))), (4, .int (wI ((t : Int)))), (3, .ref out), (2, .ref (M 0)), (1, .ref x), (0, .ref B0)] dL_law_1428 hl (by decide) rfl fun ls hl => ?_
  refine w_aload_n X dL_law_1430 hl 3 rfl rfl ?_
  refine w_aload_n X dL_law_1431 hl 5 rfl rfl ?_
  refine w_iload X dL_law_1432 hl 1 rfl ?_
  refine w_iconst X dL_law_1434 ?_
  refine w_iadd X dL_law_1435 fun z_2 ez_2 => ?_
  refine w_sld (y := i) X hXs hbl hbA hS hL (t + 1) (by omega) (by omega) e1 dL_law_1436 ?_
  refine w_ir (va_runV (As := [.int (wI (i))]) (rest := []) X (c_X4_cost l g AM H1 M hAM hMj th σ hM1 hσ i hi) (cwV 1 X.2.2.2.2 gL_law_X4_cost rfl rfl rfl (by decide +kernel) ⟨(Nat.le_of_ble_eq_true rfl), (Nat.le_of_ble_eq_true rfl)⟩) (w_prVN hE hEs hS hsM hOm rfl) rfl rfl hl.1 rfl (lv_room (Nat.le_of_ble_eq_true rfl)) dL_law_1437 ⟨by show _ ≤ 634029; omega, by show _ ≤ 7194018; omega⟩) hS hsM fun v2 H2 lo2 hp2 hz2 hq2 hS => ?_
  obtain ⟨rfl, hM2⟩ := hp2
  obtain ⟨fs7, hOm2⟩ := hM2.ob
  have hX2 := hX1.kept (fun q h1 h2 => hq2 q h2 (hdis q h1))
  have hJ2 := hJ1.kept (hq2 _ hJ1.lt hmo)
  have hA2 : ∀ q, H2.size ≤ q → AX q := fun q hq => hA1 q (by omega)
  refine w_istore X [(6, .int (wI (stv (((0 : Int) ≤ i ∧ i < (sn σ : Int))) (True) (True) (cosS (sH σ i.toNat) (sT σ i.toNat) (sp σ i.toNat) (sb σ i.toNat) (so σ i.toNat))))), (5, .int (wI (cd (((0 : Int) ≤ i ∧ i < (sn σ : Int))) (True) (True)))), (4, .int (wI ((t : Int)))), (3, .ref out), (2, .ref (M 0)), (1, .ref x), (0, .ref B0)] dL_law_1440 hl (by decide) rfl fun ls hl => ?_
  refine w_aload_n X dL_law_1442 hl 4 rfl rfl ?_
  refine w_callV (v := .int (wI (cd (((0 : Int) ≤ i ∧ i < (sn σ : Int))) (True) (True)))) 0 X hE (c_X4_thrown l g H2 M (cd (((0 : Int) ≤ i ∧ i < (sn σ : Int))) (True) (True)) (stp (((0 : Int) ≤ i ∧ i < (sn σ : Int))) (True) (True) (σ) σ) hM2) hOm2 hl dL_law_1443 gL_law_X4_thrown rfl rfl (by decide +kernel) ⟨(Nat.le_of_ble_eq_true rfl), (Nat.le_of_ble_eq_true rfl)⟩ rfl rfl (Nat.le_of_ble_eq_true rfl) ⟨by show _ ≤ 634029; omega, by show _ ≤ 7194018; omega⟩ ?_
  refine w_iload X dL_law_1446 hl 1 rfl ?_
  refine w_icmp_eq X 1453 dL_law_1448 (by decide) (by omega) (by omega) (fun c_3 => ?_) (fun c_3 => ?_)
  · skip
    refine w_iload X dL_law_1453 hl 1 rfl ?_
    refine w_if_ne X 1470 dL_law_1455 (by decide) (by omega) (fun c_4 => ?_) (fun c_4 => ?_)
    · skip
      refine w_goto X 1486 dL_law_1470 (by decide) ?_
      refine W.widen (k := cells + 6) (n := slots + 39) (by omega) (by omega) ?_
      exact hk (stp (((0 : Int) ≤ i ∧ i < (sn σ : Int))) (True) (True) (σ) σ) (cd (((0 : Int) ≤ i ∧ i < (sn σ : Int))) (True) (True)) fo1 H2 lo2 ⟨stp_good (fun _ _ _ => hσ) hσ, hX2, hM2, hJ2, hS, hA2⟩ ls (lv_sub hl [2, 3, 4, 5, 6] rfl)
    · skip
      refine w_aload_n X dL_law_1458 hl 3 rfl rfl ?_
      refine w_iconst X dL_law_1459 ?_
      refine w_lald0 X hE hJ2 dL_law_1460 ?_
      rw [hf1 (by omega)]
      refine w_iload X dL_law_1461 hl 0 rfl ?_
      refine lv_i2l (v := (wI (stv (((0 : Int) ≤ i ∧ i < (sn σ : Int))) (True) (True) (cosS (sH σ i.toNat) (sT σ i.toNat) (sp σ i.toNat) (sb σ i.toNat) (so σ i.toNat)))).toInt64) X.1 X.2.1 dL_law_1463 rfl ?_
      refine w_lcmpEq X dL_law_1464 ?_
      refine w_if_eq X 1470 dL_law_1465 (by decide) (by omega) (fun c_5 => ?_) (fun c_5 => ?_)
      · skip
        refine w_goto X 1486 dL_law_1470 (by decide) ?_
        refine W.widen (k := cells + 6) (n := slots + 39) (by omega) (by omega) ?_
        exact hk (stp (((0 : Int) ≤ i ∧ i < (sn σ : Int))) (True) (True) (σ) σ) (cd (((0 : Int) ≤ i ∧ i < (sn σ : Int))) (True) (True)) fo1 H2 lo2 ⟨stp_good (fun _ _ _ => hσ) hσ, hX2, hM2, hJ2, hS, hA2⟩ ls (lv_sub hl [2, 3, 4, 5, 6] rfl)
      · skip
        exact absurd c_5 (by omega)
  · skip
    exact absurd c_3 (by omega)

set_option maxHeartbeats 4000000 in
set_option maxRecDepth 100000 in
theorem law_dearest {p : Program} {l : Launch} {e : Env} {s : State} {m : MethodId} {below : List Frame} {meth : Method} {c : Code} {B0 L : Nat} {xs : Nat → Int32} {g : wG} {x out : Nat} {M : Nat → Nat} {AX AM : Nat → Prop} {H : Heap} {locs : List Loc} {cells slots : Nat} {Q : State → Prop} {σ : St} {th : Int} {fo : Nat → Int64} (E : LE p l s m c B0 L xs g out M AX AM) (I : LI s g x out M AX σ th fo H locs) (hroom : cells + 6 ≤ 634029 ∧ slots + 39 ≤ 7194018) (t : Nat) (ht : t + 4 < L) (ls : Array Slot) (hl : lv_has ls 7 [(4, .int (wI ((t : Int)))), (3, .ref out), (2, .ref (M 0)), (1, .ref x), (0, .ref B0)])
    (hk : ∀ (σ1 : St) (th1 : Int) (fo1 : Nat → Int64) (H1 : Heap) (locs1 : List Loc), LI s g x out M AX σ1 th1 fo1 H1 locs1 → ∀ ls : Array Slot, lv_has ls 7 [(4, .int (wI ((t : Int)))), (3, .ref out), (2, .ref (M 0)), (1, .ref x), (0, .ref B0)] → W p l e room_1 s m #[Value.ref B0] below meth c H1 locs1 (cells + 6) (slots + 39) Q (F0 m 1486 ls [])) : W p l e room_1 s m #[Value.ref B0] below meth c H locs cells slots Q (F0 m 1473 ls []) := by
  obtain ⟨X, ⟨hE, hEs, hNx⟩, ⟨hXs, hbl, hl9, hL⟩, ⟨hsX, hsM, hso⟩, ⟨hdis, hno, hmo⟩, hAM, hMj⟩ := E
  obtain ⟨hσ, hXv, hM, hJ, hS, hA⟩ := I
  obtain ⟨hr1, hr2⟩ := hroom
  have hbA : ¬ ALs s B0 := Nat.not_le.mpr hbl
  have hW : ∀ q, AW AX out q → ALs s q := fun q h => h.elim (fun h => hsX q h) (fun h => h ▸ hso)
  have hGd := hE.dis
  obtain ⟨hAx, fs9, hxO⟩ := hXv.ob
  obtain ⟨fs8, hOm⟩ := hM.ob
  have hdr := dear_wR hσ
  refine w_aload_n X dL_law_1473 hl 3 rfl rfl ?_
  refine w_callV (v := .int (wI (dearS σ))) 0 X hE (c_X3_dearest l g H AX x σ hσ hXv) hxO hl dL_law_1474 gL_law_X3_dearest rfl rfl (by decide +kernel) ⟨(Nat.le_of_ble_eq_true rfl), (Nat.le_of_ble_eq_true rfl)⟩ rfl rfl (Nat.le_of_ble_eq_true rfl) ⟨by show _ ≤ 634029; omega, by show _ ≤ 7194018; omega⟩ ?_
  refine w_aload_n X dL_law_1477 hl 2 rfl rfl ?_
  refine w_ir (va_runV (As := []) (rest := [.int (wI (dearS σ))]) X (c_X4_dearest l g AM H M hAM hMj th σ hM hσ  ) (cwV 0 X.2.2.2.2 gL_law_X4_dearest rfl rfl rfl (by decide +kernel) ⟨(Nat.le_of_ble_eq_true rfl), (Nat.le_of_ble_eq_true rfl)⟩) (w_prVN hE hEs hS hsM hOm rfl) rfl rfl hl.1 rfl (lv_room (Nat.le_of_ble_eq_true rfl)) dL_law_1478 ⟨by show _ ≤ 634029; omega, by show _ ≤ 7194018; omega⟩) hS hsM fun v2 H2 lo2 hp2 hz2 hq2 hS => ?_
  obtain ⟨rfl, hM2⟩ := hp2
  obtain ⟨fs7, hOm2⟩ := hM2.ob
  have hX2 := hXv.kept (fun q h1 h2 => hq2 q h2 (hdis q h1))
  have hJ2 := hJ.kept (hq2 _ hJ.lt hmo)
  have hA2 : ∀ q, H2.size ≤ q → AX q := fun q hq => hA q (by omega)
  refine w_icmp_eq X 1486 dL_law_1481 (by decide) (by omega) (by omega) (fun c_1 => ?_) (fun c_1 => ?_)
  · skip
    refine W.widen (k := cells + 6) (n := slots + 39) (by omega) (by omega) ?_
    exact hk (σ) (0) fo H2 lo2 ⟨hσ, hX2, hM2, hJ2, hS, hA2⟩ ls (lv_sub hl [0, 1, 2, 3, 4] rfl)
  · skip
    exact absurd c_1 (by omega)
