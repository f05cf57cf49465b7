/-! the law: a turn -/
set_option maxHeartbeats 8000000 in
set_option maxRecDepth 100000 in
theorem law_checks {p : Program} {l : Launch} {e : Env} {s : State} {m : MethodId} {below : List Frame} {meth : Method} {c : Code} {B0 L : Nat} {xs : Nat → Int32} {g : wG} {x al ap ab : Nat} {AX : Nat → Prop} {H : Heap} {locs : List Loc} {cells slots : Nat} {Q : State → Prop} {σ : St} (E : LE p l s m c B0 L xs g al ap ab AX) (I : LI s g x al ap ab AX σ H locs) (hs1 : 1 ≤ sn σ) (t : Nat) (ht : t < 90) (z : Int32) (hroom : cells + 84 ≤ 600104 ∧ slots + 504 ≤ 7301314) (ls : Array Slot) (hl : lv_has ls 11 [(9, .int (wI (1))), (7, .int (z)), (6, .int (wI ((t : Int)))), (5, .int (wI ((sn σ : Int)))), (4, .ref ab), (3, .ref ap), (2, .ref al), (1, .ref x), (0, .ref B0)])
    (hk : ∀ (H1 : Heap) (locs1 : List Loc), LI s g x al ap ab AX σ H1 locs1 → ∀ ls : Array Slot, lv_has ls 11 [(6, .int (wI (((t + 1 : Nat) : Int)))), (5, .int (wI ((sn σ : Int)))), (4, .ref ab), (3, .ref ap), (2, .ref al), (1, .ref x), (0, .ref B0)] → W p l e room_1 s m #[Value.ref B0] below meth c H1 locs1 (cells + 84) (slots + 504) Q (F0 m 94 ls [])) : W p l e room_1 s m #[Value.ref B0] below meth c H locs cells slots Q (F0 m 307 ls []) := by
  obtain ⟨X, ⟨hE, hEs, hNx⟩, ⟨hXs, hbl, hl9, hL⟩, ⟨hsX, hXA⟩, ⟨hnl, hnp, hnb⟩, ⟨hlp, hlb, hpb⟩, hsl, hsp, hsb⟩ := id E
  obtain ⟨hσ, hs3, hXv, ⟨fl, hAl, hLA⟩, ⟨fp, hAp, hPA⟩, ⟨fb, hAb, hBA⟩, hS⟩ := id I
  obtain ⟨hAx, fs9, hxO⟩ := hXv.ob
  have hN : ∀ q, AX q → ALs s q := hsX
  have hbA : ¬ ALs s B0 := Nat.not_le.mpr hbl
  have hS1 := hS.1
  have hlA := hAl.lt
  have hpA := hAp.lt
  have hbA2 := hAb.lt
  have hAn : ∀ q, H.size ≤ q → AX q := fun q hq => hXA q (by omega) (by omega) (by omega) (by omega)
  have loop : ∀ (r n : Nat), n + r = sn σ → ∀ (H : Heap) (locs : List Loc), XInv g AX x σ H → IA g H al 20 fl → IA g H ap 24 fp → IA g H ab 54 fb → (∀ q, H.size ≤ q → AX q) → va_S (ALs s) s.heap H locs → ∀ ls : Array Slot, lv_has ls 11 [(10, .int (wI ((n : Int)))), (9, .int (wI (1))), (7, .int (z)), (6, .int (wI ((t : Int)))), (5, .int (wI ((sn σ : Int)))), (4, .ref ab), (3, .ref ap), (2, .ref al), (1, .ref x), (0, .ref B0)] → W p l e room_1 s m #[Value.ref B0] below meth c H locs (cells + 12 + 24 * n) (slots + 72 + 144 * n) Q (F0 m 352 ls []) := by
    intro r
    induction r with
    | zero =>
      intro n hr9 H locs hXv hAl hAp hAb hAn hS ls hl
      refine w_iload X dL_law_352 hl 0 rfl ?_
      refine w_iload X dL_law_354 hl 4 rfl ?_
      refine w_icmp_ge X 386 dL_law_356 (by decide) (by omega) (by omega) (fun c_1 => ?_) (fun c_1 => ?_)
      · skip
        refine w_iload X dL_law_386 hl 1 rfl ?_
        refine w_if_ne X 393 dL_law_388 (by decide) (by omega) (fun c_2 => ?_) (fun c_2 => ?_)
        · skip
          refine w_iinc X (fun z_3 => [(6, .int (wI (z_3))), (10, .int (wI ((n : Int)))), (9, .int (wI (1))), (7, .int (z)), (5, .int (wI ((sn σ : Int)))), (4, .ref ab), (3, .ref ap), (2, .ref al), (1, .ref x), (0, .ref B0)]) dL_law_393 hl 3 rfl (by decide) (fun _ => rfl) fun z_3 ez_3 ls hl => ?_
          refine w_goto X 94 dL_law_396 (by decide) ?_
          rw [show z_3 = ((t + 1 : Nat) : Int) by omega] at hl
          refine W.widen (k := cells + 84) (n := slots + 504) (by omega) (by omega) ?_
          exact hk H _ ⟨hσ, hs3, hXv, ⟨fl, hAl, hLA⟩, ⟨fp, hAp, hPA⟩, ⟨fb, hAb, hBA⟩, hS⟩ ls (lv_sub hl [0, 4, 5, 6, 7, 8, 9] rfl)
        · skip
          exact absurd c_2 (by omega)
      · skip
        exact absurd c_1 (by omega)
    | succ r ih =>
      intro n hr9 H locs hXv hAl hAp hAb hAn hS ls hl
      refine w_iload X dL_law_352 hl 0 rfl ?_
      refine w_iload X dL_law_354 hl 4 rfl ?_
      refine w_icmp_ge X 386 dL_law_356 (by decide) (by omega) (by omega) (fun c_1 => ?_) (fun c_1 => ?_)
      · skip
        exact absurd c_1 (by omega)
      · skip
        refine w_iload X dL_law_359 hl 1 rfl ?_
        refine w_if_eq X 386 dL_law_361 (by decide) (by omega) (fun c_2 => ?_) (fun c_2 => ?_)
        · skip
          exact absurd c_2 (by omega)
        · skip
          refine w_aload_n X dL_law_364 hl 8 rfl rfl ?_
          refine w_iload X dL_law_365 hl 0 rfl ?_
          refine w_iload X dL_law_367 hl 2 rfl ?_
          refine w_iconst X dL_law_369 ?_
          refine w_ishr X dL_law_370 fun v_3 => ?_
          refine w_aload_n X dL_law_371 hl 7 rfl rfl ?_
          refine w_aload_n X dL_law_372 hl 6 rfl rfl ?_
          refine w_aload X dL_law_373 hl 5 rfl ?_
          refine w_ir (va_runS (As := [.ref x, .int (wI ((n : Int))), .int (v_3), .ref al, .ref ap, .ref ab]) (rest := []) X (c_L_isPerson l hl9 g AX H hAn x σ hσ hXv (n : Int) (by omega) v_3 al _ hAl hLA hnl hs3 ap _ hAp hPA hnp ab _ hAb hBA hnb) (va_cwS 6 X.2.2.2.2 gL_law_L_isPerson rfl rfl rfl (by decide +kernel) ⟨(Nat.le_of_ble_eq_true rfl), (Nat.le_of_ble_eq_true rfl)⟩) (w_pr2 hE hEs hNx hS hN) rfl rfl hl.1 rfl (lv_room (Nat.le_of_ble_eq_true rfl)) dL_law_375 ⟨by show _ ≤ 600104; omega, by show _ ≤ 7301314; omega⟩) hS hN fun v1 H_4 lo1 hp_5 hz_6 hq_7 hS => ?_
          have hAl := hAl.kept (hq_7 _ hAl.lt hnl)
          have hAp := hAp.kept (hq_7 _ hAp.lt hnp)
          have hAb := hAb.kept (hq_7 _ hAb.lt hnb)
          obtain ⟨rfl, hXv⟩ := hp_5
          obtain ⟨hAx, fs9, hxO⟩ := hXv.ob
          have hAn : ∀ q, H_4.size ≤ q → AX q := fun q h => hAn q (by omega)
          refine w_istore X [(9, .int (wI (1))), (10, .int (wI ((n : Int)))), (7, .int (z)), (6, .int (wI ((t : Int)))), (5, .int (wI ((sn σ : Int)))), (4, .ref ab), (3, .ref ap), (2, .ref al), (1, .ref x), (0, .ref B0)] dL_law_378 hl (by decide) rfl fun ls hl => ?_
          refine w_iinc X (fun z_8 => [(10, .int (wI (z_8))), (9, .int (wI (1))), (7, .int (z)), (6, .int (wI ((t : Int)))), (5, .int (wI ((sn σ : Int)))), (4, .ref ab), (3, .ref ap), (2, .ref al), (1, .ref x), (0, .ref B0)]) dL_law_380 hl 1 rfl (by decide) (fun _ => rfl) fun z_8 ez_8 ls hl => ?_
          refine w_goto X 352 dL_law_383 (by decide) ?_
          rw [show z_8 = ((n + 1 : Nat) : Int) by omega] at hl
          refine W.widen (k := cells + 12 + 24 * (n + 1)) (n := slots + 72 + 144 * (n + 1)) (by omega) (by omega) ?_
          exact ih (n + 1) (by omega) H_4 _ hXv hAl hAp hAb hAn hS ls (lv_sub hl [0, 1, 2, 3, 4, 5, 6, 7, 8, 9] rfl)
  refine w_iload X dL_law_307 hl 0 rfl ?_
  refine w_if_eq X 346 dL_law_309 (by decide) (by omega) (fun c_1 => ?_) (fun c_1 => ?_)
  · skip
    exact absurd c_1 (by omega)
  · skip
    refine w_aload_n X dL_law_312 hl 7 rfl rfl ?_
    refine w_callV (v := .int (wI (sn σ : Int))) 0 X hE (c_X3_peopleP l g H AX x σ hσ hXv) hxO hl dL_law_313 gL_law_X3_people rfl rfl (by decide +kernel) ⟨(Nat.le_of_ble_eq_true rfl), (Nat.le_of_ble_eq_true rfl)⟩ rfl rfl (Nat.le_of_ble_eq_true rfl) ⟨by show _ ≤ 600104; omega, by show _ ≤ 7301314; omega⟩ ?_
    refine w_iload X dL_law_316 hl 3 rfl ?_
    refine w_icmp_ne X 346 dL_law_318 (by decide) (by omega) (by omega) (fun c_2 => ?_) (fun c_2 => ?_)
    · skip
      exact absurd c_2 (by omega)
    · skip
      refine w_aload_n X dL_law_321 hl 7 rfl rfl ?_
      refine w_iload X dL_law_322 hl 1 rfl ?_
      refine w_iconst X dL_law_324 ?_
      refine w_ishr X dL_law_325 fun v_3 => ?_
      refine w_aload_n X dL_law_326 hl 6 rfl rfl ?_
      refine w_ir (va_runS (As := [.ref x, .int (v_3), .ref al]) (rest := []) X (c_L_isLand l hl9 g AX H hAn x σ hσ hXv al _ hAl hLA hnl v_3) (va_cwS 3 X.2.2.2.2 gL_law_L_isLand rfl rfl rfl (by decide +kernel) ⟨(Nat.le_of_ble_eq_true rfl), (Nat.le_of_ble_eq_true rfl)⟩) (w_pr2 hE hEs hNx hS hN) rfl rfl hl.1 rfl (lv_room (Nat.le_of_ble_eq_true rfl)) dL_law_327 ⟨by show _ ≤ 600104; omega, by show _ ≤ 7301314; omega⟩) hS hN fun v1 H_4 lo1 hp_5 hz_6 hq_7 hS => ?_
      have hAl := hAl.kept (hq_7 _ hAl.lt hnl)
      have hAp := hAp.kept (hq_7 _ hAp.lt hnp)
      have hAb := hAb.kept (hq_7 _ hAb.lt hnb)
      obtain ⟨rfl, hXv⟩ := hp_5
      obtain ⟨hAx, fs9, hxO⟩ := hXv.ob
      have hAn : ∀ q, H_4.size ≤ q → AX q := fun q h => hAn q (by omega)
      refine w_if_eq X 346 dL_law_330 (by decide) (by omega) (fun c_8 => ?_) (fun c_8 => ?_)
      · skip
        exact absurd c_8 (by omega)
      · skip
        refine w_aload_n X dL_law_333 hl 7 rfl rfl ?_
        refine w_iload X dL_law_334 hl 3 rfl ?_
        refine w_ir (va_runS (As := [.ref x, .int (wI ((sn σ : Int)))]) (rest := []) X (c_L_dearest l hl9 g AX H_4 hAn x σ hσ hXv hs3 hs1) (va_cwS 2 X.2.2.2.2 gL_law_L_dearest rfl rfl rfl (by decide +kernel) ⟨(Nat.le_of_ble_eq_true rfl), (Nat.le_of_ble_eq_true rfl)⟩) (w_pr2 hE hEs hNx hS hN) rfl rfl hl.1 rfl (lv_room (Nat.le_of_ble_eq_true rfl)) dL_law_336 ⟨by show _ ≤ 600104; omega, by show _ ≤ 7301314; omega⟩) hS hN fun v1 H_9 lo1 hp_10 hz_11 hq_12 hS => ?_
        have hAl := hAl.kept (hq_12 _ hAl.lt hnl)
        have hAp := hAp.kept (hq_12 _ hAp.lt hnp)
        have hAb := hAb.kept (hq_12 _ hAb.lt hnb)
        obtain ⟨rfl, hXv⟩ := hp_10
        obtain ⟨hAx, fs9, hxO⟩ := hXv.ob
        have hAn : ∀ q, H_9.size ≤ q → AX q := fun q h => hAn q (by omega)
        refine w_if_eq X 346 dL_law_339 (by decide) (by omega) (fun c_13 => ?_) (fun c_13 => ?_)
        · skip
          exact absurd c_13 (by omega)
        · skip
          refine w_iconst X dL_law_342 ?_
          refine w_goto X 347 dL_law_343 (by decide) ?_
          refine w_istore X [(9, .int (wI (1))), (7, .int (z)), (6, .int (wI ((t : Int)))), (5, .int (wI ((sn σ : Int)))), (4, .ref ab), (3, .ref ap), (2, .ref al), (1, .ref x), (0, .ref B0)] dL_law_347 hl (by decide) rfl fun ls hl => ?_
          refine w_iconst X dL_law_349 ?_
          refine w_istore X [(10, .int (wI (0))), (9, .int (wI (1))), (7, .int (z)), (6, .int (wI ((t : Int)))), (5, .int (wI ((sn σ : Int)))), (4, .ref ab), (3, .ref ap), (2, .ref al), (1, .ref x), (0, .ref B0)] dL_law_350 hl (by decide) rfl fun ls hl => ?_
          refine W.widen (k := cells + 12 + 24 * 0) (n := slots + 72 + 144 * 0) (by omega) (by omega) ?_
          exact loop (sn σ) 0 (by omega) H_9 _ hXv hAl hAp hAb hAn hS ls (lv_sub hl [0, 1, 2, 3, 4, 5, 6, 7, 8, 9] rfl)

set_option maxHeartbeats 8000000 in
set_option maxRecDepth 100000 in
theorem law_add {p : Program} {l : Launch} {e : Env} {s : State} {m : MethodId} {below : List Frame} {meth : Method} {c : Code} {B0 L : Nat} {xs : Nat → Int32} {g : wG} {x al ap ab : Nat} {AX : Nat → Prop} {H : Heap} {locs : List Loc} {cells slots : Nat} {Q : State → Prop} {σ : St} (E : LE p l s m c B0 L xs g al ap ab AX) (I : LI s g x al ap ab AX σ H locs) (hs2 : sn σ < 3) (t : Nat) (z : Int32) (hroom : cells + 6 ≤ 600104 ∧ slots + 39 ≤ 7301314) (ls : Array Slot) (hl : lv_has ls 11 [(7, .int (z)), (6, .int (wI ((t : Int)))), (5, .int (wI ((sn σ : Int)))), (4, .ref ab), (3, .ref ap), (2, .ref al), (1, .ref x), (0, .ref B0)])
    (hk : ∀ (σ1 : St) (H1 : Heap) (locs1 : List Loc), LI s g x al ap ab AX σ1 H1 locs1 → 1 ≤ sn σ1 → ∀ ls : Array Slot, lv_has ls 11 [(9, .int (wI (1))), (7, .int (z)), (6, .int (wI ((t : Int)))), (5, .int (wI ((sn σ1 : Int)))), (4, .ref ab), (3, .ref ap), (2, .ref al), (1, .ref x), (0, .ref B0)] → W p l e room_1 s m #[Value.ref B0] below meth c H1 locs1 (cells + 6) (slots + 39) Q (F0 m 307 ls [])) : W p l e room_1 s m #[Value.ref B0] below meth c H locs cells slots Q (F0 m 137 ls []) := by
  obtain ⟨X, ⟨hE, hEs, hNx⟩, ⟨hXs, hbl, hl9, hL⟩, ⟨hsX, hXA⟩, ⟨hnl, hnp, hnb⟩, ⟨hlp, hlb, hpb⟩, hsl, hsp, hsb⟩ := id E
  obtain ⟨hσ, hs3, hXv, ⟨fl, hAl, hLA⟩, ⟨fp, hAp, hPA⟩, ⟨fb, hAb, hBA⟩, hS⟩ := id I
  obtain ⟨hAx, fs9, hxO⟩ := hXv.ob
  have hN : ∀ q, AX q → ALs s q := hsX
  have hbA : ¬ ALs s B0 := Nat.not_le.mpr hbl
  have hS1 := hS.1
  have hlA := hAl.lt
  have hpA := hAp.lt
  have hbA2 := hAb.lt
  have hAn : ∀ q, H.size ≤ q → AX q := fun q hq => hXA q (by omega) (by omega) (by omega) (by omega)
  have hz9 := hσ.2.2.2 (sn σ) (Nat.le_refl _)
  refine w_aload_n X dL_law_137 hl 4 rfl rfl ?_
  refine w_bipush X dL_law_138 (by decide) ?_
  refine w_iload X dL_law_140 hl 2 rfl ?_
  refine w_imul X dL_law_142 fun z_1 ez_1 => ?_
  refine w_iload X dL_law_143 hl 0 rfl ?_
  refine w_iconst X dL_law_145 ?_
  refine w_ishr X dL_law_146 fun v_2 => ?_
  refine w_iconst X dL_law_147 ?_
  refine w_low X hE (by omega) hl dL_law_148 gL_law_L_low ⟨(Nat.le_of_ble_eq_true rfl), (Nat.le_of_ble_eq_true rfl)⟩ (Nat.le_of_ble_eq_true rfl) ⟨by show _ ≤ 600104; omega, by show _ ≤ 7301314; omega⟩ fun y_3 hy_3a hy_3b => ?_
  refine w_iast X hE hAp hS (show ALs s ap from hsp) dL_law_151 (by omega) (by omega) (by omega) fun H_4 lo_5 hAp hz_6 hq_7 hS => ?_
  have hAl := hAl.kept (hq_7 _ hlp)
  have hAb := hAb.kept (hq_7 _ (Ne.symm hpb))
  have hXv := hXv.kept (fun q h1 h2 => hq_7 q (fun e => hnp (e ▸ h1)))
  obtain ⟨hAx, fs9, hxO⟩ := hXv.ob
  have hAn : ∀ q, H_4.size ≤ q → AX q := fun q h => hAn q (by omega)
  refine w_aload_n X dL_law_152 hl 4 rfl rfl ?_
  refine w_bipush X dL_law_153 (by decide) ?_
  refine w_iload X dL_law_155 hl 2 rfl ?_
  refine w_imul X dL_law_157 fun z_8 ez_8 => ?_
  refine w_iconst X dL_law_158 ?_
  refine w_iadd X dL_law_159 fun z_9 ez_9 => ?_
  refine w_aload_n X dL_law_160 hl 4 rfl rfl ?_
  refine w_bipush X dL_law_161 (by decide) ?_
  refine w_iload X dL_law_163 hl 2 rfl ?_
  refine w_imul X dL_law_165 fun z_10 ez_10 => ?_
  refine w_iald (y := wI (y_3)) X hE hAp dL_law_166 (by omega) (by omega) (by omega) (va_up_at _ _ (by omega)) ?_
  refine w_iconst X dL_law_167 ?_
  refine w_iadd X dL_law_168 fun z_11 ez_11 => ?_
  refine w_iload X dL_law_169 hl 0 rfl ?_
  refine w_bipush X dL_law_171 (by decide) ?_
  refine w_ishr X dL_law_173 fun v_12 => ?_
  refine w_iconst X dL_law_174 ?_
  refine w_low X hE (by omega) hl dL_law_175 gL_law_L_low ⟨(Nat.le_of_ble_eq_true rfl), (Nat.le_of_ble_eq_true rfl)⟩ (Nat.le_of_ble_eq_true rfl) ⟨by show _ ≤ 600104; omega, by show _ ≤ 7301314; omega⟩ fun y_13 hy_13a hy_13b => ?_
  refine w_iadd X dL_law_178 fun z_14 ez_14 => ?_
  refine w_iconst X dL_law_179 ?_
  refine w_irem X dL_law_180 (by omega) (by omega) fun z_15 ez_15 => ?_
  refine w_iast X hE hAp hS (show ALs s ap from hsp) dL_law_181 (by omega) (by omega) (by omega) fun H_16 lo_17 hAp hz_18 hq_19 hS => ?_
  have hAl := hAl.kept (hq_19 _ hlp)
  have hAb := hAb.kept (hq_19 _ (Ne.symm hpb))
  have hXv := hXv.kept (fun q h1 h2 => hq_19 q (fun e => hnp (e ▸ h1)))
  obtain ⟨hAx, fs9, hxO⟩ := hXv.ob
  have hAn : ∀ q, H_16.size ≤ q → AX q := fun q h => hAn q (by omega)
  refine w_aload_n X dL_law_182 hl 4 rfl rfl ?_
  refine w_bipush X dL_law_183 (by decide) ?_
  refine w_iload X dL_law_185 hl 2 rfl ?_
  refine w_imul X dL_law_187 fun z_20 ez_20 => ?_
  refine w_iconst X dL_law_188 ?_
  refine w_iadd X dL_law_189 fun z_21 ez_21 => ?_
  refine w_iload X dL_law_190 hl 0 rfl ?_
  refine w_bipush X dL_law_192 (by decide) ?_
  refine w_ishr X dL_law_194 fun v_22 => ?_
  refine w_sipush X dL_law_195 (by decide) ?_
  refine w_low X hE (by omega) hl dL_law_198 gL_law_L_low ⟨(Nat.le_of_ble_eq_true rfl), (Nat.le_of_ble_eq_true rfl)⟩ (Nat.le_of_ble_eq_true rfl) ⟨by show _ ≤ 600104; omega, by show _ ≤ 7301314; omega⟩ fun y_23 hy_23a hy_23b => ?_
  refine w_iast X hE hAp hS (show ALs s ap from hsp) dL_law_201 (by omega) (by omega) (by omega) fun H_24 lo_25 hAp hz_26 hq_27 hS => ?_
  have hAl := hAl.kept (hq_27 _ hlp)
  have hAb := hAb.kept (hq_27 _ (Ne.symm hpb))
  have hXv := hXv.kept (fun q h1 h2 => hq_27 q (fun e => hnp (e ▸ h1)))
  obtain ⟨hAx, fs9, hxO⟩ := hXv.ob
  have hAn : ∀ q, H_24.size ≤ q → AX q := fun q h => hAn q (by omega)
  refine w_aload_n X dL_law_202 hl 6 rfl rfl ?_
  refine w_aload_n X dL_law_203 hl 4 rfl rfl ?_
  refine w_bipush X dL_law_204 (by decide) ?_
  refine w_iload X dL_law_206 hl 2 rfl ?_
  refine w_imul X dL_law_208 fun z_28 ez_28 => ?_
  refine w_iald (y := wI (y_3)) X hE hAp dL_law_209 (by omega) (by omega) (by omega) ((va_up_ne _ _ (by omega)).trans ((va_up_ne _ _ (by omega)).trans (va_up_at _ _ (by omega)))) ?_
  refine w_aload_n X dL_law_210 hl 4 rfl rfl ?_
  refine w_bipush X dL_law_211 (by decide) ?_
  refine w_iload X dL_law_213 hl 2 rfl ?_
  refine w_imul X dL_law_215 fun z_29 ez_29 => ?_
  refine w_iconst X dL_law_216 ?_
  refine w_iadd X dL_law_217 fun z_30 ez_30 => ?_
  refine w_iald (y := wI (z_15)) X hE hAp dL_law_218 (by omega) (by omega) (by omega) ((va_up_ne _ _ (by omega)).trans (va_up_at _ _ (by omega))) ?_
  refine w_aload_n X dL_law_219 hl 4 rfl rfl ?_
  refine w_bipush X dL_law_220 (by decide) ?_
  refine w_iload X dL_law_222 hl 2 rfl ?_
  refine w_imul X dL_law_224 fun z_31 ez_31 => ?_
  refine w_iconst X dL_law_225 ?_
  refine w_iadd X dL_law_226 fun z_32 ez_32 => ?_
  refine w_iald (y := wI (y_23)) X hE hAp dL_law_227 (by omega) (by omega) (by omega) (va_up_at _ _ (by omega)) ?_
  refine w_xr (vx_runV (As := [.int (wI (y_3)), .int (wI (z_15)), .int (wI (y_23))]) (rest := []) X (c_X3_add l hl9 g AX H_24 hAn x σ hσ hXv (y_3) (z_15) (y_23) (by omega) (by omega) (by omega)) (cwV 3 X.2.2.2.2 gL_law_X3_add rfl rfl rfl (by decide +kernel) ⟨(Nat.le_of_ble_eq_true rfl), (Nat.le_of_ble_eq_true rfl)⟩) (w_prVN hE hEs hS hN hxO rfl) rfl rfl hl.1 rfl (lv_room (Nat.le_of_ble_eq_true rfl)) dL_law_228 ⟨by show _ ≤ 600104; omega, by show _ ≤ 7301314; omega⟩) hS hN ?_ fun v_38 H_33 lo_34 hp_35 hz_36 hq_37 hS => ?_
  · intro E ce q9 H9 lo9 hxp hz9 hq9 hS9 hce hcv hcl
    have hx9 := hxp.1
    exact absurd hx9 (by rintro (⟨-, r9⟩ | ⟨-, -, r9⟩) <;> omega)
  obtain ⟨-, rfl, hXv⟩ := hp_35
  obtain ⟨hAx, fs9, hxO⟩ := hXv.ob
  have hAl := hAl.kept (hq_37 _ hAl.lt hnl)
  have hAp := hAp.kept (hq_37 _ hAp.lt hnp)
  have hAb := hAb.kept (hq_37 _ hAb.lt hnb)
  have hAn : ∀ q, H_33.size ≤ q → AX q := fun q h => hAn q (by omega)
  have q1 : ∀ j, j < 7 → (up (up (up fp (z_1).toNat (wI (y_3))) (z_9).toNat (wI (z_15))) (z_21).toNat (wI (y_23))) (8 * sn σ + j) = wI ((newS (y_3) (z_15) (y_23)) j) :=
    fun j hj => by
      rcases (by omega : j = 0 ∨ j = 1 ∨ j = 2 ∨ j = 3 ∨ j = 4 ∨ j = 5 ∨ j = 6) with rfl | rfl | rfl | rfl | rfl | rfl | rfl
      · exact (va_up_ne _ _ (by omega)).trans ((va_up_ne _ _ (by omega)).trans (va_up_at _ _ (by omega)))
      · exact (va_up_ne _ _ (by omega)).trans (va_up_at _ _ (by omega))
      · exact va_up_at _ _ (by omega)
      · exact (va_up_ne _ _ (by omega)).trans ((va_up_ne _ _ (by omega)).trans ((va_up_ne _ _ (by omega)).trans (((hPA _ (by omega)).1 3 (by omega)).trans (by rw [hz9.2.1]; rfl))))
      · exact (va_up_ne _ _ (by omega)).trans ((va_up_ne _ _ (by omega)).trans ((va_up_ne _ _ (by omega)).trans (((hPA _ (by omega)).1 4 (by omega)).trans (by rw [hz9.2.2.1]; rfl))))
      · exact (va_up_ne _ _ (by omega)).trans ((va_up_ne _ _ (by omega)).trans ((va_up_ne _ _ (by omega)).trans (((hPA _ (by omega)).1 5 (by omega)).trans (by rw [hz9.2.2.2.1]; rfl))))
      · exact (va_up_ne _ _ (by omega)).trans ((va_up_ne _ _ (by omega)).trans ((va_up_ne _ _ (by omega)).trans (((hPA _ (by omega)).1 6 (by omega)).trans (by rw [hz9.2.2.2.2]; rfl))))
  have q2 : ∀ q, (q < 8 * sn σ ∨ 8 * sn σ + 7 ≤ q) → (up (up (up fp (z_1).toNat (wI (y_3))) (z_9).toNat (wI (z_15))) (z_21).toNat (wI (y_23))) q = fp q := fun q hq => (va_up_ne _ _ (by omega)).trans ((va_up_ne _ _ (by omega)).trans ((va_up_ne _ _ (by omega))))
  have hPA9 : PA (nxAdd σ (newS (y_3) (z_15) (y_23))) _ := hPA.add q1 q2
  have hσ9 : StGood (nxAdd σ (newS (y_3) (z_15) (y_23))) := hσ.add (by omega) (by show 0 ≤ y_3 ∧ y_3 < 4; omega) (by show 0 ≤ z_15 ∧ z_15 < 4; omega) (by show 0 ≤ y_23 ∧ y_23 ≤ 100000; omega) ⟨rfl, rfl, rfl, rfl⟩
  refine w_iload X dL_law_231 hl 2 rfl ?_
  refine w_icmp_ne X 240 dL_law_233 (by decide) (by omega) (by omega) (fun c_39 => ?_) (fun c_39 => ?_)
  · skip
    exact absurd c_39 (by omega)
  · skip
    refine w_iconst X dL_law_236 ?_
    refine w_goto X 241 dL_law_237 (by decide) ?_
    refine w_istore X [(9, .int (wI (1))), (7, .int (z)), (6, .int (wI ((t : Int)))), (5, .int (wI ((sn σ : Int)))), (4, .ref ab), (3, .ref ap), (2, .ref al), (1, .ref x), (0, .ref B0)] dL_law_241 hl (by decide) rfl fun ls hl => ?_
    refine w_iinc X (fun z_40 => [(5, .int (wI (z_40))), (9, .int (wI (1))), (7, .int (z)), (6, .int (wI ((t : Int)))), (4, .ref ab), (3, .ref ap), (2, .ref al), (1, .ref x), (0, .ref B0)]) dL_law_243 hl 3 rfl (by decide) (fun _ => rfl) fun z_40 ez_40 ls hl => ?_
    refine w_goto X 307 dL_law_246 (by decide) ?_
    rw [show z_40 = ((sn σ + 1 : Nat) : Int) by omega] at hl
    refine W.widen (k := cells + 6) (n := slots + 39) (by omega) (by omega) ?_
    exact hk (nxAdd σ (newS (y_3) (z_15) (y_23))) H_33 _ ⟨hσ9, (by show sn σ + 1 ≤ 3; omega), hXv, ⟨fl, hAl, hLA⟩, ⟨_, hAp, hPA9⟩, ⟨fb, hAb, hBA⟩, hS⟩ (by show 1 ≤ sn σ + 1; omega) ls (lv_sub hl [1, 2, 3, 0, 4, 5, 6, 7, 8] rfl)

set_option maxHeartbeats 8000000 in
set_option maxRecDepth 100000 in
theorem law_act {p : Program} {l : Launch} {e : Env} {s : State} {m : MethodId} {below : List Frame} {meth : Method} {c : Code} {B0 L : Nat} {xs : Nat → Int32} {g : wG} {x al ap ab : Nat} {AX : Nat → Prop} {H : Heap} {locs : List Loc} {cells slots : Nat} {Q : State → Prop} {σ : St} (E : LE p l s m c B0 L xs g al ap ab AX) (I : LI s g x al ap ab AX σ H locs) (hs1 : 1 ≤ sn σ) (act : Int) (hact : 0 ≤ act ∧ act < 9) (t : Nat) (z : Int32) (hroom : cells + 6 ≤ 600104 ∧ slots + 39 ≤ 7301314) (ls : Array Slot) (hl : lv_has ls 11 [(8, .int (wI (act))), (7, .int (z)), (6, .int (wI ((t : Int)))), (5, .int (wI ((sn σ : Int)))), (4, .ref ab), (3, .ref ap), (2, .ref al), (1, .ref x), (0, .ref B0)])
    (hk : ∀ (σ1 : St) (H1 : Heap) (locs1 : List Loc), LI s g x al ap ab AX σ1 H1 locs1 → 1 ≤ sn σ1 → ∀ ls : Array Slot, lv_has ls 11 [(9, .int (wI (1))), (7, .int (z)), (6, .int (wI ((t : Int)))), (5, .int (wI ((sn σ1 : Int)))), (4, .ref ab), (3, .ref ap), (2, .ref al), (1, .ref x), (0, .ref B0)] → W p l e room_1 s m #[Value.ref B0] below meth c H1 locs1 (cells + 6) (slots + 39) Q (F0 m 307 ls [])) : W p l e room_1 s m #[Value.ref B0] below meth c H locs cells slots Q (F0 m 249 ls []) := by
  obtain ⟨X, ⟨hE, hEs, hNx⟩, ⟨hXs, hbl, hl9, hL⟩, ⟨hsX, hXA⟩, ⟨hnl, hnp, hnb⟩, ⟨hlp, hlb, hpb⟩, hsl, hsp, hsb⟩ := id E
  obtain ⟨hσ, hs3, hXv, ⟨fl, hAl, hLA⟩, ⟨fp, hAp, hPA⟩, ⟨fb, hAb, hBA⟩, hS⟩ := id I
  obtain ⟨hAx, fs9, hxO⟩ := hXv.ob
  have hN : ∀ q, AX q → ALs s q := hsX
  have hbA : ¬ ALs s B0 := Nat.not_le.mpr hbl
  have hS1 := hS.1
  have hlA := hAl.lt
  have hpA := hAp.lt
  have hbA2 := hAb.lt
  have hAn : ∀ q, H.size ≤ q → AX q := fun q hq => hXA q (by omega) (by omega) (by omega) (by omega)
  have hNl : ∀ q, AW AX al q → ALs s q := fun q h => h.elim (fun h => hsX q h) (fun h => h ▸ hsl)
  have hNp : ∀ q, AW2 AX ap ab q → ALs s q := fun q h => h.elim (fun h => hsX q h) (fun h => h.elim (fun h => h ▸ hsp) (fun h => h ▸ hsb))
  have kpl : ¬ AW AX al ap := fun h => h.elim hnp (fun h => hlp h.symm)
  have kbl : ¬ AW AX al ab := fun h => h.elim hnb (fun h => hlb h.symm)
  have klp : ¬ AW2 AX ap ab al := fun h => h.elim hnl (fun h => h.elim hlp hlb)
  refine w_iload X dL_law_249 hl 0 rfl ?_
  refine w_iconst X dL_law_251 ?_
  refine w_icmp_ge X 269 dL_law_252 (by decide) (by omega) (by omega) (fun c_1 => ?_) (fun c_1 => ?_)
  · skip
    refine w_aload_n X dL_law_269 hl 7 rfl rfl ?_
    refine w_iload X dL_law_270 hl 0 rfl ?_
    refine w_bipush X dL_law_272 (by decide) ?_
    refine w_icmp_le X 281 dL_law_274 (by decide) (by omega) (by omega) (fun c_2 => ?_) (fun c_2 => ?_)
    · skip
      refine w_iload X dL_law_281 hl 0 rfl ?_
      refine w_iconst X dL_law_283 ?_
      refine w_isub X dL_law_284 fun z_3 ez_3 => ?_
      refine w_iload X dL_law_285 hl 1 rfl ?_
      refine w_iconst X dL_law_287 ?_
      refine w_ishr X dL_law_288 fun v_4 => ?_
      refine w_iload X dL_law_289 hl 3 rfl ?_
      refine w_low X hE (by omega) hl dL_law_291 gL_law_L_low ⟨(Nat.le_of_ble_eq_true rfl), (Nat.le_of_ble_eq_true rfl)⟩ (Nat.le_of_ble_eq_true rfl) ⟨by show _ ≤ 600104; omega, by show _ ≤ 7301314; omega⟩ fun y_5 hy_5a hy_5b => ?_
      refine w_iload X dL_law_294 hl 1 rfl ?_
      refine w_bipush X dL_law_296 (by decide) ?_
      refine w_ishr X dL_law_298 fun v_6 => ?_
      refine w_aload_n X dL_law_299 hl 5 rfl rfl ?_
      refine w_aload X dL_law_300 hl 4 rfl ?_
      refine w_ir (va_runS (As := [.ref x, .int (wI (z_3)), .int (wI (y_5)), .int (v_6), .ref ap, .ref ab]) (rest := []) X (c_L_person l hl9 g AX H hAn x σ hσ hXv (z_3) (by omega) (y_5) (by omega) v_6 hs3 ap _ hAp hPA hnp ab _ hAb hBA hnb hpb) (va_cwS 6 X.2.2.2.2 gL_law_L_person rfl rfl rfl (by decide +kernel) ⟨(Nat.le_of_ble_eq_true rfl), (Nat.le_of_ble_eq_true rfl)⟩) (w_pr2 hE hEs hNx hS hNp) rfl rfl hl.1 rfl (lv_room (Nat.le_of_ble_eq_true rfl)) dL_law_302 ⟨by show _ ≤ 600104; omega, by show _ ≤ 7301314; omega⟩) hS hNp fun v1 H_7 lo1 hp_8 hz_9 hq_10 hS => ?_
      have hAl := hAl.kept (hq_10 _ hAl.lt klp)
      obtain ⟨rfl, σ9, fp9, fb9, e1, e2, hσ9, hXv, hAp, hPA9, hAb, hBA9⟩ := hp_8
      obtain ⟨hAx, fs9, hxO⟩ := hXv.ob
      have hAn : ∀ q, H_7.size ≤ q → AX q := fun q h => hAn q (by omega)
      refine w_istore X [(9, .int (wI (1))), (8, .int (wI (act))), (7, .int (z)), (6, .int (wI ((t : Int)))), (5, .int (wI ((sn σ : Int)))), (4, .ref ab), (3, .ref ap), (2, .ref al), (1, .ref x), (0, .ref B0)] dL_law_305 hl (by decide) rfl fun ls hl => ?_
      refine W.widen (k := cells + 6) (n := slots + 39) (by omega) (by omega) ?_
      rw [← e2] at hl
      exact hk σ9 H_7 _ ⟨hσ9, by omega, hXv, ⟨fl, hAl, fun i k hi hk => by rw [e1]; exact hLA i k hi hk⟩, ⟨fp9, hAp, hPA9⟩, ⟨fb9, hAb, hBA9⟩, hS⟩ (by omega) ls (lv_sub hl [0, 2, 3, 4, 5, 6, 7, 8, 9] rfl)
    · skip
      refine w_iconst X dL_law_277 ?_
      refine w_goto X 285 dL_law_278 (by decide) ?_
      refine w_iload X dL_law_285 hl 1 rfl ?_
      refine w_iconst X dL_law_287 ?_
      refine w_ishr X dL_law_288 fun v_11 => ?_
      refine w_iload X dL_law_289 hl 3 rfl ?_
      refine w_low X hE (by omega) hl dL_law_291 gL_law_L_low ⟨(Nat.le_of_ble_eq_true rfl), (Nat.le_of_ble_eq_true rfl)⟩ (Nat.le_of_ble_eq_true rfl) ⟨by show _ ≤ 600104; omega, by show _ ≤ 7301314; omega⟩ fun y_12 hy_12a hy_12b => ?_
      refine w_iload X dL_law_294 hl 1 rfl ?_
      refine w_bipush X dL_law_296 (by decide) ?_
      refine w_ishr X dL_law_298 fun v_13 => ?_
      refine w_aload_n X dL_law_299 hl 5 rfl rfl ?_
      refine w_aload X dL_law_300 hl 4 rfl ?_
      refine w_ir (va_runS (As := [.ref x, .int (wI (3)), .int (wI (y_12)), .int (v_13), .ref ap, .ref ab]) (rest := []) X (c_L_person l hl9 g AX H hAn x σ hσ hXv (3) (by omega) (y_12) (by omega) v_13 hs3 ap _ hAp hPA hnp ab _ hAb hBA hnb hpb) (va_cwS 6 X.2.2.2.2 gL_law_L_person rfl rfl rfl (by decide +kernel) ⟨(Nat.le_of_ble_eq_true rfl), (Nat.le_of_ble_eq_true rfl)⟩) (w_pr2 hE hEs hNx hS hNp) rfl rfl hl.1 rfl (lv_room (Nat.le_of_ble_eq_true rfl)) dL_law_302 ⟨by show _ ≤ 600104; omega, by show _ ≤ 7301314; omega⟩) hS hNp fun v1 H_14 lo1 hp_15 hz_16 hq_17 hS => ?_
      have hAl := hAl.kept (hq_17 _ hAl.lt klp)
      obtain ⟨rfl, σ9, fp9, fb9, e1, e2, hσ9, hXv, hAp, hPA9, hAb, hBA9⟩ := hp_15
      obtain ⟨hAx, fs9, hxO⟩ := hXv.ob
      have hAn : ∀ q, H_14.size ≤ q → AX q := fun q h => hAn q (by omega)
      refine w_istore X [(9, .int (wI (1))), (8, .int (wI (act))), (7, .int (z)), (6, .int (wI ((t : Int)))), (5, .int (wI ((sn σ : Int)))), (4, .ref ab), (3, .ref ap), (2, .ref al), (1, .ref x), (0, .ref B0)] dL_law_305 hl (by decide) rfl fun ls hl => ?_
      refine W.widen (k := cells + 6) (n := slots + 39) (by omega) (by omega) ?_
      rw [← e2] at hl
      exact hk σ9 H_14 _ ⟨hσ9, by omega, hXv, ⟨fl, hAl, fun i k hi hk => by rw [e1]; exact hLA i k hi hk⟩, ⟨fp9, hAp, hPA9⟩, ⟨fb9, hAb, hBA9⟩, hS⟩ (by omega) ls (lv_sub hl [0, 2, 3, 4, 5, 6, 7, 8, 9] rfl)
  · skip
    refine w_aload_n X dL_law_255 hl 7 rfl rfl ?_
    refine w_iload X dL_law_256 hl 1 rfl ?_
    refine w_iconst X dL_law_258 ?_
    refine w_ishr X dL_law_259 fun v_18 => ?_
    refine w_aload_n X dL_law_260 hl 6 rfl rfl ?_
    refine w_ir (va_runS (As := [.ref x, .int (v_18), .ref al]) (rest := []) X (c_L_lands l hl9 g AX H hAn x σ hσ hXv al _ hAl hLA hnl v_18) (va_cwS 3 X.2.2.2.2 gL_law_L_lands rfl rfl rfl (by decide +kernel) ⟨(Nat.le_of_ble_eq_true rfl), (Nat.le_of_ble_eq_true rfl)⟩) (w_pr2 hE hEs hNx hS hNl) rfl rfl hl.1 rfl (lv_room (Nat.le_of_ble_eq_true rfl)) dL_law_261 ⟨by show _ ≤ 600104; omega, by show _ ≤ 7301314; omega⟩) hS hNl fun v1 H_19 lo1 hp_20 hz_21 hq_22 hS => ?_
    have hAp := hAp.kept (hq_22 _ hAp.lt kpl)
    have hAb := hAb.kept (hq_22 _ hAb.lt kbl)
    obtain ⟨rfl, i9, L9, fl9, hi9, hσ9, hXv, hAl, hLA9⟩ := hp_20
    obtain ⟨hAx, fs9, hxO⟩ := hXv.ob
    have hAn : ∀ q, H_19.size ≤ q → AX q := fun q h => hAn q (by omega)
    refine w_istore X [(9, .int (wI (1))), (8, .int (wI (act))), (7, .int (z)), (6, .int (wI ((t : Int)))), (5, .int (wI ((sn σ : Int)))), (4, .ref ab), (3, .ref ap), (2, .ref al), (1, .ref x), (0, .ref B0)] dL_law_264 hl (by decide) rfl fun ls hl => ?_
    refine w_goto X 307 dL_law_266 (by decide) ?_
    refine W.widen (k := cells + 6) (n := slots + 39) (by omega) (by omega) ?_
    exact hk (nxLand σ i9 L9) H_19 _ ⟨hσ9, hs3, hXv, ⟨fl9, hAl, hLA9⟩, ⟨fp, hAp, hPA⟩, ⟨fb, hAb, hBA⟩, hS⟩ hs1 ls (lv_sub hl [0, 2, 3, 4, 5, 6, 7, 8, 9] rfl)
