/-! the law, from its entry -/
theorem env_ex {s : State} {b : Addr} (hts : ∀ w ∈ lw_tbl, w.before #[Value.ref b] s = true) (hgv : (Jvm.Cond.and given_1 narrow_1).before #[Value.ref b] s = true) : ∃ g : wG, Ek g s ∧ Es g (ALs s) s s.heap ∧ Nx s := by
  obtain ⟨D, hD⟩ := env_cls hts
  obtain ⟨cI, cO, cJ, hT⟩ := env_arr hts
  obtain ⟨f, hf⟩ := env_str hts hgv
  obtain ⟨a, t1, t2, t3⟩ := env_te hgv
  have hs := flat_of_before _ hgv
  have hA : ∀ q : Nat, q < s.heap.size → ¬ ALs s q := fun q h => Nat.not_le.mpr h
  refine ⟨(D, cI, cO, cJ, f, a), ⟨⟨hD, hT⟩, fun w hw => va_Nw.of (by have q := List.all_eq_true.mp EW_ok w hw; simp only [Bool.and_eq_true] at q; exact q.1) (hts w (EW_in w hw)), fun q hq => va_Nw.of rfl (hts _ (NW_in q hq)), va_Nw.of rfl (hts _ (tb_in (i := 57) (by decide +kernel))), va_AO.of (hts _ (tb_in (i := 130) (by decide +kernel))), hf⟩, ⟨?_, ?_, ?_, t3, hA _ t2⟩, ⟨⟨va_Nc.of (hs _ (by decide +kernel)), va_Nc.of (hs _ (by decide +kernel)), va_Nc.of (hs _ (by decide +kernel))⟩, va_Nw.of rfl (hts _ (tb_in (i := 280) (by decide +kernel))), va_Nw.of rfl (hts _ (tb_in (i := 406) (by decide +kernel))), va_Nw.of rfl (hts _ (tb_in (i := 472) (by decide +kernel)))⟩⟩
  · exact vx_Zqof (hts _ (tb_in (i := 305) (by decide +kernel))) (hts _ (tb_in (i := 11) (by decide +kernel))) (hs _ (by decide +kernel)) hA
  · exact vx_Zqof (hts _ (tb_in (i := 307) (by decide +kernel))) (hts _ (tb_in (i := 11) (by decide +kernel))) (hs _ (by decide +kernel)) hA
  · exact va_Zref (hts _ (tb_in (i := 42) (by decide +kernel))) (hts _ (tb_in (i := 4) (by decide +kernel))) t1 hA

set_option maxHeartbeats 8000000 in
set_option maxRecDepth 100000 in
theorem law_loop {p : Program} {l : Launch} {e : Env} {s : State} {m : MethodId} {below : List Frame} {meth : Method} {c : Code} {B0 L : Nat} {xs : Nat → Int32} {g : wG} {x out : Nat} {M : Nat → Nat} {AX AM : Nat → Prop} (C0 : lw_At p s m meth c B0 L xs) (E : LE p l s m c B0 L xs g out M AX AM) : ∀ (n t : Nat), t ≤ L → L + 1 ≤ t + n → ∀ (σ : St) (th : Int) (fo : Nat → Int64) (H : Heap) (locs : List Loc), LI s g x out M AX σ th fo H locs → ∀ ls : Array Slot, lv_has ls 7 [(4, .int (wI ((t : Int)))), (3, .ref out), (2, .ref (M 0)), (1, .ref x), (0, .ref B0)] → W p l e room_1 s m #[Value.ref B0] below meth c H locs (27 + 2 * t) (365 + 8 * t) (lw_Z below #[Value.ref B0] s) (F0 m 23 ls []) := by
  obtain ⟨-, -, hr, -, -, -, -, -, hlocks, -⟩ := C0
  obtain ⟨X, ⟨hE, hEs, hNx⟩, ⟨hXs, hbl, hl9, hL⟩, ⟨hsX, hsM, hso⟩, ⟨hdis, hno, hmo⟩, hAM, hMj⟩ := id E
  have hbA : ¬ ALs s B0 := Nat.not_le.mpr hbl
  intro n
  induction n with
  | zero => intro t h1 h2; exact absurd h2 (by omega)
  | succ n ih =>
    intro t h1 h2 σ th fo H locs I ls hl
    have hS := I.2.2.2.2.1
    obtain ⟨y0, e0, hy0⟩ : ∃ z : Int, xs (t + 0) = wI z ∧ wR z := ⟨_, (wI_ofInt _).symm, wR_toInt _⟩
    refine w_iload X dL_law_23 hl 0 rfl ?_
    refine w_aload_n X dL_law_25 hl 4 rfl rfl ?_
    refine w_slen X hXs hbl hbA hS dL_law_26 ?_
    refine w_iconst X dL_law_27 ?_
    refine w_isub X dL_law_28 fun z_1 ez_1 => ?_
    refine w_icmp_gt X 1492 dL_law_29 (by decide) (by omega) (by omega) (fun c_2 => ?_) (fun c_2 => ?_)
    · skip
      refine w_iconst X dL_law_1492 ?_
      rw [wI_1]
      refine va_forget (fun q hq => hS.2.2 q hq) ?_
      refine W.widen (k := 634029) (n := 7194018) (by omega) (by omega) ?_
      exact lw_ret X.1 X.2.1 hr hlocks dL_law_1493
    · skip
      refine w_aload_n X dL_law_32 hl 4 rfl rfl ?_
      refine w_iload X dL_law_33 hl 0 rfl ?_
      have ht : t + 4 < L := by omega
      refine w_sld (y := y0) X hXs hbl hbA hS hL (t + 0) (by omega) (by omega) e0 dL_law_35 ?_
      refine w_bipush X dL_law_36 (by decide) ?_
      refine lv_iand X.1 X.2.1 dL_law_38 ?_
      refine lv_topi (fun v ev => ?_)
      have K : ∀ (σ1 : St) (th1 : Int) (fo1 : Nat → Int64) (H1 : Heap) (locs1 : List Loc), LI s g x out M AX σ1 th1 fo1 H1 locs1 → ∀ ls : Array Slot, lv_has ls 7 [(4, .int (wI ((t : Int)))), (3, .ref out), (2, .ref (M 0)), (1, .ref x), (0, .ref B0)] → W p l e room_1 s m #[Value.ref B0] below meth c H1 locs1 (27 + 2 * t + 6) (365 + 8 * t + 39) (lw_Z below #[Value.ref B0] s) (F0 m 1486 ls []) := by
        intro σ1 th1 fo1 H1 locs1 I1 ls hl
        refine w_iinc X (fun z => [(4, .int (wI (z))), (3, .ref out), (2, .ref (M 0)), (1, .ref x), (0, .ref B0)]) dL_law_1486 hl 0 rfl (by decide) (fun _ => rfl) fun z ez ls hl => ?_
        refine w_goto X 23 dL_law_1489 (by decide) ?_
        rw [show z = ((t + 5 : Nat) : Int) by omega] at hl
        refine W.widen (k := 27 + 2 * (t + 5)) (n := 365 + 8 * (t + 5)) (by omega) (by omega) ?_
        exact ih (t + 5) (by omega) (by omega) σ1 th1 fo1 H1 locs1 I1 ls hl
      by_cases h1 : v.toInt < 0
      · refine lv_tableOut (tgt := 1486) X.1 X.2.1 dL_law_39 (Or.inl h1) (by decide) ?_
        refine W.widen (k := 27 + 2 * t + 6) (n := 365 + 8 * t + 39) (by omega) (by omega) ?_
        exact K σ th fo H locs I ls hl
      by_cases h2 : 21 < v.toInt
      · refine lv_tableOut (tgt := 1486) X.1 X.2.1 dL_law_39 (Or.inr h2) (by decide) ?_
        refine W.widen (k := 27 + 2 * t + 6) (n := 365 + 8 * t + 39) (by omega) (by omega) ?_
        exact K σ th fo H locs I ls hl
      obtain ⟨k, hk⟩ : ∃ k : Nat, v.toInt = (k : Int) := ⟨v.toInt.toNat, by omega⟩
      rcases (by omega : k = 0 ∨ k = 1 ∨ k = 2 ∨ k = 3 ∨ k = 4 ∨ k = 5 ∨ k = 6 ∨ k = 7 ∨ k = 8 ∨ k = 9 ∨ k = 10 ∨ k = 11 ∨ k = 12 ∨ k = 13 ∨ k = 14 ∨ k = 15 ∨ k = 16 ∨ k = 17 ∨ k = 18 ∨ k = 19 ∨ k = 20 ∨ k = 21) with rfl | rfl | rfl | rfl | rfl | rfl | rfl | rfl | rfl | rfl | rfl | rfl | rfl | rfl | rfl | rfl | rfl | rfl | rfl | rfl | rfl | rfl
      · refine lv_tableIn (off := 101) (tgt := 140) X.1 X.2.1 dL_law_39 h1 h2 (by rw [hk]; rfl) (by decide) ?_
        exact law_setLimits E I ⟨by omega, by omega⟩ t ht ls hl K
      · refine lv_tableIn (off := 161) (tgt := 200) X.1 X.2.1 dL_law_39 h1 h2 (by rw [hk]; rfl) (by decide) ?_
        exact law_setRates E I ⟨by omega, by omega⟩ t ht ls hl K
      · refine lv_tableIn (off := 233) (tgt := 272) X.1 X.2.1 dL_law_39 h1 h2 (by rw [hk]; rfl) (by decide) ?_
        exact law_tax E I ⟨by omega, by omega⟩ t ht ls hl K
      · refine lv_tableIn (off := 301) (tgt := 340) X.1 X.2.1 dL_law_39 h1 h2 (by rw [hk]; rfl) (by decide) ?_
        exact law_grossTax E I ⟨by omega, by omega⟩ t ht ls hl K
      · refine lv_tableIn (off := 369) (tgt := 408) X.1 X.2.1 dL_law_39 h1 h2 (by rw [hk]; rfl) (by decide) ?_
        exact law_grossTaxByTrying E I ⟨by omega, by omega⟩ t ht ls hl K
      · refine lv_tableIn (off := 437) (tgt := 476) X.1 X.2.1 dL_law_39 h1 h2 (by rw [hk]; rfl) (by decide) ?_
        exact law_add E I ⟨by omega, by omega⟩ t ht ls hl K
      · refine lv_tableIn (off := 517) (tgt := 556) X.1 X.2.1 dL_law_39 h1 h2 (by rw [hk]; rfl) (by decide) ?_
        exact law_setAbroad E I ⟨by omega, by omega⟩ t ht ls hl K
      · refine lv_tableIn (off := 597) (tgt := 636) X.1 X.2.1 dL_law_39 h1 h2 (by rw [hk]; rfl) (by decide) ?_
        exact law_setPay E I ⟨by omega, by omega⟩ t ht ls hl K
      · refine lv_tableIn (off := 665) (tgt := 704) X.1 X.2.1 dL_law_39 h1 h2 (by rw [hk]; rfl) (by decide) ?_
        exact law_setHousing E I ⟨by omega, by omega⟩ t ht ls hl K
      · refine lv_tableIn (off := 745) (tgt := 784) X.1 X.2.1 dL_law_39 h1 h2 (by rw [hk]; rfl) (by decide) ?_
        exact law_addBonus E I ⟨by omega, by omega⟩ t ht ls hl K
      · refine lv_tableIn (off := 837) (tgt := 876) X.1 X.2.1 dL_law_39 h1 h2 (by rw [hk]; rfl) (by decide) ?_
        exact law_people E I ⟨by omega, by omega⟩ t ht ls hl K
      · refine lv_tableIn (off := 850) (tgt := 889) X.1 X.2.1 dL_law_39 h1 h2 (by rw [hk]; rfl) (by decide) ?_
        exact law_abroadPart E I ⟨by omega, by omega⟩ t ht ls hl K
      · refine lv_tableIn (off := 918) (tgt := 957) X.1 X.2.1 dL_law_39 h1 h2 (by rw [hk]; rfl) (by decide) ?_
        exact law_held E I ⟨by omega, by omega⟩ t ht ls hl K
      · refine lv_tableIn (off := 986) (tgt := 1025) X.1 X.2.1 dL_law_39 h1 h2 (by rw [hk]; rfl) (by decide) ?_
        exact law_supposedTax E I ⟨by omega, by omega⟩ t ht ls hl K
      · refine lv_tableIn (off := 1042) (tgt := 1081) X.1 X.2.1 dL_law_39 h1 h2 (by rw [hk]; rfl) (by decide) ?_
        exact law_homeIncome E I ⟨by omega, by omega⟩ t ht ls hl K
      · refine lv_tableIn (off := 1098) (tgt := 1137) X.1 X.2.1 dL_law_39 h1 h2 (by rw [hk]; rfl) (by decide) ?_
        exact law_homeTax E I ⟨by omega, by omega⟩ t ht ls hl K
      · refine lv_tableIn (off := 1154) (tgt := 1193) X.1 X.2.1 dL_law_39 h1 h2 (by rw [hk]; rfl) (by decide) ?_
        exact law_hostIncome E I ⟨by omega, by omega⟩ t ht ls hl K
      · refine lv_tableIn (off := 1210) (tgt := 1249) X.1 X.2.1 dL_law_39 h1 h2 (by rw [hk]; rfl) (by decide) ?_
        exact law_hostTax E I ⟨by omega, by omega⟩ t ht ls hl K
      · refine lv_tableIn (off := 1266) (tgt := 1305) X.1 X.2.1 dL_law_39 h1 h2 (by rw [hk]; rfl) (by decide) ?_
        exact law_borne E I ⟨by omega, by omega⟩ t ht ls hl K
      · refine lv_tableIn (off := 1322) (tgt := 1361) X.1 X.2.1 dL_law_39 h1 h2 (by rw [hk]; rfl) (by decide) ?_
        exact law_settlement E I ⟨by omega, by omega⟩ t ht ls hl K
      · refine lv_tableIn (off := 1378) (tgt := 1417) X.1 X.2.1 dL_law_39 h1 h2 (by rw [hk]; rfl) (by decide) ?_
        exact law_cost E I ⟨by omega, by omega⟩ t ht ls hl K
      · refine lv_tableIn (off := 1434) (tgt := 1473) X.1 X.2.1 dL_law_39 h1 h2 (by rw [hk]; rfl) (by decide) ?_
        exact law_dearest E I ⟨by omega, by omega⟩ t ht ls hl K

set_option maxHeartbeats 8000000 in
set_option maxRecDepth 100000 in
theorem whole_start {p : Program} {e : Env} {s : State} {m : MethodId} {below : List Frame} {meth : Method} {c : Code} (l : Launch) (hflags : l.flags = flags0) {B0 L : Nat} {xs : Nat → Int32} (hL : L ≤ 2560) (C0 : lw_At p s m meth c B0 L xs) : W p l e room_1 s m #[Value.ref B0] below meth c s.heap [] 0 0 (lw_Z below #[Value.ref B0] s) (entryFrame m ([Value.ref B0] : List Value).toArray 7) := by
  obtain ⟨hx, hb, hr, hml, hown, hts, hXs, hbl, hlocks, hgv⟩ := id C0
  obtain ⟨g, hE, hEs, hNx⟩ := env_ex hts hgv
  have hl9 : l.stackTraces = false := by
    show (!l.flags.contains noTraceFlag) = false
    rw [hflags]
    decide +kernel
  have X : CallFix p m c code 7 s #[Value.ref B0] wsL_law RL := ⟨hx, hb, hml, hown, fun w h => hts w (wsL_law_in w h)⟩
  have hbA : ¬ ALs s B0 := Nat.not_le.mpr hbl
  have hS : va_S (ALs s) s.heap s.heap [] := va_S.rf
  have hl := lv_entry ([.ref B0]) (n := 7) (Nat.le_of_ble_eq_true rfl)
  rw [lg_entry_eq]
  generalize (lg_sl ([.ref B0]) ++ List.replicate (7 - (lg_sl ([.ref B0])).length) Slot.unset).toArray = ls at hl ⊢
  have hl : lv_has ls 7 [(0, .ref B0)] := hl
  refine w_new (ci := 4) X hE hS [.null, .null] dL_law_0 rfl inlX3 tyX3 tyX3_ok (by decide +kernel) (fun j hj => by rcases (by omega : j = 0 ∨ j = 1) with rfl | rfl <;> rfl) ⟨(Nat.le_of_ble_eq_true rfl), (Nat.le_of_ble_eq_true rfl)⟩ fun H1 x ex hox hz1 hq1 hS => ?_
  refine w_dup X dL_law_3 rfl ?_
  refine w_iv (va_runI (As := []) (rest := [.ref x]) X (c_X3_init l g (ALs s) H1 (fun q hq => by show s.heap.size ≤ q; omega) x hox (by show s.heap.size ≤ x; omega)) (cwI 0 X.2.2.2.2 gL_law_X3_init rfl rfl rfl (X.2.2.2.2 (.initialized yX3_init.cls) (by decide +kernel)) (X.2.2.2.2 (.methodLink RL 81 yX3_init) (by decide +kernel)) (X.2.2.2.2 (.instanceMethod yX3_init) (by decide +kernel)) rfl (by decide +kernel) ⟨(Nat.le_of_ble_eq_true rfl), (Nat.le_of_ble_eq_true rfl)⟩) (w_prS hE hEs hS) rfl rfl hl.1 rfl (lv_room (Nat.le_of_ble_eq_true rfl)) dL_law_4 ⟨(Nat.le_of_ble_eq_true rfl), (Nat.le_of_ble_eq_true rfl)⟩) hS (fun _ h => h) fun H2 lo2 hXI hz2 hq2 hS => ?_
  refine w_astore_n X [(1, .ref x), (0, .ref B0)] dL_law_7 hl rfl (by decide) rfl fun ls hl => ?_
  refine w_new (ci := 5) X hE hS [.int (0), .null, .null, .null, .int (0), .null, .null, .null, .null, .null, .null, .null, .null, .null, .null, .null] dL_law_8 rfl inlX4 tyX4 tyX4_ok (by decide +kernel) (fun j hj => by rcases (by omega : j = 0 ∨ j = 1 ∨ j = 2 ∨ j = 3 ∨ j = 4 ∨ j = 5 ∨ j = 6 ∨ j = 7 ∨ j = 8 ∨ j = 9 ∨ j = 10 ∨ j = 11 ∨ j = 12 ∨ j = 13 ∨ j = 14 ∨ j = 15) with rfl | rfl | rfl | rfl | rfl | rfl | rfl | rfl | rfl | rfl | rfl | rfl | rfl | rfl | rfl | rfl <;> rfl) ⟨(Nat.le_of_ble_eq_true rfl), (Nat.le_of_ble_eq_true rfl)⟩ fun H3 am eam hom hz3 hq3 hS => ?_
  refine w_dup X dL_law_11 rfl ?_
  have hN2 : ∀ q : Nat, H2.size ≤ q → ALs s q := fun q hq => by show s.heap.size ≤ q; omega
  refine w_iv (A1 := fun q => H2.size ≤ q) (va_runI (As := []) (rest := [.ref am]) X (c_X4_init l g (fun q => H2.size ≤ q) H3 (fun q hq => by show H2.size ≤ q; omega) am hom (by show H2.size ≤ am; omega)) (cwI 0 X.2.2.2.2 gL_law_X4_init rfl rfl rfl (X.2.2.2.2 (.initialized yX4_init.cls) (by decide +kernel)) (X.2.2.2.2 (.methodLink RL 84 yX4_init) (by decide +kernel)) (X.2.2.2.2 (.instanceMethod yX4_init) (by decide +kernel)) rfl (by decide +kernel) ⟨(Nat.le_of_ble_eq_true rfl), (Nat.le_of_ble_eq_true rfl)⟩) (w_prSN hE hEs hS hN2) rfl rfl hl.1 rfl (lv_room (Nat.le_of_ble_eq_true rfl)) dL_law_12 ⟨(Nat.le_of_ble_eq_true rfl), (Nat.le_of_ble_eq_true rfl)⟩) hS hN2 fun H4 lo4 hp4 hz4 hq4 hS => ?_
  obtain ⟨M, hM0, hMA, hMj, hM4⟩ := hp4
  subst hM0
  refine w_astore_n X [(2, .ref (M 0)), (1, .ref x), (0, .ref B0)] dL_law_15 hl rfl (by decide) rfl fun ls hl => ?_
  refine w_iconst X dL_law_16 ?_
  refine w_newJ X hE hS 1 dL_law_17 (by omega) (by decide) (by decide +kernel) ⟨(Nat.le_of_ble_eq_true rfl), (Nat.le_of_ble_eq_true rfl)⟩ fun H5 out eout hJ hz5 hq5 hS => ?_
  refine w_astore_n X [(3, .ref out), (2, .ref (M 0)), (1, .ref x), (0, .ref B0)] dL_law_19 hl rfl (by decide) rfl fun ls hl => ?_
  refine w_iconst X dL_law_20 ?_
  refine w_istore X [(4, .int (wI (0))), (3, .ref out), (2, .ref (M 0)), (1, .ref x), (0, .ref B0)] dL_law_21 hl (by decide) rfl fun ls hl => ?_
  have hXI5 : XInv g (fun q => (s.heap.size ≤ q ∧ q < H2.size) ∨ H5.size ≤ q) x st0 H5 := (hXI.narrow (fun q h1 h2 => Or.inl ⟨h1, h2⟩)).kept (fun q _ h2 => ((hq5 q (by omega)).trans (hq4 q (by omega) (by omega))).trans (hq3 q h2))
  have hM5 : ModAt g H5 M 0 st0 := hM4.kept (fun k h1 h2 => hq5 _ (hM4.lt k h1 h2))
  have E : LE p l s m c B0 L xs g out M (fun q => (s.heap.size ≤ q ∧ q < H2.size) ∨ H5.size ≤ q) (fun q => H2.size ≤ q ∧ q < H4.size) := ⟨X, ⟨hE, hEs, hNx⟩, ⟨hXs, hbl, hl9, hL⟩, ⟨fun q h => by omega, fun q h => by omega, by omega⟩, ⟨fun q h h' => by omega, fun h => by omega, fun h => by omega⟩, fun k h1 h2 => ⟨hMA k h1 h2, hM4.lt k h1 h2⟩, hMj⟩
  refine W.widen (k := 27 + 2 * 0) (n := 365 + 8 * 0) (by omega) (by omega) ?_
  exact law_loop C0 E (L + 1) 0 (Nat.zero_le L) (by omega) st0 0 _ H5 _ ⟨st0_good, hXI5, hM5, hJ, hS, fun q hq => Or.inr hq⟩ ls (lv_sub hl [0, 1, 2, 3, 4] rfl)
