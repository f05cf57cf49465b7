/-! the law, from its entry -/
set_option maxHeartbeats 8000000 in
set_option maxRecDepth 100000 in
theorem law_loop {p : Program} {l : Launch} {e : Env} {s : State} {m : MethodId} {below : List Frame} {meth : Method} {c : Code} {B0 L : Nat} {xs : Nat → Int32} {g : wG} {x al ap ab : Nat} {AX : Nat → Prop} (C0 : lw_At p s m meth c B0 L xs) (E : LE p l s m c B0 L xs g al ap ab AX) : ∀ (n t : Nat), t + n = 90 → ∀ (σ : St) (H : Heap) (locs : List Loc), LI s g x al ap ab AX σ H locs → ∀ ls : Array Slot, lv_has ls 11 [(6, .int (wI ((t : Int)))), (5, .int (wI ((sn σ : Int)))), (4, .ref ab), (3, .ref ap), (2, .ref al), (1, .ref x), (0, .ref B0)] → W p l e room_1 s m #[Value.ref B0] below meth c H locs (20 + 90 * t) (300 + 543 * t) (lw_Z below #[Value.ref B0] s) (F0 m 94 ls []) := by
  obtain ⟨-, -, hr, -, -, -, -, -, hlocks, -⟩ := C0
  intro n
  induction n with
  | zero =>
    intro t hn9 σ H locs I ls hl
    obtain ⟨X, ⟨hE, hEs, hNx⟩, ⟨hXs, hbl, hl9, hL⟩, ⟨hsX, hXA⟩, ⟨hnl, hnp, hnb⟩, ⟨hlp, hlb, hpb⟩, hsl, hsp, hsb⟩ := id E
    obtain ⟨hσ, hs3, hXv, ⟨fl, hAl, hLA⟩, ⟨fp, hAp, hPA⟩, ⟨fb, hAb, hBA⟩, hS⟩ := id I
    obtain ⟨hAx, fs9, hxO⟩ := hXv.ob
    have hN : ∀ q, AX q → ALs s q := hsX
    have hbA : ¬ ALs s B0 := Nat.not_le.mpr hbl
    have hS1 := hS.1
    have hlA := hAl.lt
    have hpA := hAp.lt
    have hbA2 := hAb.lt
    have hAn : ∀ q, H.size ≤ q → AX q := fun q hq => hXA q (by omega) (by omega) (by omega) (by omega)
    refine w_iload X dL_law_94 hl 0 rfl ?_
    refine w_bipush X dL_law_96 (by decide) ?_
    refine w_icmp_ge X 399 dL_law_98 (by decide) (by omega) (by omega) (fun c_1 => ?_) (fun c_1 => ?_)
    · skip
      refine w_iconst X dL_law_399 ?_
      rw [wI_1]
      refine va_forget (fun q hq => hS.2.2 q hq) ?_
      refine W.widen (k := 600104) (n := 7301314) (by omega) (by omega) ?_
      exact lw_ret X.1 X.2.1 hr hlocks dL_law_400
    · skip
      exact absurd c_1 (by omega)
  | succ n ih =>
    intro t hn9 σ H locs I ls hl
    obtain ⟨X, ⟨hE, hEs, hNx⟩, ⟨hXs, hbl, hl9, hL⟩, ⟨hsX, hXA⟩, ⟨hnl, hnp, hnb⟩, ⟨hlp, hlb, hpb⟩, hsl, hsp, hsb⟩ := id E
    obtain ⟨hσ, hs3, hXv, ⟨fl, hAl, hLA⟩, ⟨fp, hAp, hPA⟩, ⟨fb, hAb, hBA⟩, hS⟩ := id I
    obtain ⟨hAx, fs9, hxO⟩ := hXv.ob
    have hN : ∀ q, AX q → ALs s q := hsX
    have hbA : ¬ ALs s B0 := Nat.not_le.mpr hbl
    have hS1 := hS.1
    have hlA := hAl.lt
    have hpA := hAp.lt
    have hbA2 := hAb.lt
    have hAn : ∀ q, H.size ≤ q → AX q := fun q hq => hXA q (by omega) (by omega) (by omega) (by omega)
    have K : ∀ (σ1 : St) (z : Int32) (H1 : Heap) (locs1 : List Loc), LI s g x al ap ab AX σ1 H1 locs1 → 1 ≤ sn σ1 → ∀ ls : Array Slot, lv_has ls 11 [(9, .int (wI (1))), (7, .int (z)), (6, .int (wI ((t : Int)))), (5, .int (wI ((sn σ1 : Int)))), (4, .ref ab), (3, .ref ap), (2, .ref al), (1, .ref x), (0, .ref B0)] → W p l e room_1 s m #[Value.ref B0] below meth c H1 locs1 (20 + 90 * t + 6) (300 + 543 * t + 39) (lw_Z below #[Value.ref B0] s) (F0 m 307 ls []) := by
      intro σ1 z H1 locs1 I1 h1 ls hl
      refine law_checks E I1 h1 t (by omega) z (by omega) ls hl ?_
      intro H2 locs2 I2 ls hl
      refine W.widen (k := 20 + 90 * (t + 1)) (n := 300 + 543 * (t + 1)) (by omega) (by omega) ?_
      exact ih (t + 1) (by omega) σ1 H2 locs2 I2 ls hl
    have hXH : va_X B0 L xs s H := xX_kept hXs (hS.2.1 B0 hbl hbA)
    refine w_iload X dL_law_94 hl 0 rfl ?_
    refine w_bipush X dL_law_96 (by decide) ?_
    refine w_icmp_ge X 399 dL_law_98 (by decide) (by omega) (by omega) (fun c_1 => ?_) (fun c_1 => ?_)
    · skip
      exact absurd c_1 (by omega)
    · skip
      refine w_aload_n X dL_law_101 hl 6 rfl rfl ?_
      refine w_iload X dL_law_102 hl 0 rfl ?_
      refine w_pure (va_runS (As := [.ref B0, .int (wI (t : Int))]) (rest := []) X (c_L_cell l g H B0 L xs hL (t : Int) (by omega)) (va_cwS 2 X.2.2.2.2 gL_law_L_cell rfl rfl rfl (by decide +kernel) ⟨(Nat.le_of_ble_eq_true rfl), (Nat.le_of_ble_eq_true rfl)⟩) ⟨CP.blind, fun U hU hW => ⟨rfl, hU, hE.warm hW, xX_moved hXH hW.alike⟩⟩ rfl rfl hl.1 rfl (lv_room (Nat.le_of_ble_eq_true rfl)) dL_law_104 ⟨by show _ ≤ 600104; omega, by show _ ≤ 7301314; omega⟩) ?_
      generalize cellS xs L (t : Int) = z
      refine w_istore X [(7, .int (z)), (6, .int (wI ((t : Int)))), (5, .int (wI ((sn σ : Int)))), (4, .ref ab), (3, .ref ap), (2, .ref al), (1, .ref x), (0, .ref B0)] dL_law_107 hl (by decide) rfl fun ls hl => ?_
      refine w_iload X dL_law_109 hl 0 rfl ?_
      refine w_bipush X dL_law_111 (by decide) ?_
      refine w_low X hE (by omega) hl dL_law_113 gL_law_L_low ⟨(Nat.le_of_ble_eq_true rfl), (Nat.le_of_ble_eq_true rfl)⟩ (Nat.le_of_ble_eq_true rfl) ⟨by show _ ≤ 600104; omega, by show _ ≤ 7301314; omega⟩ fun y_2 hy_2a hy_2b => ?_
      refine w_istore X [(8, .int (wI (y_2))), (7, .int (z)), (6, .int (wI ((t : Int)))), (5, .int (wI ((sn σ : Int)))), (4, .ref ab), (3, .ref ap), (2, .ref al), (1, .ref x), (0, .ref B0)] dL_law_116 hl (by decide) rfl fun ls hl => ?_
      refine w_iconst X dL_law_118 ?_
      refine w_istore X [(9, .int (wI (1))), (8, .int (wI (y_2))), (7, .int (z)), (6, .int (wI ((t : Int)))), (5, .int (wI ((sn σ : Int)))), (4, .ref ab), (3, .ref ap), (2, .ref al), (1, .ref x), (0, .ref B0)] dL_law_119 hl (by decide) rfl fun ls hl => ?_
      refine w_iload X dL_law_121 hl 4 rfl ?_
      refine w_if_eq X 137 dL_law_123 (by decide) (by omega) (fun c_3 => ?_) (fun c_3 => ?_)
      · skip
        exact law_add E I (by omega) t z (by omega) ls (lv_sub hl [2, 3, 4, 5, 6, 7, 8, 9] rfl) (fun σ1 H1 locs1 => K σ1 z H1 locs1)
      · skip
        refine w_iload X dL_law_126 hl 1 rfl ?_
        refine w_if_ne X 249 dL_law_128 (by decide) (by omega) (fun c_4 => ?_) (fun c_4 => ?_)
        · skip
          exact law_act E I (by omega) y_2 (by omega) t z (by omega) ls (lv_sub hl [1, 2, 3, 4, 5, 6, 7, 8, 9] rfl) (fun σ1 H1 locs1 => K σ1 z H1 locs1)
        · skip
          refine w_iload X dL_law_131 hl 4 rfl ?_
          refine w_iconst X dL_law_133 ?_
          refine w_icmp_ge X 249 dL_law_134 (by decide) (by omega) (by omega) (fun c_5 => ?_) (fun c_5 => ?_)
          · skip
            exact law_act E I (by omega) y_2 (by omega) t z (by omega) ls (lv_sub hl [1, 2, 3, 4, 5, 6, 7, 8, 9] rfl) (fun σ1 H1 locs1 => K σ1 z H1 locs1)
          · skip
            exact law_add E I (by omega) t z (by omega) ls (lv_sub hl [2, 3, 4, 5, 6, 7, 8, 9] rfl) (fun σ1 H1 locs1 => K σ1 z H1 locs1)

set_option maxHeartbeats 8000000 in
set_option maxRecDepth 100000 in
theorem whole_start {p : Program} {e : Env} {s : State} {m : MethodId} {below : List Frame} {meth : Method} {c : Code} (l : Launch) (hflags : l.flags = flags0) {B0 L : Nat} {xs : Nat → Int32} (hL : L ≤ 260) (C0 : lw_At p s m meth c B0 L xs) : W p l e room_1 s m #[Value.ref B0] below meth c s.heap [] 0 0 (lw_Z below #[Value.ref B0] s) (entryFrame m ([Value.ref B0] : List Value).toArray 11) := by
  obtain ⟨hx, hb, hr, hml, hown, hts, hXs, hbl, hlocks, hgv⟩ := id C0
  obtain ⟨g, hE, hEs, hNx⟩ := env_ex hts hgv
  have hl9 : l.stackTraces = false := by
    show (!l.flags.contains noTraceFlag) = false
    rw [hflags]
    decide +kernel
  have X : CallFix p m c code 11 s #[Value.ref B0] wsL_law RL := ⟨hx, hb, hml, hown, fun w h => hts w (wsL_law_in w h)⟩
  have hbA : ¬ ALs s B0 := Nat.not_le.mpr hbl
  have hS : va_S (ALs s) s.heap s.heap [] := va_S.rf
  have hl := lv_entry ([.ref B0]) (n := 11) (Nat.le_of_ble_eq_true rfl)
  rw [lg_entry_eq]
  generalize (lg_sl ([.ref B0]) ++ List.replicate (11 - (lg_sl ([.ref B0])).length) Slot.unset).toArray = ls at hl ⊢
  have hl : lv_has ls 11 [(0, .ref B0)] := hl
  refine w_new (ci := 4) X hE hS [.null, .null] dL_law_0 rfl inlX3 tyX3 tyX3_ok (by decide +kernel) (fun j hj => by rcases (by omega : j = 0 ∨ j = 1) with rfl | rfl <;> rfl) ⟨(Nat.le_of_ble_eq_true rfl), (Nat.le_of_ble_eq_true rfl)⟩ fun H1 x ex hox hz1 hq1 hS => ?_
  refine w_dup X dL_law_3 rfl ?_
  refine w_iv (va_runI (As := []) (rest := [.ref x]) X (c_X3_init l g (ALs s) H1 (fun q hq => by show s.heap.size ≤ q; omega) x hox (by show s.heap.size ≤ x; omega)) (cwI 0 X.2.2.2.2 gL_law_X3_init rfl rfl rfl (X.2.2.2.2 (.initialized yX3_init.cls) (by decide +kernel)) (X.2.2.2.2 (.methodLink RL 122 yX3_init) (by decide +kernel)) (X.2.2.2.2 (.instanceMethod yX3_init) (by decide +kernel)) rfl (by decide +kernel) ⟨(Nat.le_of_ble_eq_true rfl), (Nat.le_of_ble_eq_true rfl)⟩) (w_prS hE hEs hS) rfl rfl hl.1 rfl (lv_room (Nat.le_of_ble_eq_true rfl)) dL_law_4 ⟨(Nat.le_of_ble_eq_true rfl), (Nat.le_of_ble_eq_true rfl)⟩) hS (fun _ h => h) fun H2 lo2 hXI hz2 hq2 hS => ?_
  refine w_astore_n X [(1, .ref x), (0, .ref B0)] dL_law_7 hl rfl (by decide) rfl fun ls hl => ?_
  refine w_bipush X dL_law_8 (by decide) ?_
  refine w_newI X hE hS 20 dL_law_10 (by omega) (by decide) (by decide +kernel) ⟨(Nat.le_of_ble_eq_true rfl), (Nat.le_of_ble_eq_true rfl)⟩ fun H3 al eal hAl hz3 hq3 hS => ?_
  refine w_astore_n X [(2, .ref al), (1, .ref x), (0, .ref B0)] dL_law_12 hl rfl (by decide) rfl fun ls hl => ?_
  refine w_bipush X dL_law_13 (by decide) ?_
  refine w_newI X hE hS 24 dL_law_15 (by omega) (by decide) (by decide +kernel) ⟨(Nat.le_of_ble_eq_true rfl), (Nat.le_of_ble_eq_true rfl)⟩ fun H4 ap eap hAp hz4 hq4 hS => ?_
  refine w_astore_n X [(3, .ref ap), (2, .ref al), (1, .ref x), (0, .ref B0)] dL_law_17 hl rfl (by decide) rfl fun ls hl => ?_
  refine w_bipush X dL_law_18 (by decide) ?_
  refine w_newI X hE hS 54 dL_law_20 (by omega) (by decide) (by decide +kernel) ⟨(Nat.le_of_ble_eq_true rfl), (Nat.le_of_ble_eq_true rfl)⟩ fun H5 ab eab hAb hz5 hq5 hS => ?_
  refine w_astore X [(4, .ref ab), (3, .ref ap), (2, .ref al), (1, .ref x), (0, .ref B0)] dL_law_22 hl (by decide) rfl fun ls hl => ?_
  refine w_iconst X dL_law_24 ?_
  refine w_istore X [(5, .int (wI (0))), (4, .ref ab), (3, .ref ap), (2, .ref al), (1, .ref x), (0, .ref B0)] dL_law_25 hl (by decide) rfl fun ls hl => ?_
  refine w_iconst X dL_law_27 ?_
  refine w_istore X [(6, .int (wI (0))), (5, .int (wI (0))), (4, .ref ab), (3, .ref ap), (2, .ref al), (1, .ref x), (0, .ref B0)] dL_law_28 hl (by decide) rfl fun ls hl => ?_
  obtain ⟨AX, hAXd⟩ : ∃ AX : Nat → Prop, AX = fun q => s.heap.size ≤ q ∧ q ≠ al ∧ q ≠ ap ∧ q ≠ ab := ⟨_, rfl⟩
  have hAl := (hAl.kept (hq4 _ hAl.lt)).kept (hq5 _ (hAl.kept (hq4 _ hAl.lt)).lt)
  have hAp := hAp.kept (hq5 _ hAp.lt)
  have hXv : XInv g AX x st0 H5 := by
    subst hAXd
    exact (hXI.narrow (fun q h1 h2 => ⟨h1, by omega, by omega, by omega⟩)).kept (fun q _ h2 => ((hq5 q (by omega)).trans (hq4 q (by omega))).trans (hq3 q h2))
  have E : LE p l s m c B0 L xs g al ap ab AX := by
    subst hAXd
    exact ⟨X, ⟨hE, hEs, hNx⟩, ⟨hXs, hbl, hl9, hL⟩, ⟨fun q h => h.1, fun q h1 h2 h3 h4 => ⟨h1, h2, h3, h4⟩⟩, ⟨fun h => h.2.1 rfl, fun h => h.2.2.1 rfl, fun h => h.2.2.2 rfl⟩, ⟨by omega, by omega, by omega⟩, by omega, by omega, by omega⟩
  have hPA0 : PA st0 (fun _ => 0) := fun k hk => ⟨fun j hj => wI_0.symm, wI_0.symm⟩
  have hBA0 : BA st0 (fun _ => 0) := fun k n j hk hn hj => absurd hn (Nat.not_lt_zero _)
  obtain ⟨-, -, -, ⟨hsX, hXA⟩, ⟨hnl, hnp, hnb⟩, ⟨hlp, hlb, hpb⟩, hsl, hsp, hsb⟩ := id E
  have hAn : ∀ q, H5.size ≤ q → AX q := fun q hq => hXA q (by omega) (by omega) (by omega) (by omega)
  have init : ∀ (r n : Nat), n + r = 4 → ∀ (fl : Nat → Int32) (H : Heap) (locs : List Loc), LA0 n fl → XInv g AX x st0 H → IA g H al 20 fl → IA g H ap 24 (fun _ => 0) → IA g H ab 54 (fun _ => 0) → (∀ q, H.size ≤ q → AX q) → va_S (ALs s) s.heap H locs → ∀ ls : Array Slot, lv_has ls 11 [(6, .int (wI ((n : Int)))), (5, .int (wI (0))), (4, .ref ab), (3, .ref ap), (2, .ref al), (1, .ref x), (0, .ref B0)] → W p l e room_1 s m #[Value.ref B0] below meth c H locs 14 166 (lw_Z below #[Value.ref B0] s) (F0 m 30 ls []) := by
    intro r
    induction r with
    | zero =>
      intro n hr9 fl H locs hLA0 hXv hAl hAp hAb hAn hS ls hl
      have e4 : n = 4 := by omega
      subst e4
      refine w_iload X dL_law_30 hl 0 rfl ?_
      refine w_iconst X dL_law_32 ?_
      refine w_icmp_ge X 91 dL_law_33 (by decide) (by omega) (by omega) (fun c_1 => ?_) (fun c_1 => ?_)
      · skip
        refine w_iconst X dL_law_91 ?_
        refine w_istore X [(6, .int (wI (0))), (5, .int (wI (0))), (4, .ref ab), (3, .ref ap), (2, .ref al), (1, .ref x), (0, .ref B0)] dL_law_92 hl (by decide) rfl fun ls hl => ?_
        refine W.widen (k := 20 + 90 * 0) (n := 300 + 543 * 0) (by omega) (by omega) ?_
        exact law_loop C0 E 90 0 rfl st0 H _ ⟨st0_good, Nat.zero_le 3, hXv, ⟨fl, hAl, fun i k hi hk => hLA0 i k hi hk⟩, ⟨_, hAp, hPA0⟩, ⟨_, hAb, hBA0⟩, hS⟩ ls (lv_sub hl [0, 1, 2, 3, 4, 5, 6] rfl)
      · skip
        exact absurd c_1 (by omega)
    | succ r ih =>
      intro n hr9 fl H locs hLA0 hXv hAl hAp hAb hAn hS ls hl
      refine w_iload X dL_law_30 hl 0 rfl ?_
      refine w_iconst X dL_law_32 ?_
      refine w_icmp_ge X 91 dL_law_33 (by decide) (by omega) (by omega) (fun c_1 => ?_) (fun c_1 => ?_)
      · skip
        exact absurd c_1 (by omega)
      · skip
        refine w_aload_n X dL_law_36 hl 4 rfl rfl ?_
        refine w_iconst X dL_law_37 ?_
        refine w_iload X dL_law_38 hl 0 rfl ?_
        refine w_imul X dL_law_40 fun z_2 ez_2 => ?_
        refine w_sipush X dL_law_41 (by decide) ?_
        refine w_iast X hE hAl hS (show ALs s al from hsl) dL_law_44 (by omega) (by omega) (by omega) fun H_3 lo_4 hAl hz_5 hq_6 hS => ?_
        have hAp := hAp.kept (hq_6 _ (Ne.symm hlp))
        have hAb := hAb.kept (hq_6 _ (Ne.symm hlb))
        have hXv := hXv.kept (fun q h1 h2 => hq_6 q (fun e => hnl (e ▸ h1)))
        obtain ⟨hAx, fs9, hxO⟩ := hXv.ob
        have hAn : ∀ q, H_3.size ≤ q → AX q := fun q h => hAn q (by omega)
        refine w_aload_n X dL_law_45 hl 4 rfl rfl ?_
        refine w_iconst X dL_law_46 ?_
        refine w_iload X dL_law_47 hl 0 rfl ?_
        refine w_imul X dL_law_49 fun z_7 ez_7 => ?_
        refine w_iconst X dL_law_50 ?_
        refine w_iadd X dL_law_51 fun z_8 ez_8 => ?_
        refine w_ldc (v := 40000) (z := 40000) X dL_law_52 (by decide +kernel) (by decide) ?_
        refine w_iast X hE hAl hS (show ALs s al from hsl) dL_law_54 (by omega) (by omega) (by omega) fun H_9 lo_10 hAl hz_11 hq_12 hS => ?_
        have hAp := hAp.kept (hq_12 _ (Ne.symm hlp))
        have hAb := hAb.kept (hq_12 _ (Ne.symm hlb))
        have hXv := hXv.kept (fun q h1 h2 => hq_12 q (fun e => hnl (e ▸ h1)))
        obtain ⟨hAx, fs9, hxO⟩ := hXv.ob
        have hAn : ∀ q, H_9.size ≤ q → AX q := fun q h => hAn q (by omega)
        refine w_aload_n X dL_law_55 hl 4 rfl rfl ?_
        refine w_iconst X dL_law_56 ?_
        refine w_iload X dL_law_57 hl 0 rfl ?_
        refine w_imul X dL_law_59 fun z_13 ez_13 => ?_
        refine w_iconst X dL_law_60 ?_
        refine w_iadd X dL_law_61 fun z_14 ez_14 => ?_
        refine w_bipush X dL_law_62 (by decide) ?_
        refine w_iast X hE hAl hS (show ALs s al from hsl) dL_law_64 (by omega) (by omega) (by omega) fun H_15 lo_16 hAl hz_17 hq_18 hS => ?_
        have hAp := hAp.kept (hq_18 _ (Ne.symm hlp))
        have hAb := hAb.kept (hq_18 _ (Ne.symm hlb))
        have hXv := hXv.kept (fun q h1 h2 => hq_18 q (fun e => hnl (e ▸ h1)))
        obtain ⟨hAx, fs9, hxO⟩ := hXv.ob
        have hAn : ∀ q, H_15.size ≤ q → AX q := fun q h => hAn q (by omega)
        refine w_aload_n X dL_law_65 hl 4 rfl rfl ?_
        refine w_iconst X dL_law_66 ?_
        refine w_iload X dL_law_67 hl 0 rfl ?_
        refine w_imul X dL_law_69 fun z_19 ez_19 => ?_
        refine w_iconst X dL_law_70 ?_
        refine w_iadd X dL_law_71 fun z_20 ez_20 => ?_
        refine w_bipush X dL_law_72 (by decide) ?_
        refine w_iast X hE hAl hS (show ALs s al from hsl) dL_law_74 (by omega) (by omega) (by omega) fun H_21 lo_22 hAl hz_23 hq_24 hS => ?_
        have hAp := hAp.kept (hq_24 _ (Ne.symm hlp))
        have hAb := hAb.kept (hq_24 _ (Ne.symm hlb))
        have hXv := hXv.kept (fun q h1 h2 => hq_24 q (fun e => hnl (e ▸ h1)))
        obtain ⟨hAx, fs9, hxO⟩ := hXv.ob
        have hAn : ∀ q, H_21.size ≤ q → AX q := fun q h => hAn q (by omega)
        refine w_aload_n X dL_law_75 hl 4 rfl rfl ?_
        refine w_iconst X dL_law_76 ?_
        refine w_iload X dL_law_77 hl 0 rfl ?_
        refine w_imul X dL_law_79 fun z_25 ez_25 => ?_
        refine w_iconst X dL_law_80 ?_
        refine w_iadd X dL_law_81 fun z_26 ez_26 => ?_
        refine w_bipush X dL_law_82 (by decide) ?_
        refine w_iast X hE hAl hS (show ALs s al from hsl) dL_law_84 (by omega) (by omega) (by omega) fun H_27 lo_28 hAl hz_29 hq_30 hS => ?_
        have hAp := hAp.kept (hq_30 _ (Ne.symm hlp))
        have hAb := hAb.kept (hq_30 _ (Ne.symm hlb))
        have hXv := hXv.kept (fun q h1 h2 => hq_30 q (fun e => hnl (e ▸ h1)))
        obtain ⟨hAx, fs9, hxO⟩ := hXv.ob
        have hAn : ∀ q, H_27.size ≤ q → AX q := fun q h => hAn q (by omega)
        refine w_iinc X (fun z_31 => [(6, .int (wI (z_31))), (5, .int (wI (0))), (4, .ref ab), (3, .ref ap), (2, .ref al), (1, .ref x), (0, .ref B0)]) dL_law_85 hl 0 rfl (by decide) (fun _ => rfl) fun z_31 ez_31 ls hl => ?_
        refine w_goto X 30 dL_law_88 (by decide) ?_
        have q1 : ∀ k, k < 5 → (up (up (up (up (up fl (z_2).toNat (wI (10000))) (z_8).toNat (wI (40000))) (z_14).toNat (wI (10))) (z_20).toNat (wI (20))) (z_26).toNat (wI (40))) (5 * n + k) = wI (land0 k) :=
          fun k hk => by
            rcases (by omega : k = 0 ∨ k = 1 ∨ k = 2 ∨ k = 3 ∨ k = 4) with rfl | rfl | rfl | rfl | rfl
            · exact (va_up_ne _ _ (by omega)).trans ((va_up_ne _ _ (by omega)).trans ((va_up_ne _ _ (by omega)).trans ((va_up_ne _ _ (by omega)).trans (va_up_at _ _ (by omega)))))
            · exact (va_up_ne _ _ (by omega)).trans ((va_up_ne _ _ (by omega)).trans ((va_up_ne _ _ (by omega)).trans (va_up_at _ _ (by omega))))
            · exact (va_up_ne _ _ (by omega)).trans ((va_up_ne _ _ (by omega)).trans (va_up_at _ _ (by omega)))
            · exact (va_up_ne _ _ (by omega)).trans (va_up_at _ _ (by omega))
            · exact va_up_at _ _ (by omega)
        have q2 : ∀ q, (q < 5 * n ∨ 5 * n + 5 ≤ q) → (up (up (up (up (up fl (z_2).toNat (wI (10000))) (z_8).toNat (wI (40000))) (z_14).toNat (wI (10))) (z_20).toNat (wI (20))) (z_26).toNat (wI (40))) q = fl q := fun q hq => (va_up_ne _ _ (by omega)).trans ((va_up_ne _ _ (by omega)).trans ((va_up_ne _ _ (by omega)).trans ((va_up_ne _ _ (by omega)).trans ((va_up_ne _ _ (by omega))))))
        rw [show z_31 = ((n + 1 : Nat) : Int) by omega] at hl
        exact ih (n + 1) (by omega) _ H_27 _ (hLA0.next q1 q2) hXv hAl hAp hAb hAn hS ls (lv_sub hl [0, 1, 2, 3, 4, 5, 6] rfl)
  exact init 4 0 rfl _ H5 _ (fun i k hi hk => absurd hi (Nat.not_lt_zero _)) hXv hAl hAp hAb hAn hS ls (lv_sub hl [0, 1, 2, 3, 4, 5, 6] rfl)
