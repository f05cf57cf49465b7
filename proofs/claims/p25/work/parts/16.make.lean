/-! what makes and fills lands, bonuses, lists, people -/
section MKR
variable {p : Program} {l : Launch} {e : Env} {R : Room} {s : State} {m : MethodId} {args : Array Value} {below : List Frame} {meth : Method} {c : Code} {H : Heap} {locs : List Loc} {cells slots : Nat} {Q : State → Prop}
variable {cc : ByteArray} {nL : Nat} {Ts : List Cond} {own : String} {pc : Nat} {ls : Array Slot} {rest : List Value} {g : wG}
theorem w_alen (X : CallFix p m c cc nL s args Ts own) (hE : Ek g s) {a n : Nat} {f : Nat → Option Nat} (hA : RA g H a n f) (hdg : decode cc pc = .ok (.arraylength, 1))
    (kk : W p l e R s m args below meth c H locs cells slots Q (F0 m (pc + 1) ls (.int (wI (n : Int)) :: rest))) : W p l e R s m args below meth c H locs cells slots Q (F0 m pc ls (.ref a :: rest)) :=
  va_alen X.1 X.2.1 hE.1 (w_P1 hA) 0 1 rfl rfl (wI_nat n).symm hdg kk
theorem w_alenE (X : CallFix p m c cc nL s args Ts own) (hT : TE g s H) (hdg : decode cc pc = .ok (.arraylength, 1))
    (kk : W p l e R s m args below meth c H locs cells slots Q (F0 m (pc + 1) ls (.int (wI 0) :: rest))) : W p l e R s m args below meth c H locs cells slots Q (F0 m pc ls (.ref (gE g) :: rest)) := by
  obtain ⟨scr, h1, h2, h3, h4⟩ := hT
  refine W.alen (n := wI 0) X.1 X.2.1 h1 h2 (h4.trans wI_0.symm) rfl rfl hdg kk
theorem w_acmpT (X : CallFix p m c cc nL s args Ts own) {off : Int} (tgt : Nat) {a : Nat} (hdg : decode cc pc = .ok (.if_acmp .eq off, 3)) (ht : (pc : Int) + off = (tgt : Int))
    (kk : W p l e R s m args below meth c H locs cells slots Q (F0 m tgt ls rest)) : W p l e R s m args below meth c H locs cells slots Q (F0 m pc ls (.ref a :: .ref a :: rest)) :=
  lv_acmp_eq (rx := some a) (ry := some a) X.1 X.2.1 hdg ht (fun _ => kk) (fun q => absurd rfl q)
theorem w_getU (X : CallFix p m c cc nL s args Ts own) (hE : Ek g s) {ref C : String} {T : u_T} {N ci index a : Nat} {fs : List Value} (hO : Ob g H a ci fs) (k : Nat) (hdg : decode cc pc = .ok (.getfield index, 3)) (hc : vwCl[ci]? = some (C, T, N)) (hin : ∀ w ∈ u_ws C T N, w ∈ Ts) (hk : k < N) (hlink : Cond.fieldLink own index ref (T k).2.1 (T k).2.2.1 ∈ Ts) (hsame : ∀ x, s.fieldFound? (T k).1 (T k).2.1 (T k).2.2.1 = some x → s.fieldFound? ref (T k).2.1 (T k).2.2.1 = some x) {v : Value} (hv : fs[k]? = some v)
    (kk : W p l e R s m args below meth c H locs cells slots Q (F0 m (pc + 3) ls (v :: rest))) : W p l e R s m args below meth c H locs cells slots Q (F0 m pc ls (.ref a :: rest)) :=
  va_get X.1 X.2.1 (tys := wtys g) X.2.2.2.2 hin X.2.2.2.1 hE.1 (w_P1 hO) 0 rfl hc k hk (X.2.2.2.2 _ hlink) hsame hv hdg kk
end MKR
def land0 : Nat → Int := fun k => match k with
  | 0 => 10000
  | 1 => 40000
  | 2 => 10
  | 3 => 20
  | _ => 40

set_option maxHeartbeats 4000000 in
set_option maxRecDepth 100000 in
theorem c_X1_init (l : Launch) (g : wG) (A : Nat → Prop) (H : Heap) (a : Nat) (hO : Ob g H a 2 [.int 0, .int 0, .int 0, .int 0, .int 0]) (hAa : A a) : ImpV l g A H yX1_init wsX1_init 1 20 0 0 [.ref a] (fun H1 => LandAt g H1 a land0 ∧ H1.size = H.size ∧ ∀ q, q ≠ a → H1[q]? = H[q]?) := by
  refine Imp.of (cc := cX1_init) (maxL := 1) (ret := none) (by decide) rfl (Nat.le_of_ble_eq_true rfl) ?_
  intro p9 e s m args below meth c X hE hEs hnm hr hk hS ls hl
  have hl : lv_has ls 1 [(0, .ref a)] := hl
  have hin_RX1 : ∀ w ∈ u_ws RX1 TX1 5, w ∈ wsX1_init := by decide +kernel
  have hGd := hE.dis
  refine w_aload_n X dX1_init_0 hl 0 rfl rfl ?_
  refine W.objInit X.1 X.2.1 X.2.2.2.1 (X.2.2.2.2 (.methodLink RX1 3 objectInit) (by decide +kernel)) (X.2.2.2.2 (.instanceMethod objectInit) (by decide +kernel)) (X.2.2.2.2 (.code objectInit ⟨#[0xb1]⟩ 1 none) (by decide +kernel)) rfl (hl.1.trans X.2.2.1.symm) rfl dX1_init_1 (Nat.le_of_ble_eq_true rfl) (Nat.le_of_ble_eq_true rfl) ?_
  refine W.eq (g2 := F0 m 4 ls []) rfl ?_
  refine w_aload_n X dX1_init_4 hl 0 rfl rfl ?_
  refine w_sipush X dX1_init_5 (by decide) ?_
  refine w_put (ref := "TaxEqualiser$Land") (v := .int (wI (10000))) X hE hO hS hAa 0 dX1_init_8 rfl hin_RX1 tyX1 tyX1_ok nmX1 (by decide) (by decide +kernel) (fun _ h => h) rfl rfl rfl (Nat.le_of_ble_eq_true rfl) fun H_1 lo_2 ho_3 hz_4 hq_5 hS => ?_
  have ho_3 : Ob g H_1 a 2 [.int (wI (10000)), .int (0), .int (0), .int (0), .int (0)] := ho_3
  refine w_aload_n X dX1_init_11 hl 0 rfl rfl ?_
  refine w_ldc (v := 40000) (z := 40000) X dX1_init_12 (by decide +kernel) (by decide) ?_
  refine w_put (ref := "TaxEqualiser$Land") (v := .int (wI (40000))) X hE ho_3 hS hAa 1 dX1_init_14 rfl hin_RX1 tyX1 tyX1_ok nmX1 (by decide) (by decide +kernel) (fun _ h => h) rfl rfl rfl (Nat.le_of_ble_eq_true rfl) fun H_6 lo_7 ho_8 hz_9 hq_10 hS => ?_
  have ho_8 : Ob g H_6 a 2 [.int (wI (10000)), .int (wI (40000)), .int (0), .int (0), .int (0)] := ho_8
  refine w_aload_n X dX1_init_17 hl 0 rfl rfl ?_
  refine w_bipush X dX1_init_18 (by decide) ?_
  refine w_put (ref := "TaxEqualiser$Land") (v := .int (wI (10))) X hE ho_8 hS hAa 2 dX1_init_20 rfl hin_RX1 tyX1 tyX1_ok nmX1 (by decide) (by decide +kernel) (fun _ h => h) rfl rfl rfl (Nat.le_of_ble_eq_true rfl) fun H_11 lo_12 ho_13 hz_14 hq_15 hS => ?_
  have ho_13 : Ob g H_11 a 2 [.int (wI (10000)), .int (wI (40000)), .int (wI (10)), .int (0), .int (0)] := ho_13
  refine w_aload_n X dX1_init_23 hl 0 rfl rfl ?_
  refine w_bipush X dX1_init_24 (by decide) ?_
  refine w_put (ref := "TaxEqualiser$Land") (v := .int (wI (20))) X hE ho_13 hS hAa 3 dX1_init_26 rfl hin_RX1 tyX1 tyX1_ok nmX1 (by decide) (by decide +kernel) (fun _ h => h) rfl rfl rfl (Nat.le_of_ble_eq_true rfl) fun H_16 lo_17 ho_18 hz_19 hq_20 hS => ?_
  have ho_18 : Ob g H_16 a 2 [.int (wI (10000)), .int (wI (40000)), .int (wI (10)), .int (wI (20)), .int (0)] := ho_18
  refine w_aload_n X dX1_init_29 hl 0 rfl rfl ?_
  refine w_bipush X dX1_init_30 (by decide) ?_
  refine w_put (ref := "TaxEqualiser$Land") (v := .int (wI (40))) X hE ho_18 hS hAa 4 dX1_init_32 rfl hin_RX1 tyX1 tyX1_ok nmX1 (by decide) (by decide +kernel) (fun _ h => h) rfl rfl rfl (Nat.le_of_ble_eq_true rfl) fun H_21 lo_22 ho_23 hz_24 hq_25 hS => ?_
  have ho_23 : Ob g H_21 a 2 [.int (wI (10000)), .int (wI (40000)), .int (wI (10)), .int (wI (20)), .int (wI (40))] := ho_23
  exact w_vrV X hr hk hS (⟨ho_23, by omega, fun q hq => (((((hq_25 _ hq)).trans (hq_20 _ hq)).trans (hq_15 _ hq)).trans (hq_10 _ hq)).trans (hq_5 _ hq)⟩) dX1_init_35 (Nat.le_of_ble_eq_true rfl) (Nat.le_of_ble_eq_true rfl)

set_option maxHeartbeats 4000000 in
set_option maxRecDepth 100000 in
theorem c_X1_limit (l : Launch) (g : wG) (A : Nat → Prop) (H : Heap) (a : Nat) (L : Nat → Int) (hO : LandAt g H a L) (hAa : A a) (lo up : Int) : ImpV l g A H yX1_limit wsX1_limit 0 0 0 0 [.ref a, .int (wI (lo)), .int (wI (up))] (fun H1 => Ob g H1 a 2 [.int (wI lo), .int (wI up), .int (wI (L 2)), .int (wI (L 3)), .int (wI (L 4))] ∧ H1.size = H.size ∧ ∀ q, q ≠ a → H1[q]? = H[q]?) := by
  refine Imp.of (cc := cX1_limit) (maxL := 3) (ret := none) (by decide) rfl (Nat.le_of_ble_eq_true rfl) ?_
  intro p9 e s m args below meth c X hE hEs hnm hr hk hS ls hl
  have hl : lv_has ls 3 [(0, .ref a), (1, .int (wI (lo))), (2, .int (wI (up)))] := hl
  have hin_RX1 : ∀ w ∈ u_ws RX1 TX1 5, w ∈ wsX1_limit := by decide +kernel
  have hGd := hE.dis
  refine w_aload_n X dX1_limit_0 hl 0 rfl rfl ?_
  refine w_iload_n X dX1_limit_1 hl 1 rfl rfl ?_
  refine w_put (ref := "TaxEqualiser$Land") (v := .int (wI (lo))) X hE hO hS hAa 0 dX1_limit_2 rfl hin_RX1 tyX1 tyX1_ok nmX1 (by decide) (by decide +kernel) (fun _ h => h) rfl rfl rfl (Nat.le_of_ble_eq_true rfl) fun H_1 lo_2 ho_3 hz_4 hq_5 hS => ?_
  have ho_3 : Ob g H_1 a 2 [.int (wI (lo)), .int (wI (L 1)), .int (wI (L 2)), .int (wI (L 3)), .int (wI (L 4))] := ho_3
  refine w_aload_n X dX1_limit_5 hl 0 rfl rfl ?_
  refine w_iload_n X dX1_limit_6 hl 2 rfl rfl ?_
  refine w_put (ref := "TaxEqualiser$Land") (v := .int (wI (up))) X hE ho_3 hS hAa 1 dX1_limit_7 rfl hin_RX1 tyX1 tyX1_ok nmX1 (by decide) (by decide +kernel) (fun _ h => h) rfl rfl rfl (Nat.le_of_ble_eq_true rfl) fun H_6 lo_7 ho_8 hz_9 hq_10 hS => ?_
  have ho_8 : Ob g H_6 a 2 [.int (wI (lo)), .int (wI (up)), .int (wI (L 2)), .int (wI (L 3)), .int (wI (L 4))] := ho_8
  exact w_vrV X hr hk hS (⟨ho_8, by omega, fun q hq => ((hq_10 _ hq)).trans (hq_5 _ hq)⟩) dX1_limit_10 (Nat.le_of_ble_eq_true rfl) (Nat.le_of_ble_eq_true rfl)

set_option maxHeartbeats 4000000 in
set_option maxRecDepth 100000 in
theorem c_X1_rate (l : Launch) (g : wG) (A : Nat → Prop) (H : Heap) (a : Nat) (L : Nat → Int) (hO : LandAt g H a L) (hAa : A a) (r1 r2 r3 : Int) : ImpV l g A H yX1_rate wsX1_rate 0 0 0 0 [.ref a, .int (wI (r1)), .int (wI (r2)), .int (wI (r3))] (fun H1 => Ob g H1 a 2 [.int (wI (L 0)), .int (wI (L 1)), .int (wI r1), .int (wI r2), .int (wI r3)] ∧ H1.size = H.size ∧ ∀ q, q ≠ a → H1[q]? = H[q]?) := by
  refine Imp.of (cc := cX1_rate) (maxL := 4) (ret := none) (by decide) rfl (Nat.le_of_ble_eq_true rfl) ?_
  intro p9 e s m args below meth c X hE hEs hnm hr hk hS ls hl
  have hl : lv_has ls 4 [(0, .ref a), (1, .int (wI (r1))), (2, .int (wI (r2))), (3, .int (wI (r3)))] := hl
  have hin_RX1 : ∀ w ∈ u_ws RX1 TX1 5, w ∈ wsX1_rate := by decide +kernel
  have hGd := hE.dis
  refine w_aload_n X dX1_rate_0 hl 0 rfl rfl ?_
  refine w_iload_n X dX1_rate_1 hl 1 rfl rfl ?_
  refine w_put (ref := "TaxEqualiser$Land") (v := .int (wI (r1))) X hE hO hS hAa 2 dX1_rate_2 rfl hin_RX1 tyX1 tyX1_ok nmX1 (by decide) (by decide +kernel) (fun _ h => h) rfl rfl rfl (Nat.le_of_ble_eq_true rfl) fun H_1 lo_2 ho_3 hz_4 hq_5 hS => ?_
  have ho_3 : Ob g H_1 a 2 [.int (wI (L 0)), .int (wI (L 1)), .int (wI (r1)), .int (wI (L 3)), .int (wI (L 4))] := ho_3
  refine w_aload_n X dX1_rate_5 hl 0 rfl rfl ?_
  refine w_iload_n X dX1_rate_6 hl 2 rfl rfl ?_
  refine w_put (ref := "TaxEqualiser$Land") (v := .int (wI (r2))) X hE ho_3 hS hAa 3 dX1_rate_7 rfl hin_RX1 tyX1 tyX1_ok nmX1 (by decide) (by decide +kernel) (fun _ h => h) rfl rfl rfl (Nat.le_of_ble_eq_true rfl) fun H_6 lo_7 ho_8 hz_9 hq_10 hS => ?_
  have ho_8 : Ob g H_6 a 2 [.int (wI (L 0)), .int (wI (L 1)), .int (wI (r1)), .int (wI (r2)), .int (wI (L 4))] := ho_8
  refine w_aload_n X dX1_rate_10 hl 0 rfl rfl ?_
  refine w_iload_n X dX1_rate_11 hl 3 rfl rfl ?_
  refine w_put (ref := "TaxEqualiser$Land") (v := .int (wI (r3))) X hE ho_8 hS hAa 4 dX1_rate_12 rfl hin_RX1 tyX1 tyX1_ok nmX1 (by decide) (by decide +kernel) (fun _ h => h) rfl rfl rfl (Nat.le_of_ble_eq_true rfl) fun H_11 lo_12 ho_13 hz_14 hq_15 hS => ?_
  have ho_13 : Ob g H_11 a 2 [.int (wI (L 0)), .int (wI (L 1)), .int (wI (r1)), .int (wI (r2)), .int (wI (r3))] := ho_13
  exact w_vrV X hr hk hS (⟨ho_13, by omega, fun q hq => (((hq_15 _ hq)).trans (hq_10 _ hq)).trans (hq_5 _ hq)⟩) dX1_rate_15 (Nat.le_of_ble_eq_true rfl) (Nat.le_of_ble_eq_true rfl)

set_option maxHeartbeats 4000000 in
set_option maxRecDepth 100000 in
theorem c_X0_init (l : Launch) (g : wG) (A : Nat → Prop) (H : Heap) (a : Nat) (hO : Ob g H a 1 [.int 0, .int 0, .int 0]) (hAa : A a) (c9 f9 t9 : Int) : ImpV l g A H yX0_init wsX0_init 1 20 0 0 [.ref a, .int (wI (c9)), .int (wI (f9)), .int (wI (t9))] (fun H1 => Ob g H1 a 1 [.int (wI c9), .int (wI f9), .int (wI t9)] ∧ H1.size = H.size ∧ ∀ q, q ≠ a → H1[q]? = H[q]?) := by
  refine Imp.of (cc := cX0_init) (maxL := 4) (ret := none) (by decide) rfl (Nat.le_of_ble_eq_true rfl) ?_
  intro p9 e s m args below meth c X hE hEs hnm hr hk hS ls hl
  have hl : lv_has ls 4 [(0, .ref a), (1, .int (wI (c9))), (2, .int (wI (f9))), (3, .int (wI (t9)))] := hl
  have hin_RX0 : ∀ w ∈ u_ws RX0 TX0 3, w ∈ wsX0_init := by decide +kernel
  have hGd := hE.dis
  refine w_aload_n X dX0_init_0 hl 0 rfl rfl ?_
  refine W.objInit X.1 X.2.1 X.2.2.2.1 (X.2.2.2.2 (.methodLink RX0 1 objectInit) (by decide +kernel)) (X.2.2.2.2 (.instanceMethod objectInit) (by decide +kernel)) (X.2.2.2.2 (.code objectInit ⟨#[0xb1]⟩ 1 none) (by decide +kernel)) rfl (hl.1.trans X.2.2.1.symm) rfl dX0_init_1 (Nat.le_of_ble_eq_true rfl) (Nat.le_of_ble_eq_true rfl) ?_
  refine W.eq (g2 := F0 m 4 ls []) rfl ?_
  refine w_aload_n X dX0_init_4 hl 0 rfl rfl ?_
  refine w_iload_n X dX0_init_5 hl 1 rfl rfl ?_
  refine w_putF (ref := "TaxEqualiser$Bonus") (v := .int (wI (c9))) X hE hO hS hAa hnm 0 dX0_init_6 rfl hin_RX0 tyX0 tyX0_ok nmX0 (by decide) (by decide +kernel) (fun _ h => h) rfl rfl rfl rfl (Nat.le_of_ble_eq_true rfl) fun H_1 lo_2 ho_3 hz_4 hq_5 hS => ?_
  have ho_3 : Ob g H_1 a 1 [.int (wI (c9)), .int (0), .int (0)] := ho_3
  refine w_aload_n X dX0_init_9 hl 0 rfl rfl ?_
  refine w_iload_n X dX0_init_10 hl 2 rfl rfl ?_
  refine w_putF (ref := "TaxEqualiser$Bonus") (v := .int (wI (f9))) X hE ho_3 hS hAa hnm 1 dX0_init_11 rfl hin_RX0 tyX0 tyX0_ok nmX0 (by decide) (by decide +kernel) (fun _ h => h) rfl rfl rfl rfl (Nat.le_of_ble_eq_true rfl) fun H_6 lo_7 ho_8 hz_9 hq_10 hS => ?_
  have ho_8 : Ob g H_6 a 1 [.int (wI (c9)), .int (wI (f9)), .int (0)] := ho_8
  refine w_aload_n X dX0_init_14 hl 0 rfl rfl ?_
  refine w_iload_n X dX0_init_15 hl 3 rfl rfl ?_
  refine w_putF (ref := "TaxEqualiser$Bonus") (v := .int (wI (t9))) X hE ho_8 hS hAa hnm 2 dX0_init_16 rfl hin_RX0 tyX0 tyX0_ok nmX0 (by decide) (by decide +kernel) (fun _ h => h) rfl rfl rfl rfl (Nat.le_of_ble_eq_true rfl) fun H_11 lo_12 ho_13 hz_14 hq_15 hS => ?_
  have ho_13 : Ob g H_11 a 1 [.int (wI (c9)), .int (wI (f9)), .int (wI (t9))] := ho_13
  exact w_vrV X hr hk hS (⟨ho_13, by omega, fun q hq => (((hq_15 _ hq)).trans (hq_10 _ hq)).trans (hq_5 _ hq)⟩) dX0_init_19 (Nat.le_of_ble_eq_true rfl) (Nat.le_of_ble_eq_true rfl)

set_option maxHeartbeats 4000000 in
set_option maxRecDepth 100000 in
theorem c_Jxa1e45_init_da8c8 (l : Launch) (g : wG) (A : Nat → Prop) (H : Heap) (a : Nat) (hO : Ob g H a 0 [.int 0, .null, .int 0]) (hAa : A a) : ImpV l g A H yJxa1e45_init_da8c8 wsJxa1e45_init_da8c8 1 20 0 0 [.ref a] (fun H1 => H1 = H) := by
  refine Imp.of (cc := cJxa1e45_init_da8c8) (maxL := 1) (ret := none) (by decide) rfl (Nat.le_of_ble_eq_true rfl) ?_
  intro p9 e s m args below meth c X hE hEs hnm hr hk hS ls hl
  have hl : lv_has ls 1 [(0, .ref a)] := hl
  have hGd := hE.dis
  refine w_aload_n X dJxa1e45_init_da8c8_0 hl 0 rfl rfl ?_
  refine W.objInit X.1 X.2.1 X.2.2.2.1 (X.2.2.2.2 (.methodLink RJxa1e45 1 objectInit) (by decide +kernel)) (X.2.2.2.2 (.instanceMethod objectInit) (by decide +kernel)) (X.2.2.2.2 (.code objectInit ⟨#[0xb1]⟩ 1 none) (by decide +kernel)) rfl (hl.1.trans X.2.2.1.symm) rfl dJxa1e45_init_da8c8_1 (Nat.le_of_ble_eq_true rfl) (Nat.le_of_ble_eq_true rfl) ?_
  refine W.eq (g2 := F0 m 4 ls []) rfl ?_
  exact w_vrV X hr hk hS (rfl) dJxa1e45_init_da8c8_4 (Nat.le_of_ble_eq_true rfl) (Nat.le_of_ble_eq_true rfl)

set_option maxHeartbeats 4000000 in
set_option maxRecDepth 100000 in
theorem c_Jxc12de_init_da8c8 (l : Launch) (g : wG) (A : Nat → Prop) (H : Heap) (a : Nat) (hO : Ob g H a 0 [.int 0, .null, .int 0]) (hAa : A a) : ImpV l g A H yJxc12de_init_da8c8 wsJxc12de_init_da8c8 2 40 0 0 [.ref a] (fun H1 => Ob g H1 a 0 [.int (wI 0), .null, .int 0] ∧ H1.size = H.size ∧ ∀ q, q ≠ a → H1[q]? = H[q]?) := by
  refine Imp.of (cc := cJxc12de_init_da8c8) (maxL := 1) (ret := none) (by decide) rfl (Nat.le_of_ble_eq_true rfl) ?_
  intro p9 e s m args below meth c X hE hEs hnm hr hk hS ls hl
  have hl : lv_has ls 1 [(0, .ref a)] := hl
  have hin_RJx4a65c : ∀ w ∈ u_ws RJx4a65c TJx4a65c 3, w ∈ wsJxc12de_init_da8c8 := by decide +kernel
  have hGd := hE.dis
  refine w_aload_n X dJxc12de_init_da8c8_0 hl 0 rfl rfl ?_
  refine w_iv (va_runI (As := []) (rest := []) X (c_Jxa1e45_init_da8c8 l g A H a hO hAa) (cwI 0 X.2.2.2.2 gJxc12de_init_da8c8_Jxa1e45_init_da8c8 rfl rfl rfl (X.2.2.2.2 (.initialized yJxa1e45_init_da8c8.cls) (by decide +kernel)) (X.2.2.2.2 (.methodLink RJxc12de 1 yJxa1e45_init_da8c8) (by decide +kernel)) (X.2.2.2.2 (.instanceMethod yJxa1e45_init_da8c8) (by decide +kernel)) rfl (by decide +kernel) ⟨(Nat.le_of_ble_eq_true rfl), (Nat.le_of_ble_eq_true rfl)⟩) (w_prS hE hEs hS) rfl rfl hl.1 rfl (lv_room (Nat.le_of_ble_eq_true rfl)) dJxc12de_init_da8c8_1 ⟨(Nat.le_of_ble_eq_true rfl), (Nat.le_of_ble_eq_true rfl)⟩) hS (fun _ h => h) fun H_1 lo_2 hp_3 hz_4 hq_5 hS => ?_
  have hSn := hS
  subst hp_3
  have hS := hSn
  refine w_aload_n X dJxc12de_init_da8c8_4 hl 0 rfl rfl ?_
  refine w_iconst X dJxc12de_init_da8c8_5 ?_
  refine w_put (ref := "java/util/AbstractList") (v := .int (wI (0))) X hE hO hS hAa 0 dJxc12de_init_da8c8_6 rfl hin_RJx4a65c tyJx4a65c tyJx4a65c_ok nmJx4a65c (by decide) (by decide +kernel) (fun _ h => h) rfl rfl rfl (Nat.le_of_ble_eq_true rfl) fun H_7 lo_8 ho_9 hz_10 hq_11 hS => ?_
  have ho_9 : Ob g H_7 a 0 [.int (wI (0)), .null, .int (0)] := ho_9
  exact w_vrV X hr hk hS (⟨ho_9, by omega, fun q hq => (hq_11 _ hq)⟩) dJxc12de_init_da8c8_9 (Nat.le_of_ble_eq_true rfl) (Nat.le_of_ble_eq_true rfl)

set_option maxHeartbeats 4000000 in
set_option maxRecDepth 100000 in
theorem c_Jx4a65c_init_da8c8 (l : Launch) (g : wG) (A : Nat → Prop) (H : Heap) (a : Nat) (hO : Ob g H a 0 [.int 0, .null, .int 0]) (hAa : A a) : ImpV l g A H yJx4a65c_init_da8c8 wsJx4a65c_init_da8c8 3 60 0 0 [.ref a] (fun H1 => Ob g H1 a 0 [.int (wI 0), .ref (gE g), .int (wI 0)] ∧ H1.size = H.size ∧ ∀ q, q ≠ a → H1[q]? = H[q]?) := by
  refine Imp.of (cc := cJx4a65c_init_da8c8) (maxL := 1) (ret := none) (by decide) rfl (Nat.le_of_ble_eq_true rfl) ?_
  intro p9 e s m args below meth c X hE hEs hnm hr hk hS ls hl
  have hl : lv_has ls 1 [(0, .ref a)] := hl
  have hin_RJx4a65c : ∀ w ∈ u_ws RJx4a65c TJx4a65c 3, w ∈ wsJx4a65c_init_da8c8 := by decide +kernel
  have hGd := hE.dis
  refine w_aload_n X dJx4a65c_init_da8c8_0 hl 0 rfl rfl ?_
  refine w_iv (va_runI (As := []) (rest := []) X (c_Jxc12de_init_da8c8 l g A H a hO hAa) (cwI 0 X.2.2.2.2 gJx4a65c_init_da8c8_Jxc12de_init_da8c8 rfl rfl rfl (X.2.2.2.2 (.initialized yJxc12de_init_da8c8.cls) (by decide +kernel)) (X.2.2.2.2 (.methodLink RJx4a65c 1 yJxc12de_init_da8c8) (by decide +kernel)) (X.2.2.2.2 (.instanceMethod yJxc12de_init_da8c8) (by decide +kernel)) rfl (by decide +kernel) ⟨(Nat.le_of_ble_eq_true rfl), (Nat.le_of_ble_eq_true rfl)⟩) (w_prS hE hEs hS) rfl rfl hl.1 rfl (lv_room (Nat.le_of_ble_eq_true rfl)) dJx4a65c_init_da8c8_1 ⟨(Nat.le_of_ble_eq_true rfl), (Nat.le_of_ble_eq_true rfl)⟩) hS (fun _ h => h) fun H_1 lo_2 hp_3 hz_4 hq_5 hS => ?_
  obtain ⟨ho_7, hz_8, hq_9⟩ := hp_3
  refine w_aload_n X dJx4a65c_init_da8c8_4 hl 0 rfl rfl ?_
  refine w_gets X hEs hS dJx4a65c_init_da8c8_5 (by decide +kernel) ?_
  refine w_put (ref := "java/util/ArrayList") (v := .ref (gE g)) X hE ho_7 hS hAa 1 dJx4a65c_init_da8c8_8 rfl hin_RJx4a65c tyJx4a65c tyJx4a65c_ok nmJx4a65c (by decide) (by decide +kernel) (fun _ h => h) rfl rfl rfl (Nat.le_of_ble_eq_true rfl) fun H_10 lo_11 ho_12 hz_13 hq_14 hS => ?_
  have ho_12 : Ob g H_10 a 0 [.int (wI (0)), .ref (gE g), .int (0)] := ho_12
  exact w_vrV X hr hk hS (⟨by rw [show (Value.int (wI 0) : Value) = Value.int 0 by rw [wI_0]]; have q := ho_12; rw [show (Value.int (wI 0) : Value) = Value.int 0 by rw [wI_0]] at q; exact q, by omega, fun q hq => ((hq_14 _ hq)).trans (hq_9 _ hq)⟩) dJx4a65c_init_da8c8_11 (Nat.le_of_ble_eq_true rfl) (Nat.le_of_ble_eq_true rfl)

set_option maxHeartbeats 4000000 in
set_option maxRecDepth 100000 in
theorem c_Jx4a65c_grow_92f84 (l : Launch) (g : wG) (A : Nat → Prop) (H : Heap) (hA : ∀ q, H.size ≤ q → A q) (a : Nat) (mc : Int32) (hO : Ob g H a 0 [.int mc, .ref (gE g), .int (wI 0)]) (hAa : A a) : ImpR l g A H yJx4a65c_grow_92f84 wsJx4a65c_grow_92f84 1 21 1 10 [.ref a, .int (wI (1))] (fun v H1 => ∃ b : Nat, v = .ref b ∧ b = H.size ∧ Ob g H1 a 0 [.int mc, .ref b, .int (wI 0)] ∧ RA g H1 b 10 (fun _ => none) ∧ H1.size = H.size + 1 ∧ ∀ q, q < H.size → q ≠ a → H1[q]? = H[q]?) := by
  refine Imp.of (cc := cJx4a65c_grow_92f84) (maxL := 4) (ret := (some (.array (.object "java/lang/Object")))) (by decide) rfl (Nat.le_of_ble_eq_true rfl) ?_
  intro p9 e s m args below meth c X hE hEs hnm hr hk hS ls hl
  have hl : lv_has ls 4 [(0, .ref a), (1, .int (wI (1)))] := hl
  have hin_RJx4a65c : ∀ w ∈ u_ws RJx4a65c TJx4a65c 3, w ∈ wsJx4a65c_grow_92f84 := by decide +kernel
  have hGd := hE.dis
  refine w_aload_n X dJx4a65c_grow_92f84_0 hl 0 rfl rfl ?_
  refine w_get X hE hO 1 dJx4a65c_grow_92f84_1 rfl hin_RJx4a65c (by decide) (by decide +kernel) rfl rfl ?_
  refine w_alenE X (w_at hEs hS).2.2.2.1 dJx4a65c_grow_92f84_4 ?_
  refine w_istore_n X [(2, .int (wI ((0 : Int)))), (0, .ref a), (1, .int (wI (1)))] dJx4a65c_grow_92f84_5 hl rfl (by decide) rfl fun ls hl => ?_
  refine w_iload_n X dJx4a65c_grow_92f84_6 hl 0 rfl rfl ?_
  refine w_if_gt X 20 dJx4a65c_grow_92f84_7 (by decide) (by omega) (fun c_1 => ?_) (fun c_1 => ?_)
  · skip
    exact absurd c_1 (by omega)
  · skip
    refine w_aload_n X dJx4a65c_grow_92f84_10 hl 1 rfl rfl ?_
    refine w_get X hE hO 1 dJx4a65c_grow_92f84_11 rfl hin_RJx4a65c (by decide) (by decide +kernel) rfl rfl ?_
    refine w_gets X hEs hS dJx4a65c_grow_92f84_14 (by decide +kernel) ?_
    refine w_acmpT X 45 dJx4a65c_grow_92f84_17 (by decide) ?_
    refine w_aload_n X dJx4a65c_grow_92f84_45 hl 1 rfl rfl ?_
    refine w_bipush X dJx4a65c_grow_92f84_46 (by decide) ?_
    refine w_iload_n X dJx4a65c_grow_92f84_48 hl 2 rfl rfl ?_
    refine w_mmax X hl dJx4a65c_grow_92f84_49 (by decide +kernel) (by omega) (by omega) ⟨(Nat.le_of_ble_eq_true rfl), (Nat.le_of_ble_eq_true rfl)⟩ ⟨(Nat.le_of_ble_eq_true rfl), (Nat.le_of_ble_eq_true rfl)⟩ fun z_2 ez_2 => ?_
    refine w_newR X hE hS 10 dJx4a65c_grow_92f84_52 (by omega) (by decide) (by decide +kernel) ⟨(Nat.le_of_ble_eq_true rfl), (Nat.le_of_ble_eq_true rfl)⟩ fun H_3 a_7 ea_7 hr_4 hz_5 hq_6 hS => ?_
    have ho_8 := (hO).kept (hq_6 _ (hO).lt)
    refine lv_dup_x1 X.1 X.2.1 dJx4a65c_grow_92f84_55 rfl rfl ?_
    refine w_put (ref := "java/util/ArrayList") (v := .ref a_7) X hE ho_8 hS hAa 1 dJx4a65c_grow_92f84_56 rfl hin_RJx4a65c tyJx4a65c tyJx4a65c_ok nmJx4a65c (by decide) (by decide +kernel) (fun _ h => h) rfl rfl rfl (Nat.le_of_ble_eq_true rfl) fun H_9 lo_10 ho_11 hz_12 hq_13 hS => ?_
    have ho_11 : Ob g H_9 a 0 [.int (mc), .ref a_7, .int (wI (0))] := ho_11
    have hr_14 := (hr_4).kept (hq_13 _ (Ne.symm (Ob.neR hGd (ho_8) (hr_4) (by decide))))
    exact w_arR X hr (Or.inr ⟨_, rfl⟩) hk hS ⟨a_7, rfl, ea_7, ho_11, hr_14, by omega, fun q hz hne => ((hq_13 _ hne)).trans (hq_6 _ (by omega))⟩ dJx4a65c_grow_92f84_59 (Nat.le_of_ble_eq_true rfl) (Nat.le_of_ble_eq_true rfl)

set_option maxHeartbeats 4000000 in
set_option maxRecDepth 100000 in
theorem c_Jx4a65c_grow_d5877 (l : Launch) (g : wG) (A : Nat → Prop) (H : Heap) (hA : ∀ q, H.size ≤ q → A q) (a : Nat) (mc : Int32) (hO : Ob g H a 0 [.int mc, .ref (gE g), .int (wI 0)]) (hAa : A a) : ImpR l g A H yJx4a65c_grow_d5877 wsJx4a65c_grow_d5877 2 44 1 10 [.ref a] (fun v H1 => ∃ b : Nat, v = .ref b ∧ b = H.size ∧ Ob g H1 a 0 [.int mc, .ref b, .int (wI 0)] ∧ RA g H1 b 10 (fun _ => none) ∧ H1.size = H.size + 1 ∧ ∀ q, q < H.size → q ≠ a → H1[q]? = H[q]?) := by
  refine Imp.of (cc := cJx4a65c_grow_d5877) (maxL := 1) (ret := (some (.array (.object "java/lang/Object")))) (by decide) rfl (Nat.le_of_ble_eq_true rfl) ?_
  intro p9 e s m args below meth c X hE hEs hnm hr hk hS ls hl
  have hl : lv_has ls 1 [(0, .ref a)] := hl
  have hin_RJx4a65c : ∀ w ∈ u_ws RJx4a65c TJx4a65c 3, w ∈ wsJx4a65c_grow_d5877 := by decide +kernel
  have hGd := hE.dis
  refine w_aload_n X dJx4a65c_grow_d5877_0 hl 0 rfl rfl ?_
  refine w_aload_n X dJx4a65c_grow_d5877_1 hl 0 rfl rfl ?_
  refine w_get X hE hO 2 dJx4a65c_grow_d5877_2 rfl hin_RJx4a65c (by decide) (by decide +kernel) rfl rfl ?_
  refine w_iconst X dJx4a65c_grow_d5877_5 ?_
  refine w_iadd X dJx4a65c_grow_d5877_6 fun z_1 ez_1 => ?_
  rw [show z_1 = 1 by omega]
  refine w_ir (va_runV (As := [.int (wI (1))]) (rest := []) X (c_Jx4a65c_grow_92f84 l g A H hA a mc hO hAa) (cwV 1 X.2.2.2.2 gJx4a65c_grow_d5877_Jx4a65c_grow_92f84 rfl rfl rfl (by decide +kernel) ⟨(Nat.le_of_ble_eq_true rfl), (Nat.le_of_ble_eq_true rfl)⟩) (w_prV hE hEs hS hO rfl) rfl rfl hl.1 rfl (lv_room (Nat.le_of_ble_eq_true rfl)) dJx4a65c_grow_d5877_7 ⟨(Nat.le_of_ble_eq_true rfl), (Nat.le_of_ble_eq_true rfl)⟩) hS (fun _ h => h) fun v_7 H_2 lo_3 hp_4 hz_5 hq_6 hS => ?_
  obtain ⟨b_8, rfl, eb_13, ho_9, hr_10, hz_11, hq_12⟩ := hp_4
  exact w_arR X hr (Or.inr ⟨_, rfl⟩) hk hS ⟨b_8, rfl, eb_13, ho_9, hr_10, by omega, fun q hz hne => hq_12 q hz hne⟩ dJx4a65c_grow_d5877_10 (Nat.le_of_ble_eq_true rfl) (Nat.le_of_ble_eq_true rfl)

set_option maxHeartbeats 4000000 in
set_option maxRecDepth 100000 in
theorem c_add3_0 (l : Launch) (g : wG) (A : Nat → Prop) (H : Heap) (hA : ∀ q, H.size ≤ q → A q) (a : Nat) (mc : Int32) (hO : Ob g H a 0 [.int mc, .ref (gE g), .int (wI 0)]) (hAa : A a) (v ci N9 : Nat) (vs : List Value) (hv : Ob g H v ci vs) (C9 : String) (T9 : u_T) (hc9 : vwCl[ci]? = some (C9, T9, N9)) (hcw : Cond.castable C9 "java/lang/Object" ∈ EW) (hc0 : 0 ≠ ci) (hc6 : ci < 5) : ImpV l g A H yJx4a65c_add_72be8 wsJx4a65c_add_72be8 3 64 1 10 [.ref a, .ref v, .ref (gE g), .int (wI (0))] (fun H1 => ∃ b : Nat, b = H.size ∧ Ob g H1 a 0 [.int mc, .ref b, .int (wI 1)] ∧ RA g H1 b 10 (va_up (fun _ => none) 0 (some v)) ∧ H1.size = H.size + 1 ∧ ∀ q, q < H.size → q ≠ a → H1[q]? = H[q]?) := by
  refine Imp.of (cc := cJx4a65c_add_72be8) (maxL := 4) (ret := none) (by decide) rfl (Nat.le_of_ble_eq_true rfl) ?_
  intro p9 e s m args below meth c X hE hEs hnm hr hk hS ls hl
  have hl : lv_has ls 4 [(0, .ref a), (1, .ref v), (2, .ref (gE g)), (3, .int (wI (0)))] := hl
  have hin_RJx4a65c : ∀ w ∈ u_ws RJx4a65c TJx4a65c 3, w ∈ wsJx4a65c_add_72be8 := by decide +kernel
  have hGd := hE.dis
  refine w_iload_n X dJx4a65c_add_72be8_0 hl 3 rfl rfl ?_
  refine w_aload_n X dJx4a65c_add_72be8_1 hl 2 rfl rfl ?_
  refine w_alenE X (w_at hEs hS).2.2.2.1 dJx4a65c_add_72be8_2 ?_
  refine w_icmp_ne X 11 dJx4a65c_add_72be8_3 (by decide) (by omega) (by omega) (fun c_1 => ?_) (fun c_1 => ?_)
  · skip
    exact absurd c_1 (by omega)
  · skip
    refine w_aload_n X dJx4a65c_add_72be8_6 hl 0 rfl rfl ?_
    refine w_ir (va_runV (As := []) (rest := []) X (c_Jx4a65c_grow_d5877 l g A H hA a mc hO hAa) (cwV 0 X.2.2.2.2 gJx4a65c_add_72be8_Jx4a65c_grow_d5877 rfl rfl rfl (by decide +kernel) ⟨(Nat.le_of_ble_eq_true rfl), (Nat.le_of_ble_eq_true rfl)⟩) (w_prV hE hEs hS hO rfl) rfl rfl hl.1 rfl (lv_room (Nat.le_of_ble_eq_true rfl)) dJx4a65c_add_72be8_7 ⟨(Nat.le_of_ble_eq_true rfl), (Nat.le_of_ble_eq_true rfl)⟩) hS (fun _ h => h) fun v_7 H_2 lo_3 hp_4 hz_5 hq_6 hS => ?_
    obtain ⟨b_8, rfl, eb_13, ho_9, hr_10, hz_11, hq_12⟩ := hp_4
    have ho_14 := (hv).kept (hq_12 _ (hv).lt (Ne.symm (Ob.ne hGd (hO) (hv) (by decide) hc6 hc0)))
    refine w_astore_n X [(2, .ref b_8), (0, .ref a), (1, .ref v), (3, .int (wI (0)))] dJx4a65c_add_72be8_10 hl rfl (by decide) rfl fun ls hl => ?_
    refine w_aload_n X dJx4a65c_add_72be8_11 hl 0 rfl rfl ?_
    refine w_iload_n X dJx4a65c_add_72be8_12 hl 3 rfl rfl ?_
    refine w_aload_n X dJx4a65c_add_72be8_13 hl 2 rfl rfl ?_
    refine w_aast X hE hr_10 ho_14 hS (hA _ (by omega)) dJx4a65c_add_72be8_14 hc9 (hE.2.1 _ hcw) (by omega) (by omega) (by omega) fun H_15 lo_16 hr_17 hz_18 hq_19 hS => ?_
    have ho_20 := (ho_9).kept (hq_19 _ (Ob.neR hGd (ho_9) (hr_10) (by decide)))
    have ho_21 := (ho_14).kept (hq_19 _ (Ob.neR hGd (ho_14) (hr_10) hc6))
    refine w_aload_n X dJx4a65c_add_72be8_15 hl 1 rfl rfl ?_
    refine w_iload_n X dJx4a65c_add_72be8_16 hl 3 rfl rfl ?_
    refine w_iconst X dJx4a65c_add_72be8_17 ?_
    refine w_iadd X dJx4a65c_add_72be8_18 fun z_22 ez_22 => ?_
    rw [show z_22 = 1 by omega]
    refine w_put (ref := "java/util/ArrayList") (v := .int (wI (1))) X hE ho_20 hS hAa 2 dJx4a65c_add_72be8_19 rfl hin_RJx4a65c tyJx4a65c tyJx4a65c_ok nmJx4a65c (by decide) (by decide +kernel) (fun _ h => h) rfl rfl rfl (Nat.le_of_ble_eq_true rfl) fun H_23 lo_24 ho_25 hz_26 hq_27 hS => ?_
    have ho_25 : Ob g H_23 a 0 [.int (mc), .ref b_8, .int (wI (1))] := ho_25
    have ho_28 := (ho_21).kept (hq_27 _ (Ne.symm (Ob.ne hGd (ho_20) (ho_21) (by decide) hc6 hc0)))
    have hr_29 := (hr_17).kept (hq_27 _ (Ne.symm (Ob.neR hGd (ho_20) (hr_17) (by decide))))
    exact w_vrV X hr hk hS ⟨_, eb_13, ho_25, hr_29, by omega, fun q hz hne => ((hq_27 _ hne).trans (hq_19 _ (by omega))).trans (hq_12 _ hz hne)⟩ dJx4a65c_add_72be8_22 (Nat.le_of_ble_eq_true rfl) (Nat.le_of_ble_eq_true rfl)

set_option maxHeartbeats 4000000 in
set_option maxRecDepth 100000 in
theorem c_add3_n (l : Launch) (g : wG) (A : Nat → Prop) (H : Heap) (a e9 n : Nat) (mc : Int32) (hO : Ob g H a 0 [.int mc, .ref e9, .int (wI (n : Int))]) (hAa : A a) (hAe : A e9) (hn0 : 0 < n) (hn : n < 10) (f : Nat → Option Nat) (hR : RA g H e9 10 f) (v ci N9 : Nat) (vs : List Value) (hv : Ob g H v ci vs) (C9 : String) (T9 : u_T) (hc9 : vwCl[ci]? = some (C9, T9, N9)) (hcw : Cond.castable C9 "java/lang/Object" ∈ EW) (hc0 : 0 ≠ ci) (hc6 : ci < 5) : ImpV l g A H yJx4a65c_add_72be8 wsJx4a65c_add_72be8 3 64 1 10 [.ref a, .ref v, .ref e9, .int (wI ((n : Int)))] (fun H1 => Ob g H1 a 0 [.int mc, .ref e9, .int (wI ((n : Int) + 1))] ∧ RA g H1 e9 10 (va_up f n (some v)) ∧ H1.size = H.size ∧ ∀ q, q ≠ a → q ≠ e9 → H1[q]? = H[q]?) := by
  refine Imp.of (cc := cJx4a65c_add_72be8) (maxL := 4) (ret := none) (by decide) rfl (Nat.le_of_ble_eq_true rfl) ?_
  intro p9 e s m args below meth c X hE hEs hnm hr hk hS ls hl
  have hl : lv_has ls 4 [(0, .ref a), (1, .ref v), (2, .ref e9), (3, .int (wI ((n : Int))))] := hl
  have hin_RJx4a65c : ∀ w ∈ u_ws RJx4a65c TJx4a65c 3, w ∈ wsJx4a65c_add_72be8 := by decide +kernel
  have hGd := hE.dis
  refine w_iload_n X dJx4a65c_add_72be8_0 hl 3 rfl rfl ?_
  refine w_aload_n X dJx4a65c_add_72be8_1 hl 2 rfl rfl ?_
  refine w_alen X hE hR dJx4a65c_add_72be8_2 ?_
  refine w_icmp_ne X 11 dJx4a65c_add_72be8_3 (by decide) (by omega) (by omega) (fun c_1 => ?_) (fun c_1 => ?_)
  · skip
    refine w_aload_n X dJx4a65c_add_72be8_11 hl 2 rfl rfl ?_
    refine w_iload_n X dJx4a65c_add_72be8_12 hl 3 rfl rfl ?_
    refine w_aload_n X dJx4a65c_add_72be8_13 hl 1 rfl rfl ?_
    refine w_aast X hE hR hv hS hAe dJx4a65c_add_72be8_14 hc9 (hE.2.1 _ hcw) (by omega) (by omega) (by omega) fun H_2 lo_3 hr_4 hz_5 hq_6 hS => ?_
    have ho_7 := (hO).kept (hq_6 _ (Ob.neR hGd (hO) (hR) (by decide)))
    have ho_8 := (hv).kept (hq_6 _ (Ob.neR hGd (hv) (hR) hc6))
    refine w_aload_n X dJx4a65c_add_72be8_15 hl 0 rfl rfl ?_
    refine w_iload_n X dJx4a65c_add_72be8_16 hl 3 rfl rfl ?_
    refine w_iconst X dJx4a65c_add_72be8_17 ?_
    refine w_iadd X dJx4a65c_add_72be8_18 fun z_9 ez_9 => ?_
    rw [show z_9 = (n : Int) + 1 by omega]
    refine w_put (ref := "java/util/ArrayList") (v := .int (wI ((n : Int) + 1))) X hE ho_7 hS hAa 2 dJx4a65c_add_72be8_19 rfl hin_RJx4a65c tyJx4a65c tyJx4a65c_ok nmJx4a65c (by decide) (by decide +kernel) (fun _ h => h) rfl rfl rfl (Nat.le_of_ble_eq_true rfl) fun H_10 lo_11 ho_12 hz_13 hq_14 hS => ?_
    have ho_12 : Ob g H_10 a 0 [.int (mc), .ref e9, .int (wI ((n : Int) + 1))] := ho_12
    have ho_15 := (ho_8).kept (hq_14 _ (Ne.symm (Ob.ne hGd (ho_7) (ho_8) (by decide) hc6 hc0)))
    have hr_16 := (hr_4).kept (hq_14 _ (Ne.symm (Ob.neR hGd (ho_7) (hr_4) (by decide))))
    exact w_vrV X hr hk hS ⟨ho_12, hr_16, by omega, fun q hz hne => ((hq_14 _ hz)).trans (hq_6 _ hne)⟩ dJx4a65c_add_72be8_22 (Nat.le_of_ble_eq_true rfl) (Nat.le_of_ble_eq_true rfl)
  · skip
    exact absurd c_1 (by omega)


/-- what a list's add leaves -/
def AddPost (g : wG) (A : Nat → Prop) (H : Heap) (a e9 n : Nat) (mc : Int32) (f : Nat → Option Nat) (v : Nat) (w : Value) (H1 : Heap) : Prop :=
  w = .int (wI 1) ∧ ∃ (e' : Nat) (f' : Nat → Option Nat), Ob g H1 a 0 [.int (mc + wI 1), .ref e', .int (wI ((n : Int) + 1))] ∧ RA g H1 e' 10 f' ∧ A e' ∧ ((0 < n ∧ e' = e9) ∨ (n = 0 ∧ H.size ≤ e')) ∧ (∀ i, i < n → f' i = f i) ∧ f' n = some v ∧ H.size ≤ H1.size ∧ ∀ q, q < H.size → q ≠ a → (0 < n → q ≠ e9) → H1[q]? = H[q]?

set_option maxHeartbeats 4000000 in
set_option maxRecDepth 100000 in
theorem c_add_0 (l : Launch) (g : wG) (A : Nat → Prop) (H : Heap) (hA : ∀ q, H.size ≤ q → A q) (a : Nat) (mc : Int32) (hO : Ob g H a 0 [.int mc, .ref (gE g), .int (wI 0)]) (hAa : A a) (f : Nat → Option Nat) (v ci N9 : Nat) (vs : List Value) (hv : Ob g H v ci vs) (C9 : String) (T9 : u_T) (hc9 : vwCl[ci]? = some (C9, T9, N9)) (hcw : Cond.castable C9 "java/lang/Object" ∈ EW) (hc0 : 0 ≠ ci) (hc6 : ci < 5) : ImpR l g A H yJx4a65c_add_9ea2d wsJx4a65c_add_9ea2d 4 87 1 10 [.ref a, .ref v] (AddPost g A H a (gE g) 0 mc f v) := by
  refine Imp.of (cc := cJx4a65c_add_9ea2d) (maxL := 2) (ret := (some .boolean)) (by decide) rfl (Nat.le_of_ble_eq_true rfl) ?_
  intro p9 e s m args below meth c X hE hEs hnm hr hk hS ls hl
  have hl : lv_has ls 2 [(0, .ref a), (1, .ref v)] := hl
  have hin_RJx4a65c : ∀ w ∈ u_ws RJx4a65c TJx4a65c 3, w ∈ wsJx4a65c_add_9ea2d := by decide +kernel
  have hGd := hE.dis
  refine w_aload_n X dJx4a65c_add_9ea2d_0 hl 0 rfl rfl ?_
  refine w_dup X dJx4a65c_add_9ea2d_1 rfl ?_
  refine w_getU (ref := "java/util/ArrayList") X hE hO 0 dJx4a65c_add_9ea2d_2 rfl hin_RJx4a65c (by decide) (by decide +kernel) (fun x h => u_same (X.2.2.2.2 _ (by decide +kernel)) x h) rfl ?_
  refine w_iconst X dJx4a65c_add_9ea2d_5 ?_
  refine lv_iadd X.1 X.2.1 dJx4a65c_add_9ea2d_6 ?_
  refine w_put (ref := "java/util/ArrayList") (v := .int (mc + wI (1))) X hE hO hS hAa 0 dJx4a65c_add_9ea2d_7 rfl hin_RJx4a65c tyJx4a65c tyJx4a65c_ok nmJx4a65c (by decide) (by decide +kernel) (fun x h => u_same (X.2.2.2.2 _ (by decide +kernel)) x h) rfl rfl rfl (Nat.le_of_ble_eq_true rfl) fun H_1 lo_2 ho_3 hz_4 hq_5 hS => ?_
  have ho_3 : Ob g H_1 a 0 [.int (mc + wI (1)), .ref (gE g), .int (wI (0))] := ho_3
  have ho_6 := (hv).kept (hq_5 _ (Ne.symm (Ob.ne hGd (hO) (hv) (by decide) hc6 hc0)))
  refine w_aload_n X dJx4a65c_add_9ea2d_10 hl 0 rfl rfl ?_
  refine w_aload_n X dJx4a65c_add_9ea2d_11 hl 1 rfl rfl ?_
  refine w_aload_n X dJx4a65c_add_9ea2d_12 hl 0 rfl rfl ?_
  refine w_get X hE ho_3 1 dJx4a65c_add_9ea2d_13 rfl hin_RJx4a65c (by decide) (by decide +kernel) rfl rfl ?_
  refine w_aload_n X dJx4a65c_add_9ea2d_16 hl 0 rfl rfl ?_
  refine w_get X hE ho_3 2 dJx4a65c_add_9ea2d_17 rfl hin_RJx4a65c (by decide) (by decide +kernel) rfl rfl ?_
  refine w_iv (va_runV (As := [.ref v, .ref (gE g), .int (wI (0))]) (rest := []) X (c_add3_0 l g A H_1 (fun q hq => hA q (by omega)) a (mc + wI (1)) ho_3 hAa v ci N9 vs ho_6 C9 T9 hc9 hcw hc0 hc6) (cwV 3 X.2.2.2.2 gJx4a65c_add_9ea2d_Jx4a65c_add_72be8 rfl rfl rfl (by decide +kernel) ⟨(Nat.le_of_ble_eq_true rfl), (Nat.le_of_ble_eq_true rfl)⟩) (w_prV hE hEs hS ho_3 rfl) rfl rfl hl.1 rfl (lv_room (Nat.le_of_ble_eq_true rfl)) dJx4a65c_add_9ea2d_20 ⟨(Nat.le_of_ble_eq_true rfl), (Nat.le_of_ble_eq_true rfl)⟩) hS (fun _ h => h) fun H_7 lo_8 hp_9 hz_10 hq_11 hS => ?_
  obtain ⟨b_13, eb_18, ho_14, hr_15, hz_16, hq_17⟩ := hp_9
  refine w_iconst X dJx4a65c_add_9ea2d_23 ?_
  exact w_zrR X hr hk hS (Or.inr rfl) ⟨rfl, _, _, ho_14, hr_15, hA _ (by omega), Or.inr ⟨rfl, by omega⟩, fun i hi => absurd hi (Nat.not_lt_zero i), by simp [va_up], by omega, fun q hz hne _ => (hq_17 _ (by omega) hne).trans (hq_5 _ hne)⟩ dJx4a65c_add_9ea2d_24 (Nat.le_of_ble_eq_true rfl) (Nat.le_of_ble_eq_true rfl)

set_option maxHeartbeats 4000000 in
set_option maxRecDepth 100000 in
theorem c_add_n (l : Launch) (g : wG) (A : Nat → Prop) (H : Heap) (a e9 n : Nat) (mc : Int32) (hO : Ob g H a 0 [.int mc, .ref e9, .int (wI (n : Int))]) (hAa : A a) (hAe : A e9) (hn0 : 0 < n) (hn : n < 10) (f : Nat → Option Nat) (hR : RA g H e9 10 f) (v ci N9 : Nat) (vs : List Value) (hv : Ob g H v ci vs) (C9 : String) (T9 : u_T) (hc9 : vwCl[ci]? = some (C9, T9, N9)) (hcw : Cond.castable C9 "java/lang/Object" ∈ EW) (hc0 : 0 ≠ ci) (hc6 : ci < 5) : ImpR l g A H yJx4a65c_add_9ea2d wsJx4a65c_add_9ea2d 4 87 1 10 [.ref a, .ref v] (AddPost g A H a e9 n mc f v) := by
  refine Imp.of (cc := cJx4a65c_add_9ea2d) (maxL := 2) (ret := (some .boolean)) (by decide) rfl (Nat.le_of_ble_eq_true rfl) ?_
  intro p9 e s m args below meth c X hE hEs hnm hr hk hS ls hl
  have hl : lv_has ls 2 [(0, .ref a), (1, .ref v)] := hl
  have hin_RJx4a65c : ∀ w ∈ u_ws RJx4a65c TJx4a65c 3, w ∈ wsJx4a65c_add_9ea2d := by decide +kernel
  have hGd := hE.dis
  refine w_aload_n X dJx4a65c_add_9ea2d_0 hl 0 rfl rfl ?_
  refine w_dup X dJx4a65c_add_9ea2d_1 rfl ?_
  refine w_getU (ref := "java/util/ArrayList") X hE hO 0 dJx4a65c_add_9ea2d_2 rfl hin_RJx4a65c (by decide) (by decide +kernel) (fun x h => u_same (X.2.2.2.2 _ (by decide +kernel)) x h) rfl ?_
  refine w_iconst X dJx4a65c_add_9ea2d_5 ?_
  refine lv_iadd X.1 X.2.1 dJx4a65c_add_9ea2d_6 ?_
  refine w_put (ref := "java/util/ArrayList") (v := .int (mc + wI (1))) X hE hO hS hAa 0 dJx4a65c_add_9ea2d_7 rfl hin_RJx4a65c tyJx4a65c tyJx4a65c_ok nmJx4a65c (by decide) (by decide +kernel) (fun x h => u_same (X.2.2.2.2 _ (by decide +kernel)) x h) rfl rfl rfl (Nat.le_of_ble_eq_true rfl) fun H_1 lo_2 ho_3 hz_4 hq_5 hS => ?_
  have ho_3 : Ob g H_1 a 0 [.int (mc + wI (1)), .ref e9, .int (wI ((n : Int)))] := ho_3
  have ho_6 := (hv).kept (hq_5 _ (Ne.symm (Ob.ne hGd (hO) (hv) (by decide) hc6 hc0)))
  have hr_7 := (hR).kept (hq_5 _ (Ne.symm (Ob.neR hGd (hO) (hR) (by decide))))
  refine w_aload_n X dJx4a65c_add_9ea2d_10 hl 0 rfl rfl ?_
  refine w_aload_n X dJx4a65c_add_9ea2d_11 hl 1 rfl rfl ?_
  refine w_aload_n X dJx4a65c_add_9ea2d_12 hl 0 rfl rfl ?_
  refine w_get X hE ho_3 1 dJx4a65c_add_9ea2d_13 rfl hin_RJx4a65c (by decide) (by decide +kernel) rfl rfl ?_
  refine w_aload_n X dJx4a65c_add_9ea2d_16 hl 0 rfl rfl ?_
  refine w_get X hE ho_3 2 dJx4a65c_add_9ea2d_17 rfl hin_RJx4a65c (by decide) (by decide +kernel) rfl rfl ?_
  refine w_iv (va_runV (As := [.ref v, .ref e9, .int (wI ((n : Int)))]) (rest := []) X (c_add3_n l g A H_1 a e9 n (mc + wI (1)) ho_3 hAa hAe hn0 hn f hr_7 v ci N9 vs ho_6 C9 T9 hc9 hcw hc0 hc6) (cwV 3 X.2.2.2.2 gJx4a65c_add_9ea2d_Jx4a65c_add_72be8 rfl rfl rfl (by decide +kernel) ⟨(Nat.le_of_ble_eq_true rfl), (Nat.le_of_ble_eq_true rfl)⟩) (w_prV hE hEs hS ho_3 rfl) rfl rfl hl.1 rfl (lv_room (Nat.le_of_ble_eq_true rfl)) dJx4a65c_add_9ea2d_20 ⟨(Nat.le_of_ble_eq_true rfl), (Nat.le_of_ble_eq_true rfl)⟩) hS (fun _ h => h) fun H_8 lo_9 hp_10 hz_11 hq_12 hS => ?_
  obtain ⟨ho_14, hr_15, hz_16, hq_17⟩ := hp_10
  refine w_iconst X dJx4a65c_add_9ea2d_23 ?_
  exact w_zrR X hr hk hS (Or.inr rfl) ⟨rfl, _, _, ho_14, hr_15, hAe, Or.inl ⟨hn0, rfl⟩, fun i hi => if_neg (by omega), if_pos rfl, by omega, fun q hz hne hne2 => (hq_17 _ hne (hne2 hn0)).trans (hq_5 _ hne)⟩ dJx4a65c_add_9ea2d_24 (Nat.le_of_ble_eq_true rfl) (Nat.le_of_ble_eq_true rfl)

theorem c_add (l : Launch) (g : wG) (A : Nat → Prop) (H : Heap) (hA : ∀ q, H.size ≤ q → A q) (a e9 n : Nat) (mc : Int32) (hO : Ob g H a 0 [.int mc, .ref e9, .int (wI (n : Int))]) (hAa : A a) (hn : n < 10) (f : Nat → Option Nat) (hR : 0 < n → A e9 ∧ RA g H e9 10 f) (h0 : n = 0 → e9 = gE g) (v ci N9 : Nat) (vs : List Value) (hv : Ob g H v ci vs) (C9 : String) (T9 : u_T) (hc9 : vwCl[ci]? = some (C9, T9, N9)) (hcw : Cond.castable C9 "java/lang/Object" ∈ EW) (hc0 : 0 ≠ ci) (hc6 : ci < 5) : ImpR l g A H yJx4a65c_add_9ea2d wsJx4a65c_add_9ea2d 4 87 1 10 [.ref a, .ref v] (AddPost g A H a e9 n mc f v) := by
  rcases Nat.eq_zero_or_pos n with q | q
  · subst q
    have q := h0 rfl
    subst q
    exact c_add_0 l g A H hA a mc hO hAa f v ci N9 vs hv C9 T9 hc9 hcw hc0 hc6
  · exact c_add_n l g A H a e9 n mc hO hAa (hR q).1 q hn f (hR q).2 v ci N9 vs hv C9 T9 hc9 hcw hc0 hc6

set_option maxHeartbeats 4000000 in
set_option maxRecDepth 100000 in
theorem c_X2_init (l : Launch) (g : wG) (A : Nat → Prop) (H : Heap) (hA : ∀ q, H.size ≤ q → A q) (a h t : Nat) (q9 : Int) (hO : Ob g H a 3 [.null, .null, .null, .int 0, .int 0, .int 0, .int 0, .int 0]) (hAa : A a) : ImpV l g A H yX2_init wsX2_init 4 80 1 3 [.ref a, .ref h, .ref t, .int (wI (q9))] (fun H1 => ∃ b : Nat, b = H.size ∧ Ob g H1 a 3 [.ref h, .ref t, .ref b, .int (wI q9), .int (wI 0), .int (wI 0), .int (wI 0), .int (wI 0)] ∧ Ob g H1 b 0 [.int (wI 0), .ref (gE g), .int (wI 0)] ∧ H1.size = H.size + 1 ∧ ∀ q, q < H.size → q ≠ a → H1[q]? = H[q]?) := by
  refine Imp.of (cc := cX2_init) (maxL := 4) (ret := none) (by decide) rfl (Nat.le_of_ble_eq_true rfl) ?_
  intro p9 e s m args below meth c X hE hEs hnm hr hk hS ls hl
  have hl : lv_has ls 4 [(0, .ref a), (1, .ref h), (2, .ref t), (3, .int (wI (q9)))] := hl
  have hin_RJx4a65c : ∀ w ∈ u_ws RJx4a65c TJx4a65c 3, w ∈ wsX2_init := by decide +kernel
  have hin_RX2 : ∀ w ∈ u_ws RX2 TX2 8, w ∈ wsX2_init := by decide +kernel
  have hGd := hE.dis
  refine w_aload_n X dX2_init_0 hl 0 rfl rfl ?_
  refine W.objInit X.1 X.2.1 X.2.2.2.1 (X.2.2.2.2 (.methodLink RX2 3 objectInit) (by decide +kernel)) (X.2.2.2.2 (.instanceMethod objectInit) (by decide +kernel)) (X.2.2.2.2 (.code objectInit ⟨#[0xb1]⟩ 1 none) (by decide +kernel)) rfl (hl.1.trans X.2.2.1.symm) rfl dX2_init_1 (Nat.le_of_ble_eq_true rfl) (Nat.le_of_ble_eq_true rfl) ?_
  refine W.eq (g2 := F0 m 4 ls []) rfl ?_
  refine w_aload_n X dX2_init_4 hl 0 rfl rfl ?_
  refine w_new (ci := 0) X hE hS [.int 0, .null, .int 0] dX2_init_5 rfl hin_RJx4a65c tyJx4a65c tyJx4a65c_ok (by decide +kernel) (fun j hj => by rcases (by omega : j = 0 ∨ j = 1 ∨ j = 2) with rfl | rfl | rfl <;> rfl) ⟨(Nat.le_of_ble_eq_true rfl), (Nat.le_of_ble_eq_true rfl)⟩ fun H_1 a_5 ea_5 ho_2 hz_3 hq_4 hS => ?_
  have ho_6 := (hO).kept (hq_4 _ (hO).lt)
  refine w_dup X dX2_init_8 rfl ?_
  refine w_iv (va_runI (As := []) (rest := [.ref a_5, .ref a]) X (c_Jx4a65c_init_da8c8 l g A H_1 a_5 ho_2 (hA _ (by omega))) (cwI 0 X.2.2.2.2 gX2_init_Jx4a65c_init_da8c8 rfl rfl rfl (X.2.2.2.2 (.initialized yJx4a65c_init_da8c8.cls) (by decide +kernel)) (X.2.2.2.2 (.methodLink RX2 11 yJx4a65c_init_da8c8) (by decide +kernel)) (X.2.2.2.2 (.instanceMethod yJx4a65c_init_da8c8) (by decide +kernel)) rfl (by decide +kernel) ⟨(Nat.le_of_ble_eq_true rfl), (Nat.le_of_ble_eq_true rfl)⟩) (w_prS hE hEs hS) rfl rfl hl.1 rfl (lv_room (Nat.le_of_ble_eq_true rfl)) dX2_init_9 ⟨(Nat.le_of_ble_eq_true rfl), (Nat.le_of_ble_eq_true rfl)⟩) hS (fun _ h => h) fun H_7 lo_8 hp_9 hz_10 hq_11 hS => ?_
  obtain ⟨ho_13, hz_14, hq_15⟩ := hp_9
  have ho_16 := (ho_6).kept (hq_15 _ (Ob.ne hGd (ho_6) (ho_2) (by decide) (by decide) (by decide)))
  refine w_putF (ref := "TaxEqualiser$Person") (v := .ref a_5) X hE ho_16 hS hAa hnm 2 dX2_init_12 rfl hin_RX2 tyX2 tyX2_ok nmX2 (by decide) (by decide +kernel) (fun _ h => h) rfl rfl rfl rfl (Nat.le_of_ble_eq_true rfl) fun H_17 lo_18 ho_19 hz_20 hq_21 hS => ?_
  have ho_19 : Ob g H_17 a 3 [.null, .null, .ref a_5, .int (0), .int (0), .int (0), .int (0), .int (0)] := ho_19
  have ho_22 := (ho_13).kept (hq_21 _ (Ob.ne hGd (ho_13) (ho_16) (by decide) (by decide) (by decide)))
  refine w_aload_n X dX2_init_15 hl 0 rfl rfl ?_
  refine w_iconst X dX2_init_16 ?_
  refine w_put (ref := "TaxEqualiser$Person") (v := .int (wI (0))) X hE ho_19 hS hAa 4 dX2_init_17 rfl hin_RX2 tyX2 tyX2_ok nmX2 (by decide) (by decide +kernel) (fun _ h => h) rfl rfl rfl (Nat.le_of_ble_eq_true rfl) fun H_23 lo_24 ho_25 hz_26 hq_27 hS => ?_
  have ho_25 : Ob g H_23 a 3 [.null, .null, .ref a_5, .int (0), .int (wI (0)), .int (0), .int (0), .int (0)] := ho_25
  have ho_28 := (ho_22).kept (hq_27 _ (Ob.ne hGd (ho_22) (ho_19) (by decide) (by decide) (by decide)))
  refine w_aload_n X dX2_init_20 hl 0 rfl rfl ?_
  refine w_iconst X dX2_init_21 ?_
  refine w_put (ref := "TaxEqualiser$Person") (v := .int (wI (0))) X hE ho_25 hS hAa 5 dX2_init_22 rfl hin_RX2 tyX2 tyX2_ok nmX2 (by decide) (by decide +kernel) (fun _ h => h) rfl rfl rfl (Nat.le_of_ble_eq_true rfl) fun H_29 lo_30 ho_31 hz_32 hq_33 hS => ?_
  have ho_31 : Ob g H_29 a 3 [.null, .null, .ref a_5, .int (0), .int (wI (0)), .int (wI (0)), .int (0), .int (0)] := ho_31
  have ho_34 := (ho_28).kept (hq_33 _ (Ob.ne hGd (ho_28) (ho_25) (by decide) (by decide) (by decide)))
  refine w_aload_n X dX2_init_25 hl 0 rfl rfl ?_
  refine w_iconst X dX2_init_26 ?_
  refine w_put (ref := "TaxEqualiser$Person") (v := .int (wI (0))) X hE ho_31 hS hAa 6 dX2_init_27 rfl hin_RX2 tyX2 tyX2_ok nmX2 (by decide) (by decide +kernel) (fun _ h => h) rfl rfl rfl (Nat.le_of_ble_eq_true rfl) fun H_35 lo_36 ho_37 hz_38 hq_39 hS => ?_
  have ho_37 : Ob g H_35 a 3 [.null, .null, .ref a_5, .int (0), .int (wI (0)), .int (wI (0)), .int (wI (0)), .int (0)] := ho_37
  have ho_40 := (ho_34).kept (hq_39 _ (Ob.ne hGd (ho_34) (ho_31) (by decide) (by decide) (by decide)))
  refine w_aload_n X dX2_init_30 hl 0 rfl rfl ?_
  refine w_iconst X dX2_init_31 ?_
  refine w_put (ref := "TaxEqualiser$Person") (v := .int (wI (0))) X hE ho_37 hS hAa 7 dX2_init_32 rfl hin_RX2 tyX2 tyX2_ok nmX2 (by decide) (by decide +kernel) (fun _ h => h) rfl rfl rfl (Nat.le_of_ble_eq_true rfl) fun H_41 lo_42 ho_43 hz_44 hq_45 hS => ?_
  have ho_43 : Ob g H_41 a 3 [.null, .null, .ref a_5, .int (0), .int (wI (0)), .int (wI (0)), .int (wI (0)), .int (wI (0))] := ho_43
  have ho_46 := (ho_40).kept (hq_45 _ (Ob.ne hGd (ho_40) (ho_37) (by decide) (by decide) (by decide)))
  refine w_aload_n X dX2_init_35 hl 0 rfl rfl ?_
  refine w_aload_n X dX2_init_36 hl 1 rfl rfl ?_
  refine w_putF (ref := "TaxEqualiser$Person") (v := .ref h) X hE ho_43 hS hAa hnm 0 dX2_init_37 rfl hin_RX2 tyX2 tyX2_ok nmX2 (by decide) (by decide +kernel) (fun _ h => h) rfl rfl rfl rfl (Nat.le_of_ble_eq_true rfl) fun H_47 lo_48 ho_49 hz_50 hq_51 hS => ?_
  have ho_49 : Ob g H_47 a 3 [.ref h, .null, .ref a_5, .int (0), .int (wI (0)), .int (wI (0)), .int (wI (0)), .int (wI (0))] := ho_49
  have ho_52 := (ho_46).kept (hq_51 _ (Ob.ne hGd (ho_46) (ho_43) (by decide) (by decide) (by decide)))
  refine w_aload_n X dX2_init_40 hl 0 rfl rfl ?_
  refine w_aload_n X dX2_init_41 hl 2 rfl rfl ?_
  refine w_putF (ref := "TaxEqualiser$Person") (v := .ref t) X hE ho_49 hS hAa hnm 1 dX2_init_42 rfl hin_RX2 tyX2 tyX2_ok nmX2 (by decide) (by decide +kernel) (fun _ h => h) rfl rfl rfl rfl (Nat.le_of_ble_eq_true rfl) fun H_53 lo_54 ho_55 hz_56 hq_57 hS => ?_
  have ho_55 : Ob g H_53 a 3 [.ref h, .ref t, .ref a_5, .int (0), .int (wI (0)), .int (wI (0)), .int (wI (0)), .int (wI (0))] := ho_55
  have ho_58 := (ho_52).kept (hq_57 _ (Ob.ne hGd (ho_52) (ho_49) (by decide) (by decide) (by decide)))
  refine w_aload_n X dX2_init_45 hl 0 rfl rfl ?_
  refine w_iload_n X dX2_init_46 hl 3 rfl rfl ?_
  refine w_put (ref := "TaxEqualiser$Person") (v := .int (wI (q9))) X hE ho_55 hS hAa 3 dX2_init_47 rfl hin_RX2 tyX2 tyX2_ok nmX2 (by decide) (by decide +kernel) (fun _ h => h) rfl rfl rfl (Nat.le_of_ble_eq_true rfl) fun H_59 lo_60 ho_61 hz_62 hq_63 hS => ?_
  have ho_61 : Ob g H_59 a 3 [.ref h, .ref t, .ref a_5, .int (wI (q9)), .int (wI (0)), .int (wI (0)), .int (wI (0)), .int (wI (0))] := ho_61
  have ho_64 := (ho_58).kept (hq_63 _ (Ob.ne hGd (ho_58) (ho_55) (by decide) (by decide) (by decide)))
  exact w_vrV X hr hk hS ⟨a_5, by omega, ho_61, ho_64, by omega, fun q hz hne => ((((((((((hq_63 _ hne)).trans (hq_57 _ hne)).trans (hq_51 _ hne)).trans (hq_45 _ hne)).trans (hq_39 _ hne)).trans (hq_33 _ hne)).trans (hq_27 _ hne)).trans (hq_21 _ hne)).trans (hq_15 _ (by omega))).trans (hq_4 _ (by omega))⟩ dX2_init_50 (Nat.le_of_ble_eq_true rfl) (Nat.le_of_ble_eq_true rfl)
