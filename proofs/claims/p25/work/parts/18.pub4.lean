/-! the object made -/
def sel4 (a b c d : Nat) : Nat → Nat := fun i => match i with
  | 0 => a
  | 1 => b
  | 2 => c
  | _ => d
theorem sel4_inj {L0 L1 L2 L3 i j : Nat} (n1 : L0 < L1) (n2 : L1 < L2) (n3 : L2 < L3) (hi : i < 4) (hj : j < 4) (e : sel4 L0 L1 L2 L3 i = sel4 L0 L1 L2 L3 j) : i = j := by
  have h0 : sel4 L0 L1 L2 L3 0 = L0 := rfl
  have h1 : sel4 L0 L1 L2 L3 1 = L1 := rfl
  have h2 : sel4 L0 L1 L2 L3 2 = L2 := rfl
  have h3 : sel4 L0 L1 L2 L3 3 = L3 := rfl
  rcases (by omega : (i = 0 ∨ i = 1 ∨ i = 2 ∨ i = 3) ∧ (j = 0 ∨ j = 1 ∨ j = 2 ∨ j = 3)) with ⟨rfl | rfl | rfl | rfl, rfl | rfl | rfl | rfl⟩ <;> omega
def st0 : St := (fun _ => land0, 0, fun _ _ => 0, fun _ => 0, fun _ _ _ => 0)
theorem XInv.start {g : wG} {A : Nat → Prop} {H : Heap} {x a1 a2 e4 L0 L1 L2 L3 : Nat} {m1 m2 : Int32} {f : Nat → Option Nat} (hx : A x) (hO : Ob g H x 4 [.ref a1, .ref a2]) (h1 : A a1) (h2 : A a2) (hne : a1 ≠ a2) (hl1 : Ob g H a1 0 [.int m1, .ref e4, .int (wI 4)]) (hl2 : Ob g H a2 0 [.int m2, .ref (gE g), .int (wI 0)]) (hr : RA g H e4 10 f) (hAe : A e4)
    (f0 : f 0 = some L0) (f1 : f 1 = some L1) (f2 : f 2 = some L2) (f3 : f 3 = some L3) (k0 : A L0 ∧ LandAt g H L0 land0) (k1 : A L1 ∧ LandAt g H L1 land0) (k2 : A L2 ∧ LandAt g H L2 land0) (k3 : A L3 ∧ LandAt g H L3 land0) (n1 : L0 < L1) (n2 : L1 < L2) (n3 : L2 < L3) : XInv g A x st0 H := by
  refine ⟨fun k => if k = 0 then a1 else a2, fun k => if k = 0 then e4 else gE g, fun k => if k = 0 then m1 else m2, fun _ => f, sel4 L0 L1 L2 L3, fun _ => 0, ⟨fun k hk => ?_, fun j k hj hk => ?_, fun j k hj hk => ?_⟩, ⟨hx, hO⟩, fun i hi => ?_, fun i j hi hj => ?_, fun i hi => absurd hi (by show ¬ i < 0; omega), fun i j hi => absurd hi (by show ¬ i < 0; omega), fun i j hi => absurd hi (by show ¬ i < 0; omega)⟩
  · have hk : k < 2 := hk
    rcases (by omega : k = 0 ∨ k = 1) with rfl | rfl
    · exact ⟨⟨h1, hl1⟩, fun _ => ⟨hAe, hr⟩, fun q => absurd q (by show ¬ 4 = 0; omega)⟩
    · exact ⟨⟨h2, hl2⟩, fun q => absurd q (by show ¬ 0 < 0; omega), fun _ => rfl⟩
  · have hj : j < 2 := hj
    have hk : k < 2 := hk
    rcases (by omega : (j = 0 ∨ j = 1) ∧ (k = 0 ∨ k = 1)) with ⟨rfl | rfl, rfl | rfl⟩
    · exact fun _ => rfl
    · exact fun e => absurd e hne
    · exact fun e => absurd e.symm hne
    · exact fun _ => rfl
  · have hj : j < 2 := hj
    have hk : k < 2 := hk
    rcases (by omega : (j = 0 ∨ j = 1) ∧ (k = 0 ∨ k = 1)) with ⟨rfl | rfl, rfl | rfl⟩
    · exact fun _ _ _ => rfl
    · exact fun _ q => absurd q (by show ¬ 0 < 0; omega)
    · exact fun q => absurd q (by show ¬ 0 < 0; omega)
    · exact fun _ _ _ => rfl
  · rcases (by omega : i = 0 ∨ i = 1 ∨ i = 2 ∨ i = 3) with rfl | rfl | rfl | rfl
    · exact ⟨f0, k0⟩
    · exact ⟨f1, k1⟩
    · exact ⟨f2, k2⟩
    · exact ⟨f3, k3⟩
  · exact sel4_inj n1 n2 n3 hi hj
theorem st0_good : StGood st0 := by
  refine ⟨fun i hi => ?_, by decide, fun i hi => absurd hi (by show ¬ i < 0; omega), fun i hi => ⟨rfl, rfl, rfl, rfl, rfl⟩⟩
  show lGood land0
  exact ⟨by decide, by decide, by decide, ⟨by decide, by decide⟩, ⟨by decide, by decide⟩, by decide, by decide⟩

set_option maxHeartbeats 4000000 in
set_option maxRecDepth 100000 in
theorem c_X3_init (l : Launch) (g : wG) (A : Nat → Prop) (H : Heap) (hA : ∀ q, H.size ≤ q → A q) (x : Nat) (hO : Ob g H x 4 [.null, .null]) (hAx : A x) : ImpV l g A H yX3_init wsX3_init 5 108 10 66 [.ref x] (fun H1 => XInv g A x st0 H1) := by
  refine Imp.of (cc := cX3_init) (maxL := 2) (ret := none) (by decide) rfl (Nat.le_of_ble_eq_true rfl) ?_
  intro p9 e s m args below meth c X hE hEs hnm hr hk hS ls hl
  have hl : lv_has ls 2 [(0, .ref x)] := hl
  have hin_RJx4a65c : ∀ w ∈ u_ws RJx4a65c TJx4a65c 3, w ∈ wsX3_init := by decide +kernel
  have hin_RX1 : ∀ w ∈ u_ws RX1 TX1 5, w ∈ wsX3_init := by decide +kernel
  have hin_RX3 : ∀ w ∈ u_ws RX3 TX3 2, w ∈ wsX3_init := by decide +kernel
  have hGd := hE.dis
  refine w_aload_n X dX3_init_0 hl 0 rfl rfl ?_
  refine W.objInit X.1 X.2.1 X.2.2.2.1 (X.2.2.2.2 (.methodLink RX3 1 objectInit) (by decide +kernel)) (X.2.2.2.2 (.instanceMethod objectInit) (by decide +kernel)) (X.2.2.2.2 (.code objectInit ⟨#[0xb1]⟩ 1 none) (by decide +kernel)) rfl (hl.1.trans X.2.2.1.symm) rfl dX3_init_1 (Nat.le_of_ble_eq_true rfl) (Nat.le_of_ble_eq_true rfl) ?_
  refine W.eq (g2 := F0 m 4 ls []) rfl ?_
  refine w_aload_n X dX3_init_4 hl 0 rfl rfl ?_
  refine w_new (ci := 0) X hE hS [.int 0, .null, .int 0] dX3_init_5 rfl hin_RJx4a65c tyJx4a65c tyJx4a65c_ok (by decide +kernel) (fun j hj => by rcases (by omega : j = 0 ∨ j = 1 ∨ j = 2) with rfl | rfl | rfl <;> rfl) ⟨(Nat.le_of_ble_eq_true rfl), (Nat.le_of_ble_eq_true rfl)⟩ fun H_1 a_5 ea_5 ho_2 hz_3 hq_4 hS => ?_
  have ho_6 := (hO).kept (hq_4 _ (hO).lt)
  refine w_dup X dX3_init_8 rfl ?_
  refine w_iv (va_runI (As := []) (rest := [.ref a_5, .ref x]) X (c_Jx4a65c_init_da8c8 l g A H_1 a_5 ho_2 (hA _ (by omega))) (cwI 0 X.2.2.2.2 gX3_init_Jx4a65c_init_da8c8 rfl rfl rfl (X.2.2.2.2 (.initialized yJx4a65c_init_da8c8.cls) (by decide +kernel)) (X.2.2.2.2 (.methodLink RX3 9 yJx4a65c_init_da8c8) (by decide +kernel)) (X.2.2.2.2 (.instanceMethod yJx4a65c_init_da8c8) (by decide +kernel)) rfl (by decide +kernel) ⟨(Nat.le_of_ble_eq_true rfl), (Nat.le_of_ble_eq_true rfl)⟩) (w_prS hE hEs hS) rfl rfl hl.1 rfl (lv_room (Nat.le_of_ble_eq_true rfl)) dX3_init_9 ⟨(Nat.le_of_ble_eq_true rfl), (Nat.le_of_ble_eq_true rfl)⟩) hS (fun _ h => h) fun H_7 lo_8 hp_9 hz_10 hq_11 hS => ?_
  obtain ⟨ho_13, hz_14, hq_15⟩ := hp_9
  have ho_16 := (ho_6).kept (hq_15 _ (Ob.ne hGd (ho_6) (ho_2) (by decide) (by decide) (by decide)))
  refine w_putF (ref := "TaxEqualiser") (v := .ref a_5) X hE ho_16 hS hAx hnm 0 dX3_init_12 rfl hin_RX3 tyX3 tyX3_ok nmX3 (by decide) (by decide +kernel) (fun _ h => h) rfl rfl rfl rfl (Nat.le_of_ble_eq_true rfl) fun H_17 lo_18 ho_19 hz_20 hq_21 hS => ?_
  have ho_19 : Ob g H_17 x 4 [.ref a_5, .null] := ho_19
  have ho_22 := (ho_13).kept (hq_21 _ (Ob.ne hGd (ho_13) (ho_16) (by decide) (by decide) (by decide)))
  refine w_aload_n X dX3_init_15 hl 0 rfl rfl ?_
  refine w_new (ci := 0) X hE hS [.int 0, .null, .int 0] dX3_init_16 rfl hin_RJx4a65c tyJx4a65c tyJx4a65c_ok (by decide +kernel) (fun j hj => by rcases (by omega : j = 0 ∨ j = 1 ∨ j = 2) with rfl | rfl | rfl <;> rfl) ⟨(Nat.le_of_ble_eq_true rfl), (Nat.le_of_ble_eq_true rfl)⟩ fun H_23 a_27 ea_27 ho_24 hz_25 hq_26 hS => ?_
  have ho_28 := (ho_19).kept (hq_26 _ (ho_19).lt)
  have ho_29 := (ho_22).kept (hq_26 _ (ho_22).lt)
  refine w_dup X dX3_init_19 rfl ?_
  refine w_iv (va_runI (As := []) (rest := [.ref a_27, .ref x]) X (c_Jx4a65c_init_da8c8 l g A H_23 a_27 ho_24 (hA _ (by omega))) (cwI 0 X.2.2.2.2 gX3_init_Jx4a65c_init_da8c8 rfl rfl rfl (X.2.2.2.2 (.initialized yJx4a65c_init_da8c8.cls) (by decide +kernel)) (X.2.2.2.2 (.methodLink RX3 9 yJx4a65c_init_da8c8) (by decide +kernel)) (X.2.2.2.2 (.instanceMethod yJx4a65c_init_da8c8) (by decide +kernel)) rfl (by decide +kernel) ⟨(Nat.le_of_ble_eq_true rfl), (Nat.le_of_ble_eq_true rfl)⟩) (w_prS hE hEs hS) rfl rfl hl.1 rfl (lv_room (Nat.le_of_ble_eq_true rfl)) dX3_init_20 ⟨(Nat.le_of_ble_eq_true rfl), (Nat.le_of_ble_eq_true rfl)⟩) hS (fun _ h => h) fun H_30 lo_31 hp_32 hz_33 hq_34 hS => ?_
  obtain ⟨ho_36, hz_37, hq_38⟩ := hp_32
  have ho_39 := (ho_28).kept (hq_38 _ (Ob.ne hGd (ho_28) (ho_24) (by decide) (by decide) (by decide)))
  have ho_40 := (ho_29).kept (hq_38 _ (by omega))
  refine w_putF (ref := "TaxEqualiser") (v := .ref a_27) X hE ho_39 hS hAx hnm 1 dX3_init_23 rfl hin_RX3 tyX3 tyX3_ok nmX3 (by decide) (by decide +kernel) (fun _ h => h) rfl rfl rfl rfl (Nat.le_of_ble_eq_true rfl) fun H_41 lo_42 ho_43 hz_44 hq_45 hS => ?_
  have ho_43 : Ob g H_41 x 4 [.ref a_5, .ref a_27] := ho_43
  have ho_46 := (ho_40).kept (hq_45 _ (Ob.ne hGd (ho_40) (ho_39) (by decide) (by decide) (by decide)))
  have ho_47 := (ho_36).kept (hq_45 _ (Ob.ne hGd (ho_36) (ho_39) (by decide) (by decide) (by decide)))
  refine w_iconst X dX3_init_26 ?_
  refine w_istore_n X [(1, .int (wI (0))), (0, .ref x)] dX3_init_27 hl rfl (by decide) rfl fun ls hl => ?_
  refine w_iload_n X dX3_init_28 hl 0 rfl rfl ?_
  refine w_iconst X dX3_init_29 ?_
  refine w_icmp_ge X 56 dX3_init_30 (by decide) (by omega) (by omega) (fun c_48 => ?_) (fun c_48 => ?_)
  · skip
    exact absurd c_48 (by omega)
  · skip
    refine w_aload_n X dX3_init_33 hl 1 rfl rfl ?_
    refine w_get X hE ho_43 0 dX3_init_34 rfl hin_RX3 (by decide) (by decide +kernel) rfl rfl ?_
    refine w_new (ci := 2) X hE hS [.int 0, .int 0, .int 0, .int 0, .int 0] dX3_init_37 rfl hin_RX1 tyX1 tyX1_ok (by decide +kernel) (fun j hj => by rcases (by omega : j = 0 ∨ j = 1 ∨ j = 2 ∨ j = 3 ∨ j = 4) with rfl | rfl | rfl | rfl | rfl <;> rfl) ⟨(Nat.le_of_ble_eq_true rfl), (Nat.le_of_ble_eq_true rfl)⟩ fun H_49 a_53 ea_53 ho_50 hz_51 hq_52 hS => ?_
    have ho_54 := (ho_43).kept (hq_52 _ (ho_43).lt)
    have ho_55 := (ho_46).kept (hq_52 _ (ho_46).lt)
    have ho_56 := (ho_47).kept (hq_52 _ (ho_47).lt)
    refine w_dup X dX3_init_40 rfl ?_
    refine w_iv (va_runIN (As := []) (rest := [.ref a_53, .ref a_5]) X (c_X1_init l g A H_49 a_53 ho_50 (hA _ (by omega))) ⟨va_cnB 0 X.2.2.2.2 gX3_init_X1_init_n21 rfl rfl rfl hE.2.2.2.1 (X.2.2.2.2 (.initialized yX1_init.cls) (by decide +kernel)) (by decide +kernel) ⟨(Nat.le_of_ble_eq_true rfl), (Nat.le_of_ble_eq_true rfl)⟩, rfl, X.2.2.2.2 (.instanceMethod yX1_init) (by decide +kernel)⟩ (w_prS hE hEs hS) rfl rfl hl.1 rfl (lv_room (Nat.le_of_ble_eq_true rfl)) dX3_init_41 ⟨(Nat.le_of_ble_eq_true rfl), (Nat.le_of_ble_eq_true rfl)⟩) hS (fun _ h => h) fun H_57 lo_58 hp_59 hz_60 hq_61 hS => ?_
    obtain ⟨ho_63, hz_64, hq_65⟩ := hp_59
    have ho_66 := (ho_54).kept (hq_65 _ (Ob.ne hGd (ho_54) (ho_50) (by decide) (by decide) (by decide)))
    have ho_67 := (ho_55).kept (hq_65 _ (Ob.ne hGd (ho_55) (ho_50) (by decide) (by decide) (by decide)))
    have ho_68 := (ho_56).kept (hq_65 _ (Ob.ne hGd (ho_56) (ho_50) (by decide) (by decide) (by decide)))
    have hl_0 : Ob g H_57 a_5 0 [.int (0), .ref (gE g), .int (wI ((0 : Nat) : Int))] := ho_67
    have hR_0 : 0 < 0 → A (gE g) ∧ RA g H_57 (gE g) 10 (fun _ => none) := fun h => absurd h (by omega)
    refine w_ir5 (va_runF (hE.1.1 0 _ rfl).2 (As := [.ref a_53]) (rest := []) X (c_add l g A H_57 (fun q hq => hA q (by omega)) a_5 (gE g) 0 (0) hl_0 (hA _ (by omega)) (by omega) (fun _ => none) hR_0 (fun h => rfl) a_53 2 5 _ ho_63 RX1 TX1 rfl (by decide +kernel) (by decide) (by decide)) (va_cwF 1 X.2.2.2.2 gX3_init_Jx4a65c_add_9ea2d_f22Jx4a65c rfl rfl rfl (hE.fw ew_add) (by decide +kernel) ⟨(Nat.le_of_ble_eq_true rfl), (Nat.le_of_ble_eq_true rfl)⟩) (w_prV hE hEs hS hl_0 rfl) rfl rfl hl.1 rfl (lv_room (Nat.le_of_ble_eq_true rfl)) dX3_init_44 ⟨(Nat.le_of_ble_eq_true rfl), (Nat.le_of_ble_eq_true rfl)⟩) hS (fun _ h => h) fun v_74 H_69 lo_70 hp_71 hz_72 hq_73 hS => ?_
    obtain ⟨rfl, e_a0, f_a0, ho_a0, hr_a0, hA_a0, he_a0, hf_a0, hv_a0, hz_a0, hq_a0⟩ := id hp_71
    have ho_75 := (ho_66).kept (hp_71.objs hGd hl_0 (fun h => (hR_0 h).2) (ho_66) (by decide) (by decide))
    have ho_76 := (ho_68).kept (hq_a0 _ (ho_68).lt (by omega) (fun h9 => Ob.neR hGd (ho_68) (hR_0 h9).2 (by decide)))
    have ho_77 := (ho_63).kept (hp_71.objs hGd hl_0 (fun h => (hR_0 h).2) (ho_63) (by decide) (by decide))
    refine w_pop X dX3_init_49 rfl ?_
    refine w_iinc X (fun z_78 => [(1, .int (wI (z_78))), (0, .ref x)]) dX3_init_50 hl 0 rfl (by decide) (fun _ => rfl) fun z_78 ez_78 ls hl => ?_
    rw [show z_78 = 1 by omega] at hl
    refine w_goto X 28 dX3_init_53 (by decide) ?_
    refine w_iload_n X dX3_init_28 hl 0 rfl rfl ?_
    refine w_iconst X dX3_init_29 ?_
    refine w_icmp_ge X 56 dX3_init_30 (by decide) (by omega) (by omega) (fun c_79 => ?_) (fun c_79 => ?_)
    · skip
      exact absurd c_79 (by omega)
    · skip
      refine w_aload_n X dX3_init_33 hl 1 rfl rfl ?_
      refine w_get X hE ho_75 0 dX3_init_34 rfl hin_RX3 (by decide) (by decide +kernel) rfl rfl ?_
      refine w_new (ci := 2) X hE hS [.int 0, .int 0, .int 0, .int 0, .int 0] dX3_init_37 rfl hin_RX1 tyX1 tyX1_ok (by decide +kernel) (fun j hj => by rcases (by omega : j = 0 ∨ j = 1 ∨ j = 2 ∨ j = 3 ∨ j = 4) with rfl | rfl | rfl | rfl | rfl <;> rfl) ⟨(Nat.le_of_ble_eq_true rfl), (Nat.le_of_ble_eq_true rfl)⟩ fun H_80 a_84 ea_84 ho_81 hz_82 hq_83 hS => ?_
      have ho_85 := (ho_75).kept (hq_83 _ (ho_75).lt)
      have ho_86 := (ho_a0).kept (hq_83 _ (ho_a0).lt)
      have ho_87 := (ho_76).kept (hq_83 _ (ho_76).lt)
      have ho_88 := (ho_77).kept (hq_83 _ (ho_77).lt)
      have hr_89 := (hr_a0).kept (hq_83 _ (hr_a0).lt)
      refine w_dup X dX3_init_40 rfl ?_
      refine w_iv (va_runIN (As := []) (rest := [.ref a_84, .ref a_5]) X (c_X1_init l g A H_80 a_84 ho_81 (hA _ (by omega))) ⟨va_cnB 0 X.2.2.2.2 gX3_init_X1_init_n21 rfl rfl rfl hE.2.2.2.1 (X.2.2.2.2 (.initialized yX1_init.cls) (by decide +kernel)) (by decide +kernel) ⟨(Nat.le_of_ble_eq_true rfl), (Nat.le_of_ble_eq_true rfl)⟩, rfl, X.2.2.2.2 (.instanceMethod yX1_init) (by decide +kernel)⟩ (w_prS hE hEs hS) rfl rfl hl.1 rfl (lv_room (Nat.le_of_ble_eq_true rfl)) dX3_init_41 ⟨(Nat.le_of_ble_eq_true rfl), (Nat.le_of_ble_eq_true rfl)⟩) hS (fun _ h => h) fun H_90 lo_91 hp_92 hz_93 hq_94 hS => ?_
      obtain ⟨ho_96, hz_97, hq_98⟩ := hp_92
      have ho_99 := (ho_85).kept (hq_98 _ (Ob.ne hGd (ho_85) (ho_81) (by decide) (by decide) (by decide)))
      have ho_100 := (ho_86).kept (hq_98 _ (Ob.ne hGd (ho_86) (ho_81) (by decide) (by decide) (by decide)))
      have ho_101 := (ho_87).kept (hq_98 _ (Ob.ne hGd (ho_87) (ho_81) (by decide) (by decide) (by decide)))
      have ho_102 := (ho_88).kept (hq_98 _ (by omega))
      have hr_103 := (hr_89).kept (hq_98 _ (Ne.symm (Ob.neR hGd (ho_81) (hr_89) (by decide))))
      have hl_1 : Ob g H_90 a_5 0 [.int (wI 0 + wI 1), .ref e_a0, .int (wI ((1 : Nat) : Int))] := ho_100
      have hR_1 : 0 < 1 → A e_a0 ∧ RA g H_90 e_a0 10 f_a0 := fun _ => ⟨hA_a0, hr_103⟩
      refine w_ir5 (va_runF (hE.1.1 0 _ rfl).2 (As := [.ref a_84]) (rest := []) X (c_add l g A H_90 (fun q hq => hA q (by omega)) a_5 e_a0 1 (wI 0 + wI 1) hl_1 (hA _ (by omega)) (by omega) f_a0 hR_1 (fun h => absurd h (by omega)) a_84 2 5 _ ho_96 RX1 TX1 rfl (by decide +kernel) (by decide) (by decide)) (va_cwF 1 X.2.2.2.2 gX3_init_Jx4a65c_add_9ea2d_f22Jx4a65c rfl rfl rfl (hE.fw ew_add) (by decide +kernel) ⟨(Nat.le_of_ble_eq_true rfl), (Nat.le_of_ble_eq_true rfl)⟩) (w_prV hE hEs hS hl_1 rfl) rfl rfl hl.1 rfl (lv_room (Nat.le_of_ble_eq_true rfl)) dX3_init_44 ⟨(Nat.le_of_ble_eq_true rfl), (Nat.le_of_ble_eq_true rfl)⟩) hS (fun _ h => h) fun v_109 H_104 lo_105 hp_106 hz_107 hq_108 hS => ?_
      obtain ⟨rfl, e_a1, f_a1, ho_a1, hr_a1, hA_a1, he_a1, hf_a1, hv_a1, hz_a1, hq_a1⟩ := id hp_106
      have ho_110 := (ho_99).kept (hp_106.objs hGd hl_1 (fun h => (hR_1 h).2) (ho_99) (by decide) (by decide))
      have ho_111 := (ho_101).kept (hq_a1 _ (ho_101).lt (by omega) (fun h9 => Ob.neR hGd (ho_101) (hR_1 h9).2 (by decide)))
      have ho_112 := (ho_102).kept (hp_106.objs hGd hl_1 (fun h => (hR_1 h).2) (ho_102) (by decide) (by decide))
      have ho_113 := (ho_96).kept (hp_106.objs hGd hl_1 (fun h => (hR_1 h).2) (ho_96) (by decide) (by decide))
      refine w_pop X dX3_init_49 rfl ?_
      refine w_iinc X (fun z_114 => [(1, .int (wI (z_114))), (0, .ref x)]) dX3_init_50 hl 0 rfl (by decide) (fun _ => rfl) fun z_114 ez_114 ls hl => ?_
      rw [show z_114 = 2 by omega] at hl
      refine w_goto X 28 dX3_init_53 (by decide) ?_
      refine w_iload_n X dX3_init_28 hl 0 rfl rfl ?_
      refine w_iconst X dX3_init_29 ?_
      refine w_icmp_ge X 56 dX3_init_30 (by decide) (by omega) (by omega) (fun c_115 => ?_) (fun c_115 => ?_)
      · skip
        exact absurd c_115 (by omega)
      · skip
        refine w_aload_n X dX3_init_33 hl 1 rfl rfl ?_
        refine w_get X hE ho_110 0 dX3_init_34 rfl hin_RX3 (by decide) (by decide +kernel) rfl rfl ?_
        refine w_new (ci := 2) X hE hS [.int 0, .int 0, .int 0, .int 0, .int 0] dX3_init_37 rfl hin_RX1 tyX1 tyX1_ok (by decide +kernel) (fun j hj => by rcases (by omega : j = 0 ∨ j = 1 ∨ j = 2 ∨ j = 3 ∨ j = 4) with rfl | rfl | rfl | rfl | rfl <;> rfl) ⟨(Nat.le_of_ble_eq_true rfl), (Nat.le_of_ble_eq_true rfl)⟩ fun H_116 a_120 ea_120 ho_117 hz_118 hq_119 hS => ?_
        have ho_121 := (ho_110).kept (hq_119 _ (ho_110).lt)
        have ho_122 := (ho_a1).kept (hq_119 _ (ho_a1).lt)
        have ho_123 := (ho_111).kept (hq_119 _ (ho_111).lt)
        have ho_124 := (ho_112).kept (hq_119 _ (ho_112).lt)
        have ho_125 := (ho_113).kept (hq_119 _ (ho_113).lt)
        have hr_126 := (hr_a1).kept (hq_119 _ (hr_a1).lt)
        refine w_dup X dX3_init_40 rfl ?_
        refine w_iv (va_runIN (As := []) (rest := [.ref a_120, .ref a_5]) X (c_X1_init l g A H_116 a_120 ho_117 (hA _ (by omega))) ⟨va_cnB 0 X.2.2.2.2 gX3_init_X1_init_n21 rfl rfl rfl hE.2.2.2.1 (X.2.2.2.2 (.initialized yX1_init.cls) (by decide +kernel)) (by decide +kernel) ⟨(Nat.le_of_ble_eq_true rfl), (Nat.le_of_ble_eq_true rfl)⟩, rfl, X.2.2.2.2 (.instanceMethod yX1_init) (by decide +kernel)⟩ (w_prS hE hEs hS) rfl rfl hl.1 rfl (lv_room (Nat.le_of_ble_eq_true rfl)) dX3_init_41 ⟨(Nat.le_of_ble_eq_true rfl), (Nat.le_of_ble_eq_true rfl)⟩) hS (fun _ h => h) fun H_127 lo_128 hp_129 hz_130 hq_131 hS => ?_
        obtain ⟨ho_133, hz_134, hq_135⟩ := hp_129
        have ho_136 := (ho_121).kept (hq_135 _ (Ob.ne hGd (ho_121) (ho_117) (by decide) (by decide) (by decide)))
        have ho_137 := (ho_122).kept (hq_135 _ (Ob.ne hGd (ho_122) (ho_117) (by decide) (by decide) (by decide)))
        have ho_138 := (ho_123).kept (hq_135 _ (Ob.ne hGd (ho_123) (ho_117) (by decide) (by decide) (by decide)))
        have ho_139 := (ho_124).kept (hq_135 _ (by omega))
        have ho_140 := (ho_125).kept (hq_135 _ (by omega))
        have hr_141 := (hr_126).kept (hq_135 _ (Ne.symm (Ob.neR hGd (ho_117) (hr_126) (by decide))))
        have hl_2 : Ob g H_127 a_5 0 [.int (wI 0 + wI 1 + wI 1), .ref e_a1, .int (wI ((2 : Nat) : Int))] := ho_137
        have hR_2 : 0 < 2 → A e_a1 ∧ RA g H_127 e_a1 10 f_a1 := fun _ => ⟨hA_a1, hr_141⟩
        refine w_ir5 (va_runF (hE.1.1 0 _ rfl).2 (As := [.ref a_120]) (rest := []) X (c_add l g A H_127 (fun q hq => hA q (by omega)) a_5 e_a1 2 (wI 0 + wI 1 + wI 1) hl_2 (hA _ (by omega)) (by omega) f_a1 hR_2 (fun h => absurd h (by omega)) a_120 2 5 _ ho_133 RX1 TX1 rfl (by decide +kernel) (by decide) (by decide)) (va_cwF 1 X.2.2.2.2 gX3_init_Jx4a65c_add_9ea2d_f22Jx4a65c rfl rfl rfl (hE.fw ew_add) (by decide +kernel) ⟨(Nat.le_of_ble_eq_true rfl), (Nat.le_of_ble_eq_true rfl)⟩) (w_prV hE hEs hS hl_2 rfl) rfl rfl hl.1 rfl (lv_room (Nat.le_of_ble_eq_true rfl)) dX3_init_44 ⟨(Nat.le_of_ble_eq_true rfl), (Nat.le_of_ble_eq_true rfl)⟩) hS (fun _ h => h) fun v_147 H_142 lo_143 hp_144 hz_145 hq_146 hS => ?_
        obtain ⟨rfl, e_a2, f_a2, ho_a2, hr_a2, hA_a2, he_a2, hf_a2, hv_a2, hz_a2, hq_a2⟩ := id hp_144
        have ho_148 := (ho_136).kept (hp_144.objs hGd hl_2 (fun h => (hR_2 h).2) (ho_136) (by decide) (by decide))
        have ho_149 := (ho_138).kept (hq_a2 _ (ho_138).lt (by omega) (fun h9 => Ob.neR hGd (ho_138) (hR_2 h9).2 (by decide)))
        have ho_150 := (ho_139).kept (hp_144.objs hGd hl_2 (fun h => (hR_2 h).2) (ho_139) (by decide) (by decide))
        have ho_151 := (ho_140).kept (hp_144.objs hGd hl_2 (fun h => (hR_2 h).2) (ho_140) (by decide) (by decide))
        have ho_152 := (ho_133).kept (hp_144.objs hGd hl_2 (fun h => (hR_2 h).2) (ho_133) (by decide) (by decide))
        refine w_pop X dX3_init_49 rfl ?_
        refine w_iinc X (fun z_153 => [(1, .int (wI (z_153))), (0, .ref x)]) dX3_init_50 hl 0 rfl (by decide) (fun _ => rfl) fun z_153 ez_153 ls hl => ?_
        rw [show z_153 = 3 by omega] at hl
        refine w_goto X 28 dX3_init_53 (by decide) ?_
        refine w_iload_n X dX3_init_28 hl 0 rfl rfl ?_
        refine w_iconst X dX3_init_29 ?_
        refine w_icmp_ge X 56 dX3_init_30 (by decide) (by omega) (by omega) (fun c_154 => ?_) (fun c_154 => ?_)
        · skip
          exact absurd c_154 (by omega)
        · skip
          refine w_aload_n X dX3_init_33 hl 1 rfl rfl ?_
          refine w_get X hE ho_148 0 dX3_init_34 rfl hin_RX3 (by decide) (by decide +kernel) rfl rfl ?_
          refine w_new (ci := 2) X hE hS [.int 0, .int 0, .int 0, .int 0, .int 0] dX3_init_37 rfl hin_RX1 tyX1 tyX1_ok (by decide +kernel) (fun j hj => by rcases (by omega : j = 0 ∨ j = 1 ∨ j = 2 ∨ j = 3 ∨ j = 4) with rfl | rfl | rfl | rfl | rfl <;> rfl) ⟨(Nat.le_of_ble_eq_true rfl), (Nat.le_of_ble_eq_true rfl)⟩ fun H_155 a_159 ea_159 ho_156 hz_157 hq_158 hS => ?_
          have ho_160 := (ho_148).kept (hq_158 _ (ho_148).lt)
          have ho_161 := (ho_a2).kept (hq_158 _ (ho_a2).lt)
          have ho_162 := (ho_149).kept (hq_158 _ (ho_149).lt)
          have ho_163 := (ho_150).kept (hq_158 _ (ho_150).lt)
          have ho_164 := (ho_151).kept (hq_158 _ (ho_151).lt)
          have ho_165 := (ho_152).kept (hq_158 _ (ho_152).lt)
          have hr_166 := (hr_a2).kept (hq_158 _ (hr_a2).lt)
          refine w_dup X dX3_init_40 rfl ?_
          refine w_iv (va_runIN (As := []) (rest := [.ref a_159, .ref a_5]) X (c_X1_init l g A H_155 a_159 ho_156 (hA _ (by omega))) ⟨va_cnB 0 X.2.2.2.2 gX3_init_X1_init_n21 rfl rfl rfl hE.2.2.2.1 (X.2.2.2.2 (.initialized yX1_init.cls) (by decide +kernel)) (by decide +kernel) ⟨(Nat.le_of_ble_eq_true rfl), (Nat.le_of_ble_eq_true rfl)⟩, rfl, X.2.2.2.2 (.instanceMethod yX1_init) (by decide +kernel)⟩ (w_prS hE hEs hS) rfl rfl hl.1 rfl (lv_room (Nat.le_of_ble_eq_true rfl)) dX3_init_41 ⟨(Nat.le_of_ble_eq_true rfl), (Nat.le_of_ble_eq_true rfl)⟩) hS (fun _ h => h) fun H_167 lo_168 hp_169 hz_170 hq_171 hS => ?_
          obtain ⟨ho_173, hz_174, hq_175⟩ := hp_169
          have ho_176 := (ho_160).kept (hq_175 _ (Ob.ne hGd (ho_160) (ho_156) (by decide) (by decide) (by decide)))
          have ho_177 := (ho_161).kept (hq_175 _ (Ob.ne hGd (ho_161) (ho_156) (by decide) (by decide) (by decide)))
          have ho_178 := (ho_162).kept (hq_175 _ (Ob.ne hGd (ho_162) (ho_156) (by decide) (by decide) (by decide)))
          have ho_179 := (ho_163).kept (hq_175 _ (by omega))
          have ho_180 := (ho_164).kept (hq_175 _ (by omega))
          have ho_181 := (ho_165).kept (hq_175 _ (by omega))
          have hr_182 := (hr_166).kept (hq_175 _ (Ne.symm (Ob.neR hGd (ho_156) (hr_166) (by decide))))
          have hl_3 : Ob g H_167 a_5 0 [.int (wI 0 + wI 1 + wI 1 + wI 1), .ref e_a2, .int (wI ((3 : Nat) : Int))] := ho_177
          have hR_3 : 0 < 3 → A e_a2 ∧ RA g H_167 e_a2 10 f_a2 := fun _ => ⟨hA_a2, hr_182⟩
          refine w_ir5 (va_runF (hE.1.1 0 _ rfl).2 (As := [.ref a_159]) (rest := []) X (c_add l g A H_167 (fun q hq => hA q (by omega)) a_5 e_a2 3 (wI 0 + wI 1 + wI 1 + wI 1) hl_3 (hA _ (by omega)) (by omega) f_a2 hR_3 (fun h => absurd h (by omega)) a_159 2 5 _ ho_173 RX1 TX1 rfl (by decide +kernel) (by decide) (by decide)) (va_cwF 1 X.2.2.2.2 gX3_init_Jx4a65c_add_9ea2d_f22Jx4a65c rfl rfl rfl (hE.fw ew_add) (by decide +kernel) ⟨(Nat.le_of_ble_eq_true rfl), (Nat.le_of_ble_eq_true rfl)⟩) (w_prV hE hEs hS hl_3 rfl) rfl rfl hl.1 rfl (lv_room (Nat.le_of_ble_eq_true rfl)) dX3_init_44 ⟨(Nat.le_of_ble_eq_true rfl), (Nat.le_of_ble_eq_true rfl)⟩) hS (fun _ h => h) fun v_188 H_183 lo_184 hp_185 hz_186 hq_187 hS => ?_
          obtain ⟨rfl, e_a3, f_a3, ho_a3, hr_a3, hA_a3, he_a3, hf_a3, hv_a3, hz_a3, hq_a3⟩ := id hp_185
          have ho_189 := (ho_176).kept (hp_185.objs hGd hl_3 (fun h => (hR_3 h).2) (ho_176) (by decide) (by decide))
          have ho_190 := (ho_178).kept (hq_a3 _ (ho_178).lt (by omega) (fun h9 => Ob.neR hGd (ho_178) (hR_3 h9).2 (by decide)))
          have ho_191 := (ho_179).kept (hp_185.objs hGd hl_3 (fun h => (hR_3 h).2) (ho_179) (by decide) (by decide))
          have ho_192 := (ho_180).kept (hp_185.objs hGd hl_3 (fun h => (hR_3 h).2) (ho_180) (by decide) (by decide))
          have ho_193 := (ho_181).kept (hp_185.objs hGd hl_3 (fun h => (hR_3 h).2) (ho_181) (by decide) (by decide))
          have ho_194 := (ho_173).kept (hp_185.objs hGd hl_3 (fun h => (hR_3 h).2) (ho_173) (by decide) (by decide))
          refine w_pop X dX3_init_49 rfl ?_
          refine w_iinc X (fun z_195 => [(1, .int (wI (z_195))), (0, .ref x)]) dX3_init_50 hl 0 rfl (by decide) (fun _ => rfl) fun z_195 ez_195 ls hl => ?_
          rw [show z_195 = 4 by omega] at hl
          refine w_goto X 28 dX3_init_53 (by decide) ?_
          refine w_iload_n X dX3_init_28 hl 0 rfl rfl ?_
          refine w_iconst X dX3_init_29 ?_
          refine w_icmp_ge X 56 dX3_init_30 (by decide) (by omega) (by omega) (fun c_196 => ?_) (fun c_196 => ?_)
          · skip
            exact w_vrV X hr hk hS (XInv.start hAx ho_189 (hA a_5 (by omega)) (hA a_27 (by omega)) (by omega) ho_a3 ho_190 hr_a3 hA_a3 ((hf_a3 0 (by omega)).trans ((hf_a2 0 (by omega)).trans ((hf_a1 0 (by omega)).trans (hv_a0)))) ((hf_a3 1 (by omega)).trans ((hf_a2 1 (by omega)).trans (hv_a1))) ((hf_a3 2 (by omega)).trans (hv_a2)) (hv_a3) ⟨hA _ (by omega), ho_191⟩ ⟨hA _ (by omega), ho_192⟩ ⟨hA _ (by omega), ho_193⟩ ⟨hA _ (by omega), ho_194⟩ (by omega) (by omega) (by omega)) dX3_init_56 (Nat.le_of_ble_eq_true rfl) (Nat.le_of_ble_eq_true rfl)
          · skip
            exact absurd c_196 (by omega)
