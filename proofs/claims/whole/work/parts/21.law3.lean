/-! the law: its calls -/

set_option maxHeartbeats 4000000 in
set_option maxRecDepth 100000 in
theorem law_addBonus {p : Program} {l : Launch} {e : Env} {s : State} {m : MethodId} {below : List Frame} {meth : Method} {c : Code} {B0 L : Nat} {xs : Nat → Int32} {g : wG} {x out : Nat} {M : Nat → Nat} {AX AM : Nat → Prop} {H : Heap} {locs : List Loc} {cells slots : Nat} {Q : State → Prop} {σ : St} {th : Int} {fo : Nat → Int64} (E : LE p l s m c B0 L xs g out M AX AM) (I : LI s g x out M AX σ th fo H locs) (hroom : cells + 6 ≤ 634029 ∧ slots + 39 ≤ 7194018) (t : Nat) (ht : t + 4 < L) (ls : Array Slot) (hl : lv_has ls 7 [(4, .int (wI ((t : Int)))), (3, .ref out), (2, .ref (M 0)), (1, .ref x), (0, .ref B0)])
    (hk : ∀ (σ1 : St) (th1 : Int) (fo1 : Nat → Int64) (H1 : Heap) (locs1 : List Loc), LI s g x out M AX σ1 th1 fo1 H1 locs1 → ∀ ls : Array Slot, lv_has ls 7 [(4, .int (wI ((t : Int)))), (3, .ref out), (2, .ref (M 0)), (1, .ref x), (0, .ref B0)] → W p l e room_1 s m #[Value.ref B0] below meth c H1 locs1 (cells + 6) (slots + 39) Q (F0 m 1486 ls [])) : W p l e room_1 s m #[Value.ref B0] below meth c H locs cells slots Q (F0 m 784 ls []) := by
  obtain ⟨X, ⟨hE, hEs, hNx⟩, ⟨hXs, hbl, hl9, hL⟩, ⟨hsX, hsM, hso⟩, ⟨hdis, hno, hmo⟩, hAM, hMj⟩ := E
  obtain ⟨hσ, hXv, hM, hJ, hS, hA⟩ := I
  obtain ⟨hr1, hr2⟩ := hroom
  have hbA : ¬ ALs s B0 := Nat.not_le.mpr hbl
  have hW : ∀ q, AW AX out q → ALs s q := fun q h => h.elim (fun h => hsX q h) (fun h => h ▸ hso)
  have hGd := hE.dis
  obtain ⟨i, e1, hi⟩ : ∃ z : Int, xs (t + 1) = wI z ∧ wR z := ⟨_, (wI_ofInt _).symm, wR_toInt _⟩
  obtain ⟨a, e2, ha⟩ : ∃ z : Int, xs (t + 2) = wI z ∧ wR z := ⟨_, (wI_ofInt _).symm, wR_toInt _⟩
  obtain ⟨b, e3, hb⟩ : ∃ z : Int, xs (t + 3) = wI z ∧ wR z := ⟨_, (wI_ofInt _).symm, wR_toInt _⟩
  obtain ⟨d, e4, hd⟩ : ∃ z : Int, xs (t + 4) = wI z ∧ wR z := ⟨_, (wI_ofInt _).symm, wR_toInt _⟩
  refine w_aload_n X dL_law_784 hl 3 rfl rfl ?_
  refine w_aload_n X dL_law_785 hl 4 rfl rfl ?_
  refine w_iload X dL_law_786 hl 0 rfl ?_
  refine w_iconst X dL_law_788 ?_
  refine w_iadd X dL_law_789 fun z_1 ez_1 => ?_
  refine w_sld (y := i) X hXs hbl hbA hS hL (t + 1) (by omega) (by omega) e1 dL_law_790 ?_
  refine w_aload_n X dL_law_791 hl 4 rfl rfl ?_
  refine w_iload X dL_law_792 hl 0 rfl ?_
  refine w_iconst X dL_law_794 ?_
  refine w_iadd X dL_law_795 fun z_2 ez_2 => ?_
  refine w_sld (y := a) X hXs hbl hbA hS hL (t + 2) (by omega) (by omega) e2 dL_law_796 ?_
  refine w_aload_n X dL_law_797 hl 4 rfl rfl ?_
  refine w_iload X dL_law_798 hl 0 rfl ?_
  refine w_iconst X dL_law_800 ?_
  refine w_iadd X dL_law_801 fun z_3 ez_3 => ?_
  refine w_sld (y := b) X hXs hbl hbA hS hL (t + 3) (by omega) (by omega) e3 dL_law_802 ?_
  refine w_aload_n X dL_law_803 hl 4 rfl rfl ?_
  refine w_iload X dL_law_804 hl 0 rfl ?_
  refine w_iconst X dL_law_806 ?_
  refine w_iadd X dL_law_807 fun z_4 ez_4 => ?_
  refine w_sld (y := d) X hXs hbl hbA hS hL (t + 4) (by omega) (by omega) e4 dL_law_808 ?_
  refine w_aload_n X dL_law_809 hl 1 rfl rfl ?_
  refine w_ir (vx_runSW (As := [.ref x, .int (wI (i)), .int (wI (a)), .int (wI (b)), .int (wI (d)), .ref out]) (rest := []) X (c_L_addBonus l hl9 g H AX out hno hA x σ hσ hXv fo hJ i a b d hi ha hb hd) (vx_cwSW 6 X.2.2.2.2 gL_law_L_addBonus rfl rfl rfl (by decide +kernel) ⟨(Nat.le_of_ble_eq_true rfl), (Nat.le_of_ble_eq_true rfl)⟩) (w_pr2 hE hEs hNx hS hW) rfl rfl hl.1 rfl (lv_room (Nat.le_of_ble_eq_true rfl)) dL_law_810 ⟨by show _ ≤ 634029; omega, by show _ ≤ 7194018; omega⟩) hS hW fun v1 H1 lo1 hp1 hz1 hq1 hS => ?_
  obtain ⟨rfl, hX1, fo1, hJ1, hf1⟩ := hp1
  have hcd := cd_r (((0 : Int) ≤ i ∧ i < (sn σ : Int))) (((1 ≤ a ∧ a ≤ 500000) ∧ (0 ≤ b ∧ b ≤ 11) ∧ b + 1 ≤ d ∧ d ≤ 12)) ((sb σ i.toNat < 6))
  have hM1 := hM.kept (fun k h1 h2 => hq1 _ (hM.lt k h1 h2) (fun h => h.elim (fun h => hdis _ h (hAM k h1 h2)) (fun h => hmo (h ▸ hAM k h1 h2))))
  obtain ⟨fs8, hOm⟩ := hM1.ob
  have hA1 : ∀ q, H1.size ≤ q → AX q := fun q hq => hA q (by omega)
  refine w_istore X [(5, .int (wI (cd (((0 : Int) ≤ i ∧ i < (sn σ : Int))) (((1 ≤ a ∧ a ≤ 500000) ∧ (0 ≤ b ∧ b ≤ 11) ∧ b + 1 ≤ d ∧ d ≤ 12)) ((sb σ i.toNat < 6))))), (4, .int (wI ((t : Int)))), (3, .ref out), (2, .ref (M 0)), (1, .ref x), (0, .ref B0)] dL_law_813 hl (by decide) rfl fun ls hl => ?_
  refine w_aload_n X dL_law_815 hl 3 rfl rfl ?_
  refine w_aload_n X dL_law_816 hl 5 rfl rfl ?_
  refine w_iload X dL_law_817 hl 1 rfl ?_
  refine w_iconst X dL_law_819 ?_
  refine w_iadd X dL_law_820 fun z_5 ez_5 => ?_
  refine w_sld (y := i) X hXs hbl hbA hS hL (t + 1) (by omega) (by omega) e1 dL_law_821 ?_
  refine w_aload_n X dL_law_822 hl 5 rfl rfl ?_
  refine w_iload X dL_law_823 hl 1 rfl ?_
  refine w_iconst X dL_law_825 ?_
  refine w_iadd X dL_law_826 fun z_6 ez_6 => ?_
  refine w_sld (y := a) X hXs hbl hbA hS hL (t + 2) (by omega) (by omega) e2 dL_law_827 ?_
  refine w_aload_n X dL_law_828 hl 5 rfl rfl ?_
  refine w_iload X dL_law_829 hl 1 rfl ?_
  refine w_iconst X dL_law_831 ?_
  refine w_iadd X dL_law_832 fun z_7 ez_7 => ?_
  refine w_sld (y := b) X hXs hbl hbA hS hL (t + 3) (by omega) (by omega) e3 dL_law_833 ?_
  refine w_aload_n X dL_law_834 hl 5 rfl rfl ?_
  refine w_iload X dL_law_835 hl 1 rfl ?_
  refine w_iconst X dL_law_837 ?_
  refine w_iadd X dL_law_838 fun z_8 ez_8 => ?_
  refine w_sld (y := d) X hXs hbl hbA hS hL (t + 4) (by omega) (by omega) e4 dL_law_839 ?_
  refine w_ir (va_runV (As := [.int (wI (i)), .int (wI (a)), .int (wI (b)), .int (wI (d))]) (rest := []) X (c_X4_addBonus l g AM H1 M hAM hMj th σ hM1 hσ i a b d hi ha hb hd) (cwV 4 X.2.2.2.2 gL_law_X4_addBonus rfl rfl rfl (by decide +kernel) ⟨(Nat.le_of_ble_eq_true rfl), (Nat.le_of_ble_eq_true rfl)⟩) (w_prVN hE hEs hS hsM hOm rfl) rfl rfl hl.1 rfl (lv_room (Nat.le_of_ble_eq_true rfl)) dL_law_840 ⟨by show _ ≤ 634029; omega, by show _ ≤ 7194018; omega⟩) hS hsM fun v2 H2 lo2 hp2 hz2 hq2 hS => ?_
  obtain ⟨rfl, hM2⟩ := hp2
  obtain ⟨fs7, hOm2⟩ := hM2.ob
  have hX2 := hX1.kept (fun q h1 h2 => hq2 q h2 (hdis q h1))
  have hJ2 := hJ1.kept (hq2 _ hJ1.lt hmo)
  have hA2 : ∀ q, H2.size ≤ q → AX q := fun q hq => hA1 q (by omega)
  refine w_istore X [(6, .int (wI (stv (((0 : Int) ≤ i ∧ i < (sn σ : Int))) (((1 ≤ a ∧ a ≤ 500000) ∧ (0 ≤ b ∧ b ≤ 11) ∧ b + 1 ≤ d ∧ d ≤ 12)) ((sb σ i.toNat < 6)) ((sb σ i.toNat : Int))))), (5, .int (wI (cd (((0 : Int) ≤ i ∧ i < (sn σ : Int))) (((1 ≤ a ∧ a ≤ 500000) ∧ (0 ≤ b ∧ b ≤ 11) ∧ b + 1 ≤ d ∧ d ≤ 12)) ((sb σ i.toNat < 6))))), (4, .int (wI ((t : Int)))), (3, .ref out), (2, .ref (M 0)), (1, .ref x), (0, .ref B0)] dL_law_843 hl (by decide) rfl fun ls hl => ?_
  refine w_aload_n X dL_law_845 hl 4 rfl rfl ?_
  refine w_callV (v := .int (wI (cd (((0 : Int) ≤ i ∧ i < (sn σ : Int))) (((1 ≤ a ∧ a ≤ 500000) ∧ (0 ≤ b ∧ b ≤ 11) ∧ b + 1 ≤ d ∧ d ≤ 12)) ((sb σ i.toNat < 6))))) 0 X hE (c_X4_thrown l g H2 M (cd (((0 : Int) ≤ i ∧ i < (sn σ : Int))) (((1 ≤ a ∧ a ≤ 500000) ∧ (0 ≤ b ∧ b ≤ 11) ∧ b + 1 ≤ d ∧ d ≤ 12)) ((sb σ i.toNat < 6))) (stp (((0 : Int) ≤ i ∧ i < (sn σ : Int))) (((1 ≤ a ∧ a ≤ 500000) ∧ (0 ≤ b ∧ b ≤ 11) ∧ b + 1 ≤ d ∧ d ≤ 12)) ((sb σ i.toNat < 6)) (nxBon σ i.toNat (bonS a b d)) σ) hM2) hOm2 hl dL_law_846 gL_law_X4_thrown rfl rfl (by decide +kernel) ⟨(Nat.le_of_ble_eq_true rfl), (Nat.le_of_ble_eq_true rfl)⟩ rfl rfl (Nat.le_of_ble_eq_true rfl) ⟨by show _ ≤ 634029; omega, by show _ ≤ 7194018; omega⟩ ?_
  refine w_iload X dL_law_849 hl 1 rfl ?_
  refine w_icmp_eq X 856 dL_law_851 (by decide) (by omega) (by omega) (fun c_9 => ?_) (fun c_9 => ?_)
  · skip
    refine w_iload X dL_law_856 hl 1 rfl ?_
    refine w_if_ne X 873 dL_law_858 (by decide) (by omega) (fun c_10 => ?_) (fun c_10 => ?_)
    · skip
      refine w_goto X 1486 dL_law_873 (by decide) ?_
      refine W.widen (k := cells + 6) (n := slots + 39) (by omega) (by omega) ?_
      exact hk (stp (((0 : Int) ≤ i ∧ i < (sn σ : Int))) (((1 ≤ a ∧ a ≤ 500000) ∧ (0 ≤ b ∧ b ≤ 11) ∧ b + 1 ≤ d ∧ d ≤ 12)) ((sb σ i.toNat < 6)) (nxBon σ i.toNat (bonS a b d)) σ) (cd (((0 : Int) ≤ i ∧ i < (sn σ : Int))) (((1 ≤ a ∧ a ≤ 500000) ∧ (0 ≤ b ∧ b ≤ 11) ∧ b + 1 ≤ d ∧ d ≤ 12)) ((sb σ i.toNat < 6))) fo1 H2 lo2 ⟨stp_good (fun q1 q2 q3 => hσ.bon (by omega) q3 ⟨(by omega : 1 ≤ a ∧ a ≤ 500000), (by omega : 0 ≤ b), (by omega : b < d), (by omega : d ≤ 12)⟩) hσ, hX2, hM2, hJ2, hS, hA2⟩ ls (lv_sub hl [2, 3, 4, 5, 6] rfl)
    · skip
      refine w_aload_n X dL_law_861 hl 3 rfl rfl ?_
      refine w_iconst X dL_law_862 ?_
      refine w_lald0 X hE hJ2 dL_law_863 ?_
      rw [hf1 (by omega)]
      refine w_iload X dL_law_864 hl 0 rfl ?_
      refine lv_i2l (v := (wI (stv (((0 : Int) ≤ i ∧ i < (sn σ : Int))) (((1 ≤ a ∧ a ≤ 500000) ∧ (0 ≤ b ∧ b ≤ 11) ∧ b + 1 ≤ d ∧ d ≤ 12)) ((sb σ i.toNat < 6)) ((sb σ i.toNat : Int)))).toInt64) X.1 X.2.1 dL_law_866 rfl ?_
      refine w_lcmpEq X dL_law_867 ?_
      refine w_if_eq X 873 dL_law_868 (by decide) (by omega) (fun c_11 => ?_) (fun c_11 => ?_)
      · skip
        refine w_goto X 1486 dL_law_873 (by decide) ?_
        refine W.widen (k := cells + 6) (n := slots + 39) (by omega) (by omega) ?_
        exact hk (stp (((0 : Int) ≤ i ∧ i < (sn σ : Int))) (((1 ≤ a ∧ a ≤ 500000) ∧ (0 ≤ b ∧ b ≤ 11) ∧ b + 1 ≤ d ∧ d ≤ 12)) ((sb σ i.toNat < 6)) (nxBon σ i.toNat (bonS a b d)) σ) (cd (((0 : Int) ≤ i ∧ i < (sn σ : Int))) (((1 ≤ a ∧ a ≤ 500000) ∧ (0 ≤ b ∧ b ≤ 11) ∧ b + 1 ≤ d ∧ d ≤ 12)) ((sb σ i.toNat < 6))) fo1 H2 lo2 ⟨stp_good (fun q1 q2 q3 => hσ.bon (by omega) q3 ⟨(by omega : 1 ≤ a ∧ a ≤ 500000), (by omega : 0 ≤ b), (by omega : b < d), (by omega : d ≤ 12)⟩) hσ, hX2, hM2, hJ2, hS, hA2⟩ ls (lv_sub hl [2, 3, 4, 5, 6] rfl)
      · skip
        exact absurd c_11 (by omega)
  · skip
    exact absurd c_9 (by omega)

set_option maxHeartbeats 4000000 in
set_option maxRecDepth 100000 in
theorem law_people {p : Program} {l : Launch} {e : Env} {s : State} {m : MethodId} {below : List Frame} {meth : Method} {c : Code} {B0 L : Nat} {xs : Nat → Int32} {g : wG} {x out : Nat} {M : Nat → Nat} {AX AM : Nat → Prop} {H : Heap} {locs : List Loc} {cells slots : Nat} {Q : State → Prop} {σ : St} {th : Int} {fo : Nat → Int64} (E : LE p l s m c B0 L xs g out M AX AM) (I : LI s g x out M AX σ th fo H locs) (hroom : cells + 6 ≤ 634029 ∧ slots + 39 ≤ 7194018) (t : Nat) (ht : t + 4 < L) (ls : Array Slot) (hl : lv_has ls 7 [(4, .int (wI ((t : Int)))), (3, .ref out), (2, .ref (M 0)), (1, .ref x), (0, .ref B0)])
    (hk : ∀ (σ1 : St) (th1 : Int) (fo1 : Nat → Int64) (H1 : Heap) (locs1 : List Loc), LI s g x out M AX σ1 th1 fo1 H1 locs1 → ∀ ls : Array Slot, lv_has ls 7 [(4, .int (wI ((t : Int)))), (3, .ref out), (2, .ref (M 0)), (1, .ref x), (0, .ref B0)] → W p l e room_1 s m #[Value.ref B0] below meth c H1 locs1 (cells + 6) (slots + 39) Q (F0 m 1486 ls [])) : W p l e room_1 s m #[Value.ref B0] below meth c H locs cells slots Q (F0 m 876 ls []) := by
  obtain ⟨X, ⟨hE, hEs, hNx⟩, ⟨hXs, hbl, hl9, hL⟩, ⟨hsX, hsM, hso⟩, ⟨hdis, hno, hmo⟩, hAM, hMj⟩ := E
  obtain ⟨hσ, hXv, hM, hJ, hS, hA⟩ := I
  obtain ⟨hr1, hr2⟩ := hroom
  have hbA : ¬ ALs s B0 := Nat.not_le.mpr hbl
  have hW : ∀ q, AW AX out q → ALs s q := fun q h => h.elim (fun h => hsX q h) (fun h => h ▸ hso)
  have hGd := hE.dis
  obtain ⟨hAx, fs9, hxO⟩ := hXv.ob
  obtain ⟨fs8, hOm⟩ := hM.ob
  have hs10 := hσ.2.1
  refine w_aload_n X dL_law_876 hl 3 rfl rfl ?_
  refine w_callV (v := .int (wI ((sn σ : Int)))) 0 X hE (c_X3_peopleP l g H AX x σ hσ hXv) hxO hl dL_law_877 gL_law_X3_people rfl rfl (by decide +kernel) ⟨(Nat.le_of_ble_eq_true rfl), (Nat.le_of_ble_eq_true rfl)⟩ rfl rfl (Nat.le_of_ble_eq_true rfl) ⟨by show _ ≤ 634029; omega, by show _ ≤ 7194018; omega⟩ ?_
  refine w_aload_n X dL_law_880 hl 2 rfl rfl ?_
  refine w_ir (va_runV (As := []) (rest := [.int (wI ((sn σ : Int)))]) X (c_X4_people l g AM H M hAM hMj th σ hM hσ  ) (cwV 0 X.2.2.2.2 gL_law_X4_people rfl rfl rfl (by decide +kernel) ⟨(Nat.le_of_ble_eq_true rfl), (Nat.le_of_ble_eq_true rfl)⟩) (w_prVN hE hEs hS hsM hOm rfl) rfl rfl hl.1 rfl (lv_room (Nat.le_of_ble_eq_true rfl)) dL_law_881 ⟨by show _ ≤ 634029; omega, by show _ ≤ 7194018; omega⟩) hS hsM fun v2 H2 lo2 hp2 hz2 hq2 hS => ?_
  obtain ⟨rfl, hM2⟩ := hp2
  obtain ⟨fs7, hOm2⟩ := hM2.ob
  have hX2 := hXv.kept (fun q h1 h2 => hq2 q h2 (hdis q h1))
  have hJ2 := hJ.kept (hq2 _ hJ.lt hmo)
  have hA2 : ∀ q, H2.size ≤ q → AX q := fun q hq => hA q (by omega)
  refine w_icmp_eq X 1486 dL_law_884 (by decide) (by omega) (by omega) (fun c_1 => ?_) (fun c_1 => ?_)
  · skip
    refine W.widen (k := cells + 6) (n := slots + 39) (by omega) (by omega) ?_
    exact hk (σ) (0) fo H2 lo2 ⟨hσ, hX2, hM2, hJ2, hS, hA2⟩ ls (lv_sub hl [0, 1, 2, 3, 4] rfl)
  · skip
    exact absurd c_1 (by omega)

set_option maxHeartbeats 4000000 in
set_option maxRecDepth 100000 in
theorem law_abroadPart {p : Program} {l : Launch} {e : Env} {s : State} {m : MethodId} {below : List Frame} {meth : Method} {c : Code} {B0 L : Nat} {xs : Nat → Int32} {g : wG} {x out : Nat} {M : Nat → Nat} {AX AM : Nat → Prop} {H : Heap} {locs : List Loc} {cells slots : Nat} {Q : State → Prop} {σ : St} {th : Int} {fo : Nat → Int64} (E : LE p l s m c B0 L xs g out M AX AM) (I : LI s g x out M AX σ th fo H locs) (hroom : cells + 6 ≤ 634029 ∧ slots + 39 ≤ 7194018) (t : Nat) (ht : t + 4 < L) (ls : Array Slot) (hl : lv_has ls 7 [(4, .int (wI ((t : Int)))), (3, .ref out), (2, .ref (M 0)), (1, .ref x), (0, .ref B0)])
    (hk : ∀ (σ1 : St) (th1 : Int) (fo1 : Nat → Int64) (H1 : Heap) (locs1 : List Loc), LI s g x out M AX σ1 th1 fo1 H1 locs1 → ∀ ls : Array Slot, lv_has ls 7 [(4, .int (wI ((t : Int)))), (3, .ref out), (2, .ref (M 0)), (1, .ref x), (0, .ref B0)] → W p l e room_1 s m #[Value.ref B0] below meth c H1 locs1 (cells + 6) (slots + 39) Q (F0 m 1486 ls [])) : W p l e room_1 s m #[Value.ref B0] below meth c H locs cells slots Q (F0 m 889 ls []) := by
  obtain ⟨X, ⟨hE, hEs, hNx⟩, ⟨hXs, hbl, hl9, hL⟩, ⟨hsX, hsM, hso⟩, ⟨hdis, hno, hmo⟩, hAM, hMj⟩ := E
  obtain ⟨hσ, hXv, hM, hJ, hS, hA⟩ := I
  obtain ⟨hr1, hr2⟩ := hroom
  have hbA : ¬ ALs s B0 := Nat.not_le.mpr hbl
  have hW : ∀ q, AW AX out q → ALs s q := fun q h => h.elim (fun h => hsX q h) (fun h => h ▸ hso)
  have hGd := hE.dis
  obtain ⟨i, e1, hi⟩ : ∃ z : Int, xs (t + 1) = wI z ∧ wR z := ⟨_, (wI_ofInt _).symm, wR_toInt _⟩
  obtain ⟨a, e2, ha⟩ : ∃ z : Int, xs (t + 2) = wI z ∧ wR z := ⟨_, (wI_ofInt _).symm, wR_toInt _⟩
  refine w_aload_n X dL_law_889 hl 3 rfl rfl ?_
  refine w_aload_n X dL_law_890 hl 4 rfl rfl ?_
  refine w_iload X dL_law_891 hl 0 rfl ?_
  refine w_iconst X dL_law_893 ?_
  refine w_iadd X dL_law_894 fun z_1 ez_1 => ?_
  refine w_sld (y := i) X hXs hbl hbA hS hL (t + 1) (by omega) (by omega) e1 dL_law_895 ?_
  refine w_aload_n X dL_law_896 hl 4 rfl rfl ?_
  refine w_iload X dL_law_897 hl 0 rfl ?_
  refine w_iconst X dL_law_899 ?_
  refine w_iadd X dL_law_900 fun z_2 ez_2 => ?_
  refine w_sld (y := a) X hXs hbl hbA hS hL (t + 2) (by omega) (by omega) e2 dL_law_901 ?_
  refine w_aload_n X dL_law_902 hl 1 rfl rfl ?_
  refine w_ir (vx_runSW (As := [.ref x, .int (wI (i)), .int (wI (a)), .ref out]) (rest := []) X (c_L_abroadPart l hl9 g H AX out hno x σ hσ hXv fo hJ i a hi ha) (vx_cwSW 4 X.2.2.2.2 gL_law_L_abroadPart rfl rfl rfl (by decide +kernel) ⟨(Nat.le_of_ble_eq_true rfl), (Nat.le_of_ble_eq_true rfl)⟩) (w_pr2 hE hEs hNx hS hW) rfl rfl hl.1 rfl (lv_room (Nat.le_of_ble_eq_true rfl)) dL_law_903 ⟨by show _ ≤ 634029; omega, by show _ ≤ 7194018; omega⟩) hS hW fun v1 H1 lo1 hp1 hz1 hq1 hS => ?_
  obtain ⟨rfl, hX1, fo1, hJ1, hf1⟩ := hp1
  have hcd := cd_r ((((0 : Int) ≤ i ∧ i < (sn σ : Int)) ∧ 0 ≤ a ∧ a < (sb σ i.toNat : Int))) (True) (True)
  have hM1 := hM.kept (fun k h1 h2 => hq1 _ (hM.lt k h1 h2) (fun h => h.elim (fun h => hdis _ h (hAM k h1 h2)) (fun h => hmo (h ▸ hAM k h1 h2))))
  obtain ⟨fs8, hOm⟩ := hM1.ob
  have hA1 : ∀ q, H1.size ≤ q → AX q := fun q hq => hA q (by omega)
  refine w_istore X [(5, .int (wI (cd ((((0 : Int) ≤ i ∧ i < (sn σ : Int)) ∧ 0 ≤ a ∧ a < (sb σ i.toNat : Int))) (True) (True)))), (4, .int (wI ((t : Int)))), (3, .ref out), (2, .ref (M 0)), (1, .ref x), (0, .ref B0)] dL_law_906 hl (by decide) rfl fun ls hl => ?_
  refine w_aload_n X dL_law_908 hl 3 rfl rfl ?_
  refine w_aload_n X dL_law_909 hl 5 rfl rfl ?_
  refine w_iload X dL_law_910 hl 1 rfl ?_
  refine w_iconst X dL_law_912 ?_
  refine w_iadd X dL_law_913 fun z_3 ez_3 => ?_
  refine w_sld (y := i) X hXs hbl hbA hS hL (t + 1) (by omega) (by omega) e1 dL_law_914 ?_
  refine w_aload_n X dL_law_915 hl 5 rfl rfl ?_
  refine w_iload X dL_law_916 hl 1 rfl ?_
  refine w_iconst X dL_law_918 ?_
  refine w_iadd X dL_law_919 fun z_4 ez_4 => ?_
  refine w_sld (y := a) X hXs hbl hbA hS hL (t + 2) (by omega) (by omega) e2 dL_law_920 ?_
  refine w_ir (va_runV (As := [.int (wI (i)), .int (wI (a))]) (rest := []) X (c_X4_abroadPart l g AM H1 M hAM hMj th σ hM1 hσ i a hi ha) (cwV 2 X.2.2.2.2 gL_law_X4_abroadPart rfl rfl rfl (by decide +kernel) ⟨(Nat.le_of_ble_eq_true rfl), (Nat.le_of_ble_eq_true rfl)⟩) (w_prVN hE hEs hS hsM hOm rfl) rfl rfl hl.1 rfl (lv_room (Nat.le_of_ble_eq_true rfl)) dL_law_921 ⟨by show _ ≤ 634029; omega, by show _ ≤ 7194018; omega⟩) hS hsM fun v2 H2 lo2 hp2 hz2 hq2 hS => ?_
  obtain ⟨rfl, hM2⟩ := hp2
  obtain ⟨fs7, hOm2⟩ := hM2.ob
  have hX2 := hX1.kept (fun q h1 h2 => hq2 q h2 (hdis q h1))
  have hJ2 := hJ1.kept (hq2 _ hJ1.lt hmo)
  have hA2 : ∀ q, H2.size ≤ q → AX q := fun q hq => hA1 q (by omega)
  refine w_istore X [(6, .int (wI (stv ((((0 : Int) ≤ i ∧ i < (sn σ : Int)) ∧ 0 ≤ a ∧ a < (sb σ i.toNat : Int))) (True) (True) (parS (sp σ i.toNat) (so σ i.toNat a.toNat))))), (5, .int (wI (cd ((((0 : Int) ≤ i ∧ i < (sn σ : Int)) ∧ 0 ≤ a ∧ a < (sb σ i.toNat : Int))) (True) (True)))), (4, .int (wI ((t : Int)))), (3, .ref out), (2, .ref (M 0)), (1, .ref x), (0, .ref B0)] dL_law_924 hl (by decide) rfl fun ls hl => ?_
  refine w_aload_n X dL_law_926 hl 4 rfl rfl ?_
  refine w_callV (v := .int (wI (cd ((((0 : Int) ≤ i ∧ i < (sn σ : Int)) ∧ 0 ≤ a ∧ a < (sb σ i.toNat : Int))) (True) (True)))) 0 X hE (c_X4_thrown l g H2 M (cd ((((0 : Int) ≤ i ∧ i < (sn σ : Int)) ∧ 0 ≤ a ∧ a < (sb σ i.toNat : Int))) (True) (True)) (stp ((((0 : Int) ≤ i ∧ i < (sn σ : Int)) ∧ 0 ≤ a ∧ a < (sb σ i.toNat : Int))) (True) (True) (σ) σ) hM2) hOm2 hl dL_law_927 gL_law_X4_thrown rfl rfl (by decide +kernel) ⟨(Nat.le_of_ble_eq_true rfl), (Nat.le_of_ble_eq_true rfl)⟩ rfl rfl (Nat.le_of_ble_eq_true rfl) ⟨by show _ ≤ 634029; omega, by show _ ≤ 7194018; omega⟩ ?_
  refine w_iload X dL_law_930 hl 1 rfl ?_
  refine w_icmp_eq X 937 dL_law_932 (by decide) (by omega) (by omega) (fun c_5 => ?_) (fun c_5 => ?_)
  · skip
    refine w_iload X dL_law_937 hl 1 rfl ?_
    refine w_if_ne X 954 dL_law_939 (by decide) (by omega) (fun c_6 => ?_) (fun c_6 => ?_)
    · skip
      refine w_goto X 1486 dL_law_954 (by decide) ?_
      refine W.widen (k := cells + 6) (n := slots + 39) (by omega) (by omega) ?_
      exact hk (stp ((((0 : Int) ≤ i ∧ i < (sn σ : Int)) ∧ 0 ≤ a ∧ a < (sb σ i.toNat : Int))) (True) (True) (σ) σ) (cd ((((0 : Int) ≤ i ∧ i < (sn σ : Int)) ∧ 0 ≤ a ∧ a < (sb σ i.toNat : Int))) (True) (True)) fo1 H2 lo2 ⟨stp_good (fun _ _ _ => hσ) hσ, hX2, hM2, hJ2, hS, hA2⟩ ls (lv_sub hl [2, 3, 4, 5, 6] rfl)
    · skip
      refine w_aload_n X dL_law_942 hl 3 rfl rfl ?_
      refine w_iconst X dL_law_943 ?_
      refine w_lald0 X hE hJ2 dL_law_944 ?_
      rw [hf1 (by omega)]
      refine w_iload X dL_law_945 hl 0 rfl ?_
      refine lv_i2l (v := (wI (stv ((((0 : Int) ≤ i ∧ i < (sn σ : Int)) ∧ 0 ≤ a ∧ a < (sb σ i.toNat : Int))) (True) (True) (parS (sp σ i.toNat) (so σ i.toNat a.toNat)))).toInt64) X.1 X.2.1 dL_law_947 rfl ?_
      refine w_lcmpEq X dL_law_948 ?_
      refine w_if_eq X 954 dL_law_949 (by decide) (by omega) (fun c_7 => ?_) (fun c_7 => ?_)
      · skip
        refine w_goto X 1486 dL_law_954 (by decide) ?_
        refine W.widen (k := cells + 6) (n := slots + 39) (by omega) (by omega) ?_
        exact hk (stp ((((0 : Int) ≤ i ∧ i < (sn σ : Int)) ∧ 0 ≤ a ∧ a < (sb σ i.toNat : Int))) (True) (True) (σ) σ) (cd ((((0 : Int) ≤ i ∧ i < (sn σ : Int)) ∧ 0 ≤ a ∧ a < (sb σ i.toNat : Int))) (True) (True)) fo1 H2 lo2 ⟨stp_good (fun _ _ _ => hσ) hσ, hX2, hM2, hJ2, hS, hA2⟩ ls (lv_sub hl [2, 3, 4, 5, 6] rfl)
      · skip
        exact absurd c_7 (by omega)
  · skip
    exact absurd c_5 (by omega)

set_option maxHeartbeats 4000000 in
set_option maxRecDepth 100000 in
theorem law_held {p : Program} {l : Launch} {e : Env} {s : State} {m : MethodId} {below : List Frame} {meth : Method} {c : Code} {B0 L : Nat} {xs : Nat → Int32} {g : wG} {x out : Nat} {M : Nat → Nat} {AX AM : Nat → Prop} {H : Heap} {locs : List Loc} {cells slots : Nat} {Q : State → Prop} {σ : St} {th : Int} {fo : Nat → Int64} (E : LE p l s m c B0 L xs g out M AX AM) (I : LI s g x out M AX σ th fo H locs) (hroom : cells + 6 ≤ 634029 ∧ slots + 39 ≤ 7194018) (t : Nat) (ht : t + 4 < L) (ls : Array Slot) (hl : lv_has ls 7 [(4, .int (wI ((t : Int)))), (3, .ref out), (2, .ref (M 0)), (1, .ref x), (0, .ref B0)])
    (hk : ∀ (σ1 : St) (th1 : Int) (fo1 : Nat → Int64) (H1 : Heap) (locs1 : List Loc), LI s g x out M AX σ1 th1 fo1 H1 locs1 → ∀ ls : Array Slot, lv_has ls 7 [(4, .int (wI ((t : Int)))), (3, .ref out), (2, .ref (M 0)), (1, .ref x), (0, .ref B0)] → W p l e room_1 s m #[Value.ref B0] below meth c H1 locs1 (cells + 6) (slots + 39) Q (F0 m 1486 ls [])) : W p l e room_1 s m #[Value.ref B0] below meth c H locs cells slots Q (F0 m 957 ls []) := by
  obtain ⟨X, ⟨hE, hEs, hNx⟩, ⟨hXs, hbl, hl9, hL⟩, ⟨hsX, hsM, hso⟩, ⟨hdis, hno, hmo⟩, hAM, hMj⟩ := E
  obtain ⟨hσ, hXv, hM, hJ, hS, hA⟩ := I
  obtain ⟨hr1, hr2⟩ := hroom
  have hbA : ¬ ALs s B0 := Nat.not_le.mpr hbl
  have hW : ∀ q, AW AX out q → ALs s q := fun q h => h.elim (fun h => hsX q h) (fun h => h ▸ hso)
  have hGd := hE.dis
  obtain ⟨i, e1, hi⟩ : ∃ z : Int, xs (t + 1) = wI z ∧ wR z := ⟨_, (wI_ofInt _).symm, wR_toInt _⟩
  obtain ⟨a, e2, ha⟩ : ∃ z : Int, xs (t + 2) = wI z ∧ wR z := ⟨_, (wI_ofInt _).symm, wR_toInt _⟩
  refine w_aload_n X dL_law_957 hl 3 rfl rfl ?_
  refine w_aload_n X dL_law_958 hl 4 rfl rfl ?_
  refine w_iload X dL_law_959 hl 0 rfl ?_
  refine w_iconst X dL_law_961 ?_
  refine w_iadd X dL_law_962 fun z_1 ez_1 => ?_
  refine w_sld (y := i) X hXs hbl hbA hS hL (t + 1) (by omega) (by omega) e1 dL_law_963 ?_
  refine w_aload_n X dL_law_964 hl 4 rfl rfl ?_
  refine w_iload X dL_law_965 hl 0 rfl ?_
  refine w_iconst X dL_law_967 ?_
  refine w_iadd X dL_law_968 fun z_2 ez_2 => ?_
  refine w_sld (y := a) X hXs hbl hbA hS hL (t + 2) (by omega) (by omega) e2 dL_law_969 ?_
  refine w_aload_n X dL_law_970 hl 1 rfl rfl ?_
  refine w_ir (vx_runSW (As := [.ref x, .int (wI (i)), .int (wI (a)), .ref out]) (rest := []) X (c_L_held l hl9 g H AX out hno x σ hσ hXv fo hJ i a hi ha) (vx_cwSW 4 X.2.2.2.2 gL_law_L_held rfl rfl rfl (by decide +kernel) ⟨(Nat.le_of_ble_eq_true rfl), (Nat.le_of_ble_eq_true rfl)⟩) (w_pr2 hE hEs hNx hS hW) rfl rfl hl.1 rfl (lv_room (Nat.le_of_ble_eq_true rfl)) dL_law_971 ⟨by show _ ≤ 634029; omega, by show _ ≤ 7194018; omega⟩) hS hW fun v1 H1 lo1 hp1 hz1 hq1 hS => ?_
  obtain ⟨rfl, hX1, fo1, hJ1, hf1⟩ := hp1
  have hcd := cd_r (((0 : Int) ≤ i ∧ i < (sn σ : Int))) ((0 ≤ a ∧ a ≤ 11)) (True)
  have hM1 := hM.kept (fun k h1 h2 => hq1 _ (hM.lt k h1 h2) (fun h => h.elim (fun h => hdis _ h (hAM k h1 h2)) (fun h => hmo (h ▸ hAM k h1 h2))))
  obtain ⟨fs8, hOm⟩ := hM1.ob
  have hA1 : ∀ q, H1.size ≤ q → AX q := fun q hq => hA q (by omega)
  refine w_istore X [(5, .int (wI (cd (((0 : Int) ≤ i ∧ i < (sn σ : Int))) ((0 ≤ a ∧ a ≤ 11)) (True)))), (4, .int (wI ((t : Int)))), (3, .ref out), (2, .ref (M 0)), (1, .ref x), (0, .ref B0)] dL_law_974 hl (by decide) rfl fun ls hl => ?_
  refine w_aload_n X dL_law_976 hl 3 rfl rfl ?_
  refine w_aload_n X dL_law_977 hl 5 rfl rfl ?_
  refine w_iload X dL_law_978 hl 1 rfl ?_
  refine w_iconst X dL_law_980 ?_
  refine w_iadd X dL_law_981 fun z_3 ez_3 => ?_
  refine w_sld (y := i) X hXs hbl hbA hS hL (t + 1) (by omega) (by omega) e1 dL_law_982 ?_
  refine w_aload_n X dL_law_983 hl 5 rfl rfl ?_
  refine w_iload X dL_law_984 hl 1 rfl ?_
  refine w_iconst X dL_law_986 ?_
  refine w_iadd X dL_law_987 fun z_4 ez_4 => ?_
  refine w_sld (y := a) X hXs hbl hbA hS hL (t + 2) (by omega) (by omega) e2 dL_law_988 ?_
  refine w_ir (va_runV (As := [.int (wI (i)), .int (wI (a))]) (rest := []) X (c_X4_held l g AM H1 M hAM hMj th σ hM1 hσ i a hi ha) (cwV 2 X.2.2.2.2 gL_law_X4_held rfl rfl rfl (by decide +kernel) ⟨(Nat.le_of_ble_eq_true rfl), (Nat.le_of_ble_eq_true rfl)⟩) (w_prVN hE hEs hS hsM hOm rfl) rfl rfl hl.1 rfl (lv_room (Nat.le_of_ble_eq_true rfl)) dL_law_989 ⟨by show _ ≤ 634029; omega, by show _ ≤ 7194018; omega⟩) hS hsM fun v2 H2 lo2 hp2 hz2 hq2 hS => ?_
  obtain ⟨rfl, hM2⟩ := hp2
  obtain ⟨fs7, hOm2⟩ := hM2.ob
  have hX2 := hX1.kept (fun q h1 h2 => hq2 q h2 (hdis q h1))
  have hJ2 := hJ1.kept (hq2 _ hJ1.lt hmo)
  have hA2 : ∀ q, H2.size ≤ q → AX q := fun q hq => hA1 q (by omega)
  refine w_istore X [(6, .int (wI (stv (((0 : Int) ≤ i ∧ i < (sn σ : Int))) ((0 ≤ a ∧ a ≤ 11)) (True) (if sp σ i.toNat 3 ≤ a ∧ a < sp σ i.toNat 4 then heldS (sH σ i.toNat) (sp σ i.toNat) else 0)))), (5, .int (wI (cd (((0 : Int) ≤ i ∧ i < (sn σ : Int))) ((0 ≤ a ∧ a ≤ 11)) (True)))), (4, .int (wI ((t : Int)))), (3, .ref out), (2, .ref (M 0)), (1, .ref x), (0, .ref B0)] dL_law_992 hl (by decide) rfl fun ls hl => ?_
  refine w_aload_n X dL_law_994 hl 4 rfl rfl ?_
  refine w_callV (v := .int (wI (cd (((0 : Int) ≤ i ∧ i < (sn σ : Int))) ((0 ≤ a ∧ a ≤ 11)) (True)))) 0 X hE (c_X4_thrown l g H2 M (cd (((0 : Int) ≤ i ∧ i < (sn σ : Int))) ((0 ≤ a ∧ a ≤ 11)) (True)) (stp (((0 : Int) ≤ i ∧ i < (sn σ : Int))) ((0 ≤ a ∧ a ≤ 11)) (True) (σ) σ) hM2) hOm2 hl dL_law_995 gL_law_X4_thrown rfl rfl (by decide +kernel) ⟨(Nat.le_of_ble_eq_true rfl), (Nat.le_of_ble_eq_true rfl)⟩ rfl rfl (Nat.le_of_ble_eq_true rfl) ⟨by show _ ≤ 634029; omega, by show _ ≤ 7194018; omega⟩ ?_
  refine w_iload X dL_law_998 hl 1 rfl ?_
  refine w_icmp_eq X 1005 dL_law_1000 (by decide) (by omega) (by omega) (fun c_5 => ?_) (fun c_5 => ?_)
  · skip
    refine w_iload X dL_law_1005 hl 1 rfl ?_
    refine w_if_ne X 1022 dL_law_1007 (by decide) (by omega) (fun c_6 => ?_) (fun c_6 => ?_)
    · skip
      refine w_goto X 1486 dL_law_1022 (by decide) ?_
      refine W.widen (k := cells + 6) (n := slots + 39) (by omega) (by omega) ?_
      exact hk (stp (((0 : Int) ≤ i ∧ i < (sn σ : Int))) ((0 ≤ a ∧ a ≤ 11)) (True) (σ) σ) (cd (((0 : Int) ≤ i ∧ i < (sn σ : Int))) ((0 ≤ a ∧ a ≤ 11)) (True)) fo1 H2 lo2 ⟨stp_good (fun _ _ _ => hσ) hσ, hX2, hM2, hJ2, hS, hA2⟩ ls (lv_sub hl [2, 3, 4, 5, 6] rfl)
    · skip
      refine w_aload_n X dL_law_1010 hl 3 rfl rfl ?_
      refine w_iconst X dL_law_1011 ?_
      refine w_lald0 X hE hJ2 dL_law_1012 ?_
      rw [hf1 (by omega)]
      refine w_iload X dL_law_1013 hl 0 rfl ?_
      refine lv_i2l (v := (wI (stv (((0 : Int) ≤ i ∧ i < (sn σ : Int))) ((0 ≤ a ∧ a ≤ 11)) (True) (if sp σ i.toNat 3 ≤ a ∧ a < sp σ i.toNat 4 then heldS (sH σ i.toNat) (sp σ i.toNat) else 0))).toInt64) X.1 X.2.1 dL_law_1015 rfl ?_
      refine w_lcmpEq X dL_law_1016 ?_
      refine w_if_eq X 1022 dL_law_1017 (by decide) (by omega) (fun c_7 => ?_) (fun c_7 => ?_)
      · skip
        refine w_goto X 1486 dL_law_1022 (by decide) ?_
        refine W.widen (k := cells + 6) (n := slots + 39) (by omega) (by omega) ?_
        exact hk (stp (((0 : Int) ≤ i ∧ i < (sn σ : Int))) ((0 ≤ a ∧ a ≤ 11)) (True) (σ) σ) (cd (((0 : Int) ≤ i ∧ i < (sn σ : Int))) ((0 ≤ a ∧ a ≤ 11)) (True)) fo1 H2 lo2 ⟨stp_good (fun _ _ _ => hσ) hσ, hX2, hM2, hJ2, hS, hA2⟩ ls (lv_sub hl [2, 3, 4, 5, 6] rfl)
      · skip
        exact absurd c_7 (by omega)
  · skip
    exact absurd c_5 (by omega)

set_option maxHeartbeats 4000000 in
set_option maxRecDepth 100000 in
theorem law_supposedTax {p : Program} {l : Launch} {e : Env} {s : State} {m : MethodId} {below : List Frame} {meth : Method} {c : Code} {B0 L : Nat} {xs : Nat → Int32} {g : wG} {x out : Nat} {M : Nat → Nat} {AX AM : Nat → Prop} {H : Heap} {locs : List Loc} {cells slots : Nat} {Q : State → Prop} {σ : St} {th : Int} {fo : Nat → Int64} (E : LE p l s m c B0 L xs g out M AX AM) (I : LI s g x out M AX σ th fo H locs) (hroom : cells + 6 ≤ 634029 ∧ slots + 39 ≤ 7194018) (t : Nat) (ht : t + 4 < L) (ls : Array Slot) (hl : lv_has ls 7 [(4, .int (wI ((t : Int)))), (3, .ref out), (2, .ref (M 0)), (1, .ref x), (0, .ref B0)])
    (hk : ∀ (σ1 : St) (th1 : Int) (fo1 : Nat → Int64) (H1 : Heap) (locs1 : List Loc), LI s g x out M AX σ1 th1 fo1 H1 locs1 → ∀ ls : Array Slot, lv_has ls 7 [(4, .int (wI ((t : Int)))), (3, .ref out), (2, .ref (M 0)), (1, .ref x), (0, .ref B0)] → W p l e room_1 s m #[Value.ref B0] below meth c H1 locs1 (cells + 6) (slots + 39) Q (F0 m 1486 ls [])) : W p l e room_1 s m #[Value.ref B0] below meth c H locs cells slots Q (F0 m 1025 ls []) := by
  obtain ⟨X, ⟨hE, hEs, hNx⟩, ⟨hXs, hbl, hl9, hL⟩, ⟨hsX, hsM, hso⟩, ⟨hdis, hno, hmo⟩, hAM, hMj⟩ := E
  obtain ⟨hσ, hXv, hM, hJ, hS, hA⟩ := I
  obtain ⟨hr1, hr2⟩ := hroom
  have hbA : ¬ ALs s B0 := Nat.not_le.mpr hbl
  have hW : ∀ q, AW AX out q → ALs s q := fun q h => h.elim (fun h => hsX q h) (fun h => h ▸ hso)
  have hGd := hE.dis
  obtain ⟨i, e1, hi⟩ : ∃ z : Int, xs (t + 1) = wI z ∧ wR z := ⟨_, (wI_ofInt _).symm, wR_toInt _⟩
  refine w_aload_n X dL_law_1025 hl 3 rfl rfl ?_
  refine w_aload_n X dL_law_1026 hl 4 rfl rfl ?_
  refine w_iload X dL_law_1027 hl 0 rfl ?_
  refine w_iconst X dL_law_1029 ?_
  refine w_iadd X dL_law_1030 fun z_1 ez_1 => ?_
  refine w_sld (y := i) X hXs hbl hbA hS hL (t + 1) (by omega) (by omega) e1 dL_law_1031 ?_
  refine w_aload_n X dL_law_1032 hl 1 rfl rfl ?_
  refine w_ir (vx_runSW (As := [.ref x, .int (wI (i)), .ref out]) (rest := []) X (c_L_supposedTax l hl9 g H AX out hno x σ hσ hXv fo hJ i hi) (vx_cwSW 3 X.2.2.2.2 gL_law_L_supposedTax rfl rfl rfl (by decide +kernel) ⟨(Nat.le_of_ble_eq_true rfl), (Nat.le_of_ble_eq_true rfl)⟩) (w_pr2 hE hEs hNx hS hW) rfl rfl hl.1 rfl (lv_room (Nat.le_of_ble_eq_true rfl)) dL_law_1033 ⟨by show _ ≤ 634029; omega, by show _ ≤ 7194018; omega⟩) hS hW fun v1 H1 lo1 hp1 hz1 hq1 hS => ?_
  obtain ⟨rfl, hX1, fo1, hJ1, hf1⟩ := hp1
  have hcd := cd_r (((0 : Int) ≤ i ∧ i < (sn σ : Int))) (True) (True)
  have hM1 := hM.kept (fun k h1 h2 => hq1 _ (hM.lt k h1 h2) (fun h => h.elim (fun h => hdis _ h (hAM k h1 h2)) (fun h => hmo (h ▸ hAM k h1 h2))))
  obtain ⟨fs8, hOm⟩ := hM1.ob
  have hA1 : ∀ q, H1.size ≤ q → AX q := fun q hq => hA q (by omega)
  refine w_istore X [(5, .int (wI (cd (((0 : Int) ≤ i ∧ i < (sn σ : Int))) (True) (True)))), (4, .int (wI ((t : Int)))), (3, .ref out), (2, .ref (M 0)), (1, .ref x), (0, .ref B0)] dL_law_1036 hl (by decide) rfl fun ls hl => ?_
  refine w_aload_n X dL_law_1038 hl 3 rfl rfl ?_
  refine w_aload_n X dL_law_1039 hl 5 rfl rfl ?_
  refine w_iload X dL_law_1040 hl 1 rfl ?_
  refine w_iconst X dL_law_1042 ?_
  refine w_iadd X dL_law_1043 fun z_2 ez_2 => ?_
  refine w_sld (y := i) X hXs hbl hbA hS hL (t + 1) (by omega) (by omega) e1 dL_law_1044 ?_
  refine w_ir (va_runV (As := [.int (wI (i))]) (rest := []) X (c_X4_supposedTax l g AM H1 M hAM hMj th σ hM1 hσ i hi) (cwV 1 X.2.2.2.2 gL_law_X4_supposedTax rfl rfl rfl (by decide +kernel) ⟨(Nat.le_of_ble_eq_true rfl), (Nat.le_of_ble_eq_true rfl)⟩) (w_prVN hE hEs hS hsM hOm rfl) rfl rfl hl.1 rfl (lv_room (Nat.le_of_ble_eq_true rfl)) dL_law_1045 ⟨by show _ ≤ 634029; omega, by show _ ≤ 7194018; omega⟩) hS hsM fun v2 H2 lo2 hp2 hz2 hq2 hS => ?_
  obtain ⟨rfl, hM2⟩ := hp2
  obtain ⟨fs7, hOm2⟩ := hM2.ob
  have hX2 := hX1.kept (fun q h1 h2 => hq2 q h2 (hdis q h1))
  have hJ2 := hJ1.kept (hq2 _ hJ1.lt hmo)
  have hA2 : ∀ q, H2.size ≤ q → AX q := fun q hq => hA1 q (by omega)
  refine w_istore X [(6, .int (wI (stv (((0 : Int) ≤ i ∧ i < (sn σ : Int))) (True) (True) (supS (sH σ i.toNat) (sp σ i.toNat) (sb σ i.toNat) (so σ i.toNat))))), (5, .int (wI (cd (((0 : Int) ≤ i ∧ i < (sn σ : Int))) (True) (True)))), (4, .int (wI ((t : Int)))), (3, .ref out), (2, .ref (M 0)), (1, .ref x), (0, .ref B0)] dL_law_1048 hl (by decide) rfl fun ls hl => ?_
  refine w_aload_n X dL_law_1050 hl 4 rfl rfl ?_
  refine w_callV (v := .int (wI (cd (((0 : Int) ≤ i ∧ i < (sn σ : Int))) (True) (True)))) 0 X hE (c_X4_thrown l g H2 M (cd (((0 : Int) ≤ i ∧ i < (sn σ : Int))) (True) (True)) (stp (((0 : Int) ≤ i ∧ i < (sn σ : Int))) (True) (True) (σ) σ) hM2) hOm2 hl dL_law_1051 gL_law_X4_thrown rfl rfl (by decide +kernel) ⟨(Nat.le_of_ble_eq_true rfl), (Nat.le_of_ble_eq_true rfl)⟩ rfl rfl (Nat.le_of_ble_eq_true rfl) ⟨by show _ ≤ 634029; omega, by show _ ≤ 7194018; omega⟩ ?_
  refine w_iload X dL_law_1054 hl 1 rfl ?_
  refine w_icmp_eq X 1061 dL_law_1056 (by decide) (by omega) (by omega) (fun c_3 => ?_) (fun c_3 => ?_)
  · skip
    refine w_iload X dL_law_1061 hl 1 rfl ?_
    refine w_if_ne X 1078 dL_law_1063 (by decide) (by omega) (fun c_4 => ?_) (fun c_4 => ?_)
    · skip
      refine w_goto X 1486 dL_law_1078 (by decide) ?_
      refine W.widen (k := cells + 6) (n := slots + 39) (by omega) (by omega) ?_
      exact hk (stp (((0 : Int) ≤ i ∧ i < (sn σ : Int))) (True) (True) (σ) σ) (cd (((0 : Int) ≤ i ∧ i < (sn σ : Int))) (True) (True)) fo1 H2 lo2 ⟨stp_good (fun _ _ _ => hσ) hσ, hX2, hM2, hJ2, hS, hA2⟩ ls (lv_sub hl [2, 3, 4, 5, 6] rfl)
    · skip
      refine w_aload_n X dL_law_1066 hl 3 rfl rfl ?_
      refine w_iconst X dL_law_1067 ?_
      refine w_lald0 X hE hJ2 dL_law_1068 ?_
      rw [hf1 (by omega)]
      refine w_iload X dL_law_1069 hl 0 rfl ?_
      refine lv_i2l (v := (wI (stv (((0 : Int) ≤ i ∧ i < (sn σ : Int))) (True) (True) (supS (sH σ i.toNat) (sp σ i.toNat) (sb σ i.toNat) (so σ i.toNat)))).toInt64) X.1 X.2.1 dL_law_1071 rfl ?_
      refine w_lcmpEq X dL_law_1072 ?_
      refine w_if_eq X 1078 dL_law_1073 (by decide) (by omega) (fun c_5 => ?_) (fun c_5 => ?_)
      · skip
        refine w_goto X 1486 dL_law_1078 (by decide) ?_
        refine W.widen (k := cells + 6) (n := slots + 39) (by omega) (by omega) ?_
        exact hk (stp (((0 : Int) ≤ i ∧ i < (sn σ : Int))) (True) (True) (σ) σ) (cd (((0 : Int) ≤ i ∧ i < (sn σ : Int))) (True) (True)) fo1 H2 lo2 ⟨stp_good (fun _ _ _ => hσ) hσ, hX2, hM2, hJ2, hS, hA2⟩ ls (lv_sub hl [2, 3, 4, 5, 6] rfl)
      · skip
        exact absurd c_5 (by omega)
  · skip
    exact absurd c_3 (by omega)

set_option maxHeartbeats 4000000 in
set_option maxRecDepth 100000 in
theorem law_homeIncome {p : Program} {l : Launch} {e : Env} {s : State} {m : MethodId} {below : List Frame} {meth : Method} {c : Code} {B0 L : Nat} {xs : Nat → Int32} {g : wG} {x out : Nat} {M : Nat → Nat} {AX AM : Nat → Prop} {H : Heap} {locs : List Loc} {cells slots : Nat} {Q : State → Prop} {σ : St} {th : Int} {fo : Nat → Int64} (E : LE p l s m c B0 L xs g out M AX AM) (I : LI s g x out M AX σ th fo H locs) (hroom : cells + 6 ≤ 634029 ∧ slots + 39 ≤ 7194018) (t : Nat) (ht : t + 4 < L) (ls : Array Slot) (hl : lv_has ls 7 [(4, .int (wI ((t : Int)))), (3, .ref out), (2, .ref (M 0)), (1, .ref x), (0, .ref B0)])
    (hk : ∀ (σ1 : St) (th1 : Int) (fo1 : Nat → Int64) (H1 : Heap) (locs1 : List Loc), LI s g x out M AX σ1 th1 fo1 H1 locs1 → ∀ ls : Array Slot, lv_has ls 7 [(4, .int (wI ((t : Int)))), (3, .ref out), (2, .ref (M 0)), (1, .ref x), (0, .ref B0)] → W p l e room_1 s m #[Value.ref B0] below meth c H1 locs1 (cells + 6) (slots + 39) Q (F0 m 1486 ls [])) : W p l e room_1 s m #[Value.ref B0] below meth c H locs cells slots Q (F0 m 1081 ls []) := by
  obtain ⟨X, ⟨hE, hEs, hNx⟩, ⟨hXs, hbl, hl9, hL⟩, ⟨hsX, hsM, hso⟩, ⟨hdis, hno, hmo⟩, hAM, hMj⟩ := E
  obtain ⟨hσ, hXv, hM, hJ, hS, hA⟩ := I
  obtain ⟨hr1, hr2⟩ := hroom
  have hbA : ¬ ALs s B0 := Nat.not_le.mpr hbl
  have hW : ∀ q, AW AX out q → ALs s q := fun q h => h.elim (fun h => hsX q h) (fun h => h ▸ hso)
  have hGd := hE.dis
  obtain ⟨i, e1, hi⟩ : ∃ z : Int, xs (t + 1) = wI z ∧ wR z := ⟨_, (wI_ofInt _).symm, wR_toInt _⟩
  refine w_aload_n X dL_law_1081 hl 3 rfl rfl ?_
  refine w_aload_n X dL_law_1082 hl 4 rfl rfl ?_
  refine w_iload X dL_law_1083 hl 0 rfl ?_
  refine w_iconst X dL_law_1085 ?_
  refine w_iadd X dL_law_1086 fun z_1 ez_1 => ?_
  refine w_sld (y := i) X hXs hbl hbA hS hL (t + 1) (by omega) (by omega) e1 dL_law_1087 ?_
  refine w_aload_n X dL_law_1088 hl 1 rfl rfl ?_
  refine w_ir (vx_runSW (As := [.ref x, .int (wI (i)), .ref out]) (rest := []) X (c_L_homeIncome l hl9 g H AX out hno x σ hσ hXv fo hJ i hi) (vx_cwSW 3 X.2.2.2.2 gL_law_L_homeIncome rfl rfl rfl (by decide +kernel) ⟨(Nat.le_of_ble_eq_true rfl), (Nat.le_of_ble_eq_true rfl)⟩) (w_pr2 hE hEs hNx hS hW) rfl rfl hl.1 rfl (lv_room (Nat.le_of_ble_eq_true rfl)) dL_law_1089 ⟨by show _ ≤ 634029; omega, by show _ ≤ 7194018; omega⟩) hS hW fun v1 H1 lo1 hp1 hz1 hq1 hS => ?_
  obtain ⟨rfl, hX1, fo1, hJ1, hf1⟩ := hp1
  have hcd := cd_r (((0 : Int) ≤ i ∧ i < (sn σ : Int))) (True) (True)
  have hM1 := hM.kept (fun k h1 h2 => hq1 _ (hM.lt k h1 h2) (fun h => h.elim (fun h => hdis _ h (hAM k h1 h2)) (fun h => hmo (h ▸ hAM k h1 h2))))
  obtain ⟨fs8, hOm⟩ := hM1.ob
  have hA1 : ∀ q, H1.size ≤ q → AX q := fun q hq => hA q (by omega)
  refine w_istore X [(5, .int (wI (cd (((0 : Int) ≤ i ∧ i < (sn σ : Int))) (True) (True)))), (4, .int (wI ((t : Int)))), (3, .ref out), (2, .ref (M 0)), (1, .ref x), (0, .ref B0)] dL_law_1092 hl (by decide) rfl fun ls hl => ?_
  refine w_aload_n X dL_law_1094 hl 3 rfl rfl ?_
  refine w_aload_n X dL_law_1095 hl 5 rfl rfl ?_
  refine w_iload X dL_law_1096 hl 1 rfl ?_
  refine w_iconst X dL_law_1098 ?_
  refine w_iadd X dL_law_1099 fun z_2 ez_2 => ?_
  refine w_sld (y := i) X hXs hbl hbA hS hL (t + 1) (by omega) (by omega) e1 dL_law_1100 ?_
  refine w_ir (va_runV (As := [.int (wI (i))]) (rest := []) X (c_X4_homeIncome l g AM H1 M hAM hMj th σ hM1 hσ i hi) (cwV 1 X.2.2.2.2 gL_law_X4_homeIncome rfl rfl rfl (by decide +kernel) ⟨(Nat.le_of_ble_eq_true rfl), (Nat.le_of_ble_eq_true rfl)⟩) (w_prVN hE hEs hS hsM hOm rfl) rfl rfl hl.1 rfl (lv_room (Nat.le_of_ble_eq_true rfl)) dL_law_1101 ⟨by show _ ≤ 634029; omega, by show _ ≤ 7194018; omega⟩) hS hsM fun v2 H2 lo2 hp2 hz2 hq2 hS => ?_
  obtain ⟨rfl, hM2⟩ := hp2
  obtain ⟨fs7, hOm2⟩ := hM2.ob
  have hX2 := hX1.kept (fun q h1 h2 => hq2 q h2 (hdis q h1))
  have hJ2 := hJ1.kept (hq2 _ hJ1.lt hmo)
  have hA2 : ∀ q, H2.size ≤ q → AX q := fun q hq => hA1 q (by omega)
  refine w_istore X [(6, .int (wI (stv (((0 : Int) ≤ i ∧ i < (sn σ : Int))) (True) (True) (ahS (sp σ i.toNat) (sb σ i.toNat) (so σ i.toNat))))), (5, .int (wI (cd (((0 : Int) ≤ i ∧ i < (sn σ : Int))) (True) (True)))), (4, .int (wI ((t : Int)))), (3, .ref out), (2, .ref (M 0)), (1, .ref x), (0, .ref B0)] dL_law_1104 hl (by decide) rfl fun ls hl => ?_
  refine w_aload_n X dL_law_1106 hl 4 rfl rfl ?_
  refine w_callV (v := .int (wI (cd (((0 : Int) ≤ i ∧ i < (sn σ : Int))) (True) (True)))) 0 X hE (c_X4_thrown l g H2 M (cd (((0 : Int) ≤ i ∧ i < (sn σ : Int))) (True) (True)) (stp (((0 : Int) ≤ i ∧ i < (sn σ : Int))) (True) (True) (σ) σ) hM2) hOm2 hl dL_law_1107 gL_law_X4_thrown rfl rfl (by decide +kernel) ⟨(Nat.le_of_ble_eq_true rfl), (Nat.le_of_ble_eq_true rfl)⟩ rfl rfl (Nat.le_of_ble_eq_true rfl) ⟨by show _ ≤ 634029; omega, by show _ ≤ 7194018; omega⟩ ?_
  refine w_iload X dL_law_1110 hl 1 rfl ?_
  refine w_icmp_eq X 1117 dL_law_1112 (by decide) (by omega) (by omega) (fun c_3 => ?_) (fun c_3 => ?_)
  · skip
    refine w_iload X dL_law_1117 hl 1 rfl ?_
    refine w_if_ne X 1134 dL_law_1119 (by decide) (by omega) (fun c_4 => ?_) (fun c_4 => ?_)
    · skip
      refine w_goto X 1486 dL_law_1134 (by decide) ?_
      refine W.widen (k := cells + 6) (n := slots + 39) (by omega) (by omega) ?_
      exact hk (stp (((0 : Int) ≤ i ∧ i < (sn σ : Int))) (True) (True) (σ) σ) (cd (((0 : Int) ≤ i ∧ i < (sn σ : Int))) (True) (True)) fo1 H2 lo2 ⟨stp_good (fun _ _ _ => hσ) hσ, hX2, hM2, hJ2, hS, hA2⟩ ls (lv_sub hl [2, 3, 4, 5, 6] rfl)
    · skip
      refine w_aload_n X dL_law_1122 hl 3 rfl rfl ?_
      refine w_iconst X dL_law_1123 ?_
      refine w_lald0 X hE hJ2 dL_law_1124 ?_
      rw [hf1 (by omega)]
      refine w_iload X dL_law_1125 hl 0 rfl ?_
      refine lv_i2l (v := (wI (stv (((0 : Int) ≤ i ∧ i < (sn σ : Int))) (True) (True) (ahS (sp σ i.toNat) (sb σ i.toNat) (so σ i.toNat)))).toInt64) X.1 X.2.1 dL_law_1127 rfl ?_
      refine w_lcmpEq X dL_law_1128 ?_
      refine w_if_eq X 1134 dL_law_1129 (by decide) (by omega) (fun c_5 => ?_) (fun c_5 => ?_)
      · skip
        refine w_goto X 1486 dL_law_1134 (by decide) ?_
        refine W.widen (k := cells + 6) (n := slots + 39) (by omega) (by omega) ?_
        exact hk (stp (((0 : Int) ≤ i ∧ i < (sn σ : Int))) (True) (True) (σ) σ) (cd (((0 : Int) ≤ i ∧ i < (sn σ : Int))) (True) (True)) fo1 H2 lo2 ⟨stp_good (fun _ _ _ => hσ) hσ, hX2, hM2, hJ2, hS, hA2⟩ ls (lv_sub hl [2, 3, 4, 5, 6] rfl)
      · skip
        exact absurd c_5 (by omega)
  · skip
    exact absurd c_3 (by omega)
