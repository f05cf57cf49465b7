/-! the classes' numbers differ; leaf methods that throw -/
theorem ew_xA : ∀ w ∈ (vx_atS RX3 59 xnA xnms).filter (fun w => !goodWord w), w ∈ EW := fun _ h => List.mem_append_right _ (List.mem_append_right _ (List.mem_append_right _ (List.mem_append_right _ (List.mem_append_left _ h))))
theorem ew_xS : ∀ w ∈ (vx_atS RX3 71 xnS xnms).filter (fun w => !goodWord w), w ∈ EW := fun _ h => List.mem_append_right _ (List.mem_append_right _ (List.mem_append_right _ (List.mem_append_right _ (List.mem_append_right _ (List.mem_append_left _ h)))))
theorem ew_xB : ∀ w ∈ (vx_atS RX3 118 xnB xnms).filter (fun w => !goodWord w), w ∈ EW := fun _ h => List.mem_append_right _ (List.mem_append_right _ (List.mem_append_right _ (List.mem_append_right _ (List.mem_append_right _ (List.mem_append_right _ h)))))
def Gd (g : wG) : Prop := (∀ i j, i < 5 → j < 5 → (gD g).1 i = (gD g).1 j → i = j) ∧ (∀ i, i < 5 → (gD g).1 i ≠ gI g ∧ (gD g).1 i ≠ gO g) ∧ gI g ≠ gO g
theorem id_ne {s : State} {a b : String} {i j : ClassId} (ha : s.vm.findClass a = some i) (hb : s.vm.findClass b = some j) (h : a ≠ b) : i ≠ j := by
  intro e
  subst e
  obtain ⟨k, h1, h2⟩ := Vm.findClass_spec ha
  obtain ⟨k', h3, h4⟩ := Vm.findClass_spec hb
  rw [h1] at h3
  cases h3
  exact h (h2.symm.trans h4)
def clN (i : Nat) : String := match i with
  | 0 => RJx4a65c
  | 1 => RX0
  | 2 => RX1
  | 3 => RX2
  | _ => RX3
theorem clN_at : ∀ i, i < 5 → ∃ (T : u_T) (N : Nat), vwCl[i]? = some (clN i, T, N) := by
  intro i hi
  match i, hi with
  | 0, _ => exact ⟨_, _, rfl⟩
  | 1, _ => exact ⟨_, _, rfl⟩
  | 2, _ => exact ⟨_, _, rfl⟩
  | 3, _ => exact ⟨_, _, rfl⟩
  | 4, _ => exact ⟨_, _, rfl⟩
  | n + 5, h => omega
theorem clN_inj : ∀ i, i < 5 → ∀ j, j < 5 → clN i = clN j → i = j := by decide +kernel
abbrev aN_I : String := "[" ++ FieldType.int.toString
abbrev aN_O : String := "[" ++ (FieldType.object "java/lang/Object").toString
theorem clN_arr : ∀ i, i < 5 → clN i ≠ aN_I ∧ clN i ≠ aN_O := by decide +kernel
theorem aN_ne : aN_I ≠ aN_O := by decide +kernel
theorem Ek.cls {g : wG} {s : State} (hE : Ek g s) (i : Nat) (hi : i < 5) : s.vm.findClass (clN i) = some ((gD g).1 i) := by
  obtain ⟨T, N, h⟩ := clN_at i hi
  exact (hE.1.1 i _ h).2.1
theorem id_eq {s : State} {a b : String} {i : ClassId} (ha : s.vm.findClass a = some i) (hb : s.vm.findClass b = some i) : a = b := by
  obtain ⟨k, h1, h2⟩ := Vm.findClass_spec ha
  obtain ⟨k', h3, h4⟩ := Vm.findClass_spec hb
  rw [h1] at h3
  cases h3
  exact h2.symm.trans h4
theorem Ek.dis {g : wG} {s : State} (hE : Ek g s) : Gd g := by
  have hI : s.vm.findClass aN_I = some (gI g) := (hE.1.2 0 _ rfl).2
  obtain ⟨_, _, _, _, _, hO⟩ := (hE.1.2 1 _ rfl).2
  have hO : s.vm.findClass aN_O = some (gO g) := hO
  exact ⟨fun i j hi hj e => clN_inj i hi j hj (id_eq (hE.cls i hi) (by rw [e]; exact hE.cls j hj)), fun i hi => ⟨id_ne (hE.cls i hi) hI (clN_arr i hi).1, id_ne (hE.cls i hi) hO (clN_arr i hi).2⟩, id_ne hI hO aN_ne⟩
theorem Ob.cls {g : wG} {H : Heap} {a ci : Nat} {fs : List Value} (h : Ob g H a ci fs) : ∃ cell : Cell, H[a]? = some cell ∧ cell.cls = (gD g).1 ci := by
  obtain ⟨r, -, cell, h1, h2, -⟩ := h
  exact ⟨cell, h1, h2⟩
theorem RA.cls {g : wG} {H : Heap} {a n : Nat} {f : Nat → Option Nat} (h : RA g H a n f) : ∃ cell : Cell, H[a]? = some cell ∧ cell.cls = gO g := ⟨_, h, rfl⟩
theorem IA.cls {g : wG} {H : Heap} {a n : Nat} {f : Nat → Int32} (h : IA g H a n f) : ∃ cell : Cell, H[a]? = some cell ∧ cell.cls = gI g := ⟨_, h, rfl⟩
theorem Ob.ne {g : wG} (hGd : Gd g) {H : Heap} {a b ci cj : Nat} {fs gs : List Value} (h : Ob g H a ci fs) (h' : Ob g H b cj gs) (h1 : ci < 5) (h2 : cj < 5) (hne : ci ≠ cj) : a ≠ b := by
  rintro rfl
  obtain ⟨c1, e1, e2⟩ := h.cls
  obtain ⟨c2, e3, e4⟩ := h'.cls
  rw [e1] at e3
  cases e3
  exact hne (hGd.1 ci cj h1 h2 (e2.symm.trans e4))
theorem Ob.neR {g : wG} (hGd : Gd g) {H : Heap} {a b ci n : Nat} {fs : List Value} {f : Nat → Option Nat} (h : Ob g H a ci fs) (h' : RA g H b n f) (h1 : ci < 5) : a ≠ b := by
  rintro rfl
  obtain ⟨c1, e1, e2⟩ := h.cls
  obtain ⟨c2, e3, e4⟩ := h'.cls
  rw [e1] at e3
  cases e3
  exact (hGd.2.1 ci h1).2 (e2.symm.trans e4)
/-- the heap has grown; nothing that was there has changed -/
def Ext (H H1 : Heap) : Prop := H.size ≤ H1.size ∧ ∀ q, q < H.size → H1[q]? = H[q]?
theorem Ext.trans {H H1 H2 : Heap} (h : Ext H H1) (h' : Ext H1 H2) : Ext H H2 := ⟨Nat.le_trans h.1 h'.1, fun q hq => (h'.2 q (Nat.lt_of_lt_of_le hq h.1)).trans (h.2 q hq)⟩

set_option maxHeartbeats 4000000 in
set_option maxRecDepth 100000 in
theorem c_X3_requireRange (l : Launch) (hl9 : l.stackTraces = false) (g : wG) (A : Nat → Prop) (H : Heap) (v a b : Int) (hv : wR v) (ha : wR a) (hb : wR b) : ThrV l g A H yX3_requireRange wsX3_requireRange 6 92 1 6 [.int (wI (v)), .int (wI (a)), .int (wI (b))] (fun H1 => H1 = H ∧ a ≤ v ∧ v ≤ b) (fun E H1 => E = xnA ∧ ¬ (a ≤ v ∧ v ≤ b) ∧ Ext H H1) := by
  refine Thr.of (cc := cX3_requireRange) (maxL := 3) (ret := none) (by decide) rfl (Nat.le_of_ble_eq_true rfl) ?_
  intro p9 e s m args below meth c X hE hEs ht hr hk hS ls hl
  have hl : lv_has ls 3 [(0, .int (wI (v))), (1, .int (wI (a))), (2, .int (wI (b)))] := hl
  have hGd := hE.dis
  refine w_iload_n X dX3_requireRange_0 hl 0 rfl rfl ?_
  refine w_iload_n X dX3_requireRange_1 hl 1 rfl rfl ?_
  refine w_icmp_lt X 10 dX3_requireRange_2 (by decide) (by omega) (by omega) (fun c_1 => ?_) (fun c_1 => ?_)
  · skip
    exact w_throw (cls := xnA) (text := "an argument is out of range") X hE hEs hS hl9 ht hk hl dX3_requireRange_10 dX3_requireRange_13 dX3_requireRange_14 dX3_requireRange_16 dX3_requireRange_19 (by decide) (by decide +kernel) (by decide +kernel) (fun w h => List.mem_cons_of_mem _ (List.mem_append_right _ h)) ew_xA (by decide +kernel) ⟨by decide +kernel, by decide +kernel⟩ ⟨(Nat.le_of_ble_eq_true rfl), (Nat.le_of_ble_eq_true rfl), (Nat.le_of_ble_eq_true rfl), (Nat.le_of_ble_eq_true rfl)⟩ ⟨(Nat.le_of_ble_eq_true rfl), (Nat.le_of_ble_eq_true rfl)⟩ (fun H9 hz9 hq9 => ⟨rfl, by omega, hz9, hq9⟩)
  · skip
    refine w_iload_n X dX3_requireRange_5 hl 0 rfl rfl ?_
    refine w_iload_n X dX3_requireRange_6 hl 2 rfl rfl ?_
    refine w_icmp_le X 20 dX3_requireRange_7 (by decide) (by omega) (by omega) (fun c_2 => ?_) (fun c_2 => ?_)
    · skip
      exact vx_ret (w_vrV X hr hk hS ⟨rfl, by omega, by omega⟩ dX3_requireRange_20 (Nat.le_of_ble_eq_true rfl) (Nat.le_of_ble_eq_true rfl))
    · skip
      exact w_throw (cls := xnA) (text := "an argument is out of range") X hE hEs hS hl9 ht hk hl dX3_requireRange_10 dX3_requireRange_13 dX3_requireRange_14 dX3_requireRange_16 dX3_requireRange_19 (by decide) (by decide +kernel) (by decide +kernel) (fun w h => List.mem_cons_of_mem _ (List.mem_append_right _ h)) ew_xA (by decide +kernel) ⟨by decide +kernel, by decide +kernel⟩ ⟨(Nat.le_of_ble_eq_true rfl), (Nat.le_of_ble_eq_true rfl), (Nat.le_of_ble_eq_true rfl), (Nat.le_of_ble_eq_true rfl)⟩ ⟨(Nat.le_of_ble_eq_true rfl), (Nat.le_of_ble_eq_true rfl)⟩ (fun H9 hz9 hq9 => ⟨rfl, by omega, hz9, hq9⟩)

set_option maxHeartbeats 4000000 in
set_option maxRecDepth 100000 in
theorem c_X3_landAt (l : Launch) (hl9 : l.stackTraces = false) (g : wG) (A : Nat → Prop) (H : Heap) (x lA sA : Nat) (hO : Ob g H x 4 [.ref lA, .ref sA]) (mc : Int32) (e9 : Nat) (hOb : Ob g H lA 0 [.int mc, .ref e9, .int (wI 4)]) (f : Nat → Option Nat) (hRA : 0 < 4 → RA g H e9 10 f) (hB : ∀ i, i < 4 → ∃ q, f i = some q ∧ ∃ fs, Ob g H q 2 fs) (i : Int) (hi : wR i) : ThrR l g A H yX3_landAt wsX3_landAt 6 92 1 6 [.ref x, .int (wI (i))] (fun v H1 => H1 = H ∧ 0 ≤ i ∧ i < 4 ∧ ∃ q, f i.toNat = some q ∧ v = .ref q) (fun E H1 => E = xnA ∧ ¬ (0 ≤ i ∧ i < 4) ∧ Ext H H1) := by
  refine Thr.of (cc := cX3_landAt) (maxL := 2) (ret := (some (.object "TaxEqualiser$Land"))) (by decide) rfl (Nat.le_of_ble_eq_true rfl) ?_
  intro p9 e s m args below meth c X hE hEs ht hr hk hS ls hl
  have hl : lv_has ls 2 [(0, .ref x), (1, .int (wI (i)))] := hl
  have hin_RX3 : ∀ w ∈ u_ws RX3 TX3 2, w ∈ wsX3_landAt := by decide +kernel
  have hGd := hE.dis
  refine w_iload_n X dX3_landAt_0 hl 1 rfl rfl ?_
  refine w_if_lt X 17 dX3_landAt_1 (by decide) (by omega) (fun c_1 => ?_) (fun c_1 => ?_)
  · skip
    exact w_throw (cls := xnA) (text := "no such land") X hE hEs hS hl9 ht hk hl dX3_landAt_17 dX3_landAt_20 dX3_landAt_21 dX3_landAt_23 dX3_landAt_26 (by decide) (by decide +kernel) (by decide +kernel) (fun w h => List.mem_cons_of_mem _ (List.mem_append_right _ h)) ew_xA (by decide +kernel) ⟨by decide +kernel, by decide +kernel⟩ ⟨(Nat.le_of_ble_eq_true rfl), (Nat.le_of_ble_eq_true rfl), (Nat.le_of_ble_eq_true rfl), (Nat.le_of_ble_eq_true rfl)⟩ ⟨(Nat.le_of_ble_eq_true rfl), (Nat.le_of_ble_eq_true rfl)⟩ (fun H9 hz9 hq9 => ⟨rfl, by omega, hz9, hq9⟩)
  · skip
    refine w_iload_n X dX3_landAt_4 hl 1 rfl rfl ?_
    refine w_aload_n X dX3_landAt_5 hl 0 rfl rfl ?_
    refine w_get X hE hO 0 dX3_landAt_6 rfl hin_RX3 (by decide) (by decide +kernel) rfl rfl ?_
    refine w_callF (v := .int (wI (4))) 0 X hE (c_Jx4a65c_size_8abf5 l g H lA mc e9 4 hOb) hOb hl dX3_landAt_9 gX3_landAt_Jx4a65c_size_8abf5_f63Jx4a65c ew_size rfl rfl (by decide +kernel) ⟨(Nat.le_of_ble_eq_true rfl), (Nat.le_of_ble_eq_true rfl)⟩ rfl (Nat.le_of_ble_eq_true rfl) ⟨(Nat.le_of_ble_eq_true rfl), (Nat.le_of_ble_eq_true rfl)⟩ ?_
    refine w_icmp_lt X 27 dX3_landAt_14 (by decide) (by omega) (by omega) (fun c_2 => ?_) (fun c_2 => ?_)
    · skip
      obtain ⟨q, hq1, hq2⟩ := hB i.toNat (by omega)
      refine w_aload_n X dX3_landAt_27 hl 0 rfl rfl ?_
      refine w_get X hE hO 0 dX3_landAt_28 rfl hin_RX3 (by decide) (by decide +kernel) rfl rfl ?_
      refine w_iload_n X dX3_landAt_31 hl 1 rfl rfl ?_
      refine w_callF (v := .ref q) 1 X hE (c_Jx4a65c_get_915e3 l g H lA mc e9 4 hOb 10 f (hRA (by omega)) i q (by omega) (by omega) (by omega) (by omega) hq1) hOb hl dX3_landAt_32 gX3_landAt_Jx4a65c_get_915e3_f119Jx4a65c ew_get rfl rfl (by decide +kernel) ⟨(Nat.le_of_ble_eq_true rfl), (Nat.le_of_ble_eq_true rfl)⟩ rfl (Nat.le_of_ble_eq_true rfl) ⟨(Nat.le_of_ble_eq_true rfl), (Nat.le_of_ble_eq_true rfl)⟩ ?_
      refine w_cast X hE hq2.choose_spec dX3_landAt_37 rfl (by decide +kernel) ?_
      exact vx_ret (w_arR X hr (Or.inl ⟨_, rfl⟩) hk hS ⟨rfl, by omega, by omega, q, hq1, rfl⟩ dX3_landAt_40 (Nat.le_of_ble_eq_true rfl) (Nat.le_of_ble_eq_true rfl))
    · skip
      exact w_throw (cls := xnA) (text := "no such land") X hE hEs hS hl9 ht hk hl dX3_landAt_17 dX3_landAt_20 dX3_landAt_21 dX3_landAt_23 dX3_landAt_26 (by decide) (by decide +kernel) (by decide +kernel) (fun w h => List.mem_cons_of_mem _ (List.mem_append_right _ h)) ew_xA (by decide +kernel) ⟨by decide +kernel, by decide +kernel⟩ ⟨(Nat.le_of_ble_eq_true rfl), (Nat.le_of_ble_eq_true rfl), (Nat.le_of_ble_eq_true rfl), (Nat.le_of_ble_eq_true rfl)⟩ ⟨(Nat.le_of_ble_eq_true rfl), (Nat.le_of_ble_eq_true rfl)⟩ (fun H9 hz9 hq9 => ⟨rfl, by omega, hz9, hq9⟩)

set_option maxHeartbeats 4000000 in
set_option maxRecDepth 100000 in
theorem c_X3_personAt (l : Launch) (hl9 : l.stackTraces = false) (g : wG) (A : Nat → Prop) (H : Heap) (n : Nat) (hn : n ≤ 10) (x lA sA : Nat) (hO : Ob g H x 4 [.ref lA, .ref sA]) (mc : Int32) (e9 : Nat) (hOb : Ob g H sA 0 [.int mc, .ref e9, .int (wI (n : Int))]) (f : Nat → Option Nat) (hRA : 0 < n → RA g H e9 10 f) (hB : ∀ i, i < n → ∃ q, f i = some q ∧ ∃ fs, Ob g H q 3 fs) (i : Int) (hi : wR i) : ThrR l g A H yX3_personAt wsX3_personAt 6 92 1 6 [.ref x, .int (wI (i))] (fun v H1 => H1 = H ∧ 0 ≤ i ∧ i < (n : Int) ∧ ∃ q, f i.toNat = some q ∧ v = .ref q) (fun E H1 => E = xnB ∧ ¬ (0 ≤ i ∧ i < (n : Int)) ∧ Ext H H1) := by
  refine Thr.of (cc := cX3_personAt) (maxL := 2) (ret := (some (.object "TaxEqualiser$Person"))) (by decide) rfl (Nat.le_of_ble_eq_true rfl) ?_
  intro p9 e s m args below meth c X hE hEs ht hr hk hS ls hl
  have hl : lv_has ls 2 [(0, .ref x), (1, .int (wI (i)))] := hl
  have hin_RX3 : ∀ w ∈ u_ws RX3 TX3 2, w ∈ wsX3_personAt := by decide +kernel
  have hGd := hE.dis
  refine w_iload_n X dX3_personAt_0 hl 1 rfl rfl ?_
  refine w_if_lt X 17 dX3_personAt_1 (by decide) (by omega) (fun c_1 => ?_) (fun c_1 => ?_)
  · skip
    exact w_throw (cls := xnB) (text := "no such person") X hE hEs hS hl9 ht hk hl dX3_personAt_17 dX3_personAt_20 dX3_personAt_21 dX3_personAt_23 dX3_personAt_26 (by decide) (by decide +kernel) (by decide +kernel) (fun w h => List.mem_cons_of_mem _ (List.mem_append_right _ h)) ew_xB (by decide +kernel) ⟨by decide +kernel, by decide +kernel⟩ ⟨(Nat.le_of_ble_eq_true rfl), (Nat.le_of_ble_eq_true rfl), (Nat.le_of_ble_eq_true rfl), (Nat.le_of_ble_eq_true rfl)⟩ ⟨(Nat.le_of_ble_eq_true rfl), (Nat.le_of_ble_eq_true rfl)⟩ (fun H9 hz9 hq9 => ⟨rfl, by omega, hz9, hq9⟩)
  · skip
    refine w_iload_n X dX3_personAt_4 hl 1 rfl rfl ?_
    refine w_aload_n X dX3_personAt_5 hl 0 rfl rfl ?_
    refine w_get X hE hO 1 dX3_personAt_6 rfl hin_RX3 (by decide) (by decide +kernel) rfl rfl ?_
    refine w_callF (v := .int (wI ((n : Int)))) 0 X hE (c_Jx4a65c_size_8abf5 l g H sA mc e9 (n : Int) hOb) hOb hl dX3_personAt_9 gX3_personAt_Jx4a65c_size_8abf5_f63Jx4a65c ew_size rfl rfl (by decide +kernel) ⟨(Nat.le_of_ble_eq_true rfl), (Nat.le_of_ble_eq_true rfl)⟩ rfl (Nat.le_of_ble_eq_true rfl) ⟨(Nat.le_of_ble_eq_true rfl), (Nat.le_of_ble_eq_true rfl)⟩ ?_
    refine w_icmp_lt X 27 dX3_personAt_14 (by decide) (by omega) (by omega) (fun c_2 => ?_) (fun c_2 => ?_)
    · skip
      obtain ⟨q, hq1, hq2⟩ := hB i.toNat (by omega)
      refine w_aload_n X dX3_personAt_27 hl 0 rfl rfl ?_
      refine w_get X hE hO 1 dX3_personAt_28 rfl hin_RX3 (by decide) (by decide +kernel) rfl rfl ?_
      refine w_iload_n X dX3_personAt_31 hl 1 rfl rfl ?_
      refine w_callF (v := .ref q) 1 X hE (c_Jx4a65c_get_915e3 l g H sA mc e9 (n : Int) hOb 10 f (hRA (by omega)) i q (by omega) (by omega) (by omega) (by omega) hq1) hOb hl dX3_personAt_32 gX3_personAt_Jx4a65c_get_915e3_f119Jx4a65c ew_get rfl rfl (by decide +kernel) ⟨(Nat.le_of_ble_eq_true rfl), (Nat.le_of_ble_eq_true rfl)⟩ rfl (Nat.le_of_ble_eq_true rfl) ⟨(Nat.le_of_ble_eq_true rfl), (Nat.le_of_ble_eq_true rfl)⟩ ?_
      refine w_cast X hE hq2.choose_spec dX3_personAt_37 rfl (by decide +kernel) ?_
      exact vx_ret (w_arR X hr (Or.inl ⟨_, rfl⟩) hk hS ⟨rfl, by omega, by omega, q, hq1, rfl⟩ dX3_personAt_40 (Nat.le_of_ble_eq_true rfl) (Nat.le_of_ble_eq_true rfl))
    · skip
      exact w_throw (cls := xnB) (text := "no such person") X hE hEs hS hl9 ht hk hl dX3_personAt_17 dX3_personAt_20 dX3_personAt_21 dX3_personAt_23 dX3_personAt_26 (by decide) (by decide +kernel) (by decide +kernel) (fun w h => List.mem_cons_of_mem _ (List.mem_append_right _ h)) ew_xB (by decide +kernel) ⟨by decide +kernel, by decide +kernel⟩ ⟨(Nat.le_of_ble_eq_true rfl), (Nat.le_of_ble_eq_true rfl), (Nat.le_of_ble_eq_true rfl), (Nat.le_of_ble_eq_true rfl)⟩ ⟨(Nat.le_of_ble_eq_true rfl), (Nat.le_of_ble_eq_true rfl)⟩ (fun H9 hz9 hq9 => ⟨rfl, by omega, hz9, hq9⟩)
