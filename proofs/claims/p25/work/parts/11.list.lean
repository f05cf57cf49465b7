/-! ArrayList: size, get -/

set_option maxHeartbeats 4000000 in
set_option maxRecDepth 100000 in
theorem c_J3_checkIndex_8e157 (l : Launch) (g : wG) (H : Heap) (i n : Int) (h0 : 0 ≤ i) (h1 : i < n) (h2 : n ≤ 2147483647) : Pur l g H yJ3_checkIndex_8e157 wsJ3_checkIndex_8e157 0 0 [.int (wI (i)), .int (wI (n)), .null] (.int (wI i)) := by
  refine Pur.of (cc := cJ3_checkIndex_8e157) (maxL := 3) (ret := (some .int)) (by decide) rfl (Nat.le_of_ble_eq_true rfl) ?_
  intro p9 e s m args below meth c X hE hr hk ls hl
  have hl : lv_has ls 3 [(0, .int (wI (i))), (1, .int (wI (n))), (2, .null)] := hl
  refine w_iload_n X dJ3_checkIndex_8e157_0 hl 0 rfl rfl ?_
  refine w_if_lt X 9 dJ3_checkIndex_8e157_1 (by decide) (by omega) (fun c_1 => ?_) (fun c_1 => ?_)
  · skip
    exact absurd c_1 (by omega)
  · skip
    refine w_iload_n X dJ3_checkIndex_8e157_4 hl 0 rfl rfl ?_
    refine w_iload_n X dJ3_checkIndex_8e157_5 hl 1 rfl rfl ?_
    refine w_icmp_lt X 16 dJ3_checkIndex_8e157_6 (by decide) (by omega) (by omega) (fun c_2 => ?_) (fun c_2 => ?_)
    · skip
      refine w_iload_n X dJ3_checkIndex_8e157_16 hl 0 rfl rfl ?_
      exact w_iret X hr hk dJ3_checkIndex_8e157_17 rfl
    · skip
      exact absurd c_2 (by omega)

set_option maxHeartbeats 4000000 in
set_option maxRecDepth 100000 in
theorem c_J15_checkIndex_7cf53 (l : Launch) (g : wG) (H : Heap) (i n : Int) (h0 : 0 ≤ i) (h1 : i < n) (h2 : n ≤ 2147483647) : Pur l g H yJ15_checkIndex_7cf53 wsJ15_checkIndex_7cf53 1 22 [.int (wI (i)), .int (wI (n))] (.int (wI i)) := by
  refine Pur.of (cc := cJ15_checkIndex_7cf53) (maxL := 2) (ret := (some .int)) (by decide) rfl (Nat.le_of_ble_eq_true rfl) ?_
  intro p9 e s m args below meth c X hE hr hk ls hl
  have hl : lv_has ls 2 [(0, .int (wI (i))), (1, .int (wI (n)))] := hl
  refine w_iload_n X dJ15_checkIndex_7cf53_0 hl 0 rfl rfl ?_
  refine w_iload_n X dJ15_checkIndex_7cf53_1 hl 1 rfl rfl ?_
  refine w_null X dJ15_checkIndex_7cf53_2 ?_
  refine w_callS (v := .int (wI (i))) 3 X hE (c_J3_checkIndex_8e157 l g H i n h0 h1 h2) hl dJ15_checkIndex_7cf53_3 gJ15_checkIndex_7cf53_J3_checkIndex_8e157 rfl rfl (by decide +kernel) ⟨(Nat.le_of_ble_eq_true rfl), (Nat.le_of_ble_eq_true rfl)⟩ rfl (Nat.le_of_ble_eq_true rfl) ⟨Nat.le_refl _, Nat.le_refl _⟩ ?_
  exact w_iret X hr hk dJ15_checkIndex_7cf53_6 rfl

set_option maxHeartbeats 4000000 in
set_option maxRecDepth 100000 in
theorem c_Jx4a65c_size_8abf5 (l : Launch) (g : wG) (H : Heap) (a : Nat) (mc : Int32) (e9 : Nat) (n : Int) (hO : Ob g H a 0 [.int mc, .ref e9, .int (wI n)]) : Pur l g H yJx4a65c_size_8abf5 wsJx4a65c_size_8abf5 0 0 [.ref a] (.int (wI n)) := by
  refine Pur.of (cc := cJx4a65c_size_8abf5) (maxL := 1) (ret := (some .int)) (by decide) rfl (Nat.le_of_ble_eq_true rfl) ?_
  intro p9 e s m args below meth c X hE hr hk ls hl
  have hl : lv_has ls 1 [(0, .ref a)] := hl
  have hin_RJx4a65c : ∀ w ∈ u_ws RJx4a65c TJx4a65c 3, w ∈ wsJx4a65c_size_8abf5 := by decide +kernel
  refine w_aload_n X dJx4a65c_size_8abf5_0 hl 0 rfl rfl ?_
  refine w_get X hE hO 2 dJx4a65c_size_8abf5_1 rfl hin_RJx4a65c (by decide) (by decide +kernel) rfl rfl ?_
  exact w_iret X hr hk dJx4a65c_size_8abf5_4 rfl

set_option maxHeartbeats 4000000 in
set_option maxRecDepth 100000 in
theorem c_Jx4a65c_elementData_915e3 (l : Launch) (g : wG) (H : Heap) (a : Nat) (mc : Int32) (e9 : Nat) (n : Int) (hO : Ob g H a 0 [.int mc, .ref e9, .int (wI n)]) (k : Nat) (f : Nat → Option Nat) (hA : RA g H e9 k f) (i : Int) (y : Nat) (h0 : 0 ≤ i) (h1 : i < n) (h2 : n ≤ k) (h3 : k ≤ 1000) (hy : f i.toNat = some y) : Pur l g H yJx4a65c_elementData_915e3 wsJx4a65c_elementData_915e3 0 0 [.ref a, .int (wI (i))] (.ref y) := by
  refine Pur.of (cc := cJx4a65c_elementData_915e3) (maxL := 2) (ret := (some (.object "java/lang/Object"))) (by decide) rfl (Nat.le_of_ble_eq_true rfl) ?_
  intro p9 e s m args below meth c X hE hr hk ls hl
  have hl : lv_has ls 2 [(0, .ref a), (1, .int (wI (i)))] := hl
  have hin_RJx4a65c : ∀ w ∈ u_ws RJx4a65c TJx4a65c 3, w ∈ wsJx4a65c_elementData_915e3 := by decide +kernel
  refine w_aload_n X dJx4a65c_elementData_915e3_0 hl 0 rfl rfl ?_
  refine w_get X hE hO 1 dJx4a65c_elementData_915e3_1 rfl hin_RJx4a65c (by decide) (by decide +kernel) rfl rfl ?_
  refine w_iload_n X dJx4a65c_elementData_915e3_4 hl 1 rfl rfl ?_
  refine w_aald (y := y) X hE hA dJx4a65c_elementData_915e3_5 (by omega) (by omega) (by omega) hy ?_
  exact w_aret X hr hk dJx4a65c_elementData_915e3_6

set_option maxHeartbeats 4000000 in
set_option maxRecDepth 100000 in
theorem c_Jx4a65c_get_915e3 (l : Launch) (g : wG) (H : Heap) (a : Nat) (mc : Int32) (e9 : Nat) (n : Int) (hO : Ob g H a 0 [.int mc, .ref e9, .int (wI n)]) (k : Nat) (f : Nat → Option Nat) (hA : RA g H e9 k f) (i : Int) (y : Nat) (h0 : 0 ≤ i) (h1 : i < n) (h2 : n ≤ k) (h3 : k ≤ 1000) (hy : f i.toNat = some y) : Pur l g H yJx4a65c_get_915e3 wsJx4a65c_get_915e3 2 43 [.ref a, .int (wI (i))] (.ref y) := by
  refine Pur.of (cc := cJx4a65c_get_915e3) (maxL := 2) (ret := (some (.object "java/lang/Object"))) (by decide) rfl (Nat.le_of_ble_eq_true rfl) ?_
  intro p9 e s m args below meth c X hE hr hk ls hl
  have hl : lv_has ls 2 [(0, .ref a), (1, .int (wI (i)))] := hl
  have hin_RJx4a65c : ∀ w ∈ u_ws RJx4a65c TJx4a65c 3, w ∈ wsJx4a65c_get_915e3 := by decide +kernel
  refine w_iload_n X dJx4a65c_get_915e3_0 hl 1 rfl rfl ?_
  refine w_aload_n X dJx4a65c_get_915e3_1 hl 0 rfl rfl ?_
  refine w_get X hE hO 2 dJx4a65c_get_915e3_2 rfl hin_RJx4a65c (by decide) (by decide +kernel) rfl rfl ?_
  refine w_callS (v := .int (wI (i))) 2 X hE (c_J15_checkIndex_7cf53 l g H i n h0 h1 (by omega)) hl dJx4a65c_get_915e3_5 gJx4a65c_get_915e3_J15_checkIndex_7cf53 rfl rfl (by decide +kernel) ⟨(Nat.le_of_ble_eq_true rfl), (Nat.le_of_ble_eq_true rfl)⟩ rfl (Nat.le_of_ble_eq_true rfl) ⟨Nat.le_refl _, Nat.le_refl _⟩ ?_
  refine w_pop X dJx4a65c_get_915e3_8 rfl ?_
  refine w_aload_n X dJx4a65c_get_915e3_9 hl 0 rfl rfl ?_
  refine w_iload_n X dJx4a65c_get_915e3_10 hl 1 rfl rfl ?_
  refine w_callV (v := .ref y) 1 X hE (c_Jx4a65c_elementData_915e3 l g H a mc e9 n hO k f hA i y h0 h1 h2 h3 hy) hO hl dJx4a65c_get_915e3_11 gJx4a65c_get_915e3_Jx4a65c_elementData_915e3 rfl rfl (by decide +kernel) ⟨(Nat.le_of_ble_eq_true rfl), (Nat.le_of_ble_eq_true rfl)⟩ rfl rfl (Nat.le_of_ble_eq_true rfl) ⟨Nat.le_refl _, Nat.le_refl _⟩ ?_
  exact w_aret X hr hk dJx4a65c_get_915e3_14
