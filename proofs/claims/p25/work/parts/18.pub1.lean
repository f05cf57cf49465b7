/-! the object's methods: what they answer, what they throw, what they leave -/
noncomputable def cd (P1 P2 P3 : Prop) : Int := @ite _ P1 (Classical.propDecidable P1) (@ite _ P2 (Classical.propDecidable P2) (@ite _ P3 (Classical.propDecidable P3) 0 3) 2) 1
theorem cd_1 {P1 P2 P3 : Prop} (h : ¬ P1) : cd P1 P2 P3 = 1 := by simp [cd, h]
theorem cd_2 {P1 P2 P3 : Prop} (h : P1) (h2 : ¬ P2) : cd P1 P2 P3 = 2 := by simp [cd, h, h2]
theorem cd_3 {P1 P2 P3 : Prop} (h : P1) (h2 : P2) (h3 : ¬ P3) : cd P1 P2 P3 = 3 := by simp [cd, h, h2, h3]
theorem cd_0 {P1 P2 P3 : Prop} (h : P1) (h2 : P2) (h3 : P3) : cd P1 P2 P3 = 0 := by simp [cd, h, h2, h3]
def limS (L : Nat → Int) (a b : Int) : Nat → Int := fun k => match k with
  | 0 => a
  | 1 => b
  | k + 2 => L (k + 2)
def ratS (L : Nat → Int) (a b c : Int) : Nat → Int := fun k => match k with
  | 2 => a
  | 3 => b
  | 4 => c
  | k => L k
def absS (pf : Nat → Int) (a b : Int) : Nat → Int := fun k => match k with
  | 3 => a
  | 4 => b
  | k => pf k
def payS (pf : Nat → Int) (a : Int) : Nat → Int := fun k => match k with
  | 2 => a
  | k => pf k
def renS (pf : Nat → Int) (a b : Int) : Nat → Int := fun k => match k with
  | 5 => a
  | 6 => b
  | k => pf k
def newS (a b c : Int) : Nat → Int := fun k => match k with
  | 0 => a
  | 1 => b
  | 2 => c
  | _ => 0
def bonS (a b c : Int) : Nat → Int := fun k => match k with
  | 0 => a
  | 1 => b
  | _ => c
noncomputable abbrev cst (σ : St) (i : Nat) : Int := cosS (sH σ i) (sT σ i) (sp σ i) (sb σ i) (so σ i)
/-- the first of those who cost most -/
def IsBest (σ : St) (k : Nat) (v : Int) : Prop := (k = 0 ∧ v = -1) ∨ (0 ≤ v ∧ v < k ∧ (∀ j : Nat, (j : Int) < v → cst σ j < cst σ v.toNat) ∧ ∀ j : Nat, v < j → j < k → cst σ j ≤ cst σ v.toNat)
theorem IsBest.uniq {σ : St} {k : Nat} {v w : Int} (h : IsBest σ k v) (h' : IsBest σ k w) : v = w := by
  rcases h with ⟨h1, h2⟩ | ⟨h1, h2, h3, h4⟩ <;> rcases h' with ⟨k1, k2⟩ | ⟨k1, k2, k3, k4⟩
  · omega
  · omega
  · omega
  · rcases Int.lt_trichotomy v w with q | q | q
    · have a := k3 v.toNat (by omega)
      have b := h4 w.toNat (by omega) (by omega)
      omega
    · exact q
    · have a := h3 w.toNat (by omega)
      have b := k4 v.toNat (by omega) (by omega)
      omega
noncomputable def dearS (σ : St) : Int := Classical.epsilon (IsBest σ (sn σ))
theorem dearS_eq {σ : St} {v : Int} (h : IsBest σ (sn σ) v) : dearS σ = v := IsBest.uniq (Classical.epsilon_spec (p := IsBest σ (sn σ)) ⟨v, h⟩) h
theorem IsBest.first {σ : St} {v : Int} {i : Nat} (h : IsBest σ i v) (hv : v < 0 ∨ cst σ v.toNat < cst σ i) : IsBest σ (i + 1) i := by
  rcases h with ⟨h1, h2⟩ | ⟨h1, h2, h3, h4⟩
  · exact Or.inr ⟨by omega, by omega, fun j hj => absurd hj (by omega), fun j hj hk => absurd hk (by omega)⟩
  · have hv : cst σ v.toNat < cst σ i := hv.resolve_left (by omega)
    refine Or.inr ⟨by omega, by omega, fun j hj => ?_, fun j hj hk => absurd hk (by omega)⟩
    rw [show ((i : Int)).toNat = i from rfl]
    rcases Int.lt_trichotomy (j : Int) v with q | q | q
    · have := h3 j q
      omega
    · rw [show j = v.toNat by omega]
      exact hv
    · have := h4 j q (by omega)
      omega
theorem IsBest.same {σ : St} {v : Int} {i : Nat} (h : IsBest σ i v) (h0 : 0 ≤ v) (hv : cst σ i ≤ cst σ v.toNat) : IsBest σ (i + 1) v := by
  rcases h with ⟨h1, h2⟩ | ⟨h1, h2, h3, h4⟩
  · omega
  · refine Or.inr ⟨by omega, by omega, h3, fun j hj hk => ?_⟩
    rcases Nat.lt_or_ge j i with q | q
    · exact h4 j hj q
    · rw [show j = i by omega]
      exact hv
theorem if_sp (P : Prop) [Decidable P] : (P ∧ (if P then (1 : Int) else 0) = 1) ∨ (¬ P ∧ (if P then (1 : Int) else 0) = 0) := by
  by_cases h : P
  · exact Or.inl ⟨h, if_pos h⟩
  · exact Or.inr ⟨h, if_neg h⟩

set_option maxHeartbeats 4000000 in
set_option maxRecDepth 100000 in
theorem c_X3_setLimits (l : Launch) (hl9 : l.stackTraces = false) (g : wG) (A : Nat → Prop) (H : Heap) (x : Nat) (σ : St) (hσ : StGood σ) (hXv : XInv g A x σ H) (i a b : Int) (hi : wR i) (ha : wR a) (hb : wR b) : ThrV l g A H yX3_setLimits wsX3_setLimits 7 114 3 18 [.ref x, .int (wI (i)), .int (wI (a)), .int (wI (b))] (fun H1 => (((0 ≤ i ∧ i < 4) ∧ (0 ≤ a ∧ a ≤ 1000000) ∧ (a ≤ b ∧ b ≤ 1000000))) ∧ XInv g A x (nxLand σ i.toNat (limS (σ.1 i.toNat) a b)) H1) (fun E H1 => ((E = xnA ∧ ¬ ((0 ≤ i ∧ i < 4) ∧ (0 ≤ a ∧ a ≤ 1000000) ∧ (a ≤ b ∧ b ≤ 1000000)))) ∧ XInv g A x σ H1) := by
  refine Thr.of (cc := cX3_setLimits) (maxL := 5) (ret := none) (by decide) rfl (Nat.le_of_ble_eq_true rfl) ?_
  intro p9 e s m args below meth c X hE hEs ht hr hk hS ls hl
  have hl : lv_has ls 5 [(0, .ref x), (1, .int (wI (i))), (2, .int (wI (a))), (3, .int (wI (b)))] := hl
  have hGd := hE.dis
  obtain ⟨al, el, mc, fl, Ld, P, hX⟩ := id hXv
  have hxO := hX.2.1.2
  obtain ⟨hs1, hs2, hs3, hs4⟩ := id hσ
  refine w_aload_n X dX3_setLimits_0 hl 0 rfl rfl ?_
  refine w_iload_n X dX3_setLimits_1 hl 1 rfl rfl ?_
  refine w_xr (vx_runV (As := [.int (wI (i))]) (rest := []) X (c_X3_landAt l hl9 g A H x (al 0) (al 1) hxO (mc 0) (el 0) hX.l0 (fl 0) hX.r0 hX.hB0 (i) (by omega)) (cwV 1 X.2.2.2.2 gX3_setLimits_X3_landAt rfl rfl rfl (by decide +kernel) ⟨(Nat.le_of_ble_eq_true rfl), (Nat.le_of_ble_eq_true rfl)⟩) (w_prV hE hEs hS hxO rfl) rfl rfl hl.1 rfl (lv_room (Nat.le_of_ble_eq_true rfl)) dX3_setLimits_2 ⟨(Nat.le_of_ble_eq_true rfl), (Nat.le_of_ble_eq_true rfl)⟩) hS (fun _ h => h) ?_ fun v_6 H_1 lo_2 hp_3 hz_4 hq_5 hS => ?_
  · exact fun E ce q9 H9 lo9 hxp hz9 hq9 hS9 hce hcv hcl => w_out ht hk hS9 hce hcv hcl (by obtain ⟨rE, rn, rx⟩ := hxp; exact ⟨⟨rE, by omega⟩, hXv.ext rx⟩) (Nat.le_of_ble_eq_true rfl) (Nat.le_of_ble_eq_true rfl)
  obtain ⟨e_n_7, ra_n_7, rb_n_7, q_n_7, f_n_7, rfl⟩ := hp_3
  have e_n_7 := e_n_7.symm
  subst e_n_7
  obtain ⟨gl_n_7, ga_n_7, hL_n_7⟩ := hX.2.2.1 (i).toNat (by omega)
  obtain rfl : Ld (i).toNat = q_n_7 := Option.some.inj (gl_n_7.symm.trans f_n_7)
  refine w_astore X [(4, .ref (Ld (i).toNat)), (0, .ref x), (1, .int (wI (i))), (2, .int (wI (a))), (3, .int (wI (b)))] dX3_setLimits_5 hl (by decide) rfl fun ls hl => ?_
  refine w_iload_n X dX3_setLimits_7 hl 3 rfl rfl ?_
  refine w_iconst X dX3_setLimits_8 ?_
  refine w_ldc (v := 1000000) (z := 1000000) X dX3_setLimits_9 (by decide +kernel) (by decide) ?_
  refine w_xv (vx_runS (As := [.int (wI (a)), .int (wI (0)), .int (wI (1000000))]) (rest := []) X (c_X3_requireRange l hl9 g A H (a) (0) (1000000) (by omega) (by omega) (by omega)) (va_cwS 3 X.2.2.2.2 gX3_setLimits_X3_requireRange rfl rfl rfl (by decide +kernel) ⟨(Nat.le_of_ble_eq_true rfl), (Nat.le_of_ble_eq_true rfl)⟩) (w_prS hE hEs hS) rfl rfl hl.1 rfl (lv_room (Nat.le_of_ble_eq_true rfl)) dX3_setLimits_11 ⟨(Nat.le_of_ble_eq_true rfl), (Nat.le_of_ble_eq_true rfl)⟩) hS (fun _ h => h) ?_ fun H_8 lo_9 hp_10 hz_11 hq_12 hS => ?_
  · exact fun E ce q9 H9 lo9 hxp hz9 hq9 hS9 hce hcv hcl => w_out ht hk hS9 hce hcv hcl (by obtain ⟨rE, rn, rx⟩ := hxp; exact ⟨⟨rE, by omega⟩, hXv.ext rx⟩) (Nat.le_of_ble_eq_true rfl) (Nat.le_of_ble_eq_true rfl)
  obtain ⟨e_n_14, ra_n_14, rb_n_14⟩ := hp_10
  have e_n_14 := e_n_14.symm
  subst e_n_14
  refine w_iload_n X dX3_setLimits_14 hl 4 rfl rfl ?_
  refine w_iload_n X dX3_setLimits_15 hl 3 rfl rfl ?_
  refine w_ldc (v := 1000000) (z := 1000000) X dX3_setLimits_16 (by decide +kernel) (by decide) ?_
  refine w_xv (vx_runS (As := [.int (wI (b)), .int (wI (a)), .int (wI (1000000))]) (rest := []) X (c_X3_requireRange l hl9 g A H (b) (a) (1000000) (by omega) (by omega) (by omega)) (va_cwS 3 X.2.2.2.2 gX3_setLimits_X3_requireRange rfl rfl rfl (by decide +kernel) ⟨(Nat.le_of_ble_eq_true rfl), (Nat.le_of_ble_eq_true rfl)⟩) (w_prS hE hEs hS) rfl rfl hl.1 rfl (lv_room (Nat.le_of_ble_eq_true rfl)) dX3_setLimits_18 ⟨(Nat.le_of_ble_eq_true rfl), (Nat.le_of_ble_eq_true rfl)⟩) hS (fun _ h => h) ?_ fun H_15 lo_16 hp_17 hz_18 hq_19 hS => ?_
  · exact fun E ce q9 H9 lo9 hxp hz9 hq9 hS9 hce hcv hcl => w_out ht hk hS9 hce hcv hcl (by obtain ⟨rE, rn, rx⟩ := hxp; exact ⟨⟨rE, by omega⟩, hXv.ext rx⟩) (Nat.le_of_ble_eq_true rfl) (Nat.le_of_ble_eq_true rfl)
  obtain ⟨e_n_21, ra_n_21, rb_n_21⟩ := hp_17
  have e_n_21 := e_n_21.symm
  subst e_n_21
  refine w_aload X dX3_setLimits_21 hl 0 rfl ?_
  refine w_iload_n X dX3_setLimits_23 hl 3 rfl rfl ?_
  refine w_iload_n X dX3_setLimits_24 hl 4 rfl rfl ?_
  refine w_iv (va_runV (As := [.int (wI (a)), .int (wI (b))]) (rest := []) X (c_X1_limit l g A H (Ld (i).toNat) (σ.1 (i).toNat) hL_n_7 ga_n_7 (a) (b)) (cwV 2 X.2.2.2.2 gX3_setLimits_X1_limit rfl rfl rfl (by decide +kernel) ⟨(Nat.le_of_ble_eq_true rfl), (Nat.le_of_ble_eq_true rfl)⟩) (w_prV hE hEs hS hL_n_7 rfl) rfl rfl hl.1 rfl (lv_room (Nat.le_of_ble_eq_true rfl)) dX3_setLimits_25 ⟨(Nat.le_of_ble_eq_true rfl), (Nat.le_of_ble_eq_true rfl)⟩) hS (fun _ h => h) fun H_22 lo_23 hp_24 hz_25 hq_26 hS => ?_
  obtain ⟨ho_28, hz_29, hq_30⟩ := hp_24
  have ho_31 := (hxO).kept (hq_30 _ (Ob.ne hGd (hxO) (hL_n_7) (by decide) (by decide) (by decide)))
  have ho_32 := (hX.l0).kept (hq_30 _ (Ob.ne hGd (hX.l0) (hL_n_7) (by decide) (by decide) (by decide)))
  have ho_33 := (hX.l1).kept (hq_30 _ (Ob.ne hGd (hX.l1) (hL_n_7) (by decide) (by decide) (by decide)))
  exact vx_ret (w_vrV X hr hk hS ⟨by omega, hX.toLand hGd (i := i.toNat) (by omega) (L := limS (σ.1 i.toNat) a b) ho_28 (fun q hq => (hq_30 _ hq))⟩ dX3_setLimits_28 (Nat.le_of_ble_eq_true rfl) (Nat.le_of_ble_eq_true rfl))

set_option maxHeartbeats 4000000 in
set_option maxRecDepth 100000 in
theorem c_X3_setRates (l : Launch) (hl9 : l.stackTraces = false) (g : wG) (A : Nat → Prop) (H : Heap) (x : Nat) (σ : St) (hσ : StGood σ) (hXv : XInv g A x σ H) (i a b d : Int) (hi : wR i) (ha : wR a) (hb : wR b) (hd : wR d) : ThrV l g A H yX3_setRates wsX3_setRates 7 114 4 24 [.ref x, .int (wI (i)), .int (wI (a)), .int (wI (b)), .int (wI (d))] (fun H1 => (((0 ≤ i ∧ i < 4) ∧ (0 ≤ a ∧ a ≤ 60) ∧ (0 ≤ b ∧ b ≤ 60) ∧ (0 ≤ d ∧ d ≤ 60))) ∧ XInv g A x (nxLand σ i.toNat (ratS (σ.1 i.toNat) a b d)) H1) (fun E H1 => ((E = xnA ∧ ¬ ((0 ≤ i ∧ i < 4) ∧ (0 ≤ a ∧ a ≤ 60) ∧ (0 ≤ b ∧ b ≤ 60) ∧ (0 ≤ d ∧ d ≤ 60)))) ∧ XInv g A x σ H1) := by
  refine Thr.of (cc := cX3_setRates) (maxL := 6) (ret := none) (by decide) rfl (Nat.le_of_ble_eq_true rfl) ?_
  intro p9 e s m args below meth c X hE hEs ht hr hk hS ls hl
  have hl : lv_has ls 6 [(0, .ref x), (1, .int (wI (i))), (2, .int (wI (a))), (3, .int (wI (b))), (4, .int (wI (d)))] := hl
  have hGd := hE.dis
  obtain ⟨al, el, mc, fl, Ld, P, hX⟩ := id hXv
  have hxO := hX.2.1.2
  obtain ⟨hs1, hs2, hs3, hs4⟩ := id hσ
  refine w_aload_n X dX3_setRates_0 hl 0 rfl rfl ?_
  refine w_iload_n X dX3_setRates_1 hl 1 rfl rfl ?_
  refine w_xr (vx_runV (As := [.int (wI (i))]) (rest := []) X (c_X3_landAt l hl9 g A H x (al 0) (al 1) hxO (mc 0) (el 0) hX.l0 (fl 0) hX.r0 hX.hB0 (i) (by omega)) (cwV 1 X.2.2.2.2 gX3_setRates_X3_landAt rfl rfl rfl (by decide +kernel) ⟨(Nat.le_of_ble_eq_true rfl), (Nat.le_of_ble_eq_true rfl)⟩) (w_prV hE hEs hS hxO rfl) rfl rfl hl.1 rfl (lv_room (Nat.le_of_ble_eq_true rfl)) dX3_setRates_2 ⟨(Nat.le_of_ble_eq_true rfl), (Nat.le_of_ble_eq_true rfl)⟩) hS (fun _ h => h) ?_ fun v_6 H_1 lo_2 hp_3 hz_4 hq_5 hS => ?_
  · exact fun E ce q9 H9 lo9 hxp hz9 hq9 hS9 hce hcv hcl => w_out ht hk hS9 hce hcv hcl (by obtain ⟨rE, rn, rx⟩ := hxp; exact ⟨⟨rE, by omega⟩, hXv.ext rx⟩) (Nat.le_of_ble_eq_true rfl) (Nat.le_of_ble_eq_true rfl)
  obtain ⟨e_n_7, ra_n_7, rb_n_7, q_n_7, f_n_7, rfl⟩ := hp_3
  have e_n_7 := e_n_7.symm
  subst e_n_7
  obtain ⟨gl_n_7, ga_n_7, hL_n_7⟩ := hX.2.2.1 (i).toNat (by omega)
  obtain rfl : Ld (i).toNat = q_n_7 := Option.some.inj (gl_n_7.symm.trans f_n_7)
  refine w_astore X [(5, .ref (Ld (i).toNat)), (0, .ref x), (1, .int (wI (i))), (2, .int (wI (a))), (3, .int (wI (b))), (4, .int (wI (d)))] dX3_setRates_5 hl (by decide) rfl fun ls hl => ?_
  refine w_iload_n X dX3_setRates_7 hl 3 rfl rfl ?_
  refine w_iconst X dX3_setRates_8 ?_
  refine w_bipush X dX3_setRates_9 (by decide) ?_
  refine w_xv (vx_runS (As := [.int (wI (a)), .int (wI (0)), .int (wI (60))]) (rest := []) X (c_X3_requireRange l hl9 g A H (a) (0) (60) (by omega) (by omega) (by omega)) (va_cwS 3 X.2.2.2.2 gX3_setRates_X3_requireRange rfl rfl rfl (by decide +kernel) ⟨(Nat.le_of_ble_eq_true rfl), (Nat.le_of_ble_eq_true rfl)⟩) (w_prS hE hEs hS) rfl rfl hl.1 rfl (lv_room (Nat.le_of_ble_eq_true rfl)) dX3_setRates_11 ⟨(Nat.le_of_ble_eq_true rfl), (Nat.le_of_ble_eq_true rfl)⟩) hS (fun _ h => h) ?_ fun H_8 lo_9 hp_10 hz_11 hq_12 hS => ?_
  · exact fun E ce q9 H9 lo9 hxp hz9 hq9 hS9 hce hcv hcl => w_out ht hk hS9 hce hcv hcl (by obtain ⟨rE, rn, rx⟩ := hxp; exact ⟨⟨rE, by omega⟩, hXv.ext rx⟩) (Nat.le_of_ble_eq_true rfl) (Nat.le_of_ble_eq_true rfl)
  obtain ⟨e_n_14, ra_n_14, rb_n_14⟩ := hp_10
  have e_n_14 := e_n_14.symm
  subst e_n_14
  refine w_iload_n X dX3_setRates_14 hl 4 rfl rfl ?_
  refine w_iconst X dX3_setRates_15 ?_
  refine w_bipush X dX3_setRates_16 (by decide) ?_
  refine w_xv (vx_runS (As := [.int (wI (b)), .int (wI (0)), .int (wI (60))]) (rest := []) X (c_X3_requireRange l hl9 g A H (b) (0) (60) (by omega) (by omega) (by omega)) (va_cwS 3 X.2.2.2.2 gX3_setRates_X3_requireRange rfl rfl rfl (by decide +kernel) ⟨(Nat.le_of_ble_eq_true rfl), (Nat.le_of_ble_eq_true rfl)⟩) (w_prS hE hEs hS) rfl rfl hl.1 rfl (lv_room (Nat.le_of_ble_eq_true rfl)) dX3_setRates_18 ⟨(Nat.le_of_ble_eq_true rfl), (Nat.le_of_ble_eq_true rfl)⟩) hS (fun _ h => h) ?_ fun H_15 lo_16 hp_17 hz_18 hq_19 hS => ?_
  · exact fun E ce q9 H9 lo9 hxp hz9 hq9 hS9 hce hcv hcl => w_out ht hk hS9 hce hcv hcl (by obtain ⟨rE, rn, rx⟩ := hxp; exact ⟨⟨rE, by omega⟩, hXv.ext rx⟩) (Nat.le_of_ble_eq_true rfl) (Nat.le_of_ble_eq_true rfl)
  obtain ⟨e_n_21, ra_n_21, rb_n_21⟩ := hp_17
  have e_n_21 := e_n_21.symm
  subst e_n_21
  refine w_iload X dX3_setRates_21 hl 5 rfl ?_
  refine w_iconst X dX3_setRates_23 ?_
  refine w_bipush X dX3_setRates_24 (by decide) ?_
  refine w_xv (vx_runS (As := [.int (wI (d)), .int (wI (0)), .int (wI (60))]) (rest := []) X (c_X3_requireRange l hl9 g A H (d) (0) (60) (by omega) (by omega) (by omega)) (va_cwS 3 X.2.2.2.2 gX3_setRates_X3_requireRange rfl rfl rfl (by decide +kernel) ⟨(Nat.le_of_ble_eq_true rfl), (Nat.le_of_ble_eq_true rfl)⟩) (w_prS hE hEs hS) rfl rfl hl.1 rfl (lv_room (Nat.le_of_ble_eq_true rfl)) dX3_setRates_26 ⟨(Nat.le_of_ble_eq_true rfl), (Nat.le_of_ble_eq_true rfl)⟩) hS (fun _ h => h) ?_ fun H_22 lo_23 hp_24 hz_25 hq_26 hS => ?_
  · exact fun E ce q9 H9 lo9 hxp hz9 hq9 hS9 hce hcv hcl => w_out ht hk hS9 hce hcv hcl (by obtain ⟨rE, rn, rx⟩ := hxp; exact ⟨⟨rE, by omega⟩, hXv.ext rx⟩) (Nat.le_of_ble_eq_true rfl) (Nat.le_of_ble_eq_true rfl)
  obtain ⟨e_n_28, ra_n_28, rb_n_28⟩ := hp_24
  have e_n_28 := e_n_28.symm
  subst e_n_28
  refine w_aload X dX3_setRates_29 hl 0 rfl ?_
  refine w_iload_n X dX3_setRates_31 hl 3 rfl rfl ?_
  refine w_iload_n X dX3_setRates_32 hl 4 rfl rfl ?_
  refine w_iload X dX3_setRates_33 hl 5 rfl ?_
  refine w_iv (va_runV (As := [.int (wI (a)), .int (wI (b)), .int (wI (d))]) (rest := []) X (c_X1_rate l g A H (Ld (i).toNat) (σ.1 (i).toNat) hL_n_7 ga_n_7 (a) (b) (d)) (cwV 3 X.2.2.2.2 gX3_setRates_X1_rate rfl rfl rfl (by decide +kernel) ⟨(Nat.le_of_ble_eq_true rfl), (Nat.le_of_ble_eq_true rfl)⟩) (w_prV hE hEs hS hL_n_7 rfl) rfl rfl hl.1 rfl (lv_room (Nat.le_of_ble_eq_true rfl)) dX3_setRates_35 ⟨(Nat.le_of_ble_eq_true rfl), (Nat.le_of_ble_eq_true rfl)⟩) hS (fun _ h => h) fun H_29 lo_30 hp_31 hz_32 hq_33 hS => ?_
  obtain ⟨ho_35, hz_36, hq_37⟩ := hp_31
  have ho_38 := (hxO).kept (hq_37 _ (Ob.ne hGd (hxO) (hL_n_7) (by decide) (by decide) (by decide)))
  have ho_39 := (hX.l0).kept (hq_37 _ (Ob.ne hGd (hX.l0) (hL_n_7) (by decide) (by decide) (by decide)))
  have ho_40 := (hX.l1).kept (hq_37 _ (Ob.ne hGd (hX.l1) (hL_n_7) (by decide) (by decide) (by decide)))
  exact vx_ret (w_vrV X hr hk hS ⟨by omega, hX.toLand hGd (i := i.toNat) (by omega) (L := ratS (σ.1 i.toNat) a b d) ho_35 (fun q hq => (hq_37 _ hq))⟩ dX3_setRates_38 (Nat.le_of_ble_eq_true rfl) (Nat.le_of_ble_eq_true rfl))

set_option maxHeartbeats 4000000 in
set_option maxRecDepth 100000 in
theorem c_X3_tax (l : Launch) (hl9 : l.stackTraces = false) (g : wG) (A : Nat → Prop) (H : Heap) (x : Nat) (σ : St) (hσ : StGood σ) (hXv : XInv g A x σ H) (i a : Int) (hi : wR i) (ha : wR a) : ThrR l g A H yX3_tax wsX3_tax 7 114 2 12 [.ref x, .int (wI (i)), .int (wI (a))] (fun v H1 => (((0 ≤ i ∧ i < 4) ∧ 0 ≤ a ∧ a ≤ 10000000)) ∧ v = .int (wI (taxS (σ.1 i.toNat) a)) ∧ XInv g A x (σ) H1) (fun E H1 => ((E = xnA ∧ ¬ ((0 ≤ i ∧ i < 4) ∧ 0 ≤ a ∧ a ≤ 10000000))) ∧ XInv g A x σ H1) := by
  refine Thr.of (cc := cX3_tax) (maxL := 4) (ret := (some .int)) (by decide) rfl (Nat.le_of_ble_eq_true rfl) ?_
  intro p9 e s m args below meth c X hE hEs ht hr hk hS ls hl
  have hl : lv_has ls 4 [(0, .ref x), (1, .int (wI (i))), (2, .int (wI (a)))] := hl
  have hGd := hE.dis
  obtain ⟨al, el, mc, fl, Ld, P, hX⟩ := id hXv
  have hxO := hX.2.1.2
  obtain ⟨hs1, hs2, hs3, hs4⟩ := id hσ
  refine w_aload_n X dX3_tax_0 hl 0 rfl rfl ?_
  refine w_iload_n X dX3_tax_1 hl 1 rfl rfl ?_
  refine w_xr (vx_runV (As := [.int (wI (i))]) (rest := []) X (c_X3_landAt l hl9 g A H x (al 0) (al 1) hxO (mc 0) (el 0) hX.l0 (fl 0) hX.r0 hX.hB0 (i) (by omega)) (cwV 1 X.2.2.2.2 gX3_tax_X3_landAt rfl rfl rfl (by decide +kernel) ⟨(Nat.le_of_ble_eq_true rfl), (Nat.le_of_ble_eq_true rfl)⟩) (w_prV hE hEs hS hxO rfl) rfl rfl hl.1 rfl (lv_room (Nat.le_of_ble_eq_true rfl)) dX3_tax_2 ⟨(Nat.le_of_ble_eq_true rfl), (Nat.le_of_ble_eq_true rfl)⟩) hS (fun _ h => h) ?_ fun v_6 H_1 lo_2 hp_3 hz_4 hq_5 hS => ?_
  · exact fun E ce q9 H9 lo9 hxp hz9 hq9 hS9 hce hcv hcl => w_out ht hk hS9 hce hcv hcl (by obtain ⟨rE, rn, rx⟩ := hxp; exact ⟨⟨rE, by omega⟩, hXv.ext rx⟩) (Nat.le_of_ble_eq_true rfl) (Nat.le_of_ble_eq_true rfl)
  obtain ⟨e_n_7, ra_n_7, rb_n_7, q_n_7, f_n_7, rfl⟩ := hp_3
  have e_n_7 := e_n_7.symm
  subst e_n_7
  obtain ⟨gl_n_7, ga_n_7, hL_n_7⟩ := hX.2.2.1 (i).toNat (by omega)
  obtain rfl : Ld (i).toNat = q_n_7 := Option.some.inj (gl_n_7.symm.trans f_n_7)
  refine w_astore_n X [(3, .ref (Ld (i).toNat)), (0, .ref x), (1, .int (wI (i))), (2, .int (wI (a)))] dX3_tax_5 hl rfl (by decide) rfl fun ls hl => ?_
  refine w_iload_n X dX3_tax_6 hl 3 rfl rfl ?_
  refine w_iconst X dX3_tax_7 ?_
  refine w_ldc (v := 10000000) (z := 10000000) X dX3_tax_8 (by decide +kernel) (by decide) ?_
  refine w_xv (vx_runS (As := [.int (wI (a)), .int (wI (0)), .int (wI (10000000))]) (rest := []) X (c_X3_requireRange l hl9 g A H (a) (0) (10000000) (by omega) (by omega) (by omega)) (va_cwS 3 X.2.2.2.2 gX3_tax_X3_requireRange rfl rfl rfl (by decide +kernel) ⟨(Nat.le_of_ble_eq_true rfl), (Nat.le_of_ble_eq_true rfl)⟩) (w_prS hE hEs hS) rfl rfl hl.1 rfl (lv_room (Nat.le_of_ble_eq_true rfl)) dX3_tax_10 ⟨(Nat.le_of_ble_eq_true rfl), (Nat.le_of_ble_eq_true rfl)⟩) hS (fun _ h => h) ?_ fun H_8 lo_9 hp_10 hz_11 hq_12 hS => ?_
  · exact fun E ce q9 H9 lo9 hxp hz9 hq9 hS9 hce hcv hcl => w_out ht hk hS9 hce hcv hcl (by obtain ⟨rE, rn, rx⟩ := hxp; exact ⟨⟨rE, by omega⟩, hXv.ext rx⟩) (Nat.le_of_ble_eq_true rfl) (Nat.le_of_ble_eq_true rfl)
  obtain ⟨e_n_14, ra_n_14, rb_n_14⟩ := hp_10
  have e_n_14 := e_n_14.symm
  subst e_n_14
  refine w_aload_n X dX3_tax_13 hl 0 rfl rfl ?_
  refine w_iload_n X dX3_tax_14 hl 3 rfl rfl ?_
  refine w_callV (v := .int (wI (taxS (σ.1 i.toNat) a))) 1 X hE (c_X1_taxOf l g H (Ld (i).toNat) (σ.1 (i).toNat) (hs1 (i).toNat (by omega)) hL_n_7 a (by omega)) hL_n_7 hl dX3_tax_15 gX3_tax_X1_taxOf rfl rfl (by decide +kernel) ⟨(Nat.le_of_ble_eq_true rfl), (Nat.le_of_ble_eq_true rfl)⟩ rfl rfl (Nat.le_of_ble_eq_true rfl) ⟨(Nat.le_of_ble_eq_true rfl), (Nat.le_of_ble_eq_true rfl)⟩ ?_
  exact vx_ret (w_irR X hr hk hS ⟨by omega, rfl, hXv⟩ dX3_tax_18 (Nat.le_of_ble_eq_true rfl) (Nat.le_of_ble_eq_true rfl))

set_option maxHeartbeats 4000000 in
set_option maxRecDepth 100000 in
theorem c_X3_grossTax (l : Launch) (hl9 : l.stackTraces = false) (g : wG) (A : Nat → Prop) (H : Heap) (x : Nat) (σ : St) (hσ : StGood σ) (hXv : XInv g A x σ H) (i a : Int) (hi : wR i) (ha : wR a) : ThrR l g A H yX3_grossTax wsX3_grossTax 7 114 2 12 [.ref x, .int (wI (i)), .int (wI (a))] (fun v H1 => (((0 ≤ i ∧ i < 4) ∧ 0 ≤ a ∧ a ≤ 10000000)) ∧ v = .int (wI (grossS (σ.1 i.toNat) a)) ∧ XInv g A x (σ) H1) (fun E H1 => ((E = xnA ∧ ¬ ((0 ≤ i ∧ i < 4) ∧ 0 ≤ a ∧ a ≤ 10000000))) ∧ XInv g A x σ H1) := by
  refine Thr.of (cc := cX3_grossTax) (maxL := 4) (ret := (some .int)) (by decide) rfl (Nat.le_of_ble_eq_true rfl) ?_
  intro p9 e s m args below meth c X hE hEs ht hr hk hS ls hl
  have hl : lv_has ls 4 [(0, .ref x), (1, .int (wI (i))), (2, .int (wI (a)))] := hl
  have hGd := hE.dis
  obtain ⟨al, el, mc, fl, Ld, P, hX⟩ := id hXv
  have hxO := hX.2.1.2
  obtain ⟨hs1, hs2, hs3, hs4⟩ := id hσ
  refine w_aload_n X dX3_grossTax_0 hl 0 rfl rfl ?_
  refine w_iload_n X dX3_grossTax_1 hl 1 rfl rfl ?_
  refine w_xr (vx_runV (As := [.int (wI (i))]) (rest := []) X (c_X3_landAt l hl9 g A H x (al 0) (al 1) hxO (mc 0) (el 0) hX.l0 (fl 0) hX.r0 hX.hB0 (i) (by omega)) (cwV 1 X.2.2.2.2 gX3_grossTax_X3_landAt rfl rfl rfl (by decide +kernel) ⟨(Nat.le_of_ble_eq_true rfl), (Nat.le_of_ble_eq_true rfl)⟩) (w_prV hE hEs hS hxO rfl) rfl rfl hl.1 rfl (lv_room (Nat.le_of_ble_eq_true rfl)) dX3_grossTax_2 ⟨(Nat.le_of_ble_eq_true rfl), (Nat.le_of_ble_eq_true rfl)⟩) hS (fun _ h => h) ?_ fun v_6 H_1 lo_2 hp_3 hz_4 hq_5 hS => ?_
  · exact fun E ce q9 H9 lo9 hxp hz9 hq9 hS9 hce hcv hcl => w_out ht hk hS9 hce hcv hcl (by obtain ⟨rE, rn, rx⟩ := hxp; exact ⟨⟨rE, by omega⟩, hXv.ext rx⟩) (Nat.le_of_ble_eq_true rfl) (Nat.le_of_ble_eq_true rfl)
  obtain ⟨e_n_7, ra_n_7, rb_n_7, q_n_7, f_n_7, rfl⟩ := hp_3
  have e_n_7 := e_n_7.symm
  subst e_n_7
  obtain ⟨gl_n_7, ga_n_7, hL_n_7⟩ := hX.2.2.1 (i).toNat (by omega)
  obtain rfl : Ld (i).toNat = q_n_7 := Option.some.inj (gl_n_7.symm.trans f_n_7)
  refine w_astore_n X [(3, .ref (Ld (i).toNat)), (0, .ref x), (1, .int (wI (i))), (2, .int (wI (a)))] dX3_grossTax_5 hl rfl (by decide) rfl fun ls hl => ?_
  refine w_iload_n X dX3_grossTax_6 hl 3 rfl rfl ?_
  refine w_iconst X dX3_grossTax_7 ?_
  refine w_ldc (v := 10000000) (z := 10000000) X dX3_grossTax_8 (by decide +kernel) (by decide) ?_
  refine w_xv (vx_runS (As := [.int (wI (a)), .int (wI (0)), .int (wI (10000000))]) (rest := []) X (c_X3_requireRange l hl9 g A H (a) (0) (10000000) (by omega) (by omega) (by omega)) (va_cwS 3 X.2.2.2.2 gX3_grossTax_X3_requireRange rfl rfl rfl (by decide +kernel) ⟨(Nat.le_of_ble_eq_true rfl), (Nat.le_of_ble_eq_true rfl)⟩) (w_prS hE hEs hS) rfl rfl hl.1 rfl (lv_room (Nat.le_of_ble_eq_true rfl)) dX3_grossTax_10 ⟨(Nat.le_of_ble_eq_true rfl), (Nat.le_of_ble_eq_true rfl)⟩) hS (fun _ h => h) ?_ fun H_8 lo_9 hp_10 hz_11 hq_12 hS => ?_
  · exact fun E ce q9 H9 lo9 hxp hz9 hq9 hS9 hce hcv hcl => w_out ht hk hS9 hce hcv hcl (by obtain ⟨rE, rn, rx⟩ := hxp; exact ⟨⟨rE, by omega⟩, hXv.ext rx⟩) (Nat.le_of_ble_eq_true rfl) (Nat.le_of_ble_eq_true rfl)
  obtain ⟨e_n_14, ra_n_14, rb_n_14⟩ := hp_10
  have e_n_14 := e_n_14.symm
  subst e_n_14
  refine w_aload_n X dX3_grossTax_13 hl 0 rfl rfl ?_
  refine w_iload_n X dX3_grossTax_14 hl 3 rfl rfl ?_
  refine w_callV (v := .int (wI (grossS (σ.1 i.toNat) a))) 1 X hE (c_X1_grossTaxOf l g H (Ld (i).toNat) (σ.1 (i).toNat) (hs1 (i).toNat (by omega)) hL_n_7 a (by omega)) hL_n_7 hl dX3_grossTax_15 gX3_grossTax_X1_grossTaxOf rfl rfl (by decide +kernel) ⟨(Nat.le_of_ble_eq_true rfl), (Nat.le_of_ble_eq_true rfl)⟩ rfl rfl (Nat.le_of_ble_eq_true rfl) ⟨(Nat.le_of_ble_eq_true rfl), (Nat.le_of_ble_eq_true rfl)⟩ ?_
  exact vx_ret (w_irR X hr hk hS ⟨by omega, rfl, hXv⟩ dX3_grossTax_18 (Nat.le_of_ble_eq_true rfl) (Nat.le_of_ble_eq_true rfl))

set_option maxHeartbeats 4000000 in
set_option maxRecDepth 100000 in
theorem c_X3_grossTaxByTrying (l : Launch) (hl9 : l.stackTraces = false) (g : wG) (A : Nat → Prop) (H : Heap) (x : Nat) (σ : St) (hσ : StGood σ) (hXv : XInv g A x σ H) (i a : Int) (hi : wR i) (ha : wR a) : ThrR l g A H yX3_grossTaxByTrying wsX3_grossTaxByTrying 7 114 2 12 [.ref x, .int (wI (i)), .int (wI (a))] (fun v H1 => (((0 ≤ i ∧ i < 4) ∧ 0 ≤ a ∧ a ≤ 20000)) ∧ v = .int (wI (grossS (σ.1 i.toNat) a)) ∧ XInv g A x (σ) H1) (fun E H1 => ((E = xnA ∧ ¬ ((0 ≤ i ∧ i < 4) ∧ 0 ≤ a ∧ a ≤ 20000))) ∧ XInv g A x σ H1) := by
  refine Thr.of (cc := cX3_grossTaxByTrying) (maxL := 4) (ret := (some .int)) (by decide) rfl (Nat.le_of_ble_eq_true rfl) ?_
  intro p9 e s m args below meth c X hE hEs ht hr hk hS ls hl
  have hl : lv_has ls 4 [(0, .ref x), (1, .int (wI (i))), (2, .int (wI (a)))] := hl
  have hGd := hE.dis
  obtain ⟨al, el, mc, fl, Ld, P, hX⟩ := id hXv
  have hxO := hX.2.1.2
  obtain ⟨hs1, hs2, hs3, hs4⟩ := id hσ
  refine w_aload_n X dX3_grossTaxByTrying_0 hl 0 rfl rfl ?_
  refine w_iload_n X dX3_grossTaxByTrying_1 hl 1 rfl rfl ?_
  refine w_xr (vx_runV (As := [.int (wI (i))]) (rest := []) X (c_X3_landAt l hl9 g A H x (al 0) (al 1) hxO (mc 0) (el 0) hX.l0 (fl 0) hX.r0 hX.hB0 (i) (by omega)) (cwV 1 X.2.2.2.2 gX3_grossTaxByTrying_X3_landAt rfl rfl rfl (by decide +kernel) ⟨(Nat.le_of_ble_eq_true rfl), (Nat.le_of_ble_eq_true rfl)⟩) (w_prV hE hEs hS hxO rfl) rfl rfl hl.1 rfl (lv_room (Nat.le_of_ble_eq_true rfl)) dX3_grossTaxByTrying_2 ⟨(Nat.le_of_ble_eq_true rfl), (Nat.le_of_ble_eq_true rfl)⟩) hS (fun _ h => h) ?_ fun v_6 H_1 lo_2 hp_3 hz_4 hq_5 hS => ?_
  · exact fun E ce q9 H9 lo9 hxp hz9 hq9 hS9 hce hcv hcl => w_out ht hk hS9 hce hcv hcl (by obtain ⟨rE, rn, rx⟩ := hxp; exact ⟨⟨rE, by omega⟩, hXv.ext rx⟩) (Nat.le_of_ble_eq_true rfl) (Nat.le_of_ble_eq_true rfl)
  obtain ⟨e_n_7, ra_n_7, rb_n_7, q_n_7, f_n_7, rfl⟩ := hp_3
  have e_n_7 := e_n_7.symm
  subst e_n_7
  obtain ⟨gl_n_7, ga_n_7, hL_n_7⟩ := hX.2.2.1 (i).toNat (by omega)
  obtain rfl : Ld (i).toNat = q_n_7 := Option.some.inj (gl_n_7.symm.trans f_n_7)
  refine w_astore_n X [(3, .ref (Ld (i).toNat)), (0, .ref x), (1, .int (wI (i))), (2, .int (wI (a)))] dX3_grossTaxByTrying_5 hl rfl (by decide) rfl fun ls hl => ?_
  refine w_iload_n X dX3_grossTaxByTrying_6 hl 3 rfl rfl ?_
  refine w_iconst X dX3_grossTaxByTrying_7 ?_
  refine w_sipush X dX3_grossTaxByTrying_8 (by decide) ?_
  refine w_xv (vx_runS (As := [.int (wI (a)), .int (wI (0)), .int (wI (20000))]) (rest := []) X (c_X3_requireRange l hl9 g A H (a) (0) (20000) (by omega) (by omega) (by omega)) (va_cwS 3 X.2.2.2.2 gX3_grossTaxByTrying_X3_requireRange rfl rfl rfl (by decide +kernel) ⟨(Nat.le_of_ble_eq_true rfl), (Nat.le_of_ble_eq_true rfl)⟩) (w_prS hE hEs hS) rfl rfl hl.1 rfl (lv_room (Nat.le_of_ble_eq_true rfl)) dX3_grossTaxByTrying_11 ⟨(Nat.le_of_ble_eq_true rfl), (Nat.le_of_ble_eq_true rfl)⟩) hS (fun _ h => h) ?_ fun H_8 lo_9 hp_10 hz_11 hq_12 hS => ?_
  · exact fun E ce q9 H9 lo9 hxp hz9 hq9 hS9 hce hcv hcl => w_out ht hk hS9 hce hcv hcl (by obtain ⟨rE, rn, rx⟩ := hxp; exact ⟨⟨rE, by omega⟩, hXv.ext rx⟩) (Nat.le_of_ble_eq_true rfl) (Nat.le_of_ble_eq_true rfl)
  obtain ⟨e_n_14, ra_n_14, rb_n_14⟩ := hp_10
  have e_n_14 := e_n_14.symm
  subst e_n_14
  refine w_aload_n X dX3_grossTaxByTrying_14 hl 0 rfl rfl ?_
  refine w_iload_n X dX3_grossTaxByTrying_15 hl 3 rfl rfl ?_
  refine w_callV (v := .int (wI (grossS (σ.1 i.toNat) a))) 1 X hE (c_X1_grossTaxTried l g H (Ld (i).toNat) (σ.1 (i).toNat) (hs1 (i).toNat (by omega)) hL_n_7 a (by omega)) hL_n_7 hl dX3_grossTaxByTrying_16 gX3_grossTaxByTrying_X1_grossTaxTried rfl rfl (by decide +kernel) ⟨(Nat.le_of_ble_eq_true rfl), (Nat.le_of_ble_eq_true rfl)⟩ rfl rfl (Nat.le_of_ble_eq_true rfl) ⟨(Nat.le_of_ble_eq_true rfl), (Nat.le_of_ble_eq_true rfl)⟩ ?_
  exact vx_ret (w_irR X hr hk hS ⟨by omega, rfl, hXv⟩ dX3_grossTaxByTrying_19 (Nat.le_of_ble_eq_true rfl) (Nat.le_of_ble_eq_true rfl))
