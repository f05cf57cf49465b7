/-! the law: its calls -/

set_option maxHeartbeats 4000000 in
set_option maxRecDepth 100000 in
theorem law_setLimits {p : Program} {l : Launch} {e : Env} {s : State} {m : MethodId} {below : List Frame} {meth : Method} {c : Code} {B0 L : Nat} {xs : Nat → Int32} {g : wG} {x out : Nat} {M : Nat → Nat} {AX AM : Nat → Prop} {H : Heap} {locs : List Loc} {cells slots : Nat} {Q : State → Prop} {σ : St} {th : Int} {fo : Nat → Int64} (E : LE p l s m c B0 L xs g out M AX AM) (I : LI s g x out M AX σ th fo H locs) (hroom : cells + 6 ≤ 634029 ∧ slots + 39 ≤ 7194018) (t : Nat) (ht : t + 4 < L) (ls : Array Slot) (hl : lv_has ls 7 [(4, .int (wI ((t : Int)))), (3, .ref out), (2, .ref (M 0)), (1, .ref x), (0, .ref B0)])
    (hk : ∀ (σ1 : St) (th1 : Int) (fo1 : Nat → Int64) (H1 : Heap) (locs1 : List Loc), LI s g x out M AX σ1 th1 fo1 H1 locs1 → ∀ ls : Array Slot, lv_has ls 7 [(4, .int (wI ((t : Int)))), (3, .ref out), (2, .ref (M 0)), (1, .ref x), (0, .ref B0)] → W p l e room_1 s m #[Value.ref B0] below meth c H1 locs1 (cells + 6) (slots + 39) Q (F0 m 1486 ls [])) : W p l e room_1 s m #[Value.ref B0] below meth c H locs cells slots Q (F0 m 140 ls []) := by
  obtain ⟨X, ⟨hE, hEs, hNx⟩, ⟨hXs, hbl, hl9, hL⟩, ⟨hsX, hsM, hso⟩, ⟨hdis, hno, hmo⟩, hAM, hMj⟩ := E
  obtain ⟨hσ, hXv, hM, hJ, hS, hA⟩ := I
  obtain ⟨hr1, hr2⟩ := hroom
  have hbA : ¬ ALs s B0 := Nat.not_le.mpr hbl
  have hW : ∀ q, AW AX out q → ALs s q := fun q h => h.elim (fun h => hsX q h) (fun h => h ▸ hso)
  have hGd := hE.dis
  obtain ⟨i, e1, hi⟩ : ∃ z : Int, xs (t + 1) = wI z ∧ wR z := ⟨_, (wI_ofInt _).symm, wR_toInt _⟩
  obtain ⟨a, e2, ha⟩ : ∃ z : Int, xs (t + 2) = wI z ∧ wR z := ⟨_, (wI_ofInt _).symm, wR_toInt _⟩
  obtain ⟨b, e3, hb⟩ : ∃ z : Int, xs (t + 3) = wI z ∧ wR z := ⟨_, (wI_ofInt _).symm, wR_toInt _⟩
  refine w_aload_n X dL_law_140 hl 3 rfl rfl ?_
  refine w_aload_n X dL_law_141 hl 4 rfl rfl ?_
  refine w_iload X dL_law_142 hl 0 rfl ?_
  refine w_iconst X dL_law_144 ?_
  refine w_iadd X dL_law_145 fun z_1 ez_1 => ?_
  refine w_sld (y := i) X hXs hbl hbA hS hL (t + 1) (by omega) (by omega) e1 dL_law_146 ?_
  refine w_aload_n X dL_law_147 hl 4 rfl rfl ?_
  refine w_iload X dL_law_148 hl 0 rfl ?_
  refine w_iconst X dL_law_150 ?_
  refine w_iadd X dL_law_151 fun z_2 ez_2 => ?_
  refine w_sld (y := a) X hXs hbl hbA hS hL (t + 2) (by omega) (by omega) e2 dL_law_152 ?_
  refine w_aload_n X dL_law_153 hl 4 rfl rfl ?_
  refine w_iload X dL_law_154 hl 0 rfl ?_
  refine w_iconst X dL_law_156 ?_
  refine w_iadd X dL_law_157 fun z_3 ez_3 => ?_
  refine w_sld (y := b) X hXs hbl hbA hS hL (t + 3) (by omega) (by omega) e3 dL_law_158 ?_
  refine w_ir (vx_runSW (As := [.ref x, .int (wI (i)), .int (wI (a)), .int (wI (b))]) (rest := []) X (c_L_setLimits l hl9 g H AX out hno x σ hσ hXv fo hJ i a b hi ha hb) (vx_cwSW 4 X.2.2.2.2 gL_law_L_setLimits rfl rfl rfl (by decide +kernel) ⟨(Nat.le_of_ble_eq_true rfl), (Nat.le_of_ble_eq_true rfl)⟩) (w_pr2 hE hEs hNx hS hW) rfl rfl hl.1 rfl (lv_room (Nat.le_of_ble_eq_true rfl)) dL_law_159 ⟨by show _ ≤ 634029; omega, by show _ ≤ 7194018; omega⟩) hS hW fun v1 H1 lo1 hp1 hz1 hq1 hS => ?_
  obtain ⟨rfl, hX1, fo1, hJ1, hf1⟩ := hp1
  have hcd := cd_r (((0 ≤ i ∧ i < 4) ∧ (0 ≤ a ∧ a ≤ 1000000) ∧ (a ≤ b ∧ b ≤ 1000000))) (True) (True)
  have hM1 := hM.kept (fun k h1 h2 => hq1 _ (hM.lt k h1 h2) (fun h => h.elim (fun h => hdis _ h (hAM k h1 h2)) (fun h => hmo (h ▸ hAM k h1 h2))))
  obtain ⟨fs8, hOm⟩ := hM1.ob
  have hA1 : ∀ q, H1.size ≤ q → AX q := fun q hq => hA q (by omega)
  refine w_istore X [(5, .int (wI (cd (((0 ≤ i ∧ i < 4) ∧ (0 ≤ a ∧ a ≤ 1000000) ∧ (a ≤ b ∧ b ≤ 1000000))) (True) (True)))), (4, .int (wI ((t : Int)))), (3, .ref out), (2, .ref (M 0)), (1, .ref x), (0, .ref B0)] dL_law_162 hl (by decide) rfl fun ls hl => ?_
  refine w_aload_n X dL_law_164 hl 3 rfl rfl ?_
  refine w_aload_n X dL_law_165 hl 5 rfl rfl ?_
  refine w_iload X dL_law_166 hl 1 rfl ?_
  refine w_iconst X dL_law_168 ?_
  refine w_iadd X dL_law_169 fun z_4 ez_4 => ?_
  refine w_sld (y := i) X hXs hbl hbA hS hL (t + 1) (by omega) (by omega) e1 dL_law_170 ?_
  refine w_aload_n X dL_law_171 hl 5 rfl rfl ?_
  refine w_iload X dL_law_172 hl 1 rfl ?_
  refine w_iconst X dL_law_174 ?_
  refine w_iadd X dL_law_175 fun z_5 ez_5 => ?_
  refine w_sld (y := a) X hXs hbl hbA hS hL (t + 2) (by omega) (by omega) e2 dL_law_176 ?_
  refine w_aload_n X dL_law_177 hl 5 rfl rfl ?_
  refine w_iload X dL_law_178 hl 1 rfl ?_
  refine w_iconst X dL_law_180 ?_
  refine w_iadd X dL_law_181 fun z_6 ez_6 => ?_
  refine w_sld (y := b) X hXs hbl hbA hS hL (t + 3) (by omega) (by omega) e3 dL_law_182 ?_
  refine w_iv (va_runV (As := [.int (wI (i)), .int (wI (a)), .int (wI (b))]) (rest := []) X (c_X4_setLimits l g AM H1 M hAM hMj th σ hM1 hσ i a b hi ha hb) (cwV 3 X.2.2.2.2 gL_law_X4_setLimits rfl rfl rfl (by decide +kernel) ⟨(Nat.le_of_ble_eq_true rfl), (Nat.le_of_ble_eq_true rfl)⟩) (w_prVN hE hEs hS hsM hOm rfl) rfl rfl hl.1 rfl (lv_room (Nat.le_of_ble_eq_true rfl)) dL_law_183 ⟨by show _ ≤ 634029; omega, by show _ ≤ 7194018; omega⟩) hS hsM fun H2 lo2 hp2 hz2 hq2 hS => ?_
  have hM2 := hp2
  obtain ⟨fs7, hOm2⟩ := hM2.ob
  have hX2 := hX1.kept (fun q h1 h2 => hq2 q h2 (hdis q h1))
  have hJ2 := hJ1.kept (hq2 _ hJ1.lt hmo)
  have hA2 : ∀ q, H2.size ≤ q → AX q := fun q hq => hA1 q (by omega)
  refine w_aload_n X dL_law_186 hl 3 rfl rfl ?_
  refine w_callV (v := .int (wI (cd (((0 ≤ i ∧ i < 4) ∧ (0 ≤ a ∧ a ≤ 1000000) ∧ (a ≤ b ∧ b ≤ 1000000))) (True) (True)))) 0 X hE (c_X4_thrown l g H2 M (cd (((0 ≤ i ∧ i < 4) ∧ (0 ≤ a ∧ a ≤ 1000000) ∧ (a ≤ b ∧ b ≤ 1000000))) (True) (True)) (stp (((0 ≤ i ∧ i < 4) ∧ (0 ≤ a ∧ a ≤ 1000000) ∧ (a ≤ b ∧ b ≤ 1000000))) (True) (True) (nxLand σ i.toNat (limS (σ.1 i.toNat) a b)) σ) hM2) hOm2 hl dL_law_187 gL_law_X4_thrown rfl rfl (by decide +kernel) ⟨(Nat.le_of_ble_eq_true rfl), (Nat.le_of_ble_eq_true rfl)⟩ rfl rfl (Nat.le_of_ble_eq_true rfl) ⟨by show _ ≤ 634029; omega, by show _ ≤ 7194018; omega⟩ ?_
  refine w_iload X dL_law_190 hl 0 rfl ?_
  refine w_icmp_eq X 197 dL_law_192 (by decide) (by omega) (by omega) (fun c_7 => ?_) (fun c_7 => ?_)
  · skip
    refine w_goto X 1486 dL_law_197 (by decide) ?_
    refine W.widen (k := cells + 6) (n := slots + 39) (by omega) (by omega) ?_
    exact hk (stp (((0 ≤ i ∧ i < 4) ∧ (0 ≤ a ∧ a ≤ 1000000) ∧ (a ≤ b ∧ b ≤ 1000000))) (True) (True) (nxLand σ i.toNat (limS (σ.1 i.toNat) a b)) σ) (cd (((0 ≤ i ∧ i < 4) ∧ (0 ≤ a ∧ a ≤ 1000000) ∧ (a ≤ b ∧ b ≤ 1000000))) (True) (True)) fo1 H2 lo2 ⟨stp_good (fun q1 _ _ => hσ.land ⟨(by omega : 0 ≤ a), (by omega : a ≤ b), (by omega : b ≤ 1000000), (hσ.1 i.toNat (by omega)).2.2.2⟩) hσ, hX2, hM2, hJ2, hS, hA2⟩ ls (lv_sub hl [1, 2, 3, 4, 5] rfl)
  · skip
    exact absurd c_7 (by omega)

set_option maxHeartbeats 4000000 in
set_option maxRecDepth 100000 in
theorem law_setRates {p : Program} {l : Launch} {e : Env} {s : State} {m : MethodId} {below : List Frame} {meth : Method} {c : Code} {B0 L : Nat} {xs : Nat → Int32} {g : wG} {x out : Nat} {M : Nat → Nat} {AX AM : Nat → Prop} {H : Heap} {locs : List Loc} {cells slots : Nat} {Q : State → Prop} {σ : St} {th : Int} {fo : Nat → Int64} (E : LE p l s m c B0 L xs g out M AX AM) (I : LI s g x out M AX σ th fo H locs) (hroom : cells + 6 ≤ 634029 ∧ slots + 39 ≤ 7194018) (t : Nat) (ht : t + 4 < L) (ls : Array Slot) (hl : lv_has ls 7 [(4, .int (wI ((t : Int)))), (3, .ref out), (2, .ref (M 0)), (1, .ref x), (0, .ref B0)])
    (hk : ∀ (σ1 : St) (th1 : Int) (fo1 : Nat → Int64) (H1 : Heap) (locs1 : List Loc), LI s g x out M AX σ1 th1 fo1 H1 locs1 → ∀ ls : Array Slot, lv_has ls 7 [(4, .int (wI ((t : Int)))), (3, .ref out), (2, .ref (M 0)), (1, .ref x), (0, .ref B0)] → W p l e room_1 s m #[Value.ref B0] below meth c H1 locs1 (cells + 6) (slots + 39) Q (F0 m 1486 ls [])) : W p l e room_1 s m #[Value.ref B0] below meth c H locs cells slots Q (F0 m 200 ls []) := by
  obtain ⟨X, ⟨hE, hEs, hNx⟩, ⟨hXs, hbl, hl9, hL⟩, ⟨hsX, hsM, hso⟩, ⟨hdis, hno, hmo⟩, hAM, hMj⟩ := E
  obtain ⟨hσ, hXv, hM, hJ, hS, hA⟩ := I
  obtain ⟨hr1, hr2⟩ := hroom
  have hbA : ¬ ALs s B0 := Nat.not_le.mpr hbl
  have hW : ∀ q, AW AX out q → ALs s q := fun q h => h.elim (fun h => hsX q h) (fun h => h ▸ hso)
  have hGd := hE.dis
  obtain ⟨i, e1, hi⟩ : ∃ z : Int, xs (t + 1) = wI z ∧ wR z := ⟨_, (wI_ofInt _).symm, wR_toInt _⟩
  obtain ⟨a, e2, ha⟩ : ∃ z : Int, xs (t + 2) = wI z ∧ wR z := ⟨_, (wI_ofInt _).symm, wR_toInt _⟩
  obtain ⟨b, e3, hb⟩ : ∃ z : Int, xs (t + 3) = wI z ∧ wR z := ⟨_, (wI_ofInt _).symm, wR_toInt _⟩
  obtain ⟨d, e4, hd⟩ : ∃ z : Int, xs (t + 4) = wI z ∧ wR z := ⟨_, (wI_ofInt _).symm, wR_toInt _⟩
  refine w_aload_n X dL_law_200 hl 3 rfl rfl ?_
  refine w_aload_n X dL_law_201 hl 4 rfl rfl ?_
  refine w_iload X dL_law_202 hl 0 rfl ?_
  refine w_iconst X dL_law_204 ?_
  refine w_iadd X dL_law_205 fun z_1 ez_1 => ?_
  refine w_sld (y := i) X hXs hbl hbA hS hL (t + 1) (by omega) (by omega) e1 dL_law_206 ?_
  refine w_aload_n X dL_law_207 hl 4 rfl rfl ?_
  refine w_iload X dL_law_208 hl 0 rfl ?_
  refine w_iconst X dL_law_210 ?_
  refine w_iadd X dL_law_211 fun z_2 ez_2 => ?_
  refine w_sld (y := a) X hXs hbl hbA hS hL (t + 2) (by omega) (by omega) e2 dL_law_212 ?_
  refine w_aload_n X dL_law_213 hl 4 rfl rfl ?_
  refine w_iload X dL_law_214 hl 0 rfl ?_
  refine w_iconst X dL_law_216 ?_
  refine w_iadd X dL_law_217 fun z_3 ez_3 => ?_
  refine w_sld (y := b) X hXs hbl hbA hS hL (t + 3) (by omega) (by omega) e3 dL_law_218 ?_
  refine w_aload_n X dL_law_219 hl 4 rfl rfl ?_
  refine w_iload X dL_law_220 hl 0 rfl ?_
  refine w_iconst X dL_law_222 ?_
  refine w_iadd X dL_law_223 fun z_4 ez_4 => ?_
  refine w_sld (y := d) X hXs hbl hbA hS hL (t + 4) (by omega) (by omega) e4 dL_law_224 ?_
  refine w_ir (vx_runSW (As := [.ref x, .int (wI (i)), .int (wI (a)), .int (wI (b)), .int (wI (d))]) (rest := []) X (c_L_setRates l hl9 g H AX out hno x σ hσ hXv fo hJ i a b d hi ha hb hd) (vx_cwSW 5 X.2.2.2.2 gL_law_L_setRates rfl rfl rfl (by decide +kernel) ⟨(Nat.le_of_ble_eq_true rfl), (Nat.le_of_ble_eq_true rfl)⟩) (w_pr2 hE hEs hNx hS hW) rfl rfl hl.1 rfl (lv_room (Nat.le_of_ble_eq_true rfl)) dL_law_225 ⟨by show _ ≤ 634029; omega, by show _ ≤ 7194018; omega⟩) hS hW fun v1 H1 lo1 hp1 hz1 hq1 hS => ?_
  obtain ⟨rfl, hX1, fo1, hJ1, hf1⟩ := hp1
  have hcd := cd_r (((0 ≤ i ∧ i < 4) ∧ (0 ≤ a ∧ a ≤ 60) ∧ (0 ≤ b ∧ b ≤ 60) ∧ (0 ≤ d ∧ d ≤ 60))) (True) (True)
  have hM1 := hM.kept (fun k h1 h2 => hq1 _ (hM.lt k h1 h2) (fun h => h.elim (fun h => hdis _ h (hAM k h1 h2)) (fun h => hmo (h ▸ hAM k h1 h2))))
  obtain ⟨fs8, hOm⟩ := hM1.ob
  have hA1 : ∀ q, H1.size ≤ q → AX q := fun q hq => hA q (by omega)
  refine w_istore X [(5, .int (wI (cd (((0 ≤ i ∧ i < 4) ∧ (0 ≤ a ∧ a ≤ 60) ∧ (0 ≤ b ∧ b ≤ 60) ∧ (0 ≤ d ∧ d ≤ 60))) (True) (True)))), (4, .int (wI ((t : Int)))), (3, .ref out), (2, .ref (M 0)), (1, .ref x), (0, .ref B0)] dL_law_228 hl (by decide) rfl fun ls hl => ?_
  refine w_aload_n X dL_law_230 hl 3 rfl rfl ?_
  refine w_aload_n X dL_law_231 hl 5 rfl rfl ?_
  refine w_iload X dL_law_232 hl 1 rfl ?_
  refine w_iconst X dL_law_234 ?_
  refine w_iadd X dL_law_235 fun z_5 ez_5 => ?_
  refine w_sld (y := i) X hXs hbl hbA hS hL (t + 1) (by omega) (by omega) e1 dL_law_236 ?_
  refine w_aload_n X dL_law_237 hl 5 rfl rfl ?_
  refine w_iload X dL_law_238 hl 1 rfl ?_
  refine w_iconst X dL_law_240 ?_
  refine w_iadd X dL_law_241 fun z_6 ez_6 => ?_
  refine w_sld (y := a) X hXs hbl hbA hS hL (t + 2) (by omega) (by omega) e2 dL_law_242 ?_
  refine w_aload_n X dL_law_243 hl 5 rfl rfl ?_
  refine w_iload X dL_law_244 hl 1 rfl ?_
  refine w_iconst X dL_law_246 ?_
  refine w_iadd X dL_law_247 fun z_7 ez_7 => ?_
  refine w_sld (y := b) X hXs hbl hbA hS hL (t + 3) (by omega) (by omega) e3 dL_law_248 ?_
  refine w_aload_n X dL_law_249 hl 5 rfl rfl ?_
  refine w_iload X dL_law_250 hl 1 rfl ?_
  refine w_iconst X dL_law_252 ?_
  refine w_iadd X dL_law_253 fun z_8 ez_8 => ?_
  refine w_sld (y := d) X hXs hbl hbA hS hL (t + 4) (by omega) (by omega) e4 dL_law_254 ?_
  refine w_iv (va_runV (As := [.int (wI (i)), .int (wI (a)), .int (wI (b)), .int (wI (d))]) (rest := []) X (c_X4_setRates l g AM H1 M hAM hMj th σ hM1 hσ i a b d hi ha hb hd) (cwV 4 X.2.2.2.2 gL_law_X4_setRates rfl rfl rfl (by decide +kernel) ⟨(Nat.le_of_ble_eq_true rfl), (Nat.le_of_ble_eq_true rfl)⟩) (w_prVN hE hEs hS hsM hOm rfl) rfl rfl hl.1 rfl (lv_room (Nat.le_of_ble_eq_true rfl)) dL_law_255 ⟨by show _ ≤ 634029; omega, by show _ ≤ 7194018; omega⟩) hS hsM fun H2 lo2 hp2 hz2 hq2 hS => ?_
  have hM2 := hp2
  obtain ⟨fs7, hOm2⟩ := hM2.ob
  have hX2 := hX1.kept (fun q h1 h2 => hq2 q h2 (hdis q h1))
  have hJ2 := hJ1.kept (hq2 _ hJ1.lt hmo)
  have hA2 : ∀ q, H2.size ≤ q → AX q := fun q hq => hA1 q (by omega)
  refine w_aload_n X dL_law_258 hl 3 rfl rfl ?_
  refine w_callV (v := .int (wI (cd (((0 ≤ i ∧ i < 4) ∧ (0 ≤ a ∧ a ≤ 60) ∧ (0 ≤ b ∧ b ≤ 60) ∧ (0 ≤ d ∧ d ≤ 60))) (True) (True)))) 0 X hE (c_X4_thrown l g H2 M (cd (((0 ≤ i ∧ i < 4) ∧ (0 ≤ a ∧ a ≤ 60) ∧ (0 ≤ b ∧ b ≤ 60) ∧ (0 ≤ d ∧ d ≤ 60))) (True) (True)) (stp (((0 ≤ i ∧ i < 4) ∧ (0 ≤ a ∧ a ≤ 60) ∧ (0 ≤ b ∧ b ≤ 60) ∧ (0 ≤ d ∧ d ≤ 60))) (True) (True) (nxLand σ i.toNat (ratS (σ.1 i.toNat) a b d)) σ) hM2) hOm2 hl dL_law_259 gL_law_X4_thrown rfl rfl (by decide +kernel) ⟨(Nat.le_of_ble_eq_true rfl), (Nat.le_of_ble_eq_true rfl)⟩ rfl rfl (Nat.le_of_ble_eq_true rfl) ⟨by show _ ≤ 634029; omega, by show _ ≤ 7194018; omega⟩ ?_
  refine w_iload X dL_law_262 hl 0 rfl ?_
  refine w_icmp_eq X 269 dL_law_264 (by decide) (by omega) (by omega) (fun c_9 => ?_) (fun c_9 => ?_)
  · skip
    refine w_goto X 1486 dL_law_269 (by decide) ?_
    refine W.widen (k := cells + 6) (n := slots + 39) (by omega) (by omega) ?_
    exact hk (stp (((0 ≤ i ∧ i < 4) ∧ (0 ≤ a ∧ a ≤ 60) ∧ (0 ≤ b ∧ b ≤ 60) ∧ (0 ≤ d ∧ d ≤ 60))) (True) (True) (nxLand σ i.toNat (ratS (σ.1 i.toNat) a b d)) σ) (cd (((0 ≤ i ∧ i < 4) ∧ (0 ≤ a ∧ a ≤ 60) ∧ (0 ≤ b ∧ b ≤ 60) ∧ (0 ≤ d ∧ d ≤ 60))) (True) (True)) fo1 H2 lo2 ⟨stp_good (fun q1 _ _ => hσ.land ⟨(hσ.1 i.toNat (by omega)).1, (hσ.1 i.toNat (by omega)).2.1, (hσ.1 i.toNat (by omega)).2.2.1, (by omega : 0 ≤ a ∧ a ≤ 60), (by omega : 0 ≤ b ∧ b ≤ 60), (by omega : 0 ≤ d ∧ d ≤ 60)⟩) hσ, hX2, hM2, hJ2, hS, hA2⟩ ls (lv_sub hl [1, 2, 3, 4, 5] rfl)
  · skip
    exact absurd c_9 (by omega)

set_option maxHeartbeats 4000000 in
set_option maxRecDepth 100000 in
theorem law_tax {p : Program} {l : Launch} {e : Env} {s : State} {m : MethodId} {below : List Frame} {meth : Method} {c : Code} {B0 L : Nat} {xs : Nat → Int32} {g : wG} {x out : Nat} {M : Nat → Nat} {AX AM : Nat → Prop} {H : Heap} {locs : List Loc} {cells slots : Nat} {Q : State → Prop} {σ : St} {th : Int} {fo : Nat → Int64} (E : LE p l s m c B0 L xs g out M AX AM) (I : LI s g x out M AX σ th fo H locs) (hroom : cells + 6 ≤ 634029 ∧ slots + 39 ≤ 7194018) (t : Nat) (ht : t + 4 < L) (ls : Array Slot) (hl : lv_has ls 7 [(4, .int (wI ((t : Int)))), (3, .ref out), (2, .ref (M 0)), (1, .ref x), (0, .ref B0)])
    (hk : ∀ (σ1 : St) (th1 : Int) (fo1 : Nat → Int64) (H1 : Heap) (locs1 : List Loc), LI s g x out M AX σ1 th1 fo1 H1 locs1 → ∀ ls : Array Slot, lv_has ls 7 [(4, .int (wI ((t : Int)))), (3, .ref out), (2, .ref (M 0)), (1, .ref x), (0, .ref B0)] → W p l e room_1 s m #[Value.ref B0] below meth c H1 locs1 (cells + 6) (slots + 39) Q (F0 m 1486 ls [])) : W p l e room_1 s m #[Value.ref B0] below meth c H locs cells slots Q (F0 m 272 ls []) := by
  obtain ⟨X, ⟨hE, hEs, hNx⟩, ⟨hXs, hbl, hl9, hL⟩, ⟨hsX, hsM, hso⟩, ⟨hdis, hno, hmo⟩, hAM, hMj⟩ := E
  obtain ⟨hσ, hXv, hM, hJ, hS, hA⟩ := I
  obtain ⟨hr1, hr2⟩ := hroom
  have hbA : ¬ ALs s B0 := Nat.not_le.mpr hbl
  have hW : ∀ q, AW AX out q → ALs s q := fun q h => h.elim (fun h => hsX q h) (fun h => h ▸ hso)
  have hGd := hE.dis
  obtain ⟨i, e1, hi⟩ : ∃ z : Int, xs (t + 1) = wI z ∧ wR z := ⟨_, (wI_ofInt _).symm, wR_toInt _⟩
  obtain ⟨a, e2, ha⟩ : ∃ z : Int, xs (t + 2) = wI z ∧ wR z := ⟨_, (wI_ofInt _).symm, wR_toInt _⟩
  refine w_aload_n X dL_law_272 hl 3 rfl rfl ?_
  refine w_aload_n X dL_law_273 hl 4 rfl rfl ?_
  refine w_iload X dL_law_274 hl 0 rfl ?_
  refine w_iconst X dL_law_276 ?_
  refine w_iadd X dL_law_277 fun z_1 ez_1 => ?_
  refine w_sld (y := i) X hXs hbl hbA hS hL (t + 1) (by omega) (by omega) e1 dL_law_278 ?_
  refine w_aload_n X dL_law_279 hl 4 rfl rfl ?_
  refine w_iload X dL_law_280 hl 0 rfl ?_
  refine w_iconst X dL_law_282 ?_
  refine w_iadd X dL_law_283 fun z_2 ez_2 => ?_
  refine w_sld (y := a) X hXs hbl hbA hS hL (t + 2) (by omega) (by omega) e2 dL_law_284 ?_
  refine w_aload_n X dL_law_285 hl 1 rfl rfl ?_
  refine w_ir (vx_runSW (As := [.ref x, .int (wI (i)), .int (wI (a)), .ref out]) (rest := []) X (c_L_tax l hl9 g H AX out hno x σ hσ hXv fo hJ i a hi ha) (vx_cwSW 4 X.2.2.2.2 gL_law_L_tax rfl rfl rfl (by decide +kernel) ⟨(Nat.le_of_ble_eq_true rfl), (Nat.le_of_ble_eq_true rfl)⟩) (w_pr2 hE hEs hNx hS hW) rfl rfl hl.1 rfl (lv_room (Nat.le_of_ble_eq_true rfl)) dL_law_286 ⟨by show _ ≤ 634029; omega, by show _ ≤ 7194018; omega⟩) hS hW fun v1 H1 lo1 hp1 hz1 hq1 hS => ?_
  obtain ⟨rfl, hX1, fo1, hJ1, hf1⟩ := hp1
  have hcd := cd_r (((0 ≤ i ∧ i < 4) ∧ 0 ≤ a ∧ a ≤ 10000000)) (True) (True)
  have hM1 := hM.kept (fun k h1 h2 => hq1 _ (hM.lt k h1 h2) (fun h => h.elim (fun h => hdis _ h (hAM k h1 h2)) (fun h => hmo (h ▸ hAM k h1 h2))))
  obtain ⟨fs8, hOm⟩ := hM1.ob
  have hA1 : ∀ q, H1.size ≤ q → AX q := fun q hq => hA q (by omega)
  refine w_istore X [(5, .int (wI (cd (((0 ≤ i ∧ i < 4) ∧ 0 ≤ a ∧ a ≤ 10000000)) (True) (True)))), (4, .int (wI ((t : Int)))), (3, .ref out), (2, .ref (M 0)), (1, .ref x), (0, .ref B0)] dL_law_289 hl (by decide) rfl fun ls hl => ?_
  refine w_aload_n X dL_law_291 hl 3 rfl rfl ?_
  refine w_aload_n X dL_law_292 hl 5 rfl rfl ?_
  refine w_iload X dL_law_293 hl 1 rfl ?_
  refine w_iconst X dL_law_295 ?_
  refine w_iadd X dL_law_296 fun z_3 ez_3 => ?_
  refine w_sld (y := i) X hXs hbl hbA hS hL (t + 1) (by omega) (by omega) e1 dL_law_297 ?_
  refine w_aload_n X dL_law_298 hl 5 rfl rfl ?_
  refine w_iload X dL_law_299 hl 1 rfl ?_
  refine w_iconst X dL_law_301 ?_
  refine w_iadd X dL_law_302 fun z_4 ez_4 => ?_
  refine w_sld (y := a) X hXs hbl hbA hS hL (t + 2) (by omega) (by omega) e2 dL_law_303 ?_
  refine w_ir (va_runV (As := [.int (wI (i)), .int (wI (a))]) (rest := []) X (c_X4_tax l g AM H1 M hAM hMj th σ hM1 hσ i a hi ha) (cwV 2 X.2.2.2.2 gL_law_X4_tax rfl rfl rfl (by decide +kernel) ⟨(Nat.le_of_ble_eq_true rfl), (Nat.le_of_ble_eq_true rfl)⟩) (w_prVN hE hEs hS hsM hOm rfl) rfl rfl hl.1 rfl (lv_room (Nat.le_of_ble_eq_true rfl)) dL_law_304 ⟨by show _ ≤ 634029; omega, by show _ ≤ 7194018; omega⟩) hS hsM fun v2 H2 lo2 hp2 hz2 hq2 hS => ?_
  obtain ⟨rfl, hM2⟩ := hp2
  obtain ⟨fs7, hOm2⟩ := hM2.ob
  have hX2 := hX1.kept (fun q h1 h2 => hq2 q h2 (hdis q h1))
  have hJ2 := hJ1.kept (hq2 _ hJ1.lt hmo)
  have hA2 : ∀ q, H2.size ≤ q → AX q := fun q hq => hA1 q (by omega)
  refine w_istore X [(6, .int (wI (stv (((0 ≤ i ∧ i < 4) ∧ 0 ≤ a ∧ a ≤ 10000000)) (True) (True) (taxS (σ.1 i.toNat) a)))), (5, .int (wI (cd (((0 ≤ i ∧ i < 4) ∧ 0 ≤ a ∧ a ≤ 10000000)) (True) (True)))), (4, .int (wI ((t : Int)))), (3, .ref out), (2, .ref (M 0)), (1, .ref x), (0, .ref B0)] dL_law_307 hl (by decide) rfl fun ls hl => ?_
  refine w_aload_n X dL_law_309 hl 4 rfl rfl ?_
  refine w_callV (v := .int (wI (cd (((0 ≤ i ∧ i < 4) ∧ 0 ≤ a ∧ a ≤ 10000000)) (True) (True)))) 0 X hE (c_X4_thrown l g H2 M (cd (((0 ≤ i ∧ i < 4) ∧ 0 ≤ a ∧ a ≤ 10000000)) (True) (True)) (stp (((0 ≤ i ∧ i < 4) ∧ 0 ≤ a ∧ a ≤ 10000000)) (True) (True) (σ) σ) hM2) hOm2 hl dL_law_310 gL_law_X4_thrown rfl rfl (by decide +kernel) ⟨(Nat.le_of_ble_eq_true rfl), (Nat.le_of_ble_eq_true rfl)⟩ rfl rfl (Nat.le_of_ble_eq_true rfl) ⟨by show _ ≤ 634029; omega, by show _ ≤ 7194018; omega⟩ ?_
  refine w_iload X dL_law_313 hl 1 rfl ?_
  refine w_icmp_eq X 320 dL_law_315 (by decide) (by omega) (by omega) (fun c_5 => ?_) (fun c_5 => ?_)
  · skip
    refine w_iload X dL_law_320 hl 1 rfl ?_
    refine w_if_ne X 337 dL_law_322 (by decide) (by omega) (fun c_6 => ?_) (fun c_6 => ?_)
    · skip
      refine w_goto X 1486 dL_law_337 (by decide) ?_
      refine W.widen (k := cells + 6) (n := slots + 39) (by omega) (by omega) ?_
      exact hk (stp (((0 ≤ i ∧ i < 4) ∧ 0 ≤ a ∧ a ≤ 10000000)) (True) (True) (σ) σ) (cd (((0 ≤ i ∧ i < 4) ∧ 0 ≤ a ∧ a ≤ 10000000)) (True) (True)) fo1 H2 lo2 ⟨stp_good (fun _ _ _ => hσ) hσ, hX2, hM2, hJ2, hS, hA2⟩ ls (lv_sub hl [2, 3, 4, 5, 6] rfl)
    · skip
      refine w_aload_n X dL_law_325 hl 3 rfl rfl ?_
      refine w_iconst X dL_law_326 ?_
      refine w_lald0 X hE hJ2 dL_law_327 ?_
      rw [hf1 (by omega)]
      refine w_iload X dL_law_328 hl 0 rfl ?_
      refine lv_i2l (v := (wI (stv (((0 ≤ i ∧ i < 4) ∧ 0 ≤ a ∧ a ≤ 10000000)) (True) (True) (taxS (σ.1 i.toNat) a))).toInt64) X.1 X.2.1 dL_law_330 rfl ?_
      refine w_lcmpEq X dL_law_331 ?_
      refine w_if_eq X 337 dL_law_332 (by decide) (by omega) (fun c_7 => ?_) (fun c_7 => ?_)
      · skip
        refine w_goto X 1486 dL_law_337 (by decide) ?_
        refine W.widen (k := cells + 6) (n := slots + 39) (by omega) (by omega) ?_
        exact hk (stp (((0 ≤ i ∧ i < 4) ∧ 0 ≤ a ∧ a ≤ 10000000)) (True) (True) (σ) σ) (cd (((0 ≤ i ∧ i < 4) ∧ 0 ≤ a ∧ a ≤ 10000000)) (True) (True)) fo1 H2 lo2 ⟨stp_good (fun _ _ _ => hσ) hσ, hX2, hM2, hJ2, hS, hA2⟩ ls (lv_sub hl [2, 3, 4, 5, 6] rfl)
      · skip
        exact absurd c_7 (by omega)
  · skip
    exact absurd c_5 (by omega)
