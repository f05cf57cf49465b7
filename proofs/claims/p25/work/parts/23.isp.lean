/-! the law: a person -/
theorem held_if {c : Prop} [Decidable c] {h : Int} (hb : 0 ≤ h ∧ h ≤ 60000) : ∃ v : Int, (if c then h else 0) = v ∧ (0 ≤ v ∧ v ≤ 60000) ∧ (c → v = h) ∧ (¬ c → v = 0) := by
  by_cases q : c
  · exact ⟨h, if_pos q, hb, fun _ => rfl, fun n => absurd q n⟩
  · exact ⟨0, if_neg q, by omega, fun n => absurd n q, fun _ => rfl⟩

set_option maxHeartbeats 8000000 in
set_option maxRecDepth 100000 in
theorem c_L_isPerson (l : Launch) (hl9 : l.stackTraces = false) (g : wG) (AX : Nat → Prop) (H : Heap) (hAn : ∀ q, H.size ≤ q → AX q) (x : Nat) (σ : St) (hσ : StGood σ) (hXv : XInv g AX x σ H) (k : Int) (hk9 : 0 ≤ k ∧ k < (sn σ : Int)) (z : Int32) (al : Nat) (fl : Nat → Int32) (hAl : IA g H al 20 fl) (hLA : LA σ fl) (hnl : ¬ AX al) (hs3 : sn σ ≤ 3) (ap : Nat) (fp : Nat → Int32) (hAp : IA g H ap 24 fp) (hPA : PA σ fp) (hnp : ¬ AX ap) (ab : Nat) (fb : Nat → Int32) (hAb : IA g H ab 54 fb) (hBA : BA σ fb) (hnb : ¬ AX ab) : WrpR l g AX H yL_isPerson wsL_isPerson 9 189 24 144 [.ref x, .int (wI (k)), .int (z), .ref al, .ref ap, .ref ab] (fun w H1 => w = .int (wI 1) ∧ XInv g AX x σ H1) := by
  refine Imp2.of (cc := cL_isPerson) (maxL := 24) (ret := (some .boolean)) (by decide) rfl (Nat.le_of_ble_eq_true rfl) ?_
  intro p e s m args below meth c X hE hEs hNx hr hk hS ls hl
  have hl : lv_has ls 24 [(0, .ref x), (1, .int (wI (k))), (2, .int (z)), (3, .ref al), (4, .ref ap), (5, .ref ab)] := hl
  have hN : ∀ q, AX q → AX q := fun _ h => h
  obtain ⟨hg, hh0, hh1⟩ := hσ.2.2.1 (k).toNat (by omega)
  have hLx : lGood (σ.1 (sp σ (k).toNat 0).toNat) := hσ.1 _ (by omega)
  have hLH : lGood (sH σ (k).toNat) := hLx
  have hLT : lGood (sT σ (k).toNat) := hσ.1 (sp σ (k).toNat 1).toNat (by omega)
  have hb6 := hg.2.2.2.2.1
  have hmb := mon_bd hg
  obtain ⟨p1, ⟨p2, p3, p4⟩, p5, p6, -⟩ := id hg
  have f1 := whole_bd hg
  have f2 := ah_bd hg
  have f3 := sah_bd hLH hg
  have f4 := held_bd hLH hg
  have f5 := hy_bd hLH hg
  have f6 := sup_bd hLH hg
  have f7 := tah_bd hLH hg
  have f8 := hou_bd hg
  have f9 := aos_bd hg
  have f10 := gross_bd hLT f9.1
  have f11 := cos_bd hLH hLT hg
  have f12 := own_bd hg
  have d1 : setS (sH σ (k).toNat) (sp σ (k).toNat) (sb σ (k).toNat) (so σ (k).toNat) = supS (sH σ (k).toNat) (sp σ (k).toNat) (sb σ (k).toNat) (so σ (k).toNat) - borS (sH σ (k).toNat) (sp σ (k).toNat) (sb σ (k).toNat) (so σ (k).toNat) := rfl
  have d2 : cosS (sH σ (k).toNat) (sT σ (k).toNat) (sp σ (k).toNat) (sb σ (k).toNat) (so σ (k).toNat) = taoS (sT σ (k).toNat) (sp σ (k).toNat) (sb σ (k).toNat) (so σ (k).toNat) + houS (sp σ (k).toNat) - hyS (sH σ (k).toNat) (sp σ (k).toNat) - setS (sH σ (k).toNat) (sp σ (k).toNat) (sb σ (k).toNat) (so σ (k).toNat) := rfl
  have d3 : hyS (sH σ (k).toNat) (sp σ (k).toNat) = heldS (sH σ (k).toNat) (sp σ (k).toNat) * monS (sp σ (k).toNat) := Int.mul_comm _ _
  have d4 : borS (sH σ (k).toNat) (sp σ (k).toNat) (sb σ (k).toNat) (so σ (k).toNat) = hyS (sH σ (k).toNat) (sp σ (k).toNat) + tahS (sH σ (k).toNat) (sp σ (k).toNat) (sb σ (k).toNat) (so σ (k).toNat) := rfl
  have d5 : taoS (sT σ (k).toNat) (sp σ (k).toNat) (sb σ (k).toNat) (so σ (k).toNat) = grossS (sT σ (k).toNat) (aosS (sp σ (k).toNat) (sb σ (k).toNat) (so σ (k).toNat)) := rfl
  have d6 : houS (sp σ (k).toNat) = monS (sp σ (k).toNat) * sp σ (k).toNat 5 - monS (sp σ (k).toNat) * ownS (sp σ (k).toNat) := Int.mul_sub _ _ _
  have d7 : aosS (sp σ (k).toNat) (sb σ (k).toNat) (so σ (k).toNat) = sp σ (k).toNat 2 * monS (sp σ (k).toNat) + houS (sp σ (k).toNat) + sumB (fun b => parS (sp σ (k).toNat) (so σ (k).toNat b)) (sb σ (k).toNat) := by unfold aosS; rw [Int.mul_comm (monS _)]
  have d8 : ahS (sp σ (k).toNat) (sb σ (k).toNat) (so σ (k).toNat) = sp σ (k).toNat 2 * (12 - monS (sp σ (k).toNat)) + sumB (fun b => so σ (k).toNat b 0 - parS (sp σ (k).toNat) (so σ (k).toNat b)) (sb σ (k).toNat) := by unfold ahS; rw [Int.mul_comm (12 - _)]
  have d9 : wholeS (sp σ (k).toNat) (sb σ (k).toNat) (so σ (k).toNat) = 12 * sp σ (k).toNat 2 + sumB (fun b => so σ (k).toNat b 0) (sb σ (k).toNat) := rfl
  have tail : ∀ (at9 mo home all host : Int), at9 = 8 * k → mo = monS (sp σ (k).toNat) → home = ahS (sp σ (k).toNat) (sb σ (k).toNat) (so σ (k).toNat) → all = wholeS (sp σ (k).toNat) (sb σ (k).toNat) (so σ (k).toNat) → host = sp σ (k).toNat 2 * monS (sp σ (k).toNat) + sumB (fun b => parS (sp σ (k).toNat) (so σ (k).toNat b)) (sb σ (k).toNat) → ∀ (H : Heap) (locs : List Loc), XInv g AX x σ H → IA g H al 20 fl → IA g H ap 24 fp → IA g H ab 54 fb → (∀ q, H.size ≤ q → AX q) → va_S AX s.heap H locs → ∀ ls : Array Slot, lv_has ls 24 [(11, .int (wI (1))), (10, .int (wI (host))), (9, .int (wI (all))), (8, .int (wI (home))), (7, .int (wI (mo))), (6, .int (wI (at9))), (5, .ref ab), (4, .ref ap), (3, .ref al), (2, .int (z)), (1, .int (wI (k))), (0, .ref x)] → W p l e { frames := 9, cells := 24, slots := 144, locals := 189 } s m args below meth c H locs 12 72 (MQ below (IQr AX (fun w H1 => w = .int (wI 1) ∧ XInv g AX x σ H1)) args s 24 144 AX) (F0 m 167 ls []) := by
    intro at9 mo home all host hat hmo hhome hall hhost
    intro H locs hXv hAl hAp hAb hAn hS ls hl
    obtain ⟨hAx, fs9, hxO⟩ := hXv.ob
    have hmp := mp_bd hg
    have hps := parts_bd hg (sb σ (k).toNat) (Nat.le_refl _)
    refine w_iload X dL_isPerson_167 hl 4 rfl ?_
    refine w_aload X dL_isPerson_169 hl 7 rfl ?_
    refine w_iload X dL_isPerson_171 hl 5 rfl ?_
    refine w_iconst X dL_isPerson_173 ?_
    refine w_iadd X dL_isPerson_174 fun z_1 ez_1 => ?_
    refine w_iald (y := wI (sp σ (k).toNat 5)) X hE hAp dL_isPerson_175 (by omega) (by omega) (by omega) (by rw [show (z_1).toNat = 8 * (k).toNat + 5 by omega]; exact (hPA _ (by omega)).1 5 (by omega)) ?_
    refine w_imul X dL_isPerson_176 fun z_2 ez_2 => ?_
    refine w_iload X dL_isPerson_177 hl 4 rfl ?_
    refine w_iload_n X dL_isPerson_179 hl 10 rfl rfl ?_
    refine w_aload X dL_isPerson_180 hl 7 rfl ?_
    refine w_callS (v := .int (wI (ownS (sp σ (k).toNat)))) 2 X hE (c_L_own l g H σ hσ hs3 ap _ hAp hPA k hk9) hl dL_isPerson_182 gL_isPerson_L_own rfl rfl (by decide +kernel) ⟨(Nat.le_of_ble_eq_true rfl), (Nat.le_of_ble_eq_true rfl)⟩ rfl (Nat.le_of_ble_eq_true rfl) ⟨by show _ ≤ 24; omega, by show _ ≤ 144; omega⟩ ?_
    refine w_imul X dL_isPerson_185 fun z_3 ez_3 => ?_
    refine w_isub X dL_isPerson_186 fun z_4 ez_4 => ?_
    have er : z_4 = houS (sp σ (k).toNat) := by rw [d6, ez_4, ez_2, ez_3, hmo]
    refine w_istore X [(12, .int (wI (z_4))), (11, .int (wI (1))), (10, .int (wI (host))), (9, .int (wI (all))), (8, .int (wI (home))), (7, .int (wI (mo))), (6, .int (wI (at9))), (5, .ref ab), (4, .ref ap), (3, .ref al), (2, .int (z)), (1, .int (wI (k))), (0, .ref x)] dL_isPerson_187 hl (by decide) rfl fun ls hl => ?_
    refine w_aload X dL_isPerson_189 hl 8 rfl ?_
    refine w_iload X dL_isPerson_191 hl 6 rfl ?_
    refine w_iald (y := wI (sp σ (k).toNat 0)) X hE hAp dL_isPerson_193 (by omega) (by omega) (by omega) (by rw [show (at9).toNat = 8 * (k).toNat + 0 by omega]; exact (hPA _ (by omega)).1 0 (by omega)) ?_
    refine w_ldc2 (v := 12) (z := 12) X dL_isPerson_194 (by decide +kernel) (by decide) ?_
    refine w_aload X dL_isPerson_197 hl 8 rfl ?_
    refine w_iload X dL_isPerson_199 hl 6 rfl ?_
    refine w_iconst X dL_isPerson_201 ?_
    refine w_iadd X dL_isPerson_202 fun z_5 ez_5 => ?_
    refine w_iald (y := wI (sp σ (k).toNat 2)) X hE hAp dL_isPerson_203 (by omega) (by omega) (by omega) (by rw [show (z_5).toNat = 8 * (k).toNat + 2 by omega]; exact (hPA _ (by omega)).1 2 (by omega)) ?_
    refine w_i2l X dL_isPerson_204 (by omega) ?_
    refine w_lmul X dL_isPerson_205 fun z_6 ez_6 => ?_
    refine w_aload_n X dL_isPerson_206 hl 9 rfl rfl ?_
    refine w_callS (v := .long (wJ (taxS (σ.1 (sp σ (k).toNat 0).toNat) (z_6)))) 3 X hE (c_L_tax l g H σ hσ al _ hAl hLA (sp σ (k).toNat 0) (by omega) (z_6) (by omega)) hl dL_isPerson_207 gL_isPerson_L_tax rfl rfl (by decide +kernel) ⟨(Nat.le_of_ble_eq_true rfl), (Nat.le_of_ble_eq_true rfl)⟩ rfl (Nat.le_of_ble_eq_true rfl) ⟨by show _ ≤ 24; omega, by show _ ≤ 144; omega⟩ ?_
    have ft6 := taxS_bd hLx (n := z_6) (by omega)
    refine w_ldc2 (v := 12) (z := 12) X dL_isPerson_210 (by decide +kernel) (by decide) ?_
    refine w_ldiv X dL_isPerson_213 (by omega) (by omega) fun z_7 ez_7 => ?_
    have ee : z_7 = heldS (sH σ (k).toNat) (sp σ (k).toNat) := by rw [ez_7, ez_6]; rfl
    refine w_lstore X [(13, .long (wJ (z_7))), (12, .int (wI (z_4))), (11, .int (wI (1))), (10, .int (wI (host))), (9, .int (wI (all))), (8, .int (wI (home))), (7, .int (wI (mo))), (6, .int (wI (at9))), (5, .ref ab), (4, .ref ap), (3, .ref al), (2, .int (z)), (1, .int (wI (k))), (0, .ref x)] dL_isPerson_214 hl (by decide) rfl fun ls hl => ?_
    refine w_aload X dL_isPerson_216 hl 9 rfl ?_
    refine w_iload X dL_isPerson_218 hl 7 rfl ?_
    refine w_iald (y := wI (sp σ (k).toNat 0)) X hE hAp dL_isPerson_220 (by omega) (by omega) (by omega) (by rw [show (at9).toNat = 8 * (k).toNat + 0 by omega]; exact (hPA _ (by omega)).1 0 (by omega)) ?_
    refine w_iload X dL_isPerson_221 hl 4 rfl ?_
    refine w_i2l X dL_isPerson_223 (by omega) ?_
    refine w_aload_n X dL_isPerson_224 hl 10 rfl rfl ?_
    refine w_callS (v := .long (wJ (taxS (σ.1 (sp σ (k).toNat 0).toNat) (all)))) 3 X hE (c_L_tax l g H σ hσ al _ hAl hLA (sp σ (k).toNat 0) (by omega) (all) (by omega)) hl dL_isPerson_225 gL_isPerson_L_tax rfl rfl (by decide +kernel) ⟨(Nat.le_of_ble_eq_true rfl), (Nat.le_of_ble_eq_true rfl)⟩ rfl (Nat.le_of_ble_eq_true rfl) ⟨by show _ ≤ 24; omega, by show _ ≤ 144; omega⟩ ?_
    have ft7 := taxS_bd hLx (n := all) (by omega)
    have es : taxS (σ.1 (sp σ (k).toNat 0).toNat) (all) = supS (sH σ (k).toNat) (sp σ (k).toNat) (sb σ (k).toNat) (so σ (k).toNat) := by rw [hall]; rfl
    refine w_lstore X [(15, .long (wJ (taxS (σ.1 (sp σ (k).toNat 0).toNat) (all)))), (13, .long (wJ (z_7))), (12, .int (wI (z_4))), (11, .int (wI (1))), (10, .int (wI (host))), (9, .int (wI (all))), (8, .int (wI (home))), (7, .int (wI (mo))), (6, .int (wI (at9))), (5, .ref ab), (4, .ref ap), (3, .ref al), (2, .int (z)), (1, .int (wI (k))), (0, .ref x)] dL_isPerson_228 hl (by decide) rfl fun ls hl => ?_
    refine w_iload X dL_isPerson_230 hl 5 rfl ?_
    refine w_if_le X 248 dL_isPerson_232 (by decide) (by omega) (fun c_8 => ?_) (fun c_8 => ?_)
    · skip
      refine w_lconst X (0) dL_isPerson_248 (by decide) ?_
      have et : (0 : Int) = tahS (sH σ (k).toNat) (sp σ (k).toNat) (sb σ (k).toNat) (so σ (k).toNat) := by unfold tahS; rw [if_pos (by omega)]
      refine w_lstore X [(17, .long (wJ (0))), (15, .long (wJ (taxS (σ.1 (sp σ (k).toNat 0).toNat) (all)))), (13, .long (wJ (z_7))), (12, .int (wI (z_4))), (11, .int (wI (1))), (10, .int (wI (host))), (9, .int (wI (all))), (8, .int (wI (home))), (7, .int (wI (mo))), (6, .int (wI (at9))), (5, .ref ab), (4, .ref ap), (3, .ref al), (2, .int (z)), (1, .int (wI (k))), (0, .ref x)] dL_isPerson_249 hl (by decide) rfl fun ls hl => ?_
      refine w_lload X dL_isPerson_251 hl 2 rfl ?_
      refine w_iload X dL_isPerson_253 hl 8 rfl ?_
      refine w_i2l X dL_isPerson_255 (by omega) ?_
      refine w_lmul X dL_isPerson_256 fun z_9 ez_9 => ?_
      refine w_lload X dL_isPerson_257 hl 0 rfl ?_
      have eh : z_9 = heldS (sH σ (k).toNat) (sp σ (k).toNat) * monS (sp σ (k).toNat) := by rw [ez_9, ee, hmo]
      refine w_ladd X dL_isPerson_259 fun z_10 ez_10 => ?_
      refine w_lstore X [(19, .long (wJ (z_10))), (17, .long (wJ (0))), (15, .long (wJ (taxS (σ.1 (sp σ (k).toNat 0).toNat) (all)))), (13, .long (wJ (z_7))), (12, .int (wI (z_4))), (11, .int (wI (1))), (10, .int (wI (host))), (9, .int (wI (all))), (8, .int (wI (home))), (7, .int (wI (mo))), (6, .int (wI (at9))), (5, .ref ab), (4, .ref ap), (3, .ref al), (2, .int (z)), (1, .int (wI (k))), (0, .ref x)] dL_isPerson_260 hl (by decide) rfl fun ls hl => ?_
      refine w_aload X dL_isPerson_262 hl 12 rfl ?_
      refine w_iload X dL_isPerson_264 hl 10 rfl ?_
      refine w_iconst X dL_isPerson_266 ?_
      refine w_iadd X dL_isPerson_267 fun z_11 ez_11 => ?_
      refine w_iald (y := wI (sp σ (k).toNat 1)) X hE hAp dL_isPerson_268 (by omega) (by omega) (by omega) (by rw [show (z_11).toNat = 8 * (k).toNat + 1 by omega]; exact (hPA _ (by omega)).1 1 (by omega)) ?_
      refine w_iload X dL_isPerson_269 hl 6 rfl ?_
      refine w_iload X dL_isPerson_271 hl 4 rfl ?_
      refine w_iadd X dL_isPerson_273 fun z_12 ez_12 => ?_
      have eo : z_12 = aosS (sp σ (k).toNat) (sb σ (k).toNat) (so σ (k).toNat) := by omega
      refine w_i2l X dL_isPerson_274 (by omega) ?_
      refine w_aload_n X dL_isPerson_275 hl 13 rfl rfl ?_
      refine w_callS (v := .long (wJ (grossS (σ.1 (sp σ (k).toNat 1).toNat) (z_12)))) 3 X hE (c_L_gross l g H σ hσ al _ hAl hLA (sp σ (k).toNat 1) (by omega) (z_12) (by omega)) hl dL_isPerson_276 gL_isPerson_L_gross rfl rfl (by decide +kernel) ⟨(Nat.le_of_ble_eq_true rfl), (Nat.le_of_ble_eq_true rfl)⟩ rfl (Nat.le_of_ble_eq_true rfl) ⟨by show _ ≤ 24; omega, by show _ ≤ 144; omega⟩ ?_
      have eg : grossS (σ.1 (sp σ (k).toNat 1).toNat) (z_12) = taoS (sT σ (k).toNat) (sp σ (k).toNat) (sb σ (k).toNat) (so σ (k).toNat) := by rw [eo]; rfl
      refine w_lstore X [(21, .long (wJ (grossS (σ.1 (sp σ (k).toNat 1).toNat) (z_12)))), (19, .long (wJ (z_10))), (17, .long (wJ (0))), (15, .long (wJ (taxS (σ.1 (sp σ (k).toNat 0).toNat) (all)))), (13, .long (wJ (z_7))), (12, .int (wI (z_4))), (11, .int (wI (1))), (10, .int (wI (host))), (9, .int (wI (all))), (8, .int (wI (home))), (7, .int (wI (mo))), (6, .int (wI (at9))), (5, .ref ab), (4, .ref ap), (3, .ref al), (2, .int (z)), (1, .int (wI (k))), (0, .ref x)] dL_isPerson_279 hl (by decide) rfl fun ls hl => ?_
      refine w_iload_n X dL_isPerson_281 hl 15 rfl rfl ?_
      refine w_bipush X dL_isPerson_282 (by decide) ?_
      refine w_low X hE (by omega) hl dL_isPerson_284 gL_isPerson_L_low ⟨(Nat.le_of_ble_eq_true rfl), (Nat.le_of_ble_eq_true rfl)⟩ (Nat.le_of_ble_eq_true rfl) ⟨by show _ ≤ 24; omega, by show _ ≤ 144; omega⟩ fun y_13 hy_13a hy_13b => ?_
      refine w_istore X [(23, .int (wI (y_13))), (21, .long (wJ (grossS (σ.1 (sp σ (k).toNat 1).toNat) (z_12)))), (19, .long (wJ (z_10))), (17, .long (wJ (0))), (15, .long (wJ (taxS (σ.1 (sp σ (k).toNat 0).toNat) (all)))), (13, .long (wJ (z_7))), (12, .int (wI (z_4))), (11, .int (wI (1))), (10, .int (wI (host))), (9, .int (wI (all))), (8, .int (wI (home))), (7, .int (wI (mo))), (6, .int (wI (at9))), (5, .ref ab), (4, .ref ap), (3, .ref al), (2, .int (z)), (1, .int (wI (k))), (0, .ref x)] dL_isPerson_287 hl (by decide) rfl fun ls hl => ?_
      refine w_iload X dL_isPerson_289 hl 7 rfl ?_
      refine w_if_eq X 417 dL_isPerson_291 (by decide) (by omega) (fun c_14 => ?_) (fun c_14 => ?_)
      · skip
        exact absurd c_14 (by omega)
      · skip
        refine w_aload_n X dL_isPerson_294 hl 18 rfl rfl ?_
        refine w_iload_n X dL_isPerson_295 hl 17 rfl rfl ?_
        refine w_aload X dL_isPerson_296 hl 14 rfl ?_
        refine w_iload X dL_isPerson_298 hl 12 rfl ?_
        refine w_bipush X dL_isPerson_300 (by decide) ?_
        refine w_iadd X dL_isPerson_302 fun z_15 ez_15 => ?_
        refine w_iald (y := wI ((sb σ (k).toNat : Int))) X hE hAp dL_isPerson_303 (by omega) (by omega) (by omega) (by rw [show (z_15).toNat = 8 * (k).toNat + 7 by omega]; exact (hPA _ (by omega)).2) ?_
        refine w_ir (vx_runSW (As := [.ref x, .int (wI (k)), .int (wI ((sb σ (k).toNat : Int)))]) (rest := []) X (c_L_part l hl9 g AX H x σ hσ hXv k hk9 ((sb σ (k).toNat : Int)) (by omega)) (vx_cwSW 3 X.2.2.2.2 gL_isPerson_L_part rfl rfl rfl (by decide +kernel) ⟨(Nat.le_of_ble_eq_true rfl), (Nat.le_of_ble_eq_true rfl)⟩) (w_pr2 hE hEs hNx hS hN) rfl rfl hl.1 rfl (lv_room (Nat.le_of_ble_eq_true rfl)) dL_isPerson_304 ⟨by show _ ≤ 24; omega, by show _ ≤ 144; omega⟩) hS hN fun v1 H_16 lo1 hp_17 hz_18 hq_19 hS => ?_
        obtain ⟨⟨y_20, rfl, hy_20a, hy_20b⟩, hXv⟩ := hp_17
        obtain ⟨hAx, fs9, hxO⟩ := hXv.ob
        have hAl := hAl.kept (hq_19 _ hAl.lt hnl)
        have hAp := hAp.kept (hq_19 _ hAp.lt hnp)
        have hAb := hAb.kept (hq_19 _ hAb.lt hnb)
        have hAn : ∀ q, H_16.size ≤ q → AX q := fun q h => hAn q (by omega)
        have ey_20 : y_20 = -4 := hy_20b (by omega)
        refine w_bipush X dL_isPerson_307 (by decide) ?_
        refine w_icmp_ne X 417 dL_isPerson_309 (by decide) (by omega) (by omega) (fun c_21 => ?_) (fun c_21 => ?_)
        · skip
          exact absurd c_21 (by omega)
        · skip
          refine w_aload_n X dL_isPerson_312 hl 18 rfl rfl ?_
          refine w_iload_n X dL_isPerson_313 hl 17 rfl rfl ?_
          refine w_iload X dL_isPerson_314 hl 0 rfl ?_
          refine w_xr (vx_runV (As := [.int (wI (k)), .int (wI (y_13))]) (rest := []) X (c_X3_held l hl9 g AX H_16 x σ hσ hXv (k) (y_13) (by omega) (by omega)) (cwV 2 X.2.2.2.2 gL_isPerson_X3_held rfl rfl rfl (by decide +kernel) ⟨(Nat.le_of_ble_eq_true rfl), (Nat.le_of_ble_eq_true rfl)⟩) (w_prVN hE hEs hS hN hxO rfl) rfl rfl hl.1 rfl (lv_room (Nat.le_of_ble_eq_true rfl)) dL_isPerson_316 ⟨by show _ ≤ 24; omega, by show _ ≤ 144; omega⟩) hS hN ?_ fun v_27 H_22 lo_23 hp_24 hz_25 hq_26 hS => ?_
          · intro E ce q9 H9 lo9 hxp hz9 hq9 hS9 hce hcv hcl
            have hx9 := hxp.1
            exact absurd hx9 (by rintro (⟨-, r9⟩ | ⟨-, -, r9⟩) <;> omega)
          obtain ⟨-, rfl, hXv⟩ := hp_24
          obtain ⟨hAx, fs9, hxO⟩ := hXv.ob
          have hAl := hAl.kept (hq_26 _ hAl.lt hnl)
          have hAp := hAp.kept (hq_26 _ hAp.lt hnp)
          have hAb := hAb.kept (hq_26 _ hAb.lt hnb)
          have hAn : ∀ q, H_22.size ≤ q → AX q := fun q h => hAn q (by omega)
          obtain ⟨v_28, ev_28, hv_28b, hv_281, hv_282⟩ := held_if (c := sp σ (k).toNat 3 ≤ y_13 ∧ y_13 < sp σ (k).toNat 4) (h := heldS (sH σ (k).toNat) (sp σ (k).toNat)) ⟨f4.1, f4.2.1⟩
          rw [ev_28]
          refine w_i2l X dL_isPerson_319 (by omega) ?_
          refine w_iload X dL_isPerson_320 hl 0 rfl ?_
          refine w_aload X dL_isPerson_322 hl 14 rfl ?_
          refine w_iload X dL_isPerson_324 hl 12 rfl ?_
          refine w_iconst X dL_isPerson_326 ?_
          refine w_iadd X dL_isPerson_327 fun z_29 ez_29 => ?_
          refine w_iald (y := wI (sp σ (k).toNat 3)) X hE hAp dL_isPerson_328 (by omega) (by omega) (by omega) (by rw [show (z_29).toNat = 8 * (k).toNat + 3 by omega]; exact (hPA _ (by omega)).1 3 (by omega)) ?_
          refine w_icmp_lt X 349 dL_isPerson_329 (by decide) (by omega) (by omega) (fun c_30 => ?_) (fun c_30 => ?_)
          · skip
            refine w_lconst X (0) dL_isPerson_349 (by decide) ?_
            refine w_lcmp X dL_isPerson_350 (by omega) (by omega) fun z_31 ez_31a ez_31b ez_31c ez_31d => ?_
            refine w_if_ne X 417 dL_isPerson_351 (by decide) (by omega) (fun c_32 => ?_) (fun c_32 => ?_)
            · skip
              exact absurd c_32 (by omega)
            · skip
              refine w_aload_n X dL_isPerson_354 hl 18 rfl rfl ?_
              refine w_iload_n X dL_isPerson_355 hl 17 rfl rfl ?_
              refine w_xr (vx_runV (As := [.int (wI (k))]) (rest := []) X (c_X3_supposedTax l hl9 g AX H_22 x σ hσ hXv (k) (by omega)) (cwV 1 X.2.2.2.2 gL_isPerson_X3_supposedTax rfl rfl rfl (by decide +kernel) ⟨(Nat.le_of_ble_eq_true rfl), (Nat.le_of_ble_eq_true rfl)⟩) (w_prVN hE hEs hS hN hxO rfl) rfl rfl hl.1 rfl (lv_room (Nat.le_of_ble_eq_true rfl)) dL_isPerson_356 ⟨by show _ ≤ 24; omega, by show _ ≤ 144; omega⟩) hS hN ?_ fun v_38 H_33 lo_34 hp_35 hz_36 hq_37 hS => ?_
              · exact fun E ce q9 H9 lo9 hxp hz9 hq9 hS9 hce hcv hcl => absurd hxp.1.2 (by omega)
              obtain ⟨-, rfl, hXv⟩ := hp_35
              obtain ⟨hAx, fs9, hxO⟩ := hXv.ob
              have hAl := hAl.kept (hq_37 _ hAl.lt hnl)
              have hAp := hAp.kept (hq_37 _ hAp.lt hnp)
              have hAb := hAb.kept (hq_37 _ hAb.lt hnb)
              have hAn : ∀ q, H_33.size ≤ q → AX q := fun q h => hAn q (by omega)
              refine w_i2l X dL_isPerson_359 (by omega) ?_
              refine w_lload X dL_isPerson_360 hl 4 rfl ?_
              refine w_lcmp X dL_isPerson_362 (by omega) (by omega) fun z_39 ez_39a ez_39b ez_39c ez_39d => ?_
              refine w_if_ne X 417 dL_isPerson_363 (by decide) (by omega) (fun c_40 => ?_) (fun c_40 => ?_)
              · skip
                exact absurd c_40 (by omega)
              · skip
                refine w_aload_n X dL_isPerson_366 hl 18 rfl rfl ?_
                refine w_iload_n X dL_isPerson_367 hl 17 rfl rfl ?_
                refine w_xr (vx_runV (As := [.int (wI (k))]) (rest := []) X (c_X3_homeIncome l hl9 g AX H_33 x σ hσ hXv (k) (by omega)) (cwV 1 X.2.2.2.2 gL_isPerson_X3_homeIncome rfl rfl rfl (by decide +kernel) ⟨(Nat.le_of_ble_eq_true rfl), (Nat.le_of_ble_eq_true rfl)⟩) (w_prVN hE hEs hS hN hxO rfl) rfl rfl hl.1 rfl (lv_room (Nat.le_of_ble_eq_true rfl)) dL_isPerson_368 ⟨by show _ ≤ 24; omega, by show _ ≤ 144; omega⟩) hS hN ?_ fun v_46 H_41 lo_42 hp_43 hz_44 hq_45 hS => ?_
                · exact fun E ce q9 H9 lo9 hxp hz9 hq9 hS9 hce hcv hcl => absurd hxp.1.2 (by omega)
                obtain ⟨-, rfl, hXv⟩ := hp_43
                obtain ⟨hAx, fs9, hxO⟩ := hXv.ob
                have hAl := hAl.kept (hq_45 _ hAl.lt hnl)
                have hAp := hAp.kept (hq_45 _ hAp.lt hnp)
                have hAb := hAb.kept (hq_45 _ hAb.lt hnb)
                have hAn : ∀ q, H_41.size ≤ q → AX q := fun q h => hAn q (by omega)
                refine w_iload X dL_isPerson_371 hl 10 rfl ?_
                refine w_icmp_ne X 417 dL_isPerson_373 (by decide) (by omega) (by omega) (fun c_47 => ?_) (fun c_47 => ?_)
                · skip
                  exact absurd c_47 (by omega)
                · skip
                  refine w_aload_n X dL_isPerson_376 hl 18 rfl rfl ?_
                  refine w_iload_n X dL_isPerson_377 hl 17 rfl rfl ?_
                  refine w_xr (vx_runV (As := [.int (wI (k))]) (rest := []) X (c_X3_homeTax l hl9 g AX H_41 x σ hσ hXv (k) (by omega)) (cwV 1 X.2.2.2.2 gL_isPerson_X3_homeTax rfl rfl rfl (by decide +kernel) ⟨(Nat.le_of_ble_eq_true rfl), (Nat.le_of_ble_eq_true rfl)⟩) (w_prVN hE hEs hS hN hxO rfl) rfl rfl hl.1 rfl (lv_room (Nat.le_of_ble_eq_true rfl)) dL_isPerson_378 ⟨by show _ ≤ 24; omega, by show _ ≤ 144; omega⟩) hS hN ?_ fun v_53 H_48 lo_49 hp_50 hz_51 hq_52 hS => ?_
                  · exact fun E ce q9 H9 lo9 hxp hz9 hq9 hS9 hce hcv hcl => absurd hxp.1.2 (by omega)
                  obtain ⟨-, rfl, hXv⟩ := hp_50
                  obtain ⟨hAx, fs9, hxO⟩ := hXv.ob
                  have hAl := hAl.kept (hq_52 _ hAl.lt hnl)
                  have hAp := hAp.kept (hq_52 _ hAp.lt hnp)
                  have hAb := hAb.kept (hq_52 _ hAb.lt hnb)
                  have hAn : ∀ q, H_48.size ≤ q → AX q := fun q h => hAn q (by omega)
                  refine w_i2l X dL_isPerson_381 (by omega) ?_
                  refine w_lload X dL_isPerson_382 hl 3 rfl ?_
                  refine w_lcmp X dL_isPerson_384 (by omega) (by omega) fun z_54 ez_54a ez_54b ez_54c ez_54d => ?_
                  refine w_if_ne X 417 dL_isPerson_385 (by decide) (by omega) (fun c_55 => ?_) (fun c_55 => ?_)
                  · skip
                    exact absurd c_55 (by omega)
                  · skip
                    refine w_aload_n X dL_isPerson_388 hl 18 rfl rfl ?_
                    refine w_iload_n X dL_isPerson_389 hl 17 rfl rfl ?_
                    refine w_xr (vx_runV (As := [.int (wI (k))]) (rest := []) X (c_X3_hostIncome l hl9 g AX H_48 x σ hσ hXv (k) (by omega)) (cwV 1 X.2.2.2.2 gL_isPerson_X3_hostIncome rfl rfl rfl (by decide +kernel) ⟨(Nat.le_of_ble_eq_true rfl), (Nat.le_of_ble_eq_true rfl)⟩) (w_prVN hE hEs hS hN hxO rfl) rfl rfl hl.1 rfl (lv_room (Nat.le_of_ble_eq_true rfl)) dL_isPerson_390 ⟨by show _ ≤ 24; omega, by show _ ≤ 144; omega⟩) hS hN ?_ fun v_61 H_56 lo_57 hp_58 hz_59 hq_60 hS => ?_
                    · exact fun E ce q9 H9 lo9 hxp hz9 hq9 hS9 hce hcv hcl => absurd hxp.1.2 (by omega)
                    obtain ⟨-, rfl, hXv⟩ := hp_58
                    obtain ⟨hAx, fs9, hxO⟩ := hXv.ob
                    have hAl := hAl.kept (hq_60 _ hAl.lt hnl)
                    have hAp := hAp.kept (hq_60 _ hAp.lt hnp)
                    have hAb := hAb.kept (hq_60 _ hAb.lt hnb)
                    have hAn : ∀ q, H_56.size ≤ q → AX q := fun q h => hAn q (by omega)
                    refine w_iload X dL_isPerson_393 hl 8 rfl ?_
                    refine w_iload X dL_isPerson_395 hl 6 rfl ?_
                    refine w_iadd X dL_isPerson_397 fun z_62 ez_62 => ?_
                    refine w_icmp_ne X 417 dL_isPerson_398 (by decide) (by omega) (by omega) (fun c_63 => ?_) (fun c_63 => ?_)
                    · skip
                      exact absurd c_63 (by omega)
                    · skip
                      refine w_aload_n X dL_isPerson_401 hl 18 rfl rfl ?_
                      refine w_iload_n X dL_isPerson_402 hl 17 rfl rfl ?_
                      refine w_xr (vx_runV (As := [.int (wI (k))]) (rest := []) X (c_X3_hostTax l hl9 g AX H_56 x σ hσ hXv (k) (by omega)) (cwV 1 X.2.2.2.2 gL_isPerson_X3_hostTax rfl rfl rfl (by decide +kernel) ⟨(Nat.le_of_ble_eq_true rfl), (Nat.le_of_ble_eq_true rfl)⟩) (w_prVN hE hEs hS hN hxO rfl) rfl rfl hl.1 rfl (lv_room (Nat.le_of_ble_eq_true rfl)) dL_isPerson_403 ⟨by show _ ≤ 24; omega, by show _ ≤ 144; omega⟩) hS hN ?_ fun v_69 H_64 lo_65 hp_66 hz_67 hq_68 hS => ?_
                      · exact fun E ce q9 H9 lo9 hxp hz9 hq9 hS9 hce hcv hcl => absurd hxp.1.2 (by omega)
                      obtain ⟨-, rfl, hXv⟩ := hp_66
                      obtain ⟨hAx, fs9, hxO⟩ := hXv.ob
                      have hAl := hAl.kept (hq_68 _ hAl.lt hnl)
                      have hAp := hAp.kept (hq_68 _ hAp.lt hnp)
                      have hAb := hAb.kept (hq_68 _ hAb.lt hnb)
                      have hAn : ∀ q, H_64.size ≤ q → AX q := fun q h => hAn q (by omega)
                      refine w_i2l X dL_isPerson_406 (by omega) ?_
                      refine w_lload X dL_isPerson_407 hl 1 rfl ?_
                      refine w_lcmp X dL_isPerson_409 (by omega) (by omega) fun z_70 ez_70a ez_70b ez_70c ez_70d => ?_
                      refine w_if_ne X 417 dL_isPerson_410 (by decide) (by omega) (fun c_71 => ?_) (fun c_71 => ?_)
                      · skip
                        exact absurd c_71 (by omega)
                      · skip
                        refine w_iconst X dL_isPerson_413 ?_
                        refine w_goto X 418 dL_isPerson_414 (by decide) ?_
                        refine w_istore X [(11, .int (wI (1))), (23, .int (wI (y_13))), (21, .long (wJ (grossS (σ.1 (sp σ (k).toNat 1).toNat) (z_12)))), (19, .long (wJ (z_10))), (17, .long (wJ (0))), (15, .long (wJ (taxS (σ.1 (sp σ (k).toNat 0).toNat) (all)))), (13, .long (wJ (z_7))), (12, .int (wI (z_4))), (10, .int (wI (host))), (9, .int (wI (all))), (8, .int (wI (home))), (7, .int (wI (mo))), (6, .int (wI (at9))), (5, .ref ab), (4, .ref ap), (3, .ref al), (2, .int (z)), (1, .int (wI (k))), (0, .ref x)] dL_isPerson_418 hl (by decide) rfl fun ls hl => ?_
                        refine w_iload X dL_isPerson_420 hl 0 rfl ?_
                        refine w_if_eq X 485 dL_isPerson_422 (by decide) (by omega) (fun c_72 => ?_) (fun c_72 => ?_)
                        · skip
                          exact absurd c_72 (by omega)
                        · skip
                          refine w_aload_n X dL_isPerson_425 hl 18 rfl rfl ?_
                          refine w_iload_n X dL_isPerson_426 hl 17 rfl rfl ?_
                          refine w_xr (vx_runV (As := [.int (wI (k))]) (rest := []) X (c_X3_borne l hl9 g AX H_64 x σ hσ hXv (k) (by omega)) (cwV 1 X.2.2.2.2 gL_isPerson_X3_borne rfl rfl rfl (by decide +kernel) ⟨(Nat.le_of_ble_eq_true rfl), (Nat.le_of_ble_eq_true rfl)⟩) (w_prVN hE hEs hS hN hxO rfl) rfl rfl hl.1 rfl (lv_room (Nat.le_of_ble_eq_true rfl)) dL_isPerson_427 ⟨by show _ ≤ 24; omega, by show _ ≤ 144; omega⟩) hS hN ?_ fun v_78 H_73 lo_74 hp_75 hz_76 hq_77 hS => ?_
                          · exact fun E ce q9 H9 lo9 hxp hz9 hq9 hS9 hce hcv hcl => absurd hxp.1.2 (by omega)
                          obtain ⟨-, rfl, hXv⟩ := hp_75
                          obtain ⟨hAx, fs9, hxO⟩ := hXv.ob
                          have hAl := hAl.kept (hq_77 _ hAl.lt hnl)
                          have hAp := hAp.kept (hq_77 _ hAp.lt hnp)
                          have hAb := hAb.kept (hq_77 _ hAb.lt hnb)
                          have hAn : ∀ q, H_73.size ≤ q → AX q := fun q h => hAn q (by omega)
                          refine w_i2l X dL_isPerson_430 (by omega) ?_
                          refine w_lload X dL_isPerson_431 hl 3 rfl ?_
                          refine w_lcmp X dL_isPerson_433 (by omega) (by omega) fun z_79 ez_79a ez_79b ez_79c ez_79d => ?_
                          refine w_if_ne X 485 dL_isPerson_434 (by decide) (by omega) (fun c_80 => ?_) (fun c_80 => ?_)
                          · skip
                            exact absurd c_80 (by omega)
                          · skip
                            refine w_aload_n X dL_isPerson_437 hl 18 rfl rfl ?_
                            refine w_iload_n X dL_isPerson_438 hl 17 rfl rfl ?_
                            refine w_xr (vx_runV (As := [.int (wI (k))]) (rest := []) X (c_X3_settlement l hl9 g AX H_73 x σ hσ hXv (k) (by omega)) (cwV 1 X.2.2.2.2 gL_isPerson_X3_settlement rfl rfl rfl (by decide +kernel) ⟨(Nat.le_of_ble_eq_true rfl), (Nat.le_of_ble_eq_true rfl)⟩) (w_prVN hE hEs hS hN hxO rfl) rfl rfl hl.1 rfl (lv_room (Nat.le_of_ble_eq_true rfl)) dL_isPerson_439 ⟨by show _ ≤ 24; omega, by show _ ≤ 144; omega⟩) hS hN ?_ fun v_86 H_81 lo_82 hp_83 hz_84 hq_85 hS => ?_
                            · exact fun E ce q9 H9 lo9 hxp hz9 hq9 hS9 hce hcv hcl => absurd hxp.1.2 (by omega)
                            obtain ⟨-, rfl, hXv⟩ := hp_83
                            obtain ⟨hAx, fs9, hxO⟩ := hXv.ob
                            have hAl := hAl.kept (hq_85 _ hAl.lt hnl)
                            have hAp := hAp.kept (hq_85 _ hAp.lt hnp)
                            have hAb := hAb.kept (hq_85 _ hAb.lt hnb)
                            have hAn : ∀ q, H_81.size ≤ q → AX q := fun q h => hAn q (by omega)
                            refine w_i2l X dL_isPerson_442 (by omega) ?_
                            refine w_lload X dL_isPerson_443 hl 5 rfl ?_
                            refine w_lload X dL_isPerson_445 hl 3 rfl ?_
                            refine w_lsub X dL_isPerson_447 fun z_87 ez_87 => ?_
                            refine w_lcmp X dL_isPerson_448 (by omega) (by omega) fun z_88 ez_88a ez_88b ez_88c ez_88d => ?_
                            refine w_if_ne X 485 dL_isPerson_449 (by decide) (by omega) (fun c_89 => ?_) (fun c_89 => ?_)
                            · skip
                              exact absurd c_89 (by omega)
                            · skip
                              refine w_aload_n X dL_isPerson_452 hl 18 rfl rfl ?_
                              refine w_iload_n X dL_isPerson_453 hl 17 rfl rfl ?_
                              refine w_xr (vx_runV (As := [.int (wI (k))]) (rest := []) X (c_X3_cost l hl9 g AX H_81 x σ hσ hXv (k) (by omega)) (cwV 1 X.2.2.2.2 gL_isPerson_X3_cost rfl rfl rfl (by decide +kernel) ⟨(Nat.le_of_ble_eq_true rfl), (Nat.le_of_ble_eq_true rfl)⟩) (w_prVN hE hEs hS hN hxO rfl) rfl rfl hl.1 rfl (lv_room (Nat.le_of_ble_eq_true rfl)) dL_isPerson_454 ⟨by show _ ≤ 24; omega, by show _ ≤ 144; omega⟩) hS hN ?_ fun v_95 H_90 lo_91 hp_92 hz_93 hq_94 hS => ?_
                              · exact fun E ce q9 H9 lo9 hxp hz9 hq9 hS9 hce hcv hcl => absurd hxp.1.2 (by omega)
                              obtain ⟨-, rfl, hXv⟩ := hp_92
                              obtain ⟨hAx, fs9, hxO⟩ := hXv.ob
                              have hAl := hAl.kept (hq_94 _ hAl.lt hnl)
                              have hAp := hAp.kept (hq_94 _ hAp.lt hnp)
                              have hAb := hAb.kept (hq_94 _ hAb.lt hnb)
                              have hAn : ∀ q, H_90.size ≤ q → AX q := fun q h => hAn q (by omega)
                              refine w_i2l X dL_isPerson_457 (by omega) ?_
                              refine w_lload X dL_isPerson_458 hl 2 rfl ?_
                              refine w_iload X dL_isPerson_460 hl 7 rfl ?_
                              refine w_i2l X dL_isPerson_462 (by omega) ?_
                              refine w_ladd X dL_isPerson_463 fun z_96 ez_96 => ?_
                              refine w_lload X dL_isPerson_464 hl 6 rfl ?_
                              refine w_iload X dL_isPerson_466 hl 11 rfl ?_
                              refine w_i2l X dL_isPerson_468 (by omega) ?_
                              refine w_lmul X dL_isPerson_469 fun z_97 ez_97 => ?_
                              have eh2 : z_97 = heldS (sH σ (k).toNat) (sp σ (k).toNat) * monS (sp σ (k).toNat) := by rw [ez_97, ee, hmo]
                              refine w_lsub X dL_isPerson_470 fun z_98 ez_98 => ?_
                              refine w_lload X dL_isPerson_471 hl 5 rfl ?_
                              refine w_lload X dL_isPerson_473 hl 3 rfl ?_
                              refine w_lsub X dL_isPerson_475 fun z_99 ez_99 => ?_
                              refine w_lsub X dL_isPerson_476 fun z_100 ez_100 => ?_
                              refine w_lcmp X dL_isPerson_477 (by omega) (by omega) fun z_101 ez_101a ez_101b ez_101c ez_101d => ?_
                              refine w_if_ne X 485 dL_isPerson_478 (by decide) (by omega) (fun c_102 => ?_) (fun c_102 => ?_)
                              · skip
                                exact absurd c_102 (by omega)
                              · skip
                                refine w_iconst X dL_isPerson_481 ?_
                                refine w_goto X 486 dL_isPerson_482 (by decide) ?_
                                exact w_zrR X hr hk hS (Or.inr rfl) ⟨rfl, hXv⟩ dL_isPerson_486 (Nat.le_of_ble_eq_true rfl) (Nat.le_of_ble_eq_true rfl)
          · skip
            refine w_iload X dL_isPerson_332 hl 0 rfl ?_
            refine w_aload X dL_isPerson_334 hl 14 rfl ?_
            refine w_iload X dL_isPerson_336 hl 12 rfl ?_
            refine w_iconst X dL_isPerson_338 ?_
            refine w_iadd X dL_isPerson_339 fun z_103 ez_103 => ?_
            refine w_iald (y := wI (sp σ (k).toNat 4)) X hE hAp dL_isPerson_340 (by omega) (by omega) (by omega) (by rw [show (z_103).toNat = 8 * (k).toNat + 4 by omega]; exact (hPA _ (by omega)).1 4 (by omega)) ?_
            refine w_icmp_ge X 349 dL_isPerson_341 (by decide) (by omega) (by omega) (fun c_104 => ?_) (fun c_104 => ?_)
            · skip
              refine w_lconst X (0) dL_isPerson_349 (by decide) ?_
              refine w_lcmp X dL_isPerson_350 (by omega) (by omega) fun z_105 ez_105a ez_105b ez_105c ez_105d => ?_
              refine w_if_ne X 417 dL_isPerson_351 (by decide) (by omega) (fun c_106 => ?_) (fun c_106 => ?_)
              · skip
                exact absurd c_106 (by omega)
              · skip
                refine w_aload_n X dL_isPerson_354 hl 18 rfl rfl ?_
                refine w_iload_n X dL_isPerson_355 hl 17 rfl rfl ?_
                refine w_xr (vx_runV (As := [.int (wI (k))]) (rest := []) X (c_X3_supposedTax l hl9 g AX H_22 x σ hσ hXv (k) (by omega)) (cwV 1 X.2.2.2.2 gL_isPerson_X3_supposedTax rfl rfl rfl (by decide +kernel) ⟨(Nat.le_of_ble_eq_true rfl), (Nat.le_of_ble_eq_true rfl)⟩) (w_prVN hE hEs hS hN hxO rfl) rfl rfl hl.1 rfl (lv_room (Nat.le_of_ble_eq_true rfl)) dL_isPerson_356 ⟨by show _ ≤ 24; omega, by show _ ≤ 144; omega⟩) hS hN ?_ fun v_112 H_107 lo_108 hp_109 hz_110 hq_111 hS => ?_
                · exact fun E ce q9 H9 lo9 hxp hz9 hq9 hS9 hce hcv hcl => absurd hxp.1.2 (by omega)
                obtain ⟨-, rfl, hXv⟩ := hp_109
                obtain ⟨hAx, fs9, hxO⟩ := hXv.ob
                have hAl := hAl.kept (hq_111 _ hAl.lt hnl)
                have hAp := hAp.kept (hq_111 _ hAp.lt hnp)
                have hAb := hAb.kept (hq_111 _ hAb.lt hnb)
                have hAn : ∀ q, H_107.size ≤ q → AX q := fun q h => hAn q (by omega)
                refine w_i2l X dL_isPerson_359 (by omega) ?_
                refine w_lload X dL_isPerson_360 hl 4 rfl ?_
                refine w_lcmp X dL_isPerson_362 (by omega) (by omega) fun z_113 ez_113a ez_113b ez_113c ez_113d => ?_
                refine w_if_ne X 417 dL_isPerson_363 (by decide) (by omega) (fun c_114 => ?_) (fun c_114 => ?_)
                · skip
                  exact absurd c_114 (by omega)
                · skip
                  refine w_aload_n X dL_isPerson_366 hl 18 rfl rfl ?_
                  refine w_iload_n X dL_isPerson_367 hl 17 rfl rfl ?_
                  refine w_xr (vx_runV (As := [.int (wI (k))]) (rest := []) X (c_X3_homeIncome l hl9 g AX H_107 x σ hσ hXv (k) (by omega)) (cwV 1 X.2.2.2.2 gL_isPerson_X3_homeIncome rfl rfl rfl (by decide +kernel) ⟨(Nat.le_of_ble_eq_true rfl), (Nat.le_of_ble_eq_true rfl)⟩) (w_prVN hE hEs hS hN hxO rfl) rfl rfl hl.1 rfl (lv_room (Nat.le_of_ble_eq_true rfl)) dL_isPerson_368 ⟨by show _ ≤ 24; omega, by show _ ≤ 144; omega⟩) hS hN ?_ fun v_120 H_115 lo_116 hp_117 hz_118 hq_119 hS => ?_
                  · exact fun E ce q9 H9 lo9 hxp hz9 hq9 hS9 hce hcv hcl => absurd hxp.1.2 (by omega)
                  obtain ⟨-, rfl, hXv⟩ := hp_117
                  obtain ⟨hAx, fs9, hxO⟩ := hXv.ob
                  have hAl := hAl.kept (hq_119 _ hAl.lt hnl)
                  have hAp := hAp.kept (hq_119 _ hAp.lt hnp)
                  have hAb := hAb.kept (hq_119 _ hAb.lt hnb)
                  have hAn : ∀ q, H_115.size ≤ q → AX q := fun q h => hAn q (by omega)
                  refine w_iload X dL_isPerson_371 hl 10 rfl ?_
                  refine w_icmp_ne X 417 dL_isPerson_373 (by decide) (by omega) (by omega) (fun c_121 => ?_) (fun c_121 => ?_)
                  · skip
                    exact absurd c_121 (by omega)
                  · skip
                    refine w_aload_n X dL_isPerson_376 hl 18 rfl rfl ?_
                    refine w_iload_n X dL_isPerson_377 hl 17 rfl rfl ?_
                    refine w_xr (vx_runV (As := [.int (wI (k))]) (rest := []) X (c_X3_homeTax l hl9 g AX H_115 x σ hσ hXv (k) (by omega)) (cwV 1 X.2.2.2.2 gL_isPerson_X3_homeTax rfl rfl rfl (by decide +kernel) ⟨(Nat.le_of_ble_eq_true rfl), (Nat.le_of_ble_eq_true rfl)⟩) (w_prVN hE hEs hS hN hxO rfl) rfl rfl hl.1 rfl (lv_room (Nat.le_of_ble_eq_true rfl)) dL_isPerson_378 ⟨by show _ ≤ 24; omega, by show _ ≤ 144; omega⟩) hS hN ?_ fun v_127 H_122 lo_123 hp_124 hz_125 hq_126 hS => ?_
                    · exact fun E ce q9 H9 lo9 hxp hz9 hq9 hS9 hce hcv hcl => absurd hxp.1.2 (by omega)
                    obtain ⟨-, rfl, hXv⟩ := hp_124
                    obtain ⟨hAx, fs9, hxO⟩ := hXv.ob
                    have hAl := hAl.kept (hq_126 _ hAl.lt hnl)
                    have hAp := hAp.kept (hq_126 _ hAp.lt hnp)
                    have hAb := hAb.kept (hq_126 _ hAb.lt hnb)
                    have hAn : ∀ q, H_122.size ≤ q → AX q := fun q h => hAn q (by omega)
                    refine w_i2l X dL_isPerson_381 (by omega) ?_
                    refine w_lload X dL_isPerson_382 hl 3 rfl ?_
                    refine w_lcmp X dL_isPerson_384 (by omega) (by omega) fun z_128 ez_128a ez_128b ez_128c ez_128d => ?_
                    refine w_if_ne X 417 dL_isPerson_385 (by decide) (by omega) (fun c_129 => ?_) (fun c_129 => ?_)
                    · skip
                      exact absurd c_129 (by omega)
                    · skip
                      refine w_aload_n X dL_isPerson_388 hl 18 rfl rfl ?_
                      refine w_iload_n X dL_isPerson_389 hl 17 rfl rfl ?_
                      refine w_xr (vx_runV (As := [.int (wI (k))]) (rest := []) X (c_X3_hostIncome l hl9 g AX H_122 x σ hσ hXv (k) (by omega)) (cwV 1 X.2.2.2.2 gL_isPerson_X3_hostIncome rfl rfl rfl (by decide +kernel) ⟨(Nat.le_of_ble_eq_true rfl), (Nat.le_of_ble_eq_true rfl)⟩) (w_prVN hE hEs hS hN hxO rfl) rfl rfl hl.1 rfl (lv_room (Nat.le_of_ble_eq_true rfl)) dL_isPerson_390 ⟨by show _ ≤ 24; omega, by show _ ≤ 144; omega⟩) hS hN ?_ fun v_135 H_130 lo_131 hp_132 hz_133 hq_134 hS => ?_
                      · exact fun E ce q9 H9 lo9 hxp hz9 hq9 hS9 hce hcv hcl => absurd hxp.1.2 (by omega)
                      obtain ⟨-, rfl, hXv⟩ := hp_132
                      obtain ⟨hAx, fs9, hxO⟩ := hXv.ob
                      have hAl := hAl.kept (hq_134 _ hAl.lt hnl)
                      have hAp := hAp.kept (hq_134 _ hAp.lt hnp)
                      have hAb := hAb.kept (hq_134 _ hAb.lt hnb)
                      have hAn : ∀ q, H_130.size ≤ q → AX q := fun q h => hAn q (by omega)
                      refine w_iload X dL_isPerson_393 hl 8 rfl ?_
                      refine w_iload X dL_isPerson_395 hl 6 rfl ?_
                      refine w_iadd X dL_isPerson_397 fun z_136 ez_136 => ?_
                      refine w_icmp_ne X 417 dL_isPerson_398 (by decide) (by omega) (by omega) (fun c_137 => ?_) (fun c_137 => ?_)
                      · skip
                        exact absurd c_137 (by omega)
                      · skip
                        refine w_aload_n X dL_isPerson_401 hl 18 rfl rfl ?_
                        refine w_iload_n X dL_isPerson_402 hl 17 rfl rfl ?_
                        refine w_xr (vx_runV (As := [.int (wI (k))]) (rest := []) X (c_X3_hostTax l hl9 g AX H_130 x σ hσ hXv (k) (by omega)) (cwV 1 X.2.2.2.2 gL_isPerson_X3_hostTax rfl rfl rfl (by decide +kernel) ⟨(Nat.le_of_ble_eq_true rfl), (Nat.le_of_ble_eq_true rfl)⟩) (w_prVN hE hEs hS hN hxO rfl) rfl rfl hl.1 rfl (lv_room (Nat.le_of_ble_eq_true rfl)) dL_isPerson_403 ⟨by show _ ≤ 24; omega, by show _ ≤ 144; omega⟩) hS hN ?_ fun v_143 H_138 lo_139 hp_140 hz_141 hq_142 hS => ?_
                        · exact fun E ce q9 H9 lo9 hxp hz9 hq9 hS9 hce hcv hcl => absurd hxp.1.2 (by omega)
                        obtain ⟨-, rfl, hXv⟩ := hp_140
                        obtain ⟨hAx, fs9, hxO⟩ := hXv.ob
                        have hAl := hAl.kept (hq_142 _ hAl.lt hnl)
                        have hAp := hAp.kept (hq_142 _ hAp.lt hnp)
                        have hAb := hAb.kept (hq_142 _ hAb.lt hnb)
                        have hAn : ∀ q, H_138.size ≤ q → AX q := fun q h => hAn q (by omega)
                        refine w_i2l X dL_isPerson_406 (by omega) ?_
                        refine w_lload X dL_isPerson_407 hl 1 rfl ?_
                        refine w_lcmp X dL_isPerson_409 (by omega) (by omega) fun z_144 ez_144a ez_144b ez_144c ez_144d => ?_
                        refine w_if_ne X 417 dL_isPerson_410 (by decide) (by omega) (fun c_145 => ?_) (fun c_145 => ?_)
                        · skip
                          exact absurd c_145 (by omega)
                        · skip
                          refine w_iconst X dL_isPerson_413 ?_
                          refine w_goto X 418 dL_isPerson_414 (by decide) ?_
                          refine w_istore X [(11, .int (wI (1))), (23, .int (wI (y_13))), (21, .long (wJ (grossS (σ.1 (sp σ (k).toNat 1).toNat) (z_12)))), (19, .long (wJ (z_10))), (17, .long (wJ (0))), (15, .long (wJ (taxS (σ.1 (sp σ (k).toNat 0).toNat) (all)))), (13, .long (wJ (z_7))), (12, .int (wI (z_4))), (10, .int (wI (host))), (9, .int (wI (all))), (8, .int (wI (home))), (7, .int (wI (mo))), (6, .int (wI (at9))), (5, .ref ab), (4, .ref ap), (3, .ref al), (2, .int (z)), (1, .int (wI (k))), (0, .ref x)] dL_isPerson_418 hl (by decide) rfl fun ls hl => ?_
                          refine w_iload X dL_isPerson_420 hl 0 rfl ?_
                          refine w_if_eq X 485 dL_isPerson_422 (by decide) (by omega) (fun c_146 => ?_) (fun c_146 => ?_)
                          · skip
                            exact absurd c_146 (by omega)
                          · skip
                            refine w_aload_n X dL_isPerson_425 hl 18 rfl rfl ?_
                            refine w_iload_n X dL_isPerson_426 hl 17 rfl rfl ?_
                            refine w_xr (vx_runV (As := [.int (wI (k))]) (rest := []) X (c_X3_borne l hl9 g AX H_138 x σ hσ hXv (k) (by omega)) (cwV 1 X.2.2.2.2 gL_isPerson_X3_borne rfl rfl rfl (by decide +kernel) ⟨(Nat.le_of_ble_eq_true rfl), (Nat.le_of_ble_eq_true rfl)⟩) (w_prVN hE hEs hS hN hxO rfl) rfl rfl hl.1 rfl (lv_room (Nat.le_of_ble_eq_true rfl)) dL_isPerson_427 ⟨by show _ ≤ 24; omega, by show _ ≤ 144; omega⟩) hS hN ?_ fun v_152 H_147 lo_148 hp_149 hz_150 hq_151 hS => ?_
                            · exact fun E ce q9 H9 lo9 hxp hz9 hq9 hS9 hce hcv hcl => absurd hxp.1.2 (by omega)
                            obtain ⟨-, rfl, hXv⟩ := hp_149
                            obtain ⟨hAx, fs9, hxO⟩ := hXv.ob
                            have hAl := hAl.kept (hq_151 _ hAl.lt hnl)
                            have hAp := hAp.kept (hq_151 _ hAp.lt hnp)
                            have hAb := hAb.kept (hq_151 _ hAb.lt hnb)
                            have hAn : ∀ q, H_147.size ≤ q → AX q := fun q h => hAn q (by omega)
                            refine w_i2l X dL_isPerson_430 (by omega) ?_
                            refine w_lload X dL_isPerson_431 hl 3 rfl ?_
                            refine w_lcmp X dL_isPerson_433 (by omega) (by omega) fun z_153 ez_153a ez_153b ez_153c ez_153d => ?_
                            refine w_if_ne X 485 dL_isPerson_434 (by decide) (by omega) (fun c_154 => ?_) (fun c_154 => ?_)
                            · skip
                              exact absurd c_154 (by omega)
                            · skip
                              refine w_aload_n X dL_isPerson_437 hl 18 rfl rfl ?_
                              refine w_iload_n X dL_isPerson_438 hl 17 rfl rfl ?_
                              refine w_xr (vx_runV (As := [.int (wI (k))]) (rest := []) X (c_X3_settlement l hl9 g AX H_147 x σ hσ hXv (k) (by omega)) (cwV 1 X.2.2.2.2 gL_isPerson_X3_settlement rfl rfl rfl (by decide +kernel) ⟨(Nat.le_of_ble_eq_true rfl), (Nat.le_of_ble_eq_true rfl)⟩) (w_prVN hE hEs hS hN hxO rfl) rfl rfl hl.1 rfl (lv_room (Nat.le_of_ble_eq_true rfl)) dL_isPerson_439 ⟨by show _ ≤ 24; omega, by show _ ≤ 144; omega⟩) hS hN ?_ fun v_160 H_155 lo_156 hp_157 hz_158 hq_159 hS => ?_
                              · exact fun E ce q9 H9 lo9 hxp hz9 hq9 hS9 hce hcv hcl => absurd hxp.1.2 (by omega)
                              obtain ⟨-, rfl, hXv⟩ := hp_157
                              obtain ⟨hAx, fs9, hxO⟩ := hXv.ob
                              have hAl := hAl.kept (hq_159 _ hAl.lt hnl)
                              have hAp := hAp.kept (hq_159 _ hAp.lt hnp)
                              have hAb := hAb.kept (hq_159 _ hAb.lt hnb)
                              have hAn : ∀ q, H_155.size ≤ q → AX q := fun q h => hAn q (by omega)
                              refine w_i2l X dL_isPerson_442 (by omega) ?_
                              refine w_lload X dL_isPerson_443 hl 5 rfl ?_
                              refine w_lload X dL_isPerson_445 hl 3 rfl ?_
                              refine w_lsub X dL_isPerson_447 fun z_161 ez_161 => ?_
                              refine w_lcmp X dL_isPerson_448 (by omega) (by omega) fun z_162 ez_162a ez_162b ez_162c ez_162d => ?_
                              refine w_if_ne X 485 dL_isPerson_449 (by decide) (by omega) (fun c_163 => ?_) (fun c_163 => ?_)
                              · skip
                                exact absurd c_163 (by omega)
                              · skip
                                refine w_aload_n X dL_isPerson_452 hl 18 rfl rfl ?_
                                refine w_iload_n X dL_isPerson_453 hl 17 rfl rfl ?_
                                refine w_xr (vx_runV (As := [.int (wI (k))]) (rest := []) X (c_X3_cost l hl9 g AX H_155 x σ hσ hXv (k) (by omega)) (cwV 1 X.2.2.2.2 gL_isPerson_X3_cost rfl rfl rfl (by decide +kernel) ⟨(Nat.le_of_ble_eq_true rfl), (Nat.le_of_ble_eq_true rfl)⟩) (w_prVN hE hEs hS hN hxO rfl) rfl rfl hl.1 rfl (lv_room (Nat.le_of_ble_eq_true rfl)) dL_isPerson_454 ⟨by show _ ≤ 24; omega, by show _ ≤ 144; omega⟩) hS hN ?_ fun v_169 H_164 lo_165 hp_166 hz_167 hq_168 hS => ?_
                                · exact fun E ce q9 H9 lo9 hxp hz9 hq9 hS9 hce hcv hcl => absurd hxp.1.2 (by omega)
                                obtain ⟨-, rfl, hXv⟩ := hp_166
                                obtain ⟨hAx, fs9, hxO⟩ := hXv.ob
                                have hAl := hAl.kept (hq_168 _ hAl.lt hnl)
                                have hAp := hAp.kept (hq_168 _ hAp.lt hnp)
                                have hAb := hAb.kept (hq_168 _ hAb.lt hnb)
                                have hAn : ∀ q, H_164.size ≤ q → AX q := fun q h => hAn q (by omega)
                                refine w_i2l X dL_isPerson_457 (by omega) ?_
                                refine w_lload X dL_isPerson_458 hl 2 rfl ?_
                                refine w_iload X dL_isPerson_460 hl 7 rfl ?_
                                refine w_i2l X dL_isPerson_462 (by omega) ?_
                                refine w_ladd X dL_isPerson_463 fun z_170 ez_170 => ?_
                                refine w_lload X dL_isPerson_464 hl 6 rfl ?_
                                refine w_iload X dL_isPerson_466 hl 11 rfl ?_
                                refine w_i2l X dL_isPerson_468 (by omega) ?_
                                refine w_lmul X dL_isPerson_469 fun z_171 ez_171 => ?_
                                have eh2 : z_171 = heldS (sH σ (k).toNat) (sp σ (k).toNat) * monS (sp σ (k).toNat) := by rw [ez_171, ee, hmo]
                                refine w_lsub X dL_isPerson_470 fun z_172 ez_172 => ?_
                                refine w_lload X dL_isPerson_471 hl 5 rfl ?_
                                refine w_lload X dL_isPerson_473 hl 3 rfl ?_
                                refine w_lsub X dL_isPerson_475 fun z_173 ez_173 => ?_
                                refine w_lsub X dL_isPerson_476 fun z_174 ez_174 => ?_
                                refine w_lcmp X dL_isPerson_477 (by omega) (by omega) fun z_175 ez_175a ez_175b ez_175c ez_175d => ?_
                                refine w_if_ne X 485 dL_isPerson_478 (by decide) (by omega) (fun c_176 => ?_) (fun c_176 => ?_)
                                · skip
                                  exact absurd c_176 (by omega)
                                · skip
                                  refine w_iconst X dL_isPerson_481 ?_
                                  refine w_goto X 486 dL_isPerson_482 (by decide) ?_
                                  exact w_zrR X hr hk hS (Or.inr rfl) ⟨rfl, hXv⟩ dL_isPerson_486 (Nat.le_of_ble_eq_true rfl) (Nat.le_of_ble_eq_true rfl)
            · skip
              refine w_lload X dL_isPerson_344 hl 5 rfl ?_
              refine w_goto X 350 dL_isPerson_346 (by decide) ?_
              refine w_lcmp X dL_isPerson_350 (by omega) (by omega) fun z_177 ez_177a ez_177b ez_177c ez_177d => ?_
              refine w_if_ne X 417 dL_isPerson_351 (by decide) (by omega) (fun c_178 => ?_) (fun c_178 => ?_)
              · skip
                exact absurd c_178 (by omega)
              · skip
                refine w_aload_n X dL_isPerson_354 hl 18 rfl rfl ?_
                refine w_iload_n X dL_isPerson_355 hl 17 rfl rfl ?_
                refine w_xr (vx_runV (As := [.int (wI (k))]) (rest := []) X (c_X3_supposedTax l hl9 g AX H_22 x σ hσ hXv (k) (by omega)) (cwV 1 X.2.2.2.2 gL_isPerson_X3_supposedTax rfl rfl rfl (by decide +kernel) ⟨(Nat.le_of_ble_eq_true rfl), (Nat.le_of_ble_eq_true rfl)⟩) (w_prVN hE hEs hS hN hxO rfl) rfl rfl hl.1 rfl (lv_room (Nat.le_of_ble_eq_true rfl)) dL_isPerson_356 ⟨by show _ ≤ 24; omega, by show _ ≤ 144; omega⟩) hS hN ?_ fun v_184 H_179 lo_180 hp_181 hz_182 hq_183 hS => ?_
                · exact fun E ce q9 H9 lo9 hxp hz9 hq9 hS9 hce hcv hcl => absurd hxp.1.2 (by omega)
                obtain ⟨-, rfl, hXv⟩ := hp_181
                obtain ⟨hAx, fs9, hxO⟩ := hXv.ob
                have hAl := hAl.kept (hq_183 _ hAl.lt hnl)
                have hAp := hAp.kept (hq_183 _ hAp.lt hnp)
                have hAb := hAb.kept (hq_183 _ hAb.lt hnb)
                have hAn : ∀ q, H_179.size ≤ q → AX q := fun q h => hAn q (by omega)
                refine w_i2l X dL_isPerson_359 (by omega) ?_
                refine w_lload X dL_isPerson_360 hl 4 rfl ?_
                refine w_lcmp X dL_isPerson_362 (by omega) (by omega) fun z_185 ez_185a ez_185b ez_185c ez_185d => ?_
                refine w_if_ne X 417 dL_isPerson_363 (by decide) (by omega) (fun c_186 => ?_) (fun c_186 => ?_)
                · skip
                  exact absurd c_186 (by omega)
                · skip
                  refine w_aload_n X dL_isPerson_366 hl 18 rfl rfl ?_
                  refine w_iload_n X dL_isPerson_367 hl 17 rfl rfl ?_
                  refine w_xr (vx_runV (As := [.int (wI (k))]) (rest := []) X (c_X3_homeIncome l hl9 g AX H_179 x σ hσ hXv (k) (by omega)) (cwV 1 X.2.2.2.2 gL_isPerson_X3_homeIncome rfl rfl rfl (by decide +kernel) ⟨(Nat.le_of_ble_eq_true rfl), (Nat.le_of_ble_eq_true rfl)⟩) (w_prVN hE hEs hS hN hxO rfl) rfl rfl hl.1 rfl (lv_room (Nat.le_of_ble_eq_true rfl)) dL_isPerson_368 ⟨by show _ ≤ 24; omega, by show _ ≤ 144; omega⟩) hS hN ?_ fun v_192 H_187 lo_188 hp_189 hz_190 hq_191 hS => ?_
                  · exact fun E ce q9 H9 lo9 hxp hz9 hq9 hS9 hce hcv hcl => absurd hxp.1.2 (by omega)
                  obtain ⟨-, rfl, hXv⟩ := hp_189
                  obtain ⟨hAx, fs9, hxO⟩ := hXv.ob
                  have hAl := hAl.kept (hq_191 _ hAl.lt hnl)
                  have hAp := hAp.kept (hq_191 _ hAp.lt hnp)
                  have hAb := hAb.kept (hq_191 _ hAb.lt hnb)
                  have hAn : ∀ q, H_187.size ≤ q → AX q := fun q h => hAn q (by omega)
                  refine w_iload X dL_isPerson_371 hl 10 rfl ?_
                  refine w_icmp_ne X 417 dL_isPerson_373 (by decide) (by omega) (by omega) (fun c_193 => ?_) (fun c_193 => ?_)
                  · skip
                    exact absurd c_193 (by omega)
                  · skip
                    refine w_aload_n X dL_isPerson_376 hl 18 rfl rfl ?_
                    refine w_iload_n X dL_isPerson_377 hl 17 rfl rfl ?_
                    refine w_xr (vx_runV (As := [.int (wI (k))]) (rest := []) X (c_X3_homeTax l hl9 g AX H_187 x σ hσ hXv (k) (by omega)) (cwV 1 X.2.2.2.2 gL_isPerson_X3_homeTax rfl rfl rfl (by decide +kernel) ⟨(Nat.le_of_ble_eq_true rfl), (Nat.le_of_ble_eq_true rfl)⟩) (w_prVN hE hEs hS hN hxO rfl) rfl rfl hl.1 rfl (lv_room (Nat.le_of_ble_eq_true rfl)) dL_isPerson_378 ⟨by show _ ≤ 24; omega, by show _ ≤ 144; omega⟩) hS hN ?_ fun v_199 H_194 lo_195 hp_196 hz_197 hq_198 hS => ?_
                    · exact fun E ce q9 H9 lo9 hxp hz9 hq9 hS9 hce hcv hcl => absurd hxp.1.2 (by omega)
                    obtain ⟨-, rfl, hXv⟩ := hp_196
                    obtain ⟨hAx, fs9, hxO⟩ := hXv.ob
                    have hAl := hAl.kept (hq_198 _ hAl.lt hnl)
                    have hAp := hAp.kept (hq_198 _ hAp.lt hnp)
                    have hAb := hAb.kept (hq_198 _ hAb.lt hnb)
                    have hAn : ∀ q, H_194.size ≤ q → AX q := fun q h => hAn q (by omega)
                    refine w_i2l X dL_isPerson_381 (by omega) ?_
                    refine w_lload X dL_isPerson_382 hl 3 rfl ?_
                    refine w_lcmp X dL_isPerson_384 (by omega) (by omega) fun z_200 ez_200a ez_200b ez_200c ez_200d => ?_
                    refine w_if_ne X 417 dL_isPerson_385 (by decide) (by omega) (fun c_201 => ?_) (fun c_201 => ?_)
                    · skip
                      exact absurd c_201 (by omega)
                    · skip
                      refine w_aload_n X dL_isPerson_388 hl 18 rfl rfl ?_
                      refine w_iload_n X dL_isPerson_389 hl 17 rfl rfl ?_
                      refine w_xr (vx_runV (As := [.int (wI (k))]) (rest := []) X (c_X3_hostIncome l hl9 g AX H_194 x σ hσ hXv (k) (by omega)) (cwV 1 X.2.2.2.2 gL_isPerson_X3_hostIncome rfl rfl rfl (by decide +kernel) ⟨(Nat.le_of_ble_eq_true rfl), (Nat.le_of_ble_eq_true rfl)⟩) (w_prVN hE hEs hS hN hxO rfl) rfl rfl hl.1 rfl (lv_room (Nat.le_of_ble_eq_true rfl)) dL_isPerson_390 ⟨by show _ ≤ 24; omega, by show _ ≤ 144; omega⟩) hS hN ?_ fun v_207 H_202 lo_203 hp_204 hz_205 hq_206 hS => ?_
                      · exact fun E ce q9 H9 lo9 hxp hz9 hq9 hS9 hce hcv hcl => absurd hxp.1.2 (by omega)
                      obtain ⟨-, rfl, hXv⟩ := hp_204
                      obtain ⟨hAx, fs9, hxO⟩ := hXv.ob
                      have hAl := hAl.kept (hq_206 _ hAl.lt hnl)
                      have hAp := hAp.kept (hq_206 _ hAp.lt hnp)
                      have hAb := hAb.kept (hq_206 _ hAb.lt hnb)
                      have hAn : ∀ q, H_202.size ≤ q → AX q := fun q h => hAn q (by omega)
                      refine w_iload X dL_isPerson_393 hl 8 rfl ?_
                      refine w_iload X dL_isPerson_395 hl 6 rfl ?_
                      refine w_iadd X dL_isPerson_397 fun z_208 ez_208 => ?_
                      refine w_icmp_ne X 417 dL_isPerson_398 (by decide) (by omega) (by omega) (fun c_209 => ?_) (fun c_209 => ?_)
                      · skip
                        exact absurd c_209 (by omega)
                      · skip
                        refine w_aload_n X dL_isPerson_401 hl 18 rfl rfl ?_
                        refine w_iload_n X dL_isPerson_402 hl 17 rfl rfl ?_
                        refine w_xr (vx_runV (As := [.int (wI (k))]) (rest := []) X (c_X3_hostTax l hl9 g AX H_202 x σ hσ hXv (k) (by omega)) (cwV 1 X.2.2.2.2 gL_isPerson_X3_hostTax rfl rfl rfl (by decide +kernel) ⟨(Nat.le_of_ble_eq_true rfl), (Nat.le_of_ble_eq_true rfl)⟩) (w_prVN hE hEs hS hN hxO rfl) rfl rfl hl.1 rfl (lv_room (Nat.le_of_ble_eq_true rfl)) dL_isPerson_403 ⟨by show _ ≤ 24; omega, by show _ ≤ 144; omega⟩) hS hN ?_ fun v_215 H_210 lo_211 hp_212 hz_213 hq_214 hS => ?_
                        · exact fun E ce q9 H9 lo9 hxp hz9 hq9 hS9 hce hcv hcl => absurd hxp.1.2 (by omega)
                        obtain ⟨-, rfl, hXv⟩ := hp_212
                        obtain ⟨hAx, fs9, hxO⟩ := hXv.ob
                        have hAl := hAl.kept (hq_214 _ hAl.lt hnl)
                        have hAp := hAp.kept (hq_214 _ hAp.lt hnp)
                        have hAb := hAb.kept (hq_214 _ hAb.lt hnb)
                        have hAn : ∀ q, H_210.size ≤ q → AX q := fun q h => hAn q (by omega)
                        refine w_i2l X dL_isPerson_406 (by omega) ?_
                        refine w_lload X dL_isPerson_407 hl 1 rfl ?_
                        refine w_lcmp X dL_isPerson_409 (by omega) (by omega) fun z_216 ez_216a ez_216b ez_216c ez_216d => ?_
                        refine w_if_ne X 417 dL_isPerson_410 (by decide) (by omega) (fun c_217 => ?_) (fun c_217 => ?_)
                        · skip
                          exact absurd c_217 (by omega)
                        · skip
                          refine w_iconst X dL_isPerson_413 ?_
                          refine w_goto X 418 dL_isPerson_414 (by decide) ?_
                          refine w_istore X [(11, .int (wI (1))), (23, .int (wI (y_13))), (21, .long (wJ (grossS (σ.1 (sp σ (k).toNat 1).toNat) (z_12)))), (19, .long (wJ (z_10))), (17, .long (wJ (0))), (15, .long (wJ (taxS (σ.1 (sp σ (k).toNat 0).toNat) (all)))), (13, .long (wJ (z_7))), (12, .int (wI (z_4))), (10, .int (wI (host))), (9, .int (wI (all))), (8, .int (wI (home))), (7, .int (wI (mo))), (6, .int (wI (at9))), (5, .ref ab), (4, .ref ap), (3, .ref al), (2, .int (z)), (1, .int (wI (k))), (0, .ref x)] dL_isPerson_418 hl (by decide) rfl fun ls hl => ?_
                          refine w_iload X dL_isPerson_420 hl 0 rfl ?_
                          refine w_if_eq X 485 dL_isPerson_422 (by decide) (by omega) (fun c_218 => ?_) (fun c_218 => ?_)
                          · skip
                            exact absurd c_218 (by omega)
                          · skip
                            refine w_aload_n X dL_isPerson_425 hl 18 rfl rfl ?_
                            refine w_iload_n X dL_isPerson_426 hl 17 rfl rfl ?_
                            refine w_xr (vx_runV (As := [.int (wI (k))]) (rest := []) X (c_X3_borne l hl9 g AX H_210 x σ hσ hXv (k) (by omega)) (cwV 1 X.2.2.2.2 gL_isPerson_X3_borne rfl rfl rfl (by decide +kernel) ⟨(Nat.le_of_ble_eq_true rfl), (Nat.le_of_ble_eq_true rfl)⟩) (w_prVN hE hEs hS hN hxO rfl) rfl rfl hl.1 rfl (lv_room (Nat.le_of_ble_eq_true rfl)) dL_isPerson_427 ⟨by show _ ≤ 24; omega, by show _ ≤ 144; omega⟩) hS hN ?_ fun v_224 H_219 lo_220 hp_221 hz_222 hq_223 hS => ?_
                            · exact fun E ce q9 H9 lo9 hxp hz9 hq9 hS9 hce hcv hcl => absurd hxp.1.2 (by omega)
                            obtain ⟨-, rfl, hXv⟩ := hp_221
                            obtain ⟨hAx, fs9, hxO⟩ := hXv.ob
                            have hAl := hAl.kept (hq_223 _ hAl.lt hnl)
                            have hAp := hAp.kept (hq_223 _ hAp.lt hnp)
                            have hAb := hAb.kept (hq_223 _ hAb.lt hnb)
                            have hAn : ∀ q, H_219.size ≤ q → AX q := fun q h => hAn q (by omega)
                            refine w_i2l X dL_isPerson_430 (by omega) ?_
                            refine w_lload X dL_isPerson_431 hl 3 rfl ?_
                            refine w_lcmp X dL_isPerson_433 (by omega) (by omega) fun z_225 ez_225a ez_225b ez_225c ez_225d => ?_
                            refine w_if_ne X 485 dL_isPerson_434 (by decide) (by omega) (fun c_226 => ?_) (fun c_226 => ?_)
                            · skip
                              exact absurd c_226 (by omega)
                            · skip
                              refine w_aload_n X dL_isPerson_437 hl 18 rfl rfl ?_
                              refine w_iload_n X dL_isPerson_438 hl 17 rfl rfl ?_
                              refine w_xr (vx_runV (As := [.int (wI (k))]) (rest := []) X (c_X3_settlement l hl9 g AX H_219 x σ hσ hXv (k) (by omega)) (cwV 1 X.2.2.2.2 gL_isPerson_X3_settlement rfl rfl rfl (by decide +kernel) ⟨(Nat.le_of_ble_eq_true rfl), (Nat.le_of_ble_eq_true rfl)⟩) (w_prVN hE hEs hS hN hxO rfl) rfl rfl hl.1 rfl (lv_room (Nat.le_of_ble_eq_true rfl)) dL_isPerson_439 ⟨by show _ ≤ 24; omega, by show _ ≤ 144; omega⟩) hS hN ?_ fun v_232 H_227 lo_228 hp_229 hz_230 hq_231 hS => ?_
                              · exact fun E ce q9 H9 lo9 hxp hz9 hq9 hS9 hce hcv hcl => absurd hxp.1.2 (by omega)
                              obtain ⟨-, rfl, hXv⟩ := hp_229
                              obtain ⟨hAx, fs9, hxO⟩ := hXv.ob
                              have hAl := hAl.kept (hq_231 _ hAl.lt hnl)
                              have hAp := hAp.kept (hq_231 _ hAp.lt hnp)
                              have hAb := hAb.kept (hq_231 _ hAb.lt hnb)
                              have hAn : ∀ q, H_227.size ≤ q → AX q := fun q h => hAn q (by omega)
                              refine w_i2l X dL_isPerson_442 (by omega) ?_
                              refine w_lload X dL_isPerson_443 hl 5 rfl ?_
                              refine w_lload X dL_isPerson_445 hl 3 rfl ?_
                              refine w_lsub X dL_isPerson_447 fun z_233 ez_233 => ?_
                              refine w_lcmp X dL_isPerson_448 (by omega) (by omega) fun z_234 ez_234a ez_234b ez_234c ez_234d => ?_
                              refine w_if_ne X 485 dL_isPerson_449 (by decide) (by omega) (fun c_235 => ?_) (fun c_235 => ?_)
                              · skip
                                exact absurd c_235 (by omega)
                              · skip
                                refine w_aload_n X dL_isPerson_452 hl 18 rfl rfl ?_
                                refine w_iload_n X dL_isPerson_453 hl 17 rfl rfl ?_
                                refine w_xr (vx_runV (As := [.int (wI (k))]) (rest := []) X (c_X3_cost l hl9 g AX H_227 x σ hσ hXv (k) (by omega)) (cwV 1 X.2.2.2.2 gL_isPerson_X3_cost rfl rfl rfl (by decide +kernel) ⟨(Nat.le_of_ble_eq_true rfl), (Nat.le_of_ble_eq_true rfl)⟩) (w_prVN hE hEs hS hN hxO rfl) rfl rfl hl.1 rfl (lv_room (Nat.le_of_ble_eq_true rfl)) dL_isPerson_454 ⟨by show _ ≤ 24; omega, by show _ ≤ 144; omega⟩) hS hN ?_ fun v_241 H_236 lo_237 hp_238 hz_239 hq_240 hS => ?_
                                · exact fun E ce q9 H9 lo9 hxp hz9 hq9 hS9 hce hcv hcl => absurd hxp.1.2 (by omega)
                                obtain ⟨-, rfl, hXv⟩ := hp_238
                                obtain ⟨hAx, fs9, hxO⟩ := hXv.ob
                                have hAl := hAl.kept (hq_240 _ hAl.lt hnl)
                                have hAp := hAp.kept (hq_240 _ hAp.lt hnp)
                                have hAb := hAb.kept (hq_240 _ hAb.lt hnb)
                                have hAn : ∀ q, H_236.size ≤ q → AX q := fun q h => hAn q (by omega)
                                refine w_i2l X dL_isPerson_457 (by omega) ?_
                                refine w_lload X dL_isPerson_458 hl 2 rfl ?_
                                refine w_iload X dL_isPerson_460 hl 7 rfl ?_
                                refine w_i2l X dL_isPerson_462 (by omega) ?_
                                refine w_ladd X dL_isPerson_463 fun z_242 ez_242 => ?_
                                refine w_lload X dL_isPerson_464 hl 6 rfl ?_
                                refine w_iload X dL_isPerson_466 hl 11 rfl ?_
                                refine w_i2l X dL_isPerson_468 (by omega) ?_
                                refine w_lmul X dL_isPerson_469 fun z_243 ez_243 => ?_
                                have eh2 : z_243 = heldS (sH σ (k).toNat) (sp σ (k).toNat) * monS (sp σ (k).toNat) := by rw [ez_243, ee, hmo]
                                refine w_lsub X dL_isPerson_470 fun z_244 ez_244 => ?_
                                refine w_lload X dL_isPerson_471 hl 5 rfl ?_
                                refine w_lload X dL_isPerson_473 hl 3 rfl ?_
                                refine w_lsub X dL_isPerson_475 fun z_245 ez_245 => ?_
                                refine w_lsub X dL_isPerson_476 fun z_246 ez_246 => ?_
                                refine w_lcmp X dL_isPerson_477 (by omega) (by omega) fun z_247 ez_247a ez_247b ez_247c ez_247d => ?_
                                refine w_if_ne X 485 dL_isPerson_478 (by decide) (by omega) (fun c_248 => ?_) (fun c_248 => ?_)
                                · skip
                                  exact absurd c_248 (by omega)
                                · skip
                                  refine w_iconst X dL_isPerson_481 ?_
                                  refine w_goto X 486 dL_isPerson_482 (by decide) ?_
                                  exact w_zrR X hr hk hS (Or.inr rfl) ⟨rfl, hXv⟩ dL_isPerson_486 (Nat.le_of_ble_eq_true rfl) (Nat.le_of_ble_eq_true rfl)
    · skip
      refine w_lload X dL_isPerson_235 hl 0 rfl ?_
      refine w_iload X dL_isPerson_237 hl 6 rfl ?_
      refine w_i2l X dL_isPerson_239 (by omega) ?_
      refine w_lmul X dL_isPerson_240 fun z_249 ez_249 => ?_
      refine w_iload X dL_isPerson_241 hl 5 rfl ?_
      refine w_i2l X dL_isPerson_243 (by omega) ?_
      have ep : z_249 = supS (sH σ (k).toNat) (sp σ (k).toNat) (sb σ (k).toNat) (so σ (k).toNat) * ahS (sp σ (k).toNat) (sb σ (k).toNat) (so σ (k).toNat) := by rw [ez_249, es, hhome]
      refine w_ldiv X dL_isPerson_244 (by omega) (by omega) fun z_250 ez_250 => ?_
      refine w_goto X 249 dL_isPerson_245 (by decide) ?_
      have et : z_250 = tahS (sH σ (k).toNat) (sp σ (k).toNat) (sb σ (k).toNat) (so σ (k).toNat) := by unfold tahS; rw [if_neg (by omega), ez_250, ep, hall]
      refine w_lstore X [(17, .long (wJ (z_250))), (15, .long (wJ (taxS (σ.1 (sp σ (k).toNat 0).toNat) (all)))), (13, .long (wJ (z_7))), (12, .int (wI (z_4))), (11, .int (wI (1))), (10, .int (wI (host))), (9, .int (wI (all))), (8, .int (wI (home))), (7, .int (wI (mo))), (6, .int (wI (at9))), (5, .ref ab), (4, .ref ap), (3, .ref al), (2, .int (z)), (1, .int (wI (k))), (0, .ref x)] dL_isPerson_249 hl (by decide) rfl fun ls hl => ?_
      refine w_lload X dL_isPerson_251 hl 2 rfl ?_
      refine w_iload X dL_isPerson_253 hl 8 rfl ?_
      refine w_i2l X dL_isPerson_255 (by omega) ?_
      refine w_lmul X dL_isPerson_256 fun z_251 ez_251 => ?_
      refine w_lload X dL_isPerson_257 hl 0 rfl ?_
      have eh : z_251 = heldS (sH σ (k).toNat) (sp σ (k).toNat) * monS (sp σ (k).toNat) := by rw [ez_251, ee, hmo]
      refine w_ladd X dL_isPerson_259 fun z_252 ez_252 => ?_
      refine w_lstore X [(19, .long (wJ (z_252))), (17, .long (wJ (z_250))), (15, .long (wJ (taxS (σ.1 (sp σ (k).toNat 0).toNat) (all)))), (13, .long (wJ (z_7))), (12, .int (wI (z_4))), (11, .int (wI (1))), (10, .int (wI (host))), (9, .int (wI (all))), (8, .int (wI (home))), (7, .int (wI (mo))), (6, .int (wI (at9))), (5, .ref ab), (4, .ref ap), (3, .ref al), (2, .int (z)), (1, .int (wI (k))), (0, .ref x)] dL_isPerson_260 hl (by decide) rfl fun ls hl => ?_
      refine w_aload X dL_isPerson_262 hl 12 rfl ?_
      refine w_iload X dL_isPerson_264 hl 10 rfl ?_
      refine w_iconst X dL_isPerson_266 ?_
      refine w_iadd X dL_isPerson_267 fun z_253 ez_253 => ?_
      refine w_iald (y := wI (sp σ (k).toNat 1)) X hE hAp dL_isPerson_268 (by omega) (by omega) (by omega) (by rw [show (z_253).toNat = 8 * (k).toNat + 1 by omega]; exact (hPA _ (by omega)).1 1 (by omega)) ?_
      refine w_iload X dL_isPerson_269 hl 6 rfl ?_
      refine w_iload X dL_isPerson_271 hl 4 rfl ?_
      refine w_iadd X dL_isPerson_273 fun z_254 ez_254 => ?_
      have eo : z_254 = aosS (sp σ (k).toNat) (sb σ (k).toNat) (so σ (k).toNat) := by omega
      refine w_i2l X dL_isPerson_274 (by omega) ?_
      refine w_aload_n X dL_isPerson_275 hl 13 rfl rfl ?_
      refine w_callS (v := .long (wJ (grossS (σ.1 (sp σ (k).toNat 1).toNat) (z_254)))) 3 X hE (c_L_gross l g H σ hσ al _ hAl hLA (sp σ (k).toNat 1) (by omega) (z_254) (by omega)) hl dL_isPerson_276 gL_isPerson_L_gross rfl rfl (by decide +kernel) ⟨(Nat.le_of_ble_eq_true rfl), (Nat.le_of_ble_eq_true rfl)⟩ rfl (Nat.le_of_ble_eq_true rfl) ⟨by show _ ≤ 24; omega, by show _ ≤ 144; omega⟩ ?_
      have eg : grossS (σ.1 (sp σ (k).toNat 1).toNat) (z_254) = taoS (sT σ (k).toNat) (sp σ (k).toNat) (sb σ (k).toNat) (so σ (k).toNat) := by rw [eo]; rfl
      refine w_lstore X [(21, .long (wJ (grossS (σ.1 (sp σ (k).toNat 1).toNat) (z_254)))), (19, .long (wJ (z_252))), (17, .long (wJ (z_250))), (15, .long (wJ (taxS (σ.1 (sp σ (k).toNat 0).toNat) (all)))), (13, .long (wJ (z_7))), (12, .int (wI (z_4))), (11, .int (wI (1))), (10, .int (wI (host))), (9, .int (wI (all))), (8, .int (wI (home))), (7, .int (wI (mo))), (6, .int (wI (at9))), (5, .ref ab), (4, .ref ap), (3, .ref al), (2, .int (z)), (1, .int (wI (k))), (0, .ref x)] dL_isPerson_279 hl (by decide) rfl fun ls hl => ?_
      refine w_iload_n X dL_isPerson_281 hl 15 rfl rfl ?_
      refine w_bipush X dL_isPerson_282 (by decide) ?_
      refine w_low X hE (by omega) hl dL_isPerson_284 gL_isPerson_L_low ⟨(Nat.le_of_ble_eq_true rfl), (Nat.le_of_ble_eq_true rfl)⟩ (Nat.le_of_ble_eq_true rfl) ⟨by show _ ≤ 24; omega, by show _ ≤ 144; omega⟩ fun y_255 hy_255a hy_255b => ?_
      refine w_istore X [(23, .int (wI (y_255))), (21, .long (wJ (grossS (σ.1 (sp σ (k).toNat 1).toNat) (z_254)))), (19, .long (wJ (z_252))), (17, .long (wJ (z_250))), (15, .long (wJ (taxS (σ.1 (sp σ (k).toNat 0).toNat) (all)))), (13, .long (wJ (z_7))), (12, .int (wI (z_4))), (11, .int (wI (1))), (10, .int (wI (host))), (9, .int (wI (all))), (8, .int (wI (home))), (7, .int (wI (mo))), (6, .int (wI (at9))), (5, .ref ab), (4, .ref ap), (3, .ref al), (2, .int (z)), (1, .int (wI (k))), (0, .ref x)] dL_isPerson_287 hl (by decide) rfl fun ls hl => ?_
      refine w_iload X dL_isPerson_289 hl 7 rfl ?_
      refine w_if_eq X 417 dL_isPerson_291 (by decide) (by omega) (fun c_256 => ?_) (fun c_256 => ?_)
      · skip
        exact absurd c_256 (by omega)
      · skip
        refine w_aload_n X dL_isPerson_294 hl 18 rfl rfl ?_
        refine w_iload_n X dL_isPerson_295 hl 17 rfl rfl ?_
        refine w_aload X dL_isPerson_296 hl 14 rfl ?_
        refine w_iload X dL_isPerson_298 hl 12 rfl ?_
        refine w_bipush X dL_isPerson_300 (by decide) ?_
        refine w_iadd X dL_isPerson_302 fun z_257 ez_257 => ?_
        refine w_iald (y := wI ((sb σ (k).toNat : Int))) X hE hAp dL_isPerson_303 (by omega) (by omega) (by omega) (by rw [show (z_257).toNat = 8 * (k).toNat + 7 by omega]; exact (hPA _ (by omega)).2) ?_
        refine w_ir (vx_runSW (As := [.ref x, .int (wI (k)), .int (wI ((sb σ (k).toNat : Int)))]) (rest := []) X (c_L_part l hl9 g AX H x σ hσ hXv k hk9 ((sb σ (k).toNat : Int)) (by omega)) (vx_cwSW 3 X.2.2.2.2 gL_isPerson_L_part rfl rfl rfl (by decide +kernel) ⟨(Nat.le_of_ble_eq_true rfl), (Nat.le_of_ble_eq_true rfl)⟩) (w_pr2 hE hEs hNx hS hN) rfl rfl hl.1 rfl (lv_room (Nat.le_of_ble_eq_true rfl)) dL_isPerson_304 ⟨by show _ ≤ 24; omega, by show _ ≤ 144; omega⟩) hS hN fun v1 H_258 lo1 hp_259 hz_260 hq_261 hS => ?_
        obtain ⟨⟨y_262, rfl, hy_262a, hy_262b⟩, hXv⟩ := hp_259
        obtain ⟨hAx, fs9, hxO⟩ := hXv.ob
        have hAl := hAl.kept (hq_261 _ hAl.lt hnl)
        have hAp := hAp.kept (hq_261 _ hAp.lt hnp)
        have hAb := hAb.kept (hq_261 _ hAb.lt hnb)
        have hAn : ∀ q, H_258.size ≤ q → AX q := fun q h => hAn q (by omega)
        have ey_262 : y_262 = -4 := hy_262b (by omega)
        refine w_bipush X dL_isPerson_307 (by decide) ?_
        refine w_icmp_ne X 417 dL_isPerson_309 (by decide) (by omega) (by omega) (fun c_263 => ?_) (fun c_263 => ?_)
        · skip
          exact absurd c_263 (by omega)
        · skip
          refine w_aload_n X dL_isPerson_312 hl 18 rfl rfl ?_
          refine w_iload_n X dL_isPerson_313 hl 17 rfl rfl ?_
          refine w_iload X dL_isPerson_314 hl 0 rfl ?_
          refine w_xr (vx_runV (As := [.int (wI (k)), .int (wI (y_255))]) (rest := []) X (c_X3_held l hl9 g AX H_258 x σ hσ hXv (k) (y_255) (by omega) (by omega)) (cwV 2 X.2.2.2.2 gL_isPerson_X3_held rfl rfl rfl (by decide +kernel) ⟨(Nat.le_of_ble_eq_true rfl), (Nat.le_of_ble_eq_true rfl)⟩) (w_prVN hE hEs hS hN hxO rfl) rfl rfl hl.1 rfl (lv_room (Nat.le_of_ble_eq_true rfl)) dL_isPerson_316 ⟨by show _ ≤ 24; omega, by show _ ≤ 144; omega⟩) hS hN ?_ fun v_269 H_264 lo_265 hp_266 hz_267 hq_268 hS => ?_
          · intro E ce q9 H9 lo9 hxp hz9 hq9 hS9 hce hcv hcl
            have hx9 := hxp.1
            exact absurd hx9 (by rintro (⟨-, r9⟩ | ⟨-, -, r9⟩) <;> omega)
          obtain ⟨-, rfl, hXv⟩ := hp_266
          obtain ⟨hAx, fs9, hxO⟩ := hXv.ob
          have hAl := hAl.kept (hq_268 _ hAl.lt hnl)
          have hAp := hAp.kept (hq_268 _ hAp.lt hnp)
          have hAb := hAb.kept (hq_268 _ hAb.lt hnb)
          have hAn : ∀ q, H_264.size ≤ q → AX q := fun q h => hAn q (by omega)
          obtain ⟨v_270, ev_270, hv_270b, hv_2701, hv_2702⟩ := held_if (c := sp σ (k).toNat 3 ≤ y_255 ∧ y_255 < sp σ (k).toNat 4) (h := heldS (sH σ (k).toNat) (sp σ (k).toNat)) ⟨f4.1, f4.2.1⟩
          rw [ev_270]
          refine w_i2l X dL_isPerson_319 (by omega) ?_
          refine w_iload X dL_isPerson_320 hl 0 rfl ?_
          refine w_aload X dL_isPerson_322 hl 14 rfl ?_
          refine w_iload X dL_isPerson_324 hl 12 rfl ?_
          refine w_iconst X dL_isPerson_326 ?_
          refine w_iadd X dL_isPerson_327 fun z_271 ez_271 => ?_
          refine w_iald (y := wI (sp σ (k).toNat 3)) X hE hAp dL_isPerson_328 (by omega) (by omega) (by omega) (by rw [show (z_271).toNat = 8 * (k).toNat + 3 by omega]; exact (hPA _ (by omega)).1 3 (by omega)) ?_
          refine w_icmp_lt X 349 dL_isPerson_329 (by decide) (by omega) (by omega) (fun c_272 => ?_) (fun c_272 => ?_)
          · skip
            refine w_lconst X (0) dL_isPerson_349 (by decide) ?_
            refine w_lcmp X dL_isPerson_350 (by omega) (by omega) fun z_273 ez_273a ez_273b ez_273c ez_273d => ?_
            refine w_if_ne X 417 dL_isPerson_351 (by decide) (by omega) (fun c_274 => ?_) (fun c_274 => ?_)
            · skip
              exact absurd c_274 (by omega)
            · skip
              refine w_aload_n X dL_isPerson_354 hl 18 rfl rfl ?_
              refine w_iload_n X dL_isPerson_355 hl 17 rfl rfl ?_
              refine w_xr (vx_runV (As := [.int (wI (k))]) (rest := []) X (c_X3_supposedTax l hl9 g AX H_264 x σ hσ hXv (k) (by omega)) (cwV 1 X.2.2.2.2 gL_isPerson_X3_supposedTax rfl rfl rfl (by decide +kernel) ⟨(Nat.le_of_ble_eq_true rfl), (Nat.le_of_ble_eq_true rfl)⟩) (w_prVN hE hEs hS hN hxO rfl) rfl rfl hl.1 rfl (lv_room (Nat.le_of_ble_eq_true rfl)) dL_isPerson_356 ⟨by show _ ≤ 24; omega, by show _ ≤ 144; omega⟩) hS hN ?_ fun v_280 H_275 lo_276 hp_277 hz_278 hq_279 hS => ?_
              · exact fun E ce q9 H9 lo9 hxp hz9 hq9 hS9 hce hcv hcl => absurd hxp.1.2 (by omega)
              obtain ⟨-, rfl, hXv⟩ := hp_277
              obtain ⟨hAx, fs9, hxO⟩ := hXv.ob
              have hAl := hAl.kept (hq_279 _ hAl.lt hnl)
              have hAp := hAp.kept (hq_279 _ hAp.lt hnp)
              have hAb := hAb.kept (hq_279 _ hAb.lt hnb)
              have hAn : ∀ q, H_275.size ≤ q → AX q := fun q h => hAn q (by omega)
              refine w_i2l X dL_isPerson_359 (by omega) ?_
              refine w_lload X dL_isPerson_360 hl 4 rfl ?_
              refine w_lcmp X dL_isPerson_362 (by omega) (by omega) fun z_281 ez_281a ez_281b ez_281c ez_281d => ?_
              refine w_if_ne X 417 dL_isPerson_363 (by decide) (by omega) (fun c_282 => ?_) (fun c_282 => ?_)
              · skip
                exact absurd c_282 (by omega)
              · skip
                refine w_aload_n X dL_isPerson_366 hl 18 rfl rfl ?_
                refine w_iload_n X dL_isPerson_367 hl 17 rfl rfl ?_
                refine w_xr (vx_runV (As := [.int (wI (k))]) (rest := []) X (c_X3_homeIncome l hl9 g AX H_275 x σ hσ hXv (k) (by omega)) (cwV 1 X.2.2.2.2 gL_isPerson_X3_homeIncome rfl rfl rfl (by decide +kernel) ⟨(Nat.le_of_ble_eq_true rfl), (Nat.le_of_ble_eq_true rfl)⟩) (w_prVN hE hEs hS hN hxO rfl) rfl rfl hl.1 rfl (lv_room (Nat.le_of_ble_eq_true rfl)) dL_isPerson_368 ⟨by show _ ≤ 24; omega, by show _ ≤ 144; omega⟩) hS hN ?_ fun v_288 H_283 lo_284 hp_285 hz_286 hq_287 hS => ?_
                · exact fun E ce q9 H9 lo9 hxp hz9 hq9 hS9 hce hcv hcl => absurd hxp.1.2 (by omega)
                obtain ⟨-, rfl, hXv⟩ := hp_285
                obtain ⟨hAx, fs9, hxO⟩ := hXv.ob
                have hAl := hAl.kept (hq_287 _ hAl.lt hnl)
                have hAp := hAp.kept (hq_287 _ hAp.lt hnp)
                have hAb := hAb.kept (hq_287 _ hAb.lt hnb)
                have hAn : ∀ q, H_283.size ≤ q → AX q := fun q h => hAn q (by omega)
                refine w_iload X dL_isPerson_371 hl 10 rfl ?_
                refine w_icmp_ne X 417 dL_isPerson_373 (by decide) (by omega) (by omega) (fun c_289 => ?_) (fun c_289 => ?_)
                · skip
                  exact absurd c_289 (by omega)
                · skip
                  refine w_aload_n X dL_isPerson_376 hl 18 rfl rfl ?_
                  refine w_iload_n X dL_isPerson_377 hl 17 rfl rfl ?_
                  refine w_xr (vx_runV (As := [.int (wI (k))]) (rest := []) X (c_X3_homeTax l hl9 g AX H_283 x σ hσ hXv (k) (by omega)) (cwV 1 X.2.2.2.2 gL_isPerson_X3_homeTax rfl rfl rfl (by decide +kernel) ⟨(Nat.le_of_ble_eq_true rfl), (Nat.le_of_ble_eq_true rfl)⟩) (w_prVN hE hEs hS hN hxO rfl) rfl rfl hl.1 rfl (lv_room (Nat.le_of_ble_eq_true rfl)) dL_isPerson_378 ⟨by show _ ≤ 24; omega, by show _ ≤ 144; omega⟩) hS hN ?_ fun v_295 H_290 lo_291 hp_292 hz_293 hq_294 hS => ?_
                  · exact fun E ce q9 H9 lo9 hxp hz9 hq9 hS9 hce hcv hcl => absurd hxp.1.2 (by omega)
                  obtain ⟨-, rfl, hXv⟩ := hp_292
                  obtain ⟨hAx, fs9, hxO⟩ := hXv.ob
                  have hAl := hAl.kept (hq_294 _ hAl.lt hnl)
                  have hAp := hAp.kept (hq_294 _ hAp.lt hnp)
                  have hAb := hAb.kept (hq_294 _ hAb.lt hnb)
                  have hAn : ∀ q, H_290.size ≤ q → AX q := fun q h => hAn q (by omega)
                  refine w_i2l X dL_isPerson_381 (by omega) ?_
                  refine w_lload X dL_isPerson_382 hl 3 rfl ?_
                  refine w_lcmp X dL_isPerson_384 (by omega) (by omega) fun z_296 ez_296a ez_296b ez_296c ez_296d => ?_
                  refine w_if_ne X 417 dL_isPerson_385 (by decide) (by omega) (fun c_297 => ?_) (fun c_297 => ?_)
                  · skip
                    exact absurd c_297 (by omega)
                  · skip
                    refine w_aload_n X dL_isPerson_388 hl 18 rfl rfl ?_
                    refine w_iload_n X dL_isPerson_389 hl 17 rfl rfl ?_
                    refine w_xr (vx_runV (As := [.int (wI (k))]) (rest := []) X (c_X3_hostIncome l hl9 g AX H_290 x σ hσ hXv (k) (by omega)) (cwV 1 X.2.2.2.2 gL_isPerson_X3_hostIncome rfl rfl rfl (by decide +kernel) ⟨(Nat.le_of_ble_eq_true rfl), (Nat.le_of_ble_eq_true rfl)⟩) (w_prVN hE hEs hS hN hxO rfl) rfl rfl hl.1 rfl (lv_room (Nat.le_of_ble_eq_true rfl)) dL_isPerson_390 ⟨by show _ ≤ 24; omega, by show _ ≤ 144; omega⟩) hS hN ?_ fun v_303 H_298 lo_299 hp_300 hz_301 hq_302 hS => ?_
                    · exact fun E ce q9 H9 lo9 hxp hz9 hq9 hS9 hce hcv hcl => absurd hxp.1.2 (by omega)
                    obtain ⟨-, rfl, hXv⟩ := hp_300
                    obtain ⟨hAx, fs9, hxO⟩ := hXv.ob
                    have hAl := hAl.kept (hq_302 _ hAl.lt hnl)
                    have hAp := hAp.kept (hq_302 _ hAp.lt hnp)
                    have hAb := hAb.kept (hq_302 _ hAb.lt hnb)
                    have hAn : ∀ q, H_298.size ≤ q → AX q := fun q h => hAn q (by omega)
                    refine w_iload X dL_isPerson_393 hl 8 rfl ?_
                    refine w_iload X dL_isPerson_395 hl 6 rfl ?_
                    refine w_iadd X dL_isPerson_397 fun z_304 ez_304 => ?_
                    refine w_icmp_ne X 417 dL_isPerson_398 (by decide) (by omega) (by omega) (fun c_305 => ?_) (fun c_305 => ?_)
                    · skip
                      exact absurd c_305 (by omega)
                    · skip
                      refine w_aload_n X dL_isPerson_401 hl 18 rfl rfl ?_
                      refine w_iload_n X dL_isPerson_402 hl 17 rfl rfl ?_
                      refine w_xr (vx_runV (As := [.int (wI (k))]) (rest := []) X (c_X3_hostTax l hl9 g AX H_298 x σ hσ hXv (k) (by omega)) (cwV 1 X.2.2.2.2 gL_isPerson_X3_hostTax rfl rfl rfl (by decide +kernel) ⟨(Nat.le_of_ble_eq_true rfl), (Nat.le_of_ble_eq_true rfl)⟩) (w_prVN hE hEs hS hN hxO rfl) rfl rfl hl.1 rfl (lv_room (Nat.le_of_ble_eq_true rfl)) dL_isPerson_403 ⟨by show _ ≤ 24; omega, by show _ ≤ 144; omega⟩) hS hN ?_ fun v_311 H_306 lo_307 hp_308 hz_309 hq_310 hS => ?_
                      · exact fun E ce q9 H9 lo9 hxp hz9 hq9 hS9 hce hcv hcl => absurd hxp.1.2 (by omega)
                      obtain ⟨-, rfl, hXv⟩ := hp_308
                      obtain ⟨hAx, fs9, hxO⟩ := hXv.ob
                      have hAl := hAl.kept (hq_310 _ hAl.lt hnl)
                      have hAp := hAp.kept (hq_310 _ hAp.lt hnp)
                      have hAb := hAb.kept (hq_310 _ hAb.lt hnb)
                      have hAn : ∀ q, H_306.size ≤ q → AX q := fun q h => hAn q (by omega)
                      refine w_i2l X dL_isPerson_406 (by omega) ?_
                      refine w_lload X dL_isPerson_407 hl 1 rfl ?_
                      refine w_lcmp X dL_isPerson_409 (by omega) (by omega) fun z_312 ez_312a ez_312b ez_312c ez_312d => ?_
                      refine w_if_ne X 417 dL_isPerson_410 (by decide) (by omega) (fun c_313 => ?_) (fun c_313 => ?_)
                      · skip
                        exact absurd c_313 (by omega)
                      · skip
                        refine w_iconst X dL_isPerson_413 ?_
                        refine w_goto X 418 dL_isPerson_414 (by decide) ?_
                        refine w_istore X [(11, .int (wI (1))), (23, .int (wI (y_255))), (21, .long (wJ (grossS (σ.1 (sp σ (k).toNat 1).toNat) (z_254)))), (19, .long (wJ (z_252))), (17, .long (wJ (z_250))), (15, .long (wJ (taxS (σ.1 (sp σ (k).toNat 0).toNat) (all)))), (13, .long (wJ (z_7))), (12, .int (wI (z_4))), (10, .int (wI (host))), (9, .int (wI (all))), (8, .int (wI (home))), (7, .int (wI (mo))), (6, .int (wI (at9))), (5, .ref ab), (4, .ref ap), (3, .ref al), (2, .int (z)), (1, .int (wI (k))), (0, .ref x)] dL_isPerson_418 hl (by decide) rfl fun ls hl => ?_
                        refine w_iload X dL_isPerson_420 hl 0 rfl ?_
                        refine w_if_eq X 485 dL_isPerson_422 (by decide) (by omega) (fun c_314 => ?_) (fun c_314 => ?_)
                        · skip
                          exact absurd c_314 (by omega)
                        · skip
                          refine w_aload_n X dL_isPerson_425 hl 18 rfl rfl ?_
                          refine w_iload_n X dL_isPerson_426 hl 17 rfl rfl ?_
                          refine w_xr (vx_runV (As := [.int (wI (k))]) (rest := []) X (c_X3_borne l hl9 g AX H_306 x σ hσ hXv (k) (by omega)) (cwV 1 X.2.2.2.2 gL_isPerson_X3_borne rfl rfl rfl (by decide +kernel) ⟨(Nat.le_of_ble_eq_true rfl), (Nat.le_of_ble_eq_true rfl)⟩) (w_prVN hE hEs hS hN hxO rfl) rfl rfl hl.1 rfl (lv_room (Nat.le_of_ble_eq_true rfl)) dL_isPerson_427 ⟨by show _ ≤ 24; omega, by show _ ≤ 144; omega⟩) hS hN ?_ fun v_320 H_315 lo_316 hp_317 hz_318 hq_319 hS => ?_
                          · exact fun E ce q9 H9 lo9 hxp hz9 hq9 hS9 hce hcv hcl => absurd hxp.1.2 (by omega)
                          obtain ⟨-, rfl, hXv⟩ := hp_317
                          obtain ⟨hAx, fs9, hxO⟩ := hXv.ob
                          have hAl := hAl.kept (hq_319 _ hAl.lt hnl)
                          have hAp := hAp.kept (hq_319 _ hAp.lt hnp)
                          have hAb := hAb.kept (hq_319 _ hAb.lt hnb)
                          have hAn : ∀ q, H_315.size ≤ q → AX q := fun q h => hAn q (by omega)
                          refine w_i2l X dL_isPerson_430 (by omega) ?_
                          refine w_lload X dL_isPerson_431 hl 3 rfl ?_
                          refine w_lcmp X dL_isPerson_433 (by omega) (by omega) fun z_321 ez_321a ez_321b ez_321c ez_321d => ?_
                          refine w_if_ne X 485 dL_isPerson_434 (by decide) (by omega) (fun c_322 => ?_) (fun c_322 => ?_)
                          · skip
                            exact absurd c_322 (by omega)
                          · skip
                            refine w_aload_n X dL_isPerson_437 hl 18 rfl rfl ?_
                            refine w_iload_n X dL_isPerson_438 hl 17 rfl rfl ?_
                            refine w_xr (vx_runV (As := [.int (wI (k))]) (rest := []) X (c_X3_settlement l hl9 g AX H_315 x σ hσ hXv (k) (by omega)) (cwV 1 X.2.2.2.2 gL_isPerson_X3_settlement rfl rfl rfl (by decide +kernel) ⟨(Nat.le_of_ble_eq_true rfl), (Nat.le_of_ble_eq_true rfl)⟩) (w_prVN hE hEs hS hN hxO rfl) rfl rfl hl.1 rfl (lv_room (Nat.le_of_ble_eq_true rfl)) dL_isPerson_439 ⟨by show _ ≤ 24; omega, by show _ ≤ 144; omega⟩) hS hN ?_ fun v_328 H_323 lo_324 hp_325 hz_326 hq_327 hS => ?_
                            · exact fun E ce q9 H9 lo9 hxp hz9 hq9 hS9 hce hcv hcl => absurd hxp.1.2 (by omega)
                            obtain ⟨-, rfl, hXv⟩ := hp_325
                            obtain ⟨hAx, fs9, hxO⟩ := hXv.ob
                            have hAl := hAl.kept (hq_327 _ hAl.lt hnl)
                            have hAp := hAp.kept (hq_327 _ hAp.lt hnp)
                            have hAb := hAb.kept (hq_327 _ hAb.lt hnb)
                            have hAn : ∀ q, H_323.size ≤ q → AX q := fun q h => hAn q (by omega)
                            refine w_i2l X dL_isPerson_442 (by omega) ?_
                            refine w_lload X dL_isPerson_443 hl 5 rfl ?_
                            refine w_lload X dL_isPerson_445 hl 3 rfl ?_
                            refine w_lsub X dL_isPerson_447 fun z_329 ez_329 => ?_
                            refine w_lcmp X dL_isPerson_448 (by omega) (by omega) fun z_330 ez_330a ez_330b ez_330c ez_330d => ?_
                            refine w_if_ne X 485 dL_isPerson_449 (by decide) (by omega) (fun c_331 => ?_) (fun c_331 => ?_)
                            · skip
                              exact absurd c_331 (by omega)
                            · skip
                              refine w_aload_n X dL_isPerson_452 hl 18 rfl rfl ?_
                              refine w_iload_n X dL_isPerson_453 hl 17 rfl rfl ?_
                              refine w_xr (vx_runV (As := [.int (wI (k))]) (rest := []) X (c_X3_cost l hl9 g AX H_323 x σ hσ hXv (k) (by omega)) (cwV 1 X.2.2.2.2 gL_isPerson_X3_cost rfl rfl rfl (by decide +kernel) ⟨(Nat.le_of_ble_eq_true rfl), (Nat.le_of_ble_eq_true rfl)⟩) (w_prVN hE hEs hS hN hxO rfl) rfl rfl hl.1 rfl (lv_room (Nat.le_of_ble_eq_true rfl)) dL_isPerson_454 ⟨by show _ ≤ 24; omega, by show _ ≤ 144; omega⟩) hS hN ?_ fun v_337 H_332 lo_333 hp_334 hz_335 hq_336 hS => ?_
                              · exact fun E ce q9 H9 lo9 hxp hz9 hq9 hS9 hce hcv hcl => absurd hxp.1.2 (by omega)
                              obtain ⟨-, rfl, hXv⟩ := hp_334
                              obtain ⟨hAx, fs9, hxO⟩ := hXv.ob
                              have hAl := hAl.kept (hq_336 _ hAl.lt hnl)
                              have hAp := hAp.kept (hq_336 _ hAp.lt hnp)
                              have hAb := hAb.kept (hq_336 _ hAb.lt hnb)
                              have hAn : ∀ q, H_332.size ≤ q → AX q := fun q h => hAn q (by omega)
                              refine w_i2l X dL_isPerson_457 (by omega) ?_
                              refine w_lload X dL_isPerson_458 hl 2 rfl ?_
                              refine w_iload X dL_isPerson_460 hl 7 rfl ?_
                              refine w_i2l X dL_isPerson_462 (by omega) ?_
                              refine w_ladd X dL_isPerson_463 fun z_338 ez_338 => ?_
                              refine w_lload X dL_isPerson_464 hl 6 rfl ?_
                              refine w_iload X dL_isPerson_466 hl 11 rfl ?_
                              refine w_i2l X dL_isPerson_468 (by omega) ?_
                              refine w_lmul X dL_isPerson_469 fun z_339 ez_339 => ?_
                              have eh2 : z_339 = heldS (sH σ (k).toNat) (sp σ (k).toNat) * monS (sp σ (k).toNat) := by rw [ez_339, ee, hmo]
                              refine w_lsub X dL_isPerson_470 fun z_340 ez_340 => ?_
                              refine w_lload X dL_isPerson_471 hl 5 rfl ?_
                              refine w_lload X dL_isPerson_473 hl 3 rfl ?_
                              refine w_lsub X dL_isPerson_475 fun z_341 ez_341 => ?_
                              refine w_lsub X dL_isPerson_476 fun z_342 ez_342 => ?_
                              refine w_lcmp X dL_isPerson_477 (by omega) (by omega) fun z_343 ez_343a ez_343b ez_343c ez_343d => ?_
                              refine w_if_ne X 485 dL_isPerson_478 (by decide) (by omega) (fun c_344 => ?_) (fun c_344 => ?_)
                              · skip
                                exact absurd c_344 (by omega)
                              · skip
                                refine w_iconst X dL_isPerson_481 ?_
                                refine w_goto X 486 dL_isPerson_482 (by decide) ?_
                                exact w_zrR X hr hk hS (Or.inr rfl) ⟨rfl, hXv⟩ dL_isPerson_486 (Nat.le_of_ble_eq_true rfl) (Nat.le_of_ble_eq_true rfl)
          · skip
            refine w_iload X dL_isPerson_332 hl 0 rfl ?_
            refine w_aload X dL_isPerson_334 hl 14 rfl ?_
            refine w_iload X dL_isPerson_336 hl 12 rfl ?_
            refine w_iconst X dL_isPerson_338 ?_
            refine w_iadd X dL_isPerson_339 fun z_345 ez_345 => ?_
            refine w_iald (y := wI (sp σ (k).toNat 4)) X hE hAp dL_isPerson_340 (by omega) (by omega) (by omega) (by rw [show (z_345).toNat = 8 * (k).toNat + 4 by omega]; exact (hPA _ (by omega)).1 4 (by omega)) ?_
            refine w_icmp_ge X 349 dL_isPerson_341 (by decide) (by omega) (by omega) (fun c_346 => ?_) (fun c_346 => ?_)
            · skip
              refine w_lconst X (0) dL_isPerson_349 (by decide) ?_
              refine w_lcmp X dL_isPerson_350 (by omega) (by omega) fun z_347 ez_347a ez_347b ez_347c ez_347d => ?_
              refine w_if_ne X 417 dL_isPerson_351 (by decide) (by omega) (fun c_348 => ?_) (fun c_348 => ?_)
              · skip
                exact absurd c_348 (by omega)
              · skip
                refine w_aload_n X dL_isPerson_354 hl 18 rfl rfl ?_
                refine w_iload_n X dL_isPerson_355 hl 17 rfl rfl ?_
                refine w_xr (vx_runV (As := [.int (wI (k))]) (rest := []) X (c_X3_supposedTax l hl9 g AX H_264 x σ hσ hXv (k) (by omega)) (cwV 1 X.2.2.2.2 gL_isPerson_X3_supposedTax rfl rfl rfl (by decide +kernel) ⟨(Nat.le_of_ble_eq_true rfl), (Nat.le_of_ble_eq_true rfl)⟩) (w_prVN hE hEs hS hN hxO rfl) rfl rfl hl.1 rfl (lv_room (Nat.le_of_ble_eq_true rfl)) dL_isPerson_356 ⟨by show _ ≤ 24; omega, by show _ ≤ 144; omega⟩) hS hN ?_ fun v_354 H_349 lo_350 hp_351 hz_352 hq_353 hS => ?_
                · exact fun E ce q9 H9 lo9 hxp hz9 hq9 hS9 hce hcv hcl => absurd hxp.1.2 (by omega)
                obtain ⟨-, rfl, hXv⟩ := hp_351
                obtain ⟨hAx, fs9, hxO⟩ := hXv.ob
                have hAl := hAl.kept (hq_353 _ hAl.lt hnl)
                have hAp := hAp.kept (hq_353 _ hAp.lt hnp)
                have hAb := hAb.kept (hq_353 _ hAb.lt hnb)
                have hAn : ∀ q, H_349.size ≤ q → AX q := fun q h => hAn q (by omega)
                refine w_i2l X dL_isPerson_359 (by omega) ?_
                refine w_lload X dL_isPerson_360 hl 4 rfl ?_
                refine w_lcmp X dL_isPerson_362 (by omega) (by omega) fun z_355 ez_355a ez_355b ez_355c ez_355d => ?_
                refine w_if_ne X 417 dL_isPerson_363 (by decide) (by omega) (fun c_356 => ?_) (fun c_356 => ?_)
                · skip
                  exact absurd c_356 (by omega)
                · skip
                  refine w_aload_n X dL_isPerson_366 hl 18 rfl rfl ?_
                  refine w_iload_n X dL_isPerson_367 hl 17 rfl rfl ?_
                  refine w_xr (vx_runV (As := [.int (wI (k))]) (rest := []) X (c_X3_homeIncome l hl9 g AX H_349 x σ hσ hXv (k) (by omega)) (cwV 1 X.2.2.2.2 gL_isPerson_X3_homeIncome rfl rfl rfl (by decide +kernel) ⟨(Nat.le_of_ble_eq_true rfl), (Nat.le_of_ble_eq_true rfl)⟩) (w_prVN hE hEs hS hN hxO rfl) rfl rfl hl.1 rfl (lv_room (Nat.le_of_ble_eq_true rfl)) dL_isPerson_368 ⟨by show _ ≤ 24; omega, by show _ ≤ 144; omega⟩) hS hN ?_ fun v_362 H_357 lo_358 hp_359 hz_360 hq_361 hS => ?_
                  · exact fun E ce q9 H9 lo9 hxp hz9 hq9 hS9 hce hcv hcl => absurd hxp.1.2 (by omega)
                  obtain ⟨-, rfl, hXv⟩ := hp_359
                  obtain ⟨hAx, fs9, hxO⟩ := hXv.ob
                  have hAl := hAl.kept (hq_361 _ hAl.lt hnl)
                  have hAp := hAp.kept (hq_361 _ hAp.lt hnp)
                  have hAb := hAb.kept (hq_361 _ hAb.lt hnb)
                  have hAn : ∀ q, H_357.size ≤ q → AX q := fun q h => hAn q (by omega)
                  refine w_iload X dL_isPerson_371 hl 10 rfl ?_
                  refine w_icmp_ne X 417 dL_isPerson_373 (by decide) (by omega) (by omega) (fun c_363 => ?_) (fun c_363 => ?_)
                  · skip
                    exact absurd c_363 (by omega)
                  · skip
                    refine w_aload_n X dL_isPerson_376 hl 18 rfl rfl ?_
                    refine w_iload_n X dL_isPerson_377 hl 17 rfl rfl ?_
                    refine w_xr (vx_runV (As := [.int (wI (k))]) (rest := []) X (c_X3_homeTax l hl9 g AX H_357 x σ hσ hXv (k) (by omega)) (cwV 1 X.2.2.2.2 gL_isPerson_X3_homeTax rfl rfl rfl (by decide +kernel) ⟨(Nat.le_of_ble_eq_true rfl), (Nat.le_of_ble_eq_true rfl)⟩) (w_prVN hE hEs hS hN hxO rfl) rfl rfl hl.1 rfl (lv_room (Nat.le_of_ble_eq_true rfl)) dL_isPerson_378 ⟨by show _ ≤ 24; omega, by show _ ≤ 144; omega⟩) hS hN ?_ fun v_369 H_364 lo_365 hp_366 hz_367 hq_368 hS => ?_
                    · exact fun E ce q9 H9 lo9 hxp hz9 hq9 hS9 hce hcv hcl => absurd hxp.1.2 (by omega)
                    obtain ⟨-, rfl, hXv⟩ := hp_366
                    obtain ⟨hAx, fs9, hxO⟩ := hXv.ob
                    have hAl := hAl.kept (hq_368 _ hAl.lt hnl)
                    have hAp := hAp.kept (hq_368 _ hAp.lt hnp)
                    have hAb := hAb.kept (hq_368 _ hAb.lt hnb)
                    have hAn : ∀ q, H_364.size ≤ q → AX q := fun q h => hAn q (by omega)
                    refine w_i2l X dL_isPerson_381 (by omega) ?_
                    refine w_lload X dL_isPerson_382 hl 3 rfl ?_
                    refine w_lcmp X dL_isPerson_384 (by omega) (by omega) fun z_370 ez_370a ez_370b ez_370c ez_370d => ?_
                    refine w_if_ne X 417 dL_isPerson_385 (by decide) (by omega) (fun c_371 => ?_) (fun c_371 => ?_)
                    · skip
                      exact absurd c_371 (by omega)
                    · skip
                      refine w_aload_n X dL_isPerson_388 hl 18 rfl rfl ?_
                      refine w_iload_n X dL_isPerson_389 hl 17 rfl rfl ?_
                      refine w_xr (vx_runV (As := [.int (wI (k))]) (rest := []) X (c_X3_hostIncome l hl9 g AX H_364 x σ hσ hXv (k) (by omega)) (cwV 1 X.2.2.2.2 gL_isPerson_X3_hostIncome rfl rfl rfl (by decide +kernel) ⟨(Nat.le_of_ble_eq_true rfl), (Nat.le_of_ble_eq_true rfl)⟩) (w_prVN hE hEs hS hN hxO rfl) rfl rfl hl.1 rfl (lv_room (Nat.le_of_ble_eq_true rfl)) dL_isPerson_390 ⟨by show _ ≤ 24; omega, by show _ ≤ 144; omega⟩) hS hN ?_ fun v_377 H_372 lo_373 hp_374 hz_375 hq_376 hS => ?_
                      · exact fun E ce q9 H9 lo9 hxp hz9 hq9 hS9 hce hcv hcl => absurd hxp.1.2 (by omega)
                      obtain ⟨-, rfl, hXv⟩ := hp_374
                      obtain ⟨hAx, fs9, hxO⟩ := hXv.ob
                      have hAl := hAl.kept (hq_376 _ hAl.lt hnl)
                      have hAp := hAp.kept (hq_376 _ hAp.lt hnp)
                      have hAb := hAb.kept (hq_376 _ hAb.lt hnb)
                      have hAn : ∀ q, H_372.size ≤ q → AX q := fun q h => hAn q (by omega)
                      refine w_iload X dL_isPerson_393 hl 8 rfl ?_
                      refine w_iload X dL_isPerson_395 hl 6 rfl ?_
                      refine w_iadd X dL_isPerson_397 fun z_378 ez_378 => ?_
                      refine w_icmp_ne X 417 dL_isPerson_398 (by decide) (by omega) (by omega) (fun c_379 => ?_) (fun c_379 => ?_)
                      · skip
                        exact absurd c_379 (by omega)
                      · skip
                        refine w_aload_n X dL_isPerson_401 hl 18 rfl rfl ?_
                        refine w_iload_n X dL_isPerson_402 hl 17 rfl rfl ?_
                        refine w_xr (vx_runV (As := [.int (wI (k))]) (rest := []) X (c_X3_hostTax l hl9 g AX H_372 x σ hσ hXv (k) (by omega)) (cwV 1 X.2.2.2.2 gL_isPerson_X3_hostTax rfl rfl rfl (by decide +kernel) ⟨(Nat.le_of_ble_eq_true rfl), (Nat.le_of_ble_eq_true rfl)⟩) (w_prVN hE hEs hS hN hxO rfl) rfl rfl hl.1 rfl (lv_room (Nat.le_of_ble_eq_true rfl)) dL_isPerson_403 ⟨by show _ ≤ 24; omega, by show _ ≤ 144; omega⟩) hS hN ?_ fun v_385 H_380 lo_381 hp_382 hz_383 hq_384 hS => ?_
                        · exact fun E ce q9 H9 lo9 hxp hz9 hq9 hS9 hce hcv hcl => absurd hxp.1.2 (by omega)
                        obtain ⟨-, rfl, hXv⟩ := hp_382
                        obtain ⟨hAx, fs9, hxO⟩ := hXv.ob
                        have hAl := hAl.kept (hq_384 _ hAl.lt hnl)
                        have hAp := hAp.kept (hq_384 _ hAp.lt hnp)
                        have hAb := hAb.kept (hq_384 _ hAb.lt hnb)
                        have hAn : ∀ q, H_380.size ≤ q → AX q := fun q h => hAn q (by omega)
                        refine w_i2l X dL_isPerson_406 (by omega) ?_
                        refine w_lload X dL_isPerson_407 hl 1 rfl ?_
                        refine w_lcmp X dL_isPerson_409 (by omega) (by omega) fun z_386 ez_386a ez_386b ez_386c ez_386d => ?_
                        refine w_if_ne X 417 dL_isPerson_410 (by decide) (by omega) (fun c_387 => ?_) (fun c_387 => ?_)
                        · skip
                          exact absurd c_387 (by omega)
                        · skip
                          refine w_iconst X dL_isPerson_413 ?_
                          refine w_goto X 418 dL_isPerson_414 (by decide) ?_
                          refine w_istore X [(11, .int (wI (1))), (23, .int (wI (y_255))), (21, .long (wJ (grossS (σ.1 (sp σ (k).toNat 1).toNat) (z_254)))), (19, .long (wJ (z_252))), (17, .long (wJ (z_250))), (15, .long (wJ (taxS (σ.1 (sp σ (k).toNat 0).toNat) (all)))), (13, .long (wJ (z_7))), (12, .int (wI (z_4))), (10, .int (wI (host))), (9, .int (wI (all))), (8, .int (wI (home))), (7, .int (wI (mo))), (6, .int (wI (at9))), (5, .ref ab), (4, .ref ap), (3, .ref al), (2, .int (z)), (1, .int (wI (k))), (0, .ref x)] dL_isPerson_418 hl (by decide) rfl fun ls hl => ?_
                          refine w_iload X dL_isPerson_420 hl 0 rfl ?_
                          refine w_if_eq X 485 dL_isPerson_422 (by decide) (by omega) (fun c_388 => ?_) (fun c_388 => ?_)
                          · skip
                            exact absurd c_388 (by omega)
                          · skip
                            refine w_aload_n X dL_isPerson_425 hl 18 rfl rfl ?_
                            refine w_iload_n X dL_isPerson_426 hl 17 rfl rfl ?_
                            refine w_xr (vx_runV (As := [.int (wI (k))]) (rest := []) X (c_X3_borne l hl9 g AX H_380 x σ hσ hXv (k) (by omega)) (cwV 1 X.2.2.2.2 gL_isPerson_X3_borne rfl rfl rfl (by decide +kernel) ⟨(Nat.le_of_ble_eq_true rfl), (Nat.le_of_ble_eq_true rfl)⟩) (w_prVN hE hEs hS hN hxO rfl) rfl rfl hl.1 rfl (lv_room (Nat.le_of_ble_eq_true rfl)) dL_isPerson_427 ⟨by show _ ≤ 24; omega, by show _ ≤ 144; omega⟩) hS hN ?_ fun v_394 H_389 lo_390 hp_391 hz_392 hq_393 hS => ?_
                            · exact fun E ce q9 H9 lo9 hxp hz9 hq9 hS9 hce hcv hcl => absurd hxp.1.2 (by omega)
                            obtain ⟨-, rfl, hXv⟩ := hp_391
                            obtain ⟨hAx, fs9, hxO⟩ := hXv.ob
                            have hAl := hAl.kept (hq_393 _ hAl.lt hnl)
                            have hAp := hAp.kept (hq_393 _ hAp.lt hnp)
                            have hAb := hAb.kept (hq_393 _ hAb.lt hnb)
                            have hAn : ∀ q, H_389.size ≤ q → AX q := fun q h => hAn q (by omega)
                            refine w_i2l X dL_isPerson_430 (by omega) ?_
                            refine w_lload X dL_isPerson_431 hl 3 rfl ?_
                            refine w_lcmp X dL_isPerson_433 (by omega) (by omega) fun z_395 ez_395a ez_395b ez_395c ez_395d => ?_
                            refine w_if_ne X 485 dL_isPerson_434 (by decide) (by omega) (fun c_396 => ?_) (fun c_396 => ?_)
                            · skip
                              exact absurd c_396 (by omega)
                            · skip
                              refine w_aload_n X dL_isPerson_437 hl 18 rfl rfl ?_
                              refine w_iload_n X dL_isPerson_438 hl 17 rfl rfl ?_
                              refine w_xr (vx_runV (As := [.int (wI (k))]) (rest := []) X (c_X3_settlement l hl9 g AX H_389 x σ hσ hXv (k) (by omega)) (cwV 1 X.2.2.2.2 gL_isPerson_X3_settlement rfl rfl rfl (by decide +kernel) ⟨(Nat.le_of_ble_eq_true rfl), (Nat.le_of_ble_eq_true rfl)⟩) (w_prVN hE hEs hS hN hxO rfl) rfl rfl hl.1 rfl (lv_room (Nat.le_of_ble_eq_true rfl)) dL_isPerson_439 ⟨by show _ ≤ 24; omega, by show _ ≤ 144; omega⟩) hS hN ?_ fun v_402 H_397 lo_398 hp_399 hz_400 hq_401 hS => ?_
                              · exact fun E ce q9 H9 lo9 hxp hz9 hq9 hS9 hce hcv hcl => absurd hxp.1.2 (by omega)
                              obtain ⟨-, rfl, hXv⟩ := hp_399
                              obtain ⟨hAx, fs9, hxO⟩ := hXv.ob
                              have hAl := hAl.kept (hq_401 _ hAl.lt hnl)
                              have hAp := hAp.kept (hq_401 _ hAp.lt hnp)
                              have hAb := hAb.kept (hq_401 _ hAb.lt hnb)
                              have hAn : ∀ q, H_397.size ≤ q → AX q := fun q h => hAn q (by omega)
                              refine w_i2l X dL_isPerson_442 (by omega) ?_
                              refine w_lload X dL_isPerson_443 hl 5 rfl ?_
                              refine w_lload X dL_isPerson_445 hl 3 rfl ?_
                              refine w_lsub X dL_isPerson_447 fun z_403 ez_403 => ?_
                              refine w_lcmp X dL_isPerson_448 (by omega) (by omega) fun z_404 ez_404a ez_404b ez_404c ez_404d => ?_
                              refine w_if_ne X 485 dL_isPerson_449 (by decide) (by omega) (fun c_405 => ?_) (fun c_405 => ?_)
                              · skip
                                exact absurd c_405 (by omega)
                              · skip
                                refine w_aload_n X dL_isPerson_452 hl 18 rfl rfl ?_
                                refine w_iload_n X dL_isPerson_453 hl 17 rfl rfl ?_
                                refine w_xr (vx_runV (As := [.int (wI (k))]) (rest := []) X (c_X3_cost l hl9 g AX H_397 x σ hσ hXv (k) (by omega)) (cwV 1 X.2.2.2.2 gL_isPerson_X3_cost rfl rfl rfl (by decide +kernel) ⟨(Nat.le_of_ble_eq_true rfl), (Nat.le_of_ble_eq_true rfl)⟩) (w_prVN hE hEs hS hN hxO rfl) rfl rfl hl.1 rfl (lv_room (Nat.le_of_ble_eq_true rfl)) dL_isPerson_454 ⟨by show _ ≤ 24; omega, by show _ ≤ 144; omega⟩) hS hN ?_ fun v_411 H_406 lo_407 hp_408 hz_409 hq_410 hS => ?_
                                · exact fun E ce q9 H9 lo9 hxp hz9 hq9 hS9 hce hcv hcl => absurd hxp.1.2 (by omega)
                                obtain ⟨-, rfl, hXv⟩ := hp_408
                                obtain ⟨hAx, fs9, hxO⟩ := hXv.ob
                                have hAl := hAl.kept (hq_410 _ hAl.lt hnl)
                                have hAp := hAp.kept (hq_410 _ hAp.lt hnp)
                                have hAb := hAb.kept (hq_410 _ hAb.lt hnb)
                                have hAn : ∀ q, H_406.size ≤ q → AX q := fun q h => hAn q (by omega)
                                refine w_i2l X dL_isPerson_457 (by omega) ?_
                                refine w_lload X dL_isPerson_458 hl 2 rfl ?_
                                refine w_iload X dL_isPerson_460 hl 7 rfl ?_
                                refine w_i2l X dL_isPerson_462 (by omega) ?_
                                refine w_ladd X dL_isPerson_463 fun z_412 ez_412 => ?_
                                refine w_lload X dL_isPerson_464 hl 6 rfl ?_
                                refine w_iload X dL_isPerson_466 hl 11 rfl ?_
                                refine w_i2l X dL_isPerson_468 (by omega) ?_
                                refine w_lmul X dL_isPerson_469 fun z_413 ez_413 => ?_
                                have eh2 : z_413 = heldS (sH σ (k).toNat) (sp σ (k).toNat) * monS (sp σ (k).toNat) := by rw [ez_413, ee, hmo]
                                refine w_lsub X dL_isPerson_470 fun z_414 ez_414 => ?_
                                refine w_lload X dL_isPerson_471 hl 5 rfl ?_
                                refine w_lload X dL_isPerson_473 hl 3 rfl ?_
                                refine w_lsub X dL_isPerson_475 fun z_415 ez_415 => ?_
                                refine w_lsub X dL_isPerson_476 fun z_416 ez_416 => ?_
                                refine w_lcmp X dL_isPerson_477 (by omega) (by omega) fun z_417 ez_417a ez_417b ez_417c ez_417d => ?_
                                refine w_if_ne X 485 dL_isPerson_478 (by decide) (by omega) (fun c_418 => ?_) (fun c_418 => ?_)
                                · skip
                                  exact absurd c_418 (by omega)
                                · skip
                                  refine w_iconst X dL_isPerson_481 ?_
                                  refine w_goto X 486 dL_isPerson_482 (by decide) ?_
                                  exact w_zrR X hr hk hS (Or.inr rfl) ⟨rfl, hXv⟩ dL_isPerson_486 (Nat.le_of_ble_eq_true rfl) (Nat.le_of_ble_eq_true rfl)
            · skip
              refine w_lload X dL_isPerson_344 hl 5 rfl ?_
              refine w_goto X 350 dL_isPerson_346 (by decide) ?_
              refine w_lcmp X dL_isPerson_350 (by omega) (by omega) fun z_419 ez_419a ez_419b ez_419c ez_419d => ?_
              refine w_if_ne X 417 dL_isPerson_351 (by decide) (by omega) (fun c_420 => ?_) (fun c_420 => ?_)
              · skip
                exact absurd c_420 (by omega)
              · skip
                refine w_aload_n X dL_isPerson_354 hl 18 rfl rfl ?_
                refine w_iload_n X dL_isPerson_355 hl 17 rfl rfl ?_
                refine w_xr (vx_runV (As := [.int (wI (k))]) (rest := []) X (c_X3_supposedTax l hl9 g AX H_264 x σ hσ hXv (k) (by omega)) (cwV 1 X.2.2.2.2 gL_isPerson_X3_supposedTax rfl rfl rfl (by decide +kernel) ⟨(Nat.le_of_ble_eq_true rfl), (Nat.le_of_ble_eq_true rfl)⟩) (w_prVN hE hEs hS hN hxO rfl) rfl rfl hl.1 rfl (lv_room (Nat.le_of_ble_eq_true rfl)) dL_isPerson_356 ⟨by show _ ≤ 24; omega, by show _ ≤ 144; omega⟩) hS hN ?_ fun v_426 H_421 lo_422 hp_423 hz_424 hq_425 hS => ?_
                · exact fun E ce q9 H9 lo9 hxp hz9 hq9 hS9 hce hcv hcl => absurd hxp.1.2 (by omega)
                obtain ⟨-, rfl, hXv⟩ := hp_423
                obtain ⟨hAx, fs9, hxO⟩ := hXv.ob
                have hAl := hAl.kept (hq_425 _ hAl.lt hnl)
                have hAp := hAp.kept (hq_425 _ hAp.lt hnp)
                have hAb := hAb.kept (hq_425 _ hAb.lt hnb)
                have hAn : ∀ q, H_421.size ≤ q → AX q := fun q h => hAn q (by omega)
                refine w_i2l X dL_isPerson_359 (by omega) ?_
                refine w_lload X dL_isPerson_360 hl 4 rfl ?_
                refine w_lcmp X dL_isPerson_362 (by omega) (by omega) fun z_427 ez_427a ez_427b ez_427c ez_427d => ?_
                refine w_if_ne X 417 dL_isPerson_363 (by decide) (by omega) (fun c_428 => ?_) (fun c_428 => ?_)
                · skip
                  exact absurd c_428 (by omega)
                · skip
                  refine w_aload_n X dL_isPerson_366 hl 18 rfl rfl ?_
                  refine w_iload_n X dL_isPerson_367 hl 17 rfl rfl ?_
                  refine w_xr (vx_runV (As := [.int (wI (k))]) (rest := []) X (c_X3_homeIncome l hl9 g AX H_421 x σ hσ hXv (k) (by omega)) (cwV 1 X.2.2.2.2 gL_isPerson_X3_homeIncome rfl rfl rfl (by decide +kernel) ⟨(Nat.le_of_ble_eq_true rfl), (Nat.le_of_ble_eq_true rfl)⟩) (w_prVN hE hEs hS hN hxO rfl) rfl rfl hl.1 rfl (lv_room (Nat.le_of_ble_eq_true rfl)) dL_isPerson_368 ⟨by show _ ≤ 24; omega, by show _ ≤ 144; omega⟩) hS hN ?_ fun v_434 H_429 lo_430 hp_431 hz_432 hq_433 hS => ?_
                  · exact fun E ce q9 H9 lo9 hxp hz9 hq9 hS9 hce hcv hcl => absurd hxp.1.2 (by omega)
                  obtain ⟨-, rfl, hXv⟩ := hp_431
                  obtain ⟨hAx, fs9, hxO⟩ := hXv.ob
                  have hAl := hAl.kept (hq_433 _ hAl.lt hnl)
                  have hAp := hAp.kept (hq_433 _ hAp.lt hnp)
                  have hAb := hAb.kept (hq_433 _ hAb.lt hnb)
                  have hAn : ∀ q, H_429.size ≤ q → AX q := fun q h => hAn q (by omega)
                  refine w_iload X dL_isPerson_371 hl 10 rfl ?_
                  refine w_icmp_ne X 417 dL_isPerson_373 (by decide) (by omega) (by omega) (fun c_435 => ?_) (fun c_435 => ?_)
                  · skip
                    exact absurd c_435 (by omega)
                  · skip
                    refine w_aload_n X dL_isPerson_376 hl 18 rfl rfl ?_
                    refine w_iload_n X dL_isPerson_377 hl 17 rfl rfl ?_
                    refine w_xr (vx_runV (As := [.int (wI (k))]) (rest := []) X (c_X3_homeTax l hl9 g AX H_429 x σ hσ hXv (k) (by omega)) (cwV 1 X.2.2.2.2 gL_isPerson_X3_homeTax rfl rfl rfl (by decide +kernel) ⟨(Nat.le_of_ble_eq_true rfl), (Nat.le_of_ble_eq_true rfl)⟩) (w_prVN hE hEs hS hN hxO rfl) rfl rfl hl.1 rfl (lv_room (Nat.le_of_ble_eq_true rfl)) dL_isPerson_378 ⟨by show _ ≤ 24; omega, by show _ ≤ 144; omega⟩) hS hN ?_ fun v_441 H_436 lo_437 hp_438 hz_439 hq_440 hS => ?_
                    · exact fun E ce q9 H9 lo9 hxp hz9 hq9 hS9 hce hcv hcl => absurd hxp.1.2 (by omega)
                    obtain ⟨-, rfl, hXv⟩ := hp_438
                    obtain ⟨hAx, fs9, hxO⟩ := hXv.ob
                    have hAl := hAl.kept (hq_440 _ hAl.lt hnl)
                    have hAp := hAp.kept (hq_440 _ hAp.lt hnp)
                    have hAb := hAb.kept (hq_440 _ hAb.lt hnb)
                    have hAn : ∀ q, H_436.size ≤ q → AX q := fun q h => hAn q (by omega)
                    refine w_i2l X dL_isPerson_381 (by omega) ?_
                    refine w_lload X dL_isPerson_382 hl 3 rfl ?_
                    refine w_lcmp X dL_isPerson_384 (by omega) (by omega) fun z_442 ez_442a ez_442b ez_442c ez_442d => ?_
                    refine w_if_ne X 417 dL_isPerson_385 (by decide) (by omega) (fun c_443 => ?_) (fun c_443 => ?_)
                    · skip
                      exact absurd c_443 (by omega)
                    · skip
                      refine w_aload_n X dL_isPerson_388 hl 18 rfl rfl ?_
                      refine w_iload_n X dL_isPerson_389 hl 17 rfl rfl ?_
                      refine w_xr (vx_runV (As := [.int (wI (k))]) (rest := []) X (c_X3_hostIncome l hl9 g AX H_436 x σ hσ hXv (k) (by omega)) (cwV 1 X.2.2.2.2 gL_isPerson_X3_hostIncome rfl rfl rfl (by decide +kernel) ⟨(Nat.le_of_ble_eq_true rfl), (Nat.le_of_ble_eq_true rfl)⟩) (w_prVN hE hEs hS hN hxO rfl) rfl rfl hl.1 rfl (lv_room (Nat.le_of_ble_eq_true rfl)) dL_isPerson_390 ⟨by show _ ≤ 24; omega, by show _ ≤ 144; omega⟩) hS hN ?_ fun v_449 H_444 lo_445 hp_446 hz_447 hq_448 hS => ?_
                      · exact fun E ce q9 H9 lo9 hxp hz9 hq9 hS9 hce hcv hcl => absurd hxp.1.2 (by omega)
                      obtain ⟨-, rfl, hXv⟩ := hp_446
                      obtain ⟨hAx, fs9, hxO⟩ := hXv.ob
                      have hAl := hAl.kept (hq_448 _ hAl.lt hnl)
                      have hAp := hAp.kept (hq_448 _ hAp.lt hnp)
                      have hAb := hAb.kept (hq_448 _ hAb.lt hnb)
                      have hAn : ∀ q, H_444.size ≤ q → AX q := fun q h => hAn q (by omega)
                      refine w_iload X dL_isPerson_393 hl 8 rfl ?_
                      refine w_iload X dL_isPerson_395 hl 6 rfl ?_
                      refine w_iadd X dL_isPerson_397 fun z_450 ez_450 => ?_
                      refine w_icmp_ne X 417 dL_isPerson_398 (by decide) (by omega) (by omega) (fun c_451 => ?_) (fun c_451 => ?_)
                      · skip
                        exact absurd c_451 (by omega)
                      · skip
                        refine w_aload_n X dL_isPerson_401 hl 18 rfl rfl ?_
                        refine w_iload_n X dL_isPerson_402 hl 17 rfl rfl ?_
                        refine w_xr (vx_runV (As := [.int (wI (k))]) (rest := []) X (c_X3_hostTax l hl9 g AX H_444 x σ hσ hXv (k) (by omega)) (cwV 1 X.2.2.2.2 gL_isPerson_X3_hostTax rfl rfl rfl (by decide +kernel) ⟨(Nat.le_of_ble_eq_true rfl), (Nat.le_of_ble_eq_true rfl)⟩) (w_prVN hE hEs hS hN hxO rfl) rfl rfl hl.1 rfl (lv_room (Nat.le_of_ble_eq_true rfl)) dL_isPerson_403 ⟨by show _ ≤ 24; omega, by show _ ≤ 144; omega⟩) hS hN ?_ fun v_457 H_452 lo_453 hp_454 hz_455 hq_456 hS => ?_
                        · exact fun E ce q9 H9 lo9 hxp hz9 hq9 hS9 hce hcv hcl => absurd hxp.1.2 (by omega)
                        obtain ⟨-, rfl, hXv⟩ := hp_454
                        obtain ⟨hAx, fs9, hxO⟩ := hXv.ob
                        have hAl := hAl.kept (hq_456 _ hAl.lt hnl)
                        have hAp := hAp.kept (hq_456 _ hAp.lt hnp)
                        have hAb := hAb.kept (hq_456 _ hAb.lt hnb)
                        have hAn : ∀ q, H_452.size ≤ q → AX q := fun q h => hAn q (by omega)
                        refine w_i2l X dL_isPerson_406 (by omega) ?_
                        refine w_lload X dL_isPerson_407 hl 1 rfl ?_
                        refine w_lcmp X dL_isPerson_409 (by omega) (by omega) fun z_458 ez_458a ez_458b ez_458c ez_458d => ?_
                        refine w_if_ne X 417 dL_isPerson_410 (by decide) (by omega) (fun c_459 => ?_) (fun c_459 => ?_)
                        · skip
                          exact absurd c_459 (by omega)
                        · skip
                          refine w_iconst X dL_isPerson_413 ?_
                          refine w_goto X 418 dL_isPerson_414 (by decide) ?_
                          refine w_istore X [(11, .int (wI (1))), (23, .int (wI (y_255))), (21, .long (wJ (grossS (σ.1 (sp σ (k).toNat 1).toNat) (z_254)))), (19, .long (wJ (z_252))), (17, .long (wJ (z_250))), (15, .long (wJ (taxS (σ.1 (sp σ (k).toNat 0).toNat) (all)))), (13, .long (wJ (z_7))), (12, .int (wI (z_4))), (10, .int (wI (host))), (9, .int (wI (all))), (8, .int (wI (home))), (7, .int (wI (mo))), (6, .int (wI (at9))), (5, .ref ab), (4, .ref ap), (3, .ref al), (2, .int (z)), (1, .int (wI (k))), (0, .ref x)] dL_isPerson_418 hl (by decide) rfl fun ls hl => ?_
                          refine w_iload X dL_isPerson_420 hl 0 rfl ?_
                          refine w_if_eq X 485 dL_isPerson_422 (by decide) (by omega) (fun c_460 => ?_) (fun c_460 => ?_)
                          · skip
                            exact absurd c_460 (by omega)
                          · skip
                            refine w_aload_n X dL_isPerson_425 hl 18 rfl rfl ?_
                            refine w_iload_n X dL_isPerson_426 hl 17 rfl rfl ?_
                            refine w_xr (vx_runV (As := [.int (wI (k))]) (rest := []) X (c_X3_borne l hl9 g AX H_452 x σ hσ hXv (k) (by omega)) (cwV 1 X.2.2.2.2 gL_isPerson_X3_borne rfl rfl rfl (by decide +kernel) ⟨(Nat.le_of_ble_eq_true rfl), (Nat.le_of_ble_eq_true rfl)⟩) (w_prVN hE hEs hS hN hxO rfl) rfl rfl hl.1 rfl (lv_room (Nat.le_of_ble_eq_true rfl)) dL_isPerson_427 ⟨by show _ ≤ 24; omega, by show _ ≤ 144; omega⟩) hS hN ?_ fun v_466 H_461 lo_462 hp_463 hz_464 hq_465 hS => ?_
                            · exact fun E ce q9 H9 lo9 hxp hz9 hq9 hS9 hce hcv hcl => absurd hxp.1.2 (by omega)
                            obtain ⟨-, rfl, hXv⟩ := hp_463
                            obtain ⟨hAx, fs9, hxO⟩ := hXv.ob
                            have hAl := hAl.kept (hq_465 _ hAl.lt hnl)
                            have hAp := hAp.kept (hq_465 _ hAp.lt hnp)
                            have hAb := hAb.kept (hq_465 _ hAb.lt hnb)
                            have hAn : ∀ q, H_461.size ≤ q → AX q := fun q h => hAn q (by omega)
                            refine w_i2l X dL_isPerson_430 (by omega) ?_
                            refine w_lload X dL_isPerson_431 hl 3 rfl ?_
                            refine w_lcmp X dL_isPerson_433 (by omega) (by omega) fun z_467 ez_467a ez_467b ez_467c ez_467d => ?_
                            refine w_if_ne X 485 dL_isPerson_434 (by decide) (by omega) (fun c_468 => ?_) (fun c_468 => ?_)
                            · skip
                              exact absurd c_468 (by omega)
                            · skip
                              refine w_aload_n X dL_isPerson_437 hl 18 rfl rfl ?_
                              refine w_iload_n X dL_isPerson_438 hl 17 rfl rfl ?_
                              refine w_xr (vx_runV (As := [.int (wI (k))]) (rest := []) X (c_X3_settlement l hl9 g AX H_461 x σ hσ hXv (k) (by omega)) (cwV 1 X.2.2.2.2 gL_isPerson_X3_settlement rfl rfl rfl (by decide +kernel) ⟨(Nat.le_of_ble_eq_true rfl), (Nat.le_of_ble_eq_true rfl)⟩) (w_prVN hE hEs hS hN hxO rfl) rfl rfl hl.1 rfl (lv_room (Nat.le_of_ble_eq_true rfl)) dL_isPerson_439 ⟨by show _ ≤ 24; omega, by show _ ≤ 144; omega⟩) hS hN ?_ fun v_474 H_469 lo_470 hp_471 hz_472 hq_473 hS => ?_
                              · exact fun E ce q9 H9 lo9 hxp hz9 hq9 hS9 hce hcv hcl => absurd hxp.1.2 (by omega)
                              obtain ⟨-, rfl, hXv⟩ := hp_471
                              obtain ⟨hAx, fs9, hxO⟩ := hXv.ob
                              have hAl := hAl.kept (hq_473 _ hAl.lt hnl)
                              have hAp := hAp.kept (hq_473 _ hAp.lt hnp)
                              have hAb := hAb.kept (hq_473 _ hAb.lt hnb)
                              have hAn : ∀ q, H_469.size ≤ q → AX q := fun q h => hAn q (by omega)
                              refine w_i2l X dL_isPerson_442 (by omega) ?_
                              refine w_lload X dL_isPerson_443 hl 5 rfl ?_
                              refine w_lload X dL_isPerson_445 hl 3 rfl ?_
                              refine w_lsub X dL_isPerson_447 fun z_475 ez_475 => ?_
                              refine w_lcmp X dL_isPerson_448 (by omega) (by omega) fun z_476 ez_476a ez_476b ez_476c ez_476d => ?_
                              refine w_if_ne X 485 dL_isPerson_449 (by decide) (by omega) (fun c_477 => ?_) (fun c_477 => ?_)
                              · skip
                                exact absurd c_477 (by omega)
                              · skip
                                refine w_aload_n X dL_isPerson_452 hl 18 rfl rfl ?_
                                refine w_iload_n X dL_isPerson_453 hl 17 rfl rfl ?_
                                refine w_xr (vx_runV (As := [.int (wI (k))]) (rest := []) X (c_X3_cost l hl9 g AX H_469 x σ hσ hXv (k) (by omega)) (cwV 1 X.2.2.2.2 gL_isPerson_X3_cost rfl rfl rfl (by decide +kernel) ⟨(Nat.le_of_ble_eq_true rfl), (Nat.le_of_ble_eq_true rfl)⟩) (w_prVN hE hEs hS hN hxO rfl) rfl rfl hl.1 rfl (lv_room (Nat.le_of_ble_eq_true rfl)) dL_isPerson_454 ⟨by show _ ≤ 24; omega, by show _ ≤ 144; omega⟩) hS hN ?_ fun v_483 H_478 lo_479 hp_480 hz_481 hq_482 hS => ?_
                                · exact fun E ce q9 H9 lo9 hxp hz9 hq9 hS9 hce hcv hcl => absurd hxp.1.2 (by omega)
                                obtain ⟨-, rfl, hXv⟩ := hp_480
                                obtain ⟨hAx, fs9, hxO⟩ := hXv.ob
                                have hAl := hAl.kept (hq_482 _ hAl.lt hnl)
                                have hAp := hAp.kept (hq_482 _ hAp.lt hnp)
                                have hAb := hAb.kept (hq_482 _ hAb.lt hnb)
                                have hAn : ∀ q, H_478.size ≤ q → AX q := fun q h => hAn q (by omega)
                                refine w_i2l X dL_isPerson_457 (by omega) ?_
                                refine w_lload X dL_isPerson_458 hl 2 rfl ?_
                                refine w_iload X dL_isPerson_460 hl 7 rfl ?_
                                refine w_i2l X dL_isPerson_462 (by omega) ?_
                                refine w_ladd X dL_isPerson_463 fun z_484 ez_484 => ?_
                                refine w_lload X dL_isPerson_464 hl 6 rfl ?_
                                refine w_iload X dL_isPerson_466 hl 11 rfl ?_
                                refine w_i2l X dL_isPerson_468 (by omega) ?_
                                refine w_lmul X dL_isPerson_469 fun z_485 ez_485 => ?_
                                have eh2 : z_485 = heldS (sH σ (k).toNat) (sp σ (k).toNat) * monS (sp σ (k).toNat) := by rw [ez_485, ee, hmo]
                                refine w_lsub X dL_isPerson_470 fun z_486 ez_486 => ?_
                                refine w_lload X dL_isPerson_471 hl 5 rfl ?_
                                refine w_lload X dL_isPerson_473 hl 3 rfl ?_
                                refine w_lsub X dL_isPerson_475 fun z_487 ez_487 => ?_
                                refine w_lsub X dL_isPerson_476 fun z_488 ez_488 => ?_
                                refine w_lcmp X dL_isPerson_477 (by omega) (by omega) fun z_489 ez_489a ez_489b ez_489c ez_489d => ?_
                                refine w_if_ne X 485 dL_isPerson_478 (by decide) (by omega) (fun c_490 => ?_) (fun c_490 => ?_)
                                · skip
                                  exact absurd c_490 (by omega)
                                · skip
                                  refine w_iconst X dL_isPerson_481 ?_
                                  refine w_goto X 486 dL_isPerson_482 (by decide) ?_
                                  exact w_zrR X hr hk hS (Or.inr rfl) ⟨rfl, hXv⟩ dL_isPerson_486 (Nat.le_of_ble_eq_true rfl) (Nat.le_of_ble_eq_true rfl)
  have loop : ∀ (at9 mo : Int), at9 = 8 * k → mo = monS (sp σ (k).toNat) → ∀ (r n : Nat) (home all host : Int), n + r = (sb σ (k).toNat) → home = sp σ (k).toNat 2 * (12 - monS (sp σ (k).toNat)) + sumB (fun b => so σ (k).toNat b 0 - parS (sp σ (k).toNat) (so σ (k).toNat b)) n → all = 12 * sp σ (k).toNat 2 + sumB (fun b => so σ (k).toNat b 0) n → host = sp σ (k).toNat 2 * monS (sp σ (k).toNat) + sumB (fun b => parS (sp σ (k).toNat) (so σ (k).toNat b)) n → ∀ (H : Heap) (locs : List Loc), XInv g AX x σ H → IA g H al 20 fl → IA g H ap 24 fp → IA g H ab 54 fb → (∀ q, H.size ≤ q → AX q) → va_S AX s.heap H locs → ∀ ls : Array Slot, lv_has ls 24 [(12, .int (wI ((n : Int)))), (11, .int (wI (1))), (10, .int (wI (host))), (9, .int (wI (all))), (8, .int (wI (home))), (7, .int (wI (mo))), (6, .int (wI (at9))), (5, .ref ab), (4, .ref ap), (3, .ref al), (2, .int (z)), (1, .int (wI (k))), (0, .ref x)] → W p l e { frames := 9, cells := 24, slots := 144, locals := 189 } s m args below meth c H locs (2 * n) (12 * n) (MQ below (IQr AX (fun w H1 => w = .int (wI 1) ∧ XInv g AX x σ H1)) args s 24 144 AX) (F0 m 68 ls []) := by
    intro at9 mo hat hmo r
    induction r with
    | zero =>
      intro n home all host hr9 hhome hall hhost
      intro H locs hXv hAl hAp hAb hAn hS ls hl
      obtain ⟨hAx, fs9, hxO⟩ := hXv.ob
      have en : n = (sb σ (k).toNat) := by omega
      refine w_iload X dL_isPerson_68 hl 0 rfl ?_
      refine w_aload X dL_isPerson_70 hl 8 rfl ?_
      refine w_iload X dL_isPerson_72 hl 6 rfl ?_
      refine w_bipush X dL_isPerson_74 (by decide) ?_
      refine w_iadd X dL_isPerson_76 fun z_1 ez_1 => ?_
      refine w_iald (y := wI ((sb σ (k).toNat : Int))) X hE hAp dL_isPerson_77 (by omega) (by omega) (by omega) (by rw [show (z_1).toNat = 8 * (k).toNat + 7 by omega]; exact (hPA _ (by omega)).2) ?_
      refine w_icmp_ge X 167 dL_isPerson_78 (by decide) (by omega) (by omega) (fun c_2 => ?_) (fun c_2 => ?_)
      · skip
        subst en
        refine W.widen (k := 12) (n := 72) (by omega) (by omega) ?_
        exact tail at9 mo home all host hat hmo (by omega) (by omega) (by omega) H locs hXv hAl hAp hAb hAn hS ls (lv_sub hl [1, 2, 3, 4, 5, 6, 7, 8, 9, 10, 11, 12] rfl)
      · skip
        exact absurd c_2 (by omega)
    | succ r ih =>
      intro n home all host hr9 hhome hall hhost
      intro H locs hXv hAl hAp hAb hAn hS ls hl
      obtain ⟨hAx, fs9, hxO⟩ := hXv.ob
      have hbg := hg.2.2.2.2.2 n (by omega)
      have fb1 := par_bd (pf := (sp σ (k).toNat)) hbg
      obtain ⟨b1, b2, b3, b4⟩ := id hbg
      have s1 : sumB (fun b => so σ (k).toNat b 0 - parS (sp σ (k).toNat) (so σ (k).toNat b)) (n + 1) = sumB (fun b => so σ (k).toNat b 0 - parS (sp σ (k).toNat) (so σ (k).toNat b)) n + (so σ (k).toNat n 0 - parS (sp σ (k).toNat) (so σ (k).toNat n)) := rfl
      have s2 : sumB (fun b => so σ (k).toNat b 0) (n + 1) = sumB (fun b => so σ (k).toNat b 0) n + so σ (k).toNat n 0 := rfl
      have s3 : sumB (fun b => parS (sp σ (k).toNat) (so σ (k).toNat b)) (n + 1) = sumB (fun b => parS (sp σ (k).toNat) (so σ (k).toNat b)) n + parS (sp σ (k).toNat) (so σ (k).toNat n) := rfl
      refine w_iload X dL_isPerson_68 hl 0 rfl ?_
      refine w_aload X dL_isPerson_70 hl 8 rfl ?_
      refine w_iload X dL_isPerson_72 hl 6 rfl ?_
      refine w_bipush X dL_isPerson_74 (by decide) ?_
      refine w_iadd X dL_isPerson_76 fun z_1 ez_1 => ?_
      refine w_iald (y := wI ((sb σ (k).toNat : Int))) X hE hAp dL_isPerson_77 (by omega) (by omega) (by omega) (by rw [show (z_1).toNat = 8 * (k).toNat + 7 by omega]; exact (hPA _ (by omega)).2) ?_
      refine w_icmp_ge X 167 dL_isPerson_78 (by decide) (by omega) (by omega) (fun c_2 => ?_) (fun c_2 => ?_)
      · skip
        exact absurd c_2 (by omega)
      · skip
        refine w_iload X dL_isPerson_81 hl 1 rfl ?_
        refine w_if_eq X 167 dL_isPerson_83 (by decide) (by omega) (fun c_3 => ?_) (fun c_3 => ?_)
        · skip
          exact absurd c_3 (by omega)
        · skip
          refine w_iload_n X dL_isPerson_86 hl 11 rfl rfl ?_
          refine w_iload X dL_isPerson_87 hl 0 rfl ?_
          refine w_aload X dL_isPerson_89 hl 8 rfl ?_
          refine w_aload X dL_isPerson_91 hl 7 rfl ?_
          refine w_callS (v := .int (wI (parS (sp σ (k).toNat) (so σ (k).toNat n)))) 4 X hE (c_L_abroad l g H σ hσ hs3 ap _ hAp hPA ab _ hAb hBA k hk9 (n : Int) (by omega)) hl dL_isPerson_93 gL_isPerson_L_abroad rfl rfl (by decide +kernel) ⟨(Nat.le_of_ble_eq_true rfl), (Nat.le_of_ble_eq_true rfl)⟩ rfl (Nat.le_of_ble_eq_true rfl) ⟨by show _ ≤ 24; omega, by show _ ≤ 144; omega⟩ ?_
          refine w_istore X [(13, .int (wI (parS (sp σ (k).toNat) (so σ (k).toNat n)))), (12, .int (wI ((n : Int)))), (11, .int (wI (1))), (10, .int (wI (host))), (9, .int (wI (all))), (8, .int (wI (home))), (7, .int (wI (mo))), (6, .int (wI (at9))), (5, .ref ab), (4, .ref ap), (3, .ref al), (2, .int (z)), (1, .int (wI (k))), (0, .ref x)] dL_isPerson_96 hl (by decide) rfl fun ls hl => ?_
          refine w_iload X dL_isPerson_98 hl 5 rfl ?_
          refine w_aload X dL_isPerson_100 hl 8 rfl ?_
          refine w_bipush X dL_isPerson_102 (by decide) ?_
          refine w_iload_n X dL_isPerson_104 hl 12 rfl rfl ?_
          refine w_imul X dL_isPerson_105 fun z_4 ez_4 => ?_
          refine w_iconst X dL_isPerson_106 ?_
          refine w_iload X dL_isPerson_107 hl 1 rfl ?_
          refine w_imul X dL_isPerson_109 fun z_5 ez_5 => ?_
          refine w_iadd X dL_isPerson_110 fun z_6 ez_6 => ?_
          refine w_iald (y := wI (so σ (k).toNat n 0)) X hE hAb dL_isPerson_111 (by omega) (by omega) (by omega) (by rw [show (z_6).toNat = 18 * (k).toNat + 3 * n + 0 by omega]; exact hBA _ _ _ (by omega) (by omega) (by omega)) ?_
          refine w_iload X dL_isPerson_112 hl 0 rfl ?_
          refine w_isub X dL_isPerson_114 fun z_7 ez_7 => ?_
          refine w_iadd X dL_isPerson_115 fun z_8 ez_8 => ?_
          refine w_istore X [(8, .int (wI (z_8))), (13, .int (wI (parS (sp σ (k).toNat) (so σ (k).toNat n)))), (12, .int (wI ((n : Int)))), (11, .int (wI (1))), (10, .int (wI (host))), (9, .int (wI (all))), (7, .int (wI (mo))), (6, .int (wI (at9))), (5, .ref ab), (4, .ref ap), (3, .ref al), (2, .int (z)), (1, .int (wI (k))), (0, .ref x)] dL_isPerson_116 hl (by decide) rfl fun ls hl => ?_
          refine w_iload X dL_isPerson_118 hl 5 rfl ?_
          refine w_aload X dL_isPerson_120 hl 8 rfl ?_
          refine w_bipush X dL_isPerson_122 (by decide) ?_
          refine w_iload_n X dL_isPerson_124 hl 12 rfl rfl ?_
          refine w_imul X dL_isPerson_125 fun z_9 ez_9 => ?_
          refine w_iconst X dL_isPerson_126 ?_
          refine w_iload X dL_isPerson_127 hl 2 rfl ?_
          refine w_imul X dL_isPerson_129 fun z_10 ez_10 => ?_
          refine w_iadd X dL_isPerson_130 fun z_11 ez_11 => ?_
          refine w_iald (y := wI (so σ (k).toNat n 0)) X hE hAb dL_isPerson_131 (by omega) (by omega) (by omega) (by rw [show (z_11).toNat = 18 * (k).toNat + 3 * n + 0 by omega]; exact hBA _ _ _ (by omega) (by omega) (by omega)) ?_
          refine w_iadd X dL_isPerson_132 fun z_12 ez_12 => ?_
          refine w_istore X [(9, .int (wI (z_12))), (8, .int (wI (z_8))), (13, .int (wI (parS (sp σ (k).toNat) (so σ (k).toNat n)))), (12, .int (wI ((n : Int)))), (11, .int (wI (1))), (10, .int (wI (host))), (7, .int (wI (mo))), (6, .int (wI (at9))), (5, .ref ab), (4, .ref ap), (3, .ref al), (2, .int (z)), (1, .int (wI (k))), (0, .ref x)] dL_isPerson_133 hl (by decide) rfl fun ls hl => ?_
          refine w_iload X dL_isPerson_135 hl 5 rfl ?_
          refine w_iload X dL_isPerson_137 hl 2 rfl ?_
          refine w_iadd X dL_isPerson_139 fun z_13 ez_13 => ?_
          refine w_istore X [(10, .int (wI (z_13))), (9, .int (wI (z_12))), (8, .int (wI (z_8))), (13, .int (wI (parS (sp σ (k).toNat) (so σ (k).toNat n)))), (12, .int (wI ((n : Int)))), (11, .int (wI (1))), (7, .int (wI (mo))), (6, .int (wI (at9))), (5, .ref ab), (4, .ref ap), (3, .ref al), (2, .int (z)), (1, .int (wI (k))), (0, .ref x)] dL_isPerson_140 hl (by decide) rfl fun ls hl => ?_
          refine w_aload_n X dL_isPerson_142 hl 13 rfl rfl ?_
          refine w_iload_n X dL_isPerson_143 hl 12 rfl rfl ?_
          refine w_iload X dL_isPerson_144 hl 4 rfl ?_
          refine w_ir (vx_runSW (As := [.ref x, .int (wI (k)), .int (wI ((n : Int)))]) (rest := []) X (c_L_part l hl9 g AX H x σ hσ hXv k hk9 ((n : Int)) (by omega)) (vx_cwSW 3 X.2.2.2.2 gL_isPerson_L_part rfl rfl rfl (by decide +kernel) ⟨(Nat.le_of_ble_eq_true rfl), (Nat.le_of_ble_eq_true rfl)⟩) (w_pr2 hE hEs hNx hS hN) rfl rfl hl.1 rfl (lv_room (Nat.le_of_ble_eq_true rfl)) dL_isPerson_146 ⟨by show _ ≤ 24; omega, by show _ ≤ 144; omega⟩) hS hN fun v1 H_14 lo1 hp_15 hz_16 hq_17 hS => ?_
          obtain ⟨⟨y_18, rfl, hy_18a, hy_18b⟩, hXv⟩ := hp_15
          obtain ⟨hAx, fs9, hxO⟩ := hXv.ob
          have hAl := hAl.kept (hq_17 _ hAl.lt hnl)
          have hAp := hAp.kept (hq_17 _ hAp.lt hnp)
          have hAb := hAb.kept (hq_17 _ hAb.lt hnb)
          have hAn : ∀ q, H_14.size ≤ q → AX q := fun q h => hAn q (by omega)
          have ey_18 : y_18 = parS (sp σ (k).toNat) (so σ (k).toNat n) := hy_18a (by omega)
          refine w_iload X dL_isPerson_149 hl 3 rfl ?_
          refine w_icmp_ne X 158 dL_isPerson_151 (by decide) (by omega) (by omega) (fun c_19 => ?_) (fun c_19 => ?_)
          · skip
            exact absurd c_19 (by omega)
          · skip
            refine w_iconst X dL_isPerson_154 ?_
            refine w_goto X 159 dL_isPerson_155 (by decide) ?_
            refine w_istore X [(11, .int (wI (1))), (10, .int (wI (z_13))), (9, .int (wI (z_12))), (8, .int (wI (z_8))), (13, .int (wI (parS (sp σ (k).toNat) (so σ (k).toNat n)))), (12, .int (wI ((n : Int)))), (7, .int (wI (mo))), (6, .int (wI (at9))), (5, .ref ab), (4, .ref ap), (3, .ref al), (2, .int (z)), (1, .int (wI (k))), (0, .ref x)] dL_isPerson_159 hl (by decide) rfl fun ls hl => ?_
            refine w_iinc X (fun z_20 => [(12, .int (wI (z_20))), (11, .int (wI (1))), (10, .int (wI (z_13))), (9, .int (wI (z_12))), (8, .int (wI (z_8))), (13, .int (wI (parS (sp σ (k).toNat) (so σ (k).toNat n)))), (7, .int (wI (mo))), (6, .int (wI (at9))), (5, .ref ab), (4, .ref ap), (3, .ref al), (2, .int (z)), (1, .int (wI (k))), (0, .ref x)]) dL_isPerson_161 hl 5 rfl (by decide) (fun _ => rfl) fun z_20 ez_20 ls hl => ?_
            refine w_goto X 68 dL_isPerson_164 (by decide) ?_
            rw [show z_20 = ((n + 1 : Nat) : Int) by omega] at hl
            refine W.widen (k := 2 * (n + 1)) (n := 12 * (n + 1)) (by omega) (by omega) ?_
            exact ih (n + 1) _ _ _ (by omega) (by omega) (by omega) (by omega) H_14 _ hXv hAl hAp hAb hAn hS ls (lv_sub hl [0, 1, 2, 3, 4, 6, 7, 8, 9, 10, 11, 12, 13] rfl)
  refine w_bipush X dL_isPerson_0 (by decide) ?_
  refine w_iload_n X dL_isPerson_2 hl 1 rfl rfl ?_
  refine w_imul X dL_isPerson_3 fun z_1 ez_1 => ?_
  refine w_istore X [(6, .int (wI (z_1))), (0, .ref x), (1, .int (wI (k))), (2, .int (z)), (3, .ref al), (4, .ref ap), (5, .ref ab)] dL_isPerson_4 hl (by decide) rfl fun ls hl => ?_
  refine w_aload X dL_isPerson_6 hl 5 rfl ?_
  refine w_iload X dL_isPerson_8 hl 0 rfl ?_
  refine w_iconst X dL_isPerson_10 ?_
  refine w_iadd X dL_isPerson_11 fun z_2 ez_2 => ?_
  refine w_iald (y := wI (sp σ (k).toNat 4)) X hE hAp dL_isPerson_12 (by omega) (by omega) (by omega) (by rw [show (z_2).toNat = 8 * (k).toNat + 4 by omega]; exact (hPA _ (by omega)).1 4 (by omega)) ?_
  refine w_aload X dL_isPerson_13 hl 5 rfl ?_
  refine w_iload X dL_isPerson_15 hl 0 rfl ?_
  refine w_iconst X dL_isPerson_17 ?_
  refine w_iadd X dL_isPerson_18 fun z_3 ez_3 => ?_
  refine w_iald (y := wI (sp σ (k).toNat 3)) X hE hAp dL_isPerson_19 (by omega) (by omega) (by omega) (by rw [show (z_3).toNat = 8 * (k).toNat + 3 by omega]; exact (hPA _ (by omega)).1 3 (by omega)) ?_
  refine w_isub X dL_isPerson_20 fun z_4 ez_4 => ?_
  refine w_istore X [(7, .int (wI (z_4))), (6, .int (wI (z_1))), (0, .ref x), (1, .int (wI (k))), (2, .int (z)), (3, .ref al), (4, .ref ap), (5, .ref ab)] dL_isPerson_21 hl (by decide) rfl fun ls hl => ?_
  refine w_aload X dL_isPerson_23 hl 6 rfl ?_
  refine w_iload X dL_isPerson_25 hl 1 rfl ?_
  refine w_iconst X dL_isPerson_27 ?_
  refine w_iadd X dL_isPerson_28 fun z_5 ez_5 => ?_
  refine w_iald (y := wI (sp σ (k).toNat 2)) X hE hAp dL_isPerson_29 (by omega) (by omega) (by omega) (by rw [show (z_5).toNat = 8 * (k).toNat + 2 by omega]; exact (hPA _ (by omega)).1 2 (by omega)) ?_
  refine w_bipush X dL_isPerson_30 (by decide) ?_
  refine w_iload X dL_isPerson_32 hl 0 rfl ?_
  refine w_isub X dL_isPerson_34 fun z_6 ez_6 => ?_
  refine w_imul X dL_isPerson_35 fun z_7 ez_7 => ?_
  refine w_istore X [(8, .int (wI (z_7))), (7, .int (wI (z_4))), (6, .int (wI (z_1))), (0, .ref x), (1, .int (wI (k))), (2, .int (z)), (3, .ref al), (4, .ref ap), (5, .ref ab)] dL_isPerson_36 hl (by decide) rfl fun ls hl => ?_
  refine w_bipush X dL_isPerson_38 (by decide) ?_
  refine w_aload X dL_isPerson_40 hl 7 rfl ?_
  refine w_iload X dL_isPerson_42 hl 2 rfl ?_
  refine w_iconst X dL_isPerson_44 ?_
  refine w_iadd X dL_isPerson_45 fun z_8 ez_8 => ?_
  refine w_iald (y := wI (sp σ (k).toNat 2)) X hE hAp dL_isPerson_46 (by omega) (by omega) (by omega) (by rw [show (z_8).toNat = 8 * (k).toNat + 2 by omega]; exact (hPA _ (by omega)).1 2 (by omega)) ?_
  refine w_imul X dL_isPerson_47 fun z_9 ez_9 => ?_
  refine w_istore X [(9, .int (wI (z_9))), (8, .int (wI (z_7))), (7, .int (wI (z_4))), (6, .int (wI (z_1))), (0, .ref x), (1, .int (wI (k))), (2, .int (z)), (3, .ref al), (4, .ref ap), (5, .ref ab)] dL_isPerson_48 hl (by decide) rfl fun ls hl => ?_
  refine w_aload X dL_isPerson_50 hl 8 rfl ?_
  refine w_iload X dL_isPerson_52 hl 3 rfl ?_
  refine w_iconst X dL_isPerson_54 ?_
  refine w_iadd X dL_isPerson_55 fun z_10 ez_10 => ?_
  refine w_iald (y := wI (sp σ (k).toNat 2)) X hE hAp dL_isPerson_56 (by omega) (by omega) (by omega) (by rw [show (z_10).toNat = 8 * (k).toNat + 2 by omega]; exact (hPA _ (by omega)).1 2 (by omega)) ?_
  refine w_iload X dL_isPerson_57 hl 2 rfl ?_
  refine w_imul X dL_isPerson_59 fun z_11 ez_11 => ?_
  refine w_istore X [(10, .int (wI (z_11))), (9, .int (wI (z_9))), (8, .int (wI (z_7))), (7, .int (wI (z_4))), (6, .int (wI (z_1))), (0, .ref x), (1, .int (wI (k))), (2, .int (z)), (3, .ref al), (4, .ref ap), (5, .ref ab)] dL_isPerson_60 hl (by decide) rfl fun ls hl => ?_
  refine w_iconst X dL_isPerson_62 ?_
  refine w_istore X [(11, .int (wI (1))), (10, .int (wI (z_11))), (9, .int (wI (z_9))), (8, .int (wI (z_7))), (7, .int (wI (z_4))), (6, .int (wI (z_1))), (0, .ref x), (1, .int (wI (k))), (2, .int (z)), (3, .ref al), (4, .ref ap), (5, .ref ab)] dL_isPerson_63 hl (by decide) rfl fun ls hl => ?_
  refine w_iconst X dL_isPerson_65 ?_
  refine w_istore X [(12, .int (wI (0))), (11, .int (wI (1))), (10, .int (wI (z_11))), (9, .int (wI (z_9))), (8, .int (wI (z_7))), (7, .int (wI (z_4))), (6, .int (wI (z_1))), (0, .ref x), (1, .int (wI (k))), (2, .int (z)), (3, .ref al), (4, .ref ap), (5, .ref ab)] dL_isPerson_66 hl (by decide) rfl fun ls hl => ?_
  have em : z_4 = monS (sp σ (k).toNat) := by unfold monS; omega
  have eh : z_7 = sp σ (k).toNat 2 * (12 - monS (sp σ (k).toNat)) := by rw [ez_7, ez_6, em]
  have eo : z_11 = sp σ (k).toNat 2 * monS (sp σ (k).toNat) := by rw [ez_11, em]
  refine W.widen (k := 2 * 0) (n := 12 * 0) (by omega) (by omega) ?_
  exact loop z_1 z_4 (by omega) em (sb σ (k).toNat) 0 _ _ _ (by omega) (by rw [eh]; exact (Int.add_zero _).symm) (by rw [ez_9]; exact (Int.add_zero _).symm) (by rw [eo]; exact (Int.add_zero _).symm) H _ hXv hAl hAp hAb hAn hS ls (lv_sub hl [0, 1, 2, 3, 4, 5, 6, 12, 11, 10, 9, 8, 7] rfl)
