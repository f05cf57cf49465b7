/-! the law's wrappers: calls of the object behind catches -/
def JA (g : wG) (H : Heap) (a n : Nat) (f : Nat → Int64) : Prop := va_at (gD g) vwCl (a, .inl (gJ g, n, .inr (.inl f))) H
theorem JA.kept {g : wG} {H H1 : Heap} {a n : Nat} {f : Nat → Int64} (h : JA g H a n f) (hq : H1[a]? = H[a]?) : JA g H1 a n f := va_at.kept h hq
theorem JA.lt {g : wG} {H : Heap} {a n : Nat} {f : Nat → Int64} (h : JA g H a n f) : a < H.size := va_at.lt h
theorem JA.cls {g : wG} {H : Heap} {a n : Nat} {f : Nat → Int64} (h : JA g H a n f) : ∃ cell : Cell, H[a]? = some cell ∧ cell.cls = gJ g := ⟨_, h, rfl⟩
def Nx (U : State) : Prop := (va_Nc xnA xnB U ∧ va_Nc xnS xnB U ∧ va_Nc xnS xnA U) ∧ va_Nw (.castable xnA xnA) U ∧ va_Nw (.castable xnS xnS) U ∧ va_Nw (.castable xnB xnB) U
theorem Nx.warm {s U : State} (h : Nx s) (hW : s.WarmedH U.vm) : Nx U :=
  ⟨⟨va_Nc.moved hW.alike h.1.1, va_Nc.moved hW.alike h.1.2.1, va_Nc.moved hW.alike h.1.2.2⟩, va_Nw.warmC hW h.2.1, va_Nw.warmC hW h.2.2.1, va_Nw.warmC hW h.2.2.2⟩
def IP2 (g : wG) (A : Nat → Prop) (H : Heap) (as : List Value) : Array Value → State → Prop := va_Pc as (fun U => U.heap = H ∧ Ek g U ∧ Es g A U H ∧ Nx U)
theorem IP2.blind {g : wG} {A : Nat → Prop} {H : Heap} {as : List Value} : FrameBlind (IP2 g A H as) := fun a U gf mk h => ⟨h.1, h.2.1, h.2.2.1.warm (State.WarmedH.refl U), h.2.2.2.1.moved (Vm.Alike.refl U.vm), h.2.2.2.2.warm (State.WarmedH.refl U)⟩
abbrev WrpR (l : Launch) (g : wG) (A : Nat → Prop) (H : Heap) (y : MethodName) (ws : List Cond) (fr lo mc ms : Nat) (as : List Value) (post : Value → Heap → Prop) : Prop := Met l y ws { frames := fr, cells := mc, slots := ms, locals := lo } (IP2 g A H as) (IQr A post) mc ms A
theorem Wrp.of {l : Launch} {g : wG} {A : Nat → Prop} {H : Heap} {y : MethodName} {ws ws' : List Cond} {fr lo mc ms maxL : Nat} {cc : ByteArray} {ret : Option FieldType} {hh : List (Nat × Nat × Nat × Nat)} {as : List Value} {Qc : Array Value → State → Outcome → State → Prop}
    (hy : plainName y.cls = true) (hw : ws = Cond.codeWith y cc maxL ret hh :: ws') (hsl : (lg_sl as).length ≤ maxL)
    (body : ∀ (p : Program) (e : Env) (s : State) (m : MethodId) (args : Array Value) (below : List Frame) (meth : Method) (c : Code), CallFix p m c cc maxL s args ws y.cls → Ek g s → Es g A s s.heap → Nx s → c.exceptionTable.toList = tableOf hh → meth.sig.returnType = ret → meth.locks = false → va_S A s.heap H [] → ∀ ls : Array Slot, lv_has ls maxL (lv_args 0 as) →
      W p l e { frames := fr, cells := mc, slots := ms, locals := lo } s m args below meth c H [] 0 0 (MQ below Qc args s mc ms A) (F0 m 0 ls [])) : Met l y ws { frames := fr, cells := mc, slots := ms, locals := lo } (IP2 g A H as) Qc mc ms A := by
  refine va_MetW (cc := cc) (maxL := maxL) (ret := ret) (hh := hh) hy hw ?_
  intro p e s m args below meth c s₁ B hml hv
  obtain ⟨rfl, hH, hE, hEs, hN⟩ := hv
  have hts := atoms_spec (ws := ws) B.pre
  have hc9 : (Cond.codeWith y cc maxL ret hh).before as.toArray s = true := hts _ (by rw [hw]; exact List.mem_cons_self)
  have hT := vx_table (x := y) B hc9
  have hown : s.vm.findClass y.cls = some m.cls := findClass_of_methodNamed B.named
  have hl := lv_entry as (n := maxL) hsl
  rw [lg_entry_eq, hH]
  exact body p e s m _ below meth c ⟨B.exec, B.bytes, hml, hown, hts⟩ hE (by rw [hH]; exact hEs) hN hT B.returns B.notSynchronized (w_F0 hH) _ hl
theorem Ob.neJ {g : wG} (hGd : Gd g) {H : Heap} {a b ci n : Nat} {fs : List Value} {f : Nat → Int64} (h : Ob g H a ci fs) (h' : JA g H b n f) (h1 : ci < 6) : a ≠ b := by
  rintro rfl
  obtain ⟨c1, e1, e2⟩ := h.cls
  obtain ⟨c2, e3, e4⟩ := h'.cls
  rw [e1] at e3
  cases e3
  exact (hGd.2.1 ci h1).2.2 (e2.symm.trans e4)
theorem RA.neJ {g : wG} (hGd : Gd g) {H : Heap} {a b n k : Nat} {f : Nat → Option Nat} {f' : Nat → Int64} (h : RA g H a n f) (h' : JA g H b k f') : a ≠ b := by
  rintro rfl
  obtain ⟨c1, e1, e2⟩ := h.cls
  obtain ⟨c2, e3, e4⟩ := h'.cls
  rw [e1] at e3
  cases e3
  exact hGd.2.2.2.2 (e2.symm.trans e4)
theorem XInv.narrow {g : wG} {A A1 : Nat → Prop} {x : Nat} {σ : St} {H : Heap} (h : XInv g A x σ H) (hA : ∀ q, A q → q < H.size → A1 q) : XInv g A1 x σ H := by
  obtain ⟨al, el, mc, fl, Ld, P, h1, h2⟩ := h
  refine ⟨al, el, mc, fl, Ld, P, ⟨fun k hk => ⟨⟨hA _ (h1.1 k hk).1.1 (h1.1 k hk).1.2.lt, (h1.1 k hk).1.2⟩, fun hc => ⟨hA _ ((h1.1 k hk).2.1 hc).1 ((h1.1 k hk).2.1 hc).2.lt, ((h1.1 k hk).2.1 hc).2⟩, (h1.1 k hk).2.2⟩, h1.2⟩, ⟨hA _ h2.1.1 h2.1.2.lt, h2.1.2⟩, fun i hi => ⟨(h2.2.1 i hi).1, hA _ (h2.2.1 i hi).2.1 (h2.2.1 i hi).2.2.lt, (h2.2.1 i hi).2.2⟩, h2.2.2.1, fun i hi => ⟨(h2.2.2.2.1 i hi).1, hA _ (h2.2.2.2.1 i hi).2.1 (h2.2.2.2.1 i hi).2.2.lt, (h2.2.2.2.1 i hi).2.2⟩, h2.2.2.2.2.1, fun i b hi hb => ?_⟩
  obtain ⟨q, q1, q2, q3⟩ := h2.2.2.2.2.2 i b hi hb
  exact ⟨q, q1, hA _ q2 q3.lt, q3⟩
theorem XInv.ob {g : wG} {A : Nat → Prop} {x : Nat} {σ : St} {H : Heap} (h : XInv g A x σ H) : A x ∧ ∃ fs, Ob g H x 4 fs := by
  obtain ⟨al, el, mc, fl, Ld, P, h1, h2⟩ := h
  exact ⟨h2.1.1, _, h2.1.2⟩
theorem stp_y {P1 P2 P3 : Prop} (h1 : P1) (h2 : P2) (h3 : P3) (a b : St) : stp P1 P2 P3 a b = a := @if_pos _ (Classical.propDecidable _) ⟨h1, h2, h3⟩ _ _ _
theorem stp_n {P1 P2 P3 : Prop} (h : ¬ (P1 ∧ P2 ∧ P3)) (a b : St) : stp P1 P2 P3 a b = b := @if_neg _ (Classical.propDecidable _) h _ _ _
theorem stv_y {P1 P2 P3 : Prop} (h1 : P1) (h2 : P2) (h3 : P3) (z : Int) : stv P1 P2 P3 z = z := @if_pos _ (Classical.propDecidable _) ⟨h1, h2, h3⟩ _ _ _
theorem cd_r (P1 P2 P3 : Prop) : 0 ≤ cd P1 P2 P3 ∧ cd P1 P2 P3 ≤ 3 := by
  by_cases h1 : P1
  · by_cases h2 : P2
    · by_cases h3 : P3
      · rw [cd_0 h1 h2 h3]; omega
      · rw [cd_3 h1 h2 h3]; omega
    · rw [cd_2 h1 h2]; omega
  · rw [cd_1 h1]; omega
abbrev AW (AX : Nat → Prop) (out : Nat) : Nat → Prop := fun q => AX q ∨ q = out
section WRW
variable {p : Program} {l : Launch} {e : Env} {R : Room} {s : State} {m : MethodId} {args : Array Value} {below : List Frame} {meth : Method} {c : Code} {H : Heap} {locs : List Loc} {cells slots : Nat} {Q : State → Prop}
variable {cc : ByteArray} {nL : Nat} {Ts : List Cond} {own : String} {pc : Nat} {ls : Array Slot} {rest : List Value} {g : wG} {A AX : Nat → Prop}
theorem w_prVN {C : String} {T : u_T} {b ci N : Nat} {fs As : List Value} (hE : Ek g s) (hEs : Es g A s s.heap) (hS : va_S A s.heap H locs) (hN : ∀ q, AX q → A q) (hO : Ob g H b ci fs) (hc : vwCl[ci]? = some (C, T, N)) : PreV s H C b (IP g AX H (.ref b :: As)) As := ⟨IP.blind, hO.recv hE hc, fun U hU hW => ⟨rfl, hU, hE.warm hW, ((w_at hEs hS).moved hW.alike).narrow hN⟩⟩
theorem w_prSN {as : List Value} (hE : Ek g s) (hEs : Es g A s s.heap) (hS : va_S A s.heap H locs) (hN : ∀ q, AX q → A q) : PreS s H (IP g AX H as) as := ⟨IP.blind, fun U hU hW => ⟨rfl, hU, hE.warm hW, ((w_at hEs hS).moved hW.alike).narrow hN⟩⟩
theorem w_pr2 {as : List Value} (hE : Ek g s) (hEs : Es g A s s.heap) (hX : Nx s) (hS : va_S A s.heap H locs) (hN : ∀ q, AX q → A q) : PreS s H (IP2 g AX H as) as := ⟨IP2.blind, fun U hU hW => ⟨rfl, hU, hE.warm hW, ((w_at hEs hS).moved hW.alike).narrow hN, hX.warm hW⟩⟩
theorem w_last (X : CallFix p m c cc nL s args Ts own) (hE : Ek g s) {a : Nat} {f : Nat → Int64} (hA : JA g H a 1 f) (hS : va_S A s.heap H locs) (hAa : A a) {x : Int64} (hdg : decode cc pc = .ok (.lastore, 1))
    (kk : ∀ (H1 : Heap) (locs1 : List Loc) (f' : Nat → Int64), f' 0 = x → JA g H1 a 1 f' → H1.size = H.size → (∀ q, q ≠ a → H1[q]? = H[q]?) → va_S A s.heap H1 locs1 → W p l e R s m args below meth c H1 locs1 cells slots Q (F0 m (pc + 1) ls rest)) : W p l e R s m args below meth c H locs cells slots Q (F0 m pc ls (.long x :: .int (wI 0) :: .ref a :: rest)) := by
  have hin : vp_in (wI 0) 1 := wI_in (by omega) (by omega) (by omega)
  have hcl : (wI 0).toNatClampNeg = 0 := wI_clamp ⟨by omega, by omega⟩
  refine W.last X.1 X.2.1 (show H[a]? = some (vp_cell (gJ g) (1, .inr (.inl f))) from hA) ((hE.1.2 2 _ rfl).1 1 (fun j => .long (f j))) (fun q => by cases q) (by show ¬ (wI 0 < 0 ∨ (arrV _ _ _).slots.size ≤ _); rw [arrV_size]; exact hin) rfl rfl hdg fun H1 e z2 oq => ?_
  refine kk H1 _ (va_up f 0 x) (va_up_self _ _ _) ?_ z2 oq (hS.put z2 oq hAa)
  show H1[a]? = some (vp_cell _ _)
  rw [e]
  rw [vp_cell_l, vp_cell_l, arrV_store, hcl]
  congr 2
  funext q
  by_cases hq : q = 0
  · subst hq
    simp [updV, va_up]
  · simp [updV, va_up, hq]
theorem w_lald0 (X : CallFix p m c cc nL s args Ts own) (hE : Ek g s) {a : Nat} {f : Nat → Int64} (hA : JA g H a 1 f) (hdg : decode cc pc = .ok (.laload, 1))
    (kk : W p l e R s m args below meth c H locs cells slots Q (F0 m (pc + 1) ls (.long (f 0) :: rest))) : W p l e R s m args below meth c H locs cells slots Q (F0 m pc ls (.int (wI 0) :: .ref a :: rest)) := by
  refine va_lald X.1 X.2.1 hE.1 (w_P1 hA) 0 2 rfl rfl (wI_in (n := 1) (by omega) (by omega) (by omega)) hdg ?_
  rw [wI_clamp ⟨by omega, by omega⟩]
  exact kk
end WRW
