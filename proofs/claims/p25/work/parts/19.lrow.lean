/-! the law: what holds of its arrays, rows of its own -/
theorem va_up_at {α : Type} (f : Nat → α) {k q : Nat} (v : α) (h : q = k) : va_up f k v q = v := by
  rw [h]
  exact va_up_self _ _ _
def LA (σ : St) (f : Nat → Int32) : Prop := ∀ i k, i < 4 → k < 5 → f (5 * i + k) = wI (σ.1 i k)
def PA (σ : St) (f : Nat → Int32) : Prop := ∀ k, k < 3 → (∀ j, j < 7 → f (8 * k + j) = wI (sp σ k j)) ∧ f (8 * k + 7) = wI (sb σ k : Int)
def BA (σ : St) (f : Nat → Int32) : Prop := ∀ k n j, k < 3 → n < sb σ k → j < 3 → f (18 * k + 3 * n + j) = wI (so σ k n j)
theorem sb_le6 {σ : St} (hσ : StGood σ) (k : Nat) : sb σ k ≤ 6 := by
  rcases Nat.lt_or_ge k (sn σ) with q | q
  · exact (hσ.2.2.1 k q).1.2.2.2.2.1
  · have := (hσ.2.2.2 k q).1
    omega
theorem LA.land {σ : St} {f f' : Nat → Int32} {i : Nat} {L : Nat → Int} (h : LA σ f) (h1 : ∀ k, k < 5 → f' (5 * i + k) = wI (L k)) (h2 : ∀ q, (q < 5 * i ∨ 5 * i + 5 ≤ q) → f' q = f q) : LA (nxLand σ i L) f' := by
  intro j k hj hk
  by_cases q : j = i
  · subst q
    rw [show (nxLand σ j L).1 j = L from va_up_self _ _ _]
    exact h1 k hk
  · rw [show (nxLand σ i L).1 j = σ.1 j from va_up_ne _ _ q, h2 _ (by omega)]
    exact h j k hj hk
theorem PA.wr {σ : St} {f f' : Nat → Int32} {i : Nat} {pf : Nat → Int} (h : PA σ f) (h1 : ∀ j, j < 7 → f' (8 * i + j) = wI (pf j)) (h2 : ∀ q, (q < 8 * i ∨ 8 * i + 7 ≤ q) → f' q = f q) (k : Nat) (hk : k < 3) : (∀ j, j < 7 → f' (8 * k + j) = wI (up (sp σ) i pf k j)) ∧ f' (8 * k + 7) = wI (sb σ k : Int) := by
  refine ⟨fun j hj => ?_, ?_⟩
  · by_cases q : k = i
    · subst q
      rw [show up (sp σ) k pf k = pf from va_up_self _ _ _]
      exact h1 j hj
    · rw [show up (sp σ) i pf k = sp σ k from va_up_ne _ _ q, h2 _ (by omega)]
      exact (h k hk).1 j hj
  · rw [h2 _ (by omega)]
    exact (h k hk).2
theorem PA.pers {σ : St} {f f' : Nat → Int32} {i : Nat} {pf : Nat → Int} (h : PA σ f) (h1 : ∀ j, j < 7 → f' (8 * i + j) = wI (pf j)) (h2 : ∀ q, (q < 8 * i ∨ 8 * i + 7 ≤ q) → f' q = f q) : PA (nxPers σ i pf) f' := fun k hk => h.wr h1 h2 k hk
theorem PA.add {σ : St} {f f' : Nat → Int32} {pf : Nat → Int} (h : PA σ f) (h1 : ∀ j, j < 7 → f' (8 * sn σ + j) = wI (pf j)) (h2 : ∀ q, (q < 8 * sn σ ∨ 8 * sn σ + 7 ≤ q) → f' q = f q) : PA (nxAdd σ pf) f' := fun k hk => h.wr h1 h2 k hk
theorem PA.bon {σ : St} {f f' : Nat → Int32} {i : Nat} {bo : Nat → Int} (h : PA σ f) (h1 : f' (8 * i + 7) = wI ((sb σ i : Int) + 1)) (h2 : ∀ q, q ≠ 8 * i + 7 → f' q = f q) : PA (nxBon σ i bo) f' := by
  intro k hk
  refine ⟨fun j hj => ?_, ?_⟩
  · rw [h2 _ (by omega)]
    exact (h k hk).1 j hj
  · by_cases q : k = i
    · subst q
      rw [show sb (nxBon σ k bo) k = sb σ k + 1 from va_up_self _ _ _, h1]
      rfl
    · rw [show sb (nxBon σ i bo) k = sb σ k from va_up_ne _ _ q, h2 _ (by omega)]
      exact (h k hk).2
theorem BA.bon {σ : St} {f f' : Nat → Int32} {i : Nat} {bo : Nat → Int} (hσ : StGood σ) (h : BA σ f) (hb : sb σ i < 6) (h1 : ∀ j, j < 3 → f' (18 * i + 3 * sb σ i + j) = wI (bo j)) (h2 : ∀ q, (q < 18 * i + 3 * sb σ i ∨ 18 * i + 3 * sb σ i + 3 ≤ q) → f' q = f q) : BA (nxBon σ i bo) f' := by
  intro k n j hk hn hj
  have hn : n < up (sb σ) i (sb σ i + 1) k := hn
  by_cases q : k = i
  · subst q
    rw [show up (sb σ) k (sb σ k + 1) k = sb σ k + 1 from va_up_self _ _ _] at hn
    rw [show so (nxBon σ k bo) k = up (so σ k) (sb σ k) bo from va_up_self _ _ _]
    rcases Nat.lt_or_ge n (sb σ k) with r | r
    · rw [show up (so σ k) (sb σ k) bo n = so σ k n from va_up_ne _ _ (by omega), h2 _ (by omega)]
      exact h k n j hk r hj
    · obtain rfl : n = sb σ k := by omega
      rw [show up (so σ k) (sb σ k) bo (sb σ k) = bo from va_up_self _ _ _]
      exact h1 j hj
  · rw [show up (sb σ) i (sb σ i + 1) k = sb σ k from va_up_ne _ _ q] at hn
    have := sb_le6 hσ k
    rw [show so (nxBon σ i bo) k = so σ k from va_up_ne _ _ q, h2 _ (by omega)]
    exact h k n j hk hn hj
/-! numbers of the law -/
theorem tax_mono {L : Nat → Int} (h : lGood L) {a : Int} (ha : 0 ≤ a) (d : Nat) : taxS L a ≤ taxS L (a + d) := by
  induction d with
  | zero => rw [show a + ((0 : Nat) : Int) = a by omega]; exact Int.le_refl _
  | succ d ih =>
    have q := taxS_step h (n := a + d) (by omega)
    rw [show a + ((d + 1 : Nat) : Int) = a + d + 1 by omega]
    omega
theorem tax_le {L : Nat → Int} (h : lGood L) {a b : Int} (ha : 0 ≤ a) (hb : a ≤ b) : taxS L a ≤ taxS L b := by
  have q := tax_mono h ha (b - a).toNat
  rw [show a + ((b - a).toNat : Int) = b by omega] at q
  exact q
theorem gross_fix {L : Nat → Int} (h : lGood L) {n : Int} (hn : 0 ≤ n) : taxS L (n + grossS L n) = grossS L n := by
  obtain ⟨⟨h1, h2, h3⟩, -⟩ := gross_ex h hn
  have hb := taxS_bd h (n := n + grossS L n) (by omega)
  rcases Int.lt_or_le 0 (grossS L n) with q | q
  · have q1 := h3 (grossS L n - 1) (by omega) (by omega)
    have q2 := tax_le h (a := n + (grossS L n - 1)) (b := n + grossS L n) (by omega) (by omega)
    omega
  · omega
theorem gross_next {L : Nat → Int} (h : lGood L) {n m : Int} (hn : 0 ≤ n) (hm : 0 ≤ m ∧ m ≤ grossS L n) : m ≤ taxS L (n + m) ∧ taxS L (n + m) ≤ grossS L n := by
  have q0 := gross_fix h hn
  obtain ⟨⟨h1, h2, h3⟩, -⟩ := gross_ex h hn
  have q2 := tax_le h (a := n + m) (b := n + grossS L n) (by omega) (by omega)
  rcases Int.lt_or_le m (grossS L n) with q | q
  · have q1 := h3 m (by omega) q
    omega
  · have e : m = grossS L n := by omega
    rw [e]
    omega
theorem gross_end {L : Nat → Int} (h : lGood L) {n m : Int} (hn : 0 ≤ n) (hm : 0 ≤ m ∧ m ≤ grossS L n) (e : taxS L (n + m) = m) : m = grossS L n := by
  obtain ⟨⟨h1, h2, h3⟩, -⟩ := gross_ex h hn
  rcases Int.lt_or_le m (grossS L n) with q | q
  · have q1 := h3 m (by omega) q
    omega
  · omega
theorem tax_bands {L : Nat → Int} {n d2 d1 d0 : Int} (h2 : d2 = max 0 (n - L 1)) (h1 : d1 = max 0 (min n (L 1) - L 0)) (h0 : d0 = min n (L 0)) : taxN L n = d2 * L 4 + d1 * L 3 + d0 * L 2 := by
  subst h2 h1 h0
  unfold taxN
  omega
theorem band_mul {a : Int} {n L r : Int} (ha : 0 ≤ a ∧ a ≤ 60000000) (hr : 0 ≤ r ∧ r ≤ 60) : 0 ≤ a * r ∧ a * r ≤ 3600000000 := w_mul_bd (A := 60000000) (B := 60) ha hr
theorem par_no {pf bo : Nat → Int} (h : ovS pf bo = 0) : parS pf bo = 0 := by
  unfold parS
  rw [h, Int.mul_zero, Int.zero_ediv]
theorem best_ex (σ : St) (k : Nat) : ∃ v, IsBest σ k v := by
  induction k with
  | zero => exact ⟨-1, Or.inl ⟨rfl, rfl⟩⟩
  | succ k ih =>
    obtain ⟨v, hv⟩ := ih
    by_cases h : v < 0 ∨ cst σ v.toNat < cst σ k
    · exact ⟨k, hv.first h⟩
    · exact ⟨v, hv.same (by omega) (by omega)⟩
theorem dear_is (σ : St) : IsBest σ (sn σ) (dearS σ) := by
  obtain ⟨v, hv⟩ := best_ex σ (sn σ)
  rw [dearS_eq hv]
  exact hv
def lowS (v : Int32) (n : Int) : Int := (v &&& wI 2147483647).toInt % n
theorem low_nn (v : Int32) : 0 ≤ (v &&& wI 2147483647).toInt := by
  have h : (v &&& wI 2147483647).toBitVec.msb = false := by
    rw [Int32.toBitVec_and, BitVec.msb_and, show (wI 2147483647).toBitVec.msb = false by decide, Bool.and_false]
  show 0 ≤ (v &&& wI 2147483647).toBitVec.toInt
  rw [BitVec.toInt_eq_toNat_of_msb h]
  omega
theorem low_bd (v : Int32) {n : Int} (hn : 0 < n) : 0 ≤ lowS v n ∧ lowS v n < n := ⟨Int.emod_nonneg _ (by omega), Int.emod_lt_of_pos _ hn⟩
def cellS (xs : Nat → Int32) (L : Nat) (k : Int) : Int32 := if k < L then xs k.toNat else wI 50951 * (wI k + wI 29) + wI 2788375
theorem xX_moved {b L : Nat} {xs : Nat → Int32} {u U : State} {H : Heap} (h : va_X b L xs u H) (hvm : u.vm.Alike U.vm) : va_X b L xs U H := by
  obtain ⟨scr, h1, h2, h3⟩ := h
  exact ⟨scr, h1, State.isArrayOf_alike hvm h2, h3⟩
theorem xX_kept {b L : Nat} {xs : Nat → Int32} {u : State} {H H1 : Heap} (h : va_X b L xs u H) (hq : H1[b]? = H[b]?) : va_X b L xs u H1 := by
  obtain ⟨scr, h1, h2⟩ := h
  exact ⟨scr, hq.trans h1, h2⟩
def CP (g : wG) (H : Heap) (b L : Nat) (xs : Nat → Int32) (as : List Value) : Array Value → State → Prop := va_Pc as (fun U => U.heap = H ∧ Ek g U ∧ va_X b L xs U H)
theorem CP.blind {g : wG} {H : Heap} {b L : Nat} {xs : Nat → Int32} {as : List Value} : FrameBlind (CP g H b L xs as) := fun a U gf mk h => ⟨h.1, h.2.1, h.2.2.1.warm (State.WarmedH.refl U), xX_moved h.2.2.2 (Vm.Alike.refl U.vm)⟩
theorem Cel.of {l : Launch} {g : wG} {H : Heap} {y : MethodName} {ws ws' : List Cond} {fr lo maxL b L : Nat} {xs : Nat → Int32} {cc : ByteArray} {ret : Option FieldType} {as : List Value} {v : Value}
    (hy : plainName y.cls = true) (hw : ws = Cond.code y cc maxL ret :: ws') (hsl : (lg_sl as).length ≤ maxL)
    (body : ∀ (p : Program) (e : Env) (s : State) (m : MethodId) (args : Array Value) (below : List Frame) (meth : Method) (c : Code), CallFix p m c cc maxL s args ws y.cls → va_X b L xs s s.heap → va_S (fun _ => False) s.heap H [] → meth.sig.returnType = ret → meth.locks = false → ∀ ls : Array Slot, lv_has ls maxL (lv_args 0 as) →
      W p l e { frames := fr, cells := 0, slots := 0, locals := lo } s m args below meth c H [] 0 0 (MQ below (PQ H v) args s 0 0 (fun _ => False)) (F0 m 0 ls [])) : Met l y ws { frames := fr, cells := 0, slots := 0, locals := lo } (CP g H b L xs as) (PQ H v) 0 0 (fun _ => False) := by
  refine Met.ofW (cc := cc) (maxL := maxL) (ret := ret) hy hw ?_
  intro p e s m args below meth c s₁ B hml hv
  obtain ⟨rfl, hH, hE, hX⟩ := hv
  have hts := atoms_spec (ws := ws) B.pre
  have hown : s.vm.findClass y.cls = some m.cls := findClass_of_methodNamed B.named
  have hl := lv_entry as (n := maxL) hsl
  rw [lg_entry_eq, hH]
  exact body p e s m _ below meth c ⟨B.exec, B.bytes, hml, hown, hts⟩ (by rw [hH]; exact hX) (w_F0 hH) B.returns B.notSynchronized _ hl
/-! methods with catches, and those that call them -/
def Nx (U : State) : Prop := va_Nw (.castable xnS xnS) U ∧ va_Nw (.castable xnB xnB) U
theorem Nx.warm {s U : State} (h : Nx s) (hW : s.WarmedH U.vm) : Nx U := ⟨va_Nw.warmC hW h.1, va_Nw.warmC hW h.2⟩
def IP2 (g : wG) (A : Nat → Prop) (H : Heap) (as : List Value) : Array Value → State → Prop := va_Pc as (fun U => U.heap = H ∧ Ek g U ∧ Es g A U H ∧ Nx U)
theorem IP2.blind {g : wG} {A : Nat → Prop} {H : Heap} {as : List Value} : FrameBlind (IP2 g A H as) := fun a U gf mk h => ⟨h.1, h.2.1, h.2.2.1.warm (State.WarmedH.refl U), h.2.2.2.1.moved (Vm.Alike.refl U.vm), h.2.2.2.2.warm (State.WarmedH.refl U)⟩
abbrev WrpR (l : Launch) (g : wG) (A : Nat → Prop) (H : Heap) (y : MethodName) (ws : List Cond) (fr lo mc ms : Nat) (as : List Value) (post : Value → Heap → Prop) : Prop := Met l y ws { frames := fr, cells := mc, slots := ms, locals := lo } (IP2 g A H as) (IQr A post) mc ms A
theorem Wrp.of {l : Launch} {g : wG} {A : Nat → Prop} {H : Heap} {y : MethodName} {ws ws' : List Cond} {fr lo mc ms maxL : Nat} {cc : ByteArray} {ret : Option FieldType} {hh : List (Nat × Nat × Nat × Nat)} {as : List Value} {Qc : Array Value → State → Outcome → State → Prop}
    (hy : plainName y.cls = true) (hw : ws = Cond.codeWith y cc maxL ret hh :: ws') (hsl : (lg_sl as).length ≤ maxL)
    (body : ∀ (p : Program) (e : Env) (s : State) (m : MethodId) (args : Array Value) (below : List Frame) (meth : Method) (c : Code), CallFix p m c cc maxL s args ws y.cls → Ek g s → Es g A s s.heap → Nx s → c.exceptionTable.toList = tableOf hh → meth.sig.returnType = ret → meth.locks = false → va_S A s.heap H [] → ∀ ls : Array Slot, lv_has ls maxL (lv_args 0 as) →
      W p l e { frames := fr, cells := mc, slots := ms, locals := lo } s m args below meth c H [] 0 0 (MQ below Qc args s mc ms A) (F0 m 0 ls [])) : Met l y ws { frames := fr, cells := mc, slots := ms, locals := lo } (IP2 g A H as) Qc mc ms A := by
  refine va_MetW (cc := cc) (maxL := maxL) (ret := ret) (hh := hh) hy hw ?_
  intro p e s m args below meth c s₁ B hml hv
  obtain ⟨rfl, hH, hE, hEs, hN⟩ := hv
  have hts := atoms_spec (ws := ws) B.pre
  have hc9 : (Cond.codeWith y cc maxL ret hh).before as.toArray s = true := hts _ (by rw [hw]; exact List.mem_cons_self)
  have hT := vx_table (x := y) B hc9
  have hown : s.vm.findClass y.cls = some m.cls := findClass_of_methodNamed B.named
  have hl := lv_entry as (n := maxL) hsl
  rw [lg_entry_eq, hH]
  exact body p e s m _ below meth c ⟨B.exec, B.bytes, hml, hown, hts⟩ hE (by rw [hH]; exact hEs) hN hT B.returns B.notSynchronized (w_F0 hH) _ hl
theorem Imp2.of {l : Launch} {g : wG} {A : Nat → Prop} {H : Heap} {y : MethodName} {ws ws' : List Cond} {fr lo mc ms maxL : Nat} {cc : ByteArray} {ret : Option FieldType} {as : List Value} {Qc : Array Value → State → Outcome → State → Prop}
    (hy : plainName y.cls = true) (hw : ws = Cond.code y cc maxL ret :: ws') (hsl : (lg_sl as).length ≤ maxL)
    (body : ∀ (p : Program) (e : Env) (s : State) (m : MethodId) (args : Array Value) (below : List Frame) (meth : Method) (c : Code), CallFix p m c cc maxL s args ws y.cls → Ek g s → Es g A s s.heap → Nx s → meth.sig.returnType = ret → meth.locks = false → va_S A s.heap H [] → ∀ ls : Array Slot, lv_has ls maxL (lv_args 0 as) →
      W p l e { frames := fr, cells := mc, slots := ms, locals := lo } s m args below meth c H [] 0 0 (MQ below Qc args s mc ms A) (F0 m 0 ls [])) : Met l y ws { frames := fr, cells := mc, slots := ms, locals := lo } (IP2 g A H as) Qc mc ms A := by
  refine Met.ofW (cc := cc) (maxL := maxL) (ret := ret) hy hw ?_
  intro p e s m args below meth c s₁ B hml hv
  obtain ⟨rfl, hH, hE, hEs, hN⟩ := hv
  have hts := atoms_spec (ws := ws) B.pre
  have hown : s.vm.findClass y.cls = some m.cls := findClass_of_methodNamed B.named
  have hl := lv_entry as (n := maxL) hsl
  rw [lg_entry_eq, hH]
  exact body p e s m _ below meth c ⟨B.exec, B.bytes, hml, hown, hts⟩ hE (by rw [hH]; exact hEs) hN B.returns B.notSynchronized (w_F0 hH) _ hl
theorem XInv.narrow {g : wG} {A A1 : Nat → Prop} {x : Nat} {σ : St} {H : Heap} (h : XInv g A x σ H) (hA : ∀ q, A q → q < H.size → A1 q) : XInv g A1 x σ H := by
  obtain ⟨al, el, mc, fl, Ld, P, h1, h2⟩ := h
  refine ⟨al, el, mc, fl, Ld, P, ⟨fun k hk => ⟨⟨hA _ (h1.1 k hk).1.1 (h1.1 k hk).1.2.lt, (h1.1 k hk).1.2⟩, fun hc => ⟨hA _ ((h1.1 k hk).2.1 hc).1 ((h1.1 k hk).2.1 hc).2.lt, ((h1.1 k hk).2.1 hc).2⟩, (h1.1 k hk).2.2⟩, h1.2⟩, ⟨hA _ h2.1.1 h2.1.2.lt, h2.1.2⟩, fun i hi => ⟨(h2.2.1 i hi).1, hA _ (h2.2.1 i hi).2.1 (h2.2.1 i hi).2.2.lt, (h2.2.1 i hi).2.2⟩, h2.2.2.1, fun i hi => ⟨(h2.2.2.2.1 i hi).1, hA _ (h2.2.2.2.1 i hi).2.1 (h2.2.2.2.1 i hi).2.2.lt, (h2.2.2.2.1 i hi).2.2⟩, h2.2.2.2.2.1, fun i b hi hb => ?_⟩
  obtain ⟨q, q1, q2, q3⟩ := h2.2.2.2.2.2 i b hi hb
  exact ⟨q, q1, hA _ q2 q3.lt, q3⟩
theorem XInv.ob {g : wG} {A : Nat → Prop} {x : Nat} {σ : St} {H : Heap} (h : XInv g A x σ H) : A x ∧ ∃ fs, Ob g H x 4 fs := by
  obtain ⟨al, el, mc, fl, Ld, P, h1, h2⟩ := h
  exact ⟨h2.1.1, _, h2.1.2⟩
abbrev AW (AX : Nat → Prop) (a : Nat) : Nat → Prop := fun q => AX q ∨ q = a
abbrev AW2 (AX : Nat → Prop) (a b : Nat) : Nat → Prop := fun q => AX q ∨ (q = a ∨ q = b)
section WRW
variable {p : Program} {l : Launch} {e : Env} {R : Room} {s : State} {m : MethodId} {args : Array Value} {below : List Frame} {meth : Method} {c : Code} {H : Heap} {locs : List Loc} {cells slots : Nat} {Q : State → Prop}
variable {cc : ByteArray} {nL : Nat} {Ts : List Cond} {own : String} {pc : Nat} {ls : Array Slot} {rest : List Value} {lv : List (Nat × Value)} {g : wG} {A AX : Nat → Prop}
theorem w_prVN {C : String} {T : u_T} {b ci N : Nat} {fs As : List Value} (hE : Ek g s) (hEs : Es g A s s.heap) (hS : va_S A s.heap H locs) (hN : ∀ q, AX q → A q) (hO : Ob g H b ci fs) (hc : vwCl[ci]? = some (C, T, N)) : PreV s H C b (IP g AX H (.ref b :: As)) As := ⟨IP.blind, hO.recv hE hc, fun U hU hW => ⟨rfl, hU, hE.warm hW, ((w_at hEs hS).moved hW.alike).narrow hN⟩⟩
theorem w_pr2 {as : List Value} (hE : Ek g s) (hEs : Es g A s s.heap) (hX : Nx s) (hS : va_S A s.heap H locs) (hN : ∀ q, AX q → A q) : PreS s H (IP2 g AX H as) as := ⟨IP2.blind, fun U hU hW => ⟨rfl, hU, hE.warm hW, ((w_at hEs hS).moved hW.alike).narrow hN, hX.warm hW⟩⟩
theorem w_lconst (X : CallFix p m c cc nL s args Ts own) {n : Fin 2} (z : Int) (hdg : decode cc pc = .ok (.lconst n, 1)) (hv : Int64.ofNat (n : Nat) = wJ z)
    (kk : W p l e R s m args below meth c H locs cells slots Q (F0 m (pc + 1) ls (.long (wJ z) :: rest))) : W p l e R s m args below meth c H locs cells slots Q (F0 m pc ls rest) := lv_lconst X.1 X.2.1 hdg hv kk
theorem w_irem (X : CallFix p m c cc nL s args Ts own) {a b : Int} (hdg : decode cc pc = .ok (.irem, 1)) (ha : 0 ≤ a ∧ a ≤ 2147483647) (hb : 0 < b ∧ b ≤ 2147483647)
    (kk : ∀ z : Int, z = a % b → W p l e R s m args below meth c H locs cells slots Q (F0 m (pc + 1) ls (.int (wI z) :: rest))) : W p l e R s m args below meth c H locs cells slots Q (F0 m pc ls (.int (wI b) :: .int (wI a) :: rest)) :=
  lv_irem X.1 X.2.1 hdg (by rw [wI_eq0 ⟨by omega, by omega⟩]; omega) (by rw [wI_div ha hb, wI_mul, wI_sub]; exact kk _ (by rw [Int.emod_def, Int.mul_comm b]))
theorem w_ishr (X : CallFix p m c cc nL s args Ts own) {x y : Int32} (hdg : decode cc pc = .ok (.ishr, 1))
    (kk : ∀ v : Int32, W p l e R s m args below meth c H locs cells slots Q (F0 m (pc + 1) ls (.int v :: rest))) : W p l e R s m args below meth c H locs cells slots Q (F0 m pc ls (.int y :: .int x :: rest)) := lv_ishr X.1 X.2.1 hdg (kk _)
theorem w_iast (X : CallFix p m c cc nL s args Ts own) (hE : Ek g s) {a n : Nat} {f : Nat → Int32} (hA : IA g H a n f) (hS : va_S A s.heap H locs) (hAa : A a) {z : Int} {x : Int32} (hdg : decode cc pc = .ok (.iastore, 1)) (h0 : 0 ≤ z) (h1 : z < n) (hn : (n : Int) ≤ 2147483647)
    (kk : ∀ (H1 : Heap) (locs1 : List Loc), IA g H1 a n (up f z.toNat x) → H1.size = H.size → (∀ q, q ≠ a → H1[q]? = H[q]?) → va_S A s.heap H1 locs1 → W p l e R s m args below meth c H1 locs1 cells slots Q (F0 m (pc + 1) ls rest)) : W p l e R s m args below meth c H locs cells slots Q (F0 m pc ls (.int x :: .int (wI z) :: .ref a :: rest)) := by
  have hin : vp_in (wI z) n := wI_in h0 h1 hn
  have hcl : (wI z).toNatClampNeg = z.toNat := wI_clamp ⟨h0, by omega⟩
  refine W.iast X.1 X.2.1 (show H[a]? = some (vp_cell (gI g) (n, .inl f)) from hA) ((hE.1.2 0 _ rfl).1 n (fun j => .int (f j))) (fun q => by cases q) (by show ¬ (wI z < 0 ∨ (arrV _ _ _).slots.size ≤ _); rw [arrV_size]; exact hin) rfl rfl hdg fun H1 e z2 oq => ?_
  refine kk H1 _ ?_ z2 oq (hS.put z2 oq hAa)
  show H1[a]? = some (vp_cell _ _)
  rw [e]
  rw [vp_cell_i, vp_cell_i, arrV_store, hcl]
  congr 2
  funext q
  by_cases hq : q = z.toNat
  · subst hq
    simp [updV, va_up]
  · simp [updV, va_up, hq]
theorem w_sld {b L : Nat} {xs : Nat → Int32} (X : CallFix p m c cc nL s args Ts own) (hX : va_X b L xs s s.heap) (hbl : b < s.heap.size) (hbA : ¬ A b) (hS : va_S A s.heap H locs) (hL : L ≤ 260) {z : Int} (h0 : 0 ≤ z) (h1 : z < L) (hdg : decode cc pc = .ok (.iaload, 1))
    (kk : W p l e R s m args below meth c H locs cells slots Q (F0 m (pc + 1) ls (.int (xs z.toNat) :: rest))) : W p l e R s m args below meth c H locs cells slots Q (F0 m pc ls (.int (wI z) :: .ref b :: rest)) := by
  have hin : vp_in (wI z) L := wI_in h0 h1 (by omega)
  refine va_sld X.1 X.2.1 hX hbl hbA hS hin hdg ?_
  rw [wI_clamp ⟨h0, by omega⟩]
  exact kk
theorem w_slen {b L : Nat} {xs : Nat → Int32} (X : CallFix p m c cc nL s args Ts own) (hX : va_X b L xs s s.heap) (hbl : b < s.heap.size) (hbA : ¬ A b) (hS : va_S A s.heap H locs) (hdg : decode cc pc = .ok (.arraylength, 1))
    (kk : W p l e R s m args below meth c H locs cells slots Q (F0 m (pc + 1) ls (.int (wI (L : Int)) :: rest))) : W p l e R s m args below meth c H locs cells slots Q (F0 m pc ls (.ref b :: rest)) := by
  refine va_slen X.1 X.2.1 hX hbl hbA hS hdg ?_
  have e0 : nI L = wI (L : Int) := by rw [wI_nat]; rfl
  first | exact kk | (rw [e0]; exact kk)
theorem c_L_low (l : Launch) (g : wG) (H : Heap) (v : Int32) (n : Int) (hn : 0 < n ∧ n ≤ 2147483647) : Pur l g H yL_low wsL_low 0 0 [.int v, .int (wI n)] (.int (wI (lowS v n))) := by
  refine Pur.of (cc := cL_low) (maxL := 2) (ret := (some .int)) (by decide) rfl (Nat.le_of_ble_eq_true rfl) ?_
  intro p9 e s m args below meth c X hE hr hk ls hl
  have hl : lv_has ls 2 [(0, .int v), (1, .int (wI n))] := hl
  refine w_iload_n X dL_low_0 hl 0 rfl rfl ?_
  refine w_ldc (v := 2147483647) (z := 2147483647) X dL_low_1 (by decide +kernel) (by decide) ?_
  refine lv_iand X.1 X.2.1 dL_low_3 ?_
  have hnn := low_nn v
  have hr9 := wR_toInt (v &&& wI 2147483647)
  obtain ⟨q, e1, e2⟩ : ∃ q : Int, v &&& wI 2147483647 = wI q ∧ q = (v &&& wI 2147483647).toInt := ⟨_, (wI_ofInt _).symm, rfl⟩
  rw [e1]
  refine w_iload_n X dL_low_4 hl 1 rfl rfl ?_
  refine w_irem X dL_low_5 ⟨by omega, by omega⟩ hn fun z ez => ?_
  exact w_iret X hr hk dL_low_6 (by rw [ez, e2]; rfl)
theorem w_low (X : CallFix p m c cc nL s args Ts own) (hE : Ek g s) {index : Nat} {v : Int32} {n : Int} (hn : 0 < n ∧ n ≤ 2147483647) (hl : lv_has ls nL lv) (hdg : decode cc pc = .ok (.invokestatic index, 3)) (hT : GoodIn Ts (va_wsS own index yL_low wsL_low)) (hR : 1 ≤ R.frames ∧ 21 ≤ R.locals) (hcat : (rest.map fun v => v.category).sum ≤ 8) (hcs : cells ≤ R.cells ∧ slots ≤ R.slots)
    (kk : ∀ y : Int, 0 ≤ y → y < n → W p l e R s m args below meth c H locs cells slots Q (F0 m (pc + 3) ls (.int (wI y) :: rest))) : W p l e R s m args below meth c H locs cells slots Q (F0 m pc ls (.int (wI n) :: .int v :: rest)) :=
  w_callS (v := .int (wI (lowS v n))) 2 X hE (c_L_low l g H v n hn) hl hdg hT rfl rfl (by decide +kernel) hR rfl hcat hcs (kk _ (low_bd v hn.1).1 (low_bd v hn.1).2)
end WRW
set_option maxHeartbeats 4000000 in
theorem c_L_cell (l : Launch) (g : wG) (H : Heap) (b L : Nat) (xs : Nat → Int32) (hL : L ≤ 260) (k : Int) (hk0 : 0 ≤ k ∧ k ≤ 100) : Met l yL_cell wsL_cell { frames := 0, cells := 0, slots := 0, locals := 0 } (CP g H b L xs [.ref b, .int (wI k)]) (PQ H (.int (cellS xs L k))) 0 0 (fun _ => False) := by
  refine Cel.of (cc := cL_cell) (maxL := 2) (ret := (some .int)) (by decide) rfl (Nat.le_of_ble_eq_true rfl) ?_
  intro p9 e s m args below meth c X hXs hS hr hk ls hl
  have hl : lv_has ls 2 [(0, .ref b), (1, .int (wI k))] := hl
  have hbl : b < s.heap.size := by
    obtain ⟨scr, h1, -⟩ := hXs
    exact (Array.getElem?_eq_some_iff.mp h1).1
  have hbA : ¬ (fun _ => False : Nat → Prop) b := fun h => h
  refine w_iload_n X dL_cell_0 hl 1 rfl rfl ?_
  refine w_aload_n X dL_cell_1 hl 0 rfl rfl ?_
  refine w_slen X hXs hbl hbA hS dL_cell_2 ?_
  refine w_icmp_ge X 12 dL_cell_3 (by decide) (by omega) (by omega) (fun c_1 => ?_) (fun c_1 => ?_)
  · have e9 : cellS xs L k = wI 50951 * (wI k + wI 29) + wI 2788375 := if_neg (by omega)
    rw [e9]
    refine w_ldc (v := 50951) (z := 50951) X dL_cell_12 (by decide +kernel) (by decide) ?_
    refine w_iload_n X dL_cell_14 hl 1 rfl rfl ?_
    refine w_bipush X dL_cell_15 (by decide) ?_
    refine lv_iadd X.1 X.2.1 dL_cell_17 ?_
    refine lv_imul X.1 X.2.1 dL_cell_18 ?_
    refine w_ldc (v := 2788375) (z := 2788375) X dL_cell_19 (by decide +kernel) (by decide) ?_
    refine lv_iadd X.1 X.2.1 dL_cell_21 ?_
    exact W.iret X.1 X.2.1 hr (fun t ht _ => ⟨rfl, ht⟩) (fun _ h => nomatch h) dL_cell_22 hk
  · have e9 : cellS xs L k = xs k.toNat := if_pos (by omega)
    rw [e9]
    refine w_aload_n X dL_cell_6 hl 0 rfl rfl ?_
    refine w_iload_n X dL_cell_7 hl 1 rfl rfl ?_
    refine w_sld X hXs hbl hbA hS hL hk0.1 (by omega) dL_cell_8 ?_
    refine w_goto X 22 dL_cell_9 (by decide) ?_
    exact W.iret X.1 X.2.1 hr (fun t ht _ => ⟨rfl, ht⟩) (fun _ h => nomatch h) dL_cell_22 hk
