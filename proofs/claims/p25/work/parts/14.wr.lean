/-! methods that write, make or throw. A: the cells that may be written *-/
/-- the shared empty array of the lists -/
def TE (g : wG) (U : State) (H : Heap) : Prop := ∃ scr : Cell, H[gE g]? = some scr ∧ U.isArrayOf scr (.object "java/lang/Object") ∧ scr.vm ≠ .unknown ∧ scr.slots.size.toInt32 = (0 : Int32)
theorem TE.lt {g : wG} {U : State} {H : Heap} (h : TE g U H) : gE g < H.size := by
  obtain ⟨scr, h1, -⟩ := h
  exact (Array.getElem?_eq_some_iff.mp h1).1
def Es (g : wG) (A : Nat → Prop) (U : State) (H : Heap) : Prop := vx_Zq Bundle.tN "UNASSIGNED_STACK" Bundle.steD A U H ∧ vx_Zq Bundle.tN "SUPPRESSED_SENTINEL" Bundle.listD A U H ∧ va_Z "java/util/ArrayList" "DEFAULTCAPACITY_EMPTY_ELEMENTDATA" "[Ljava/lang/Object;" (.ref (gE g)) A U H ∧ TE g U H ∧ ¬ A (gE g)
theorem Es.moved {g : wG} {A : Nat → Prop} {u U : State} {H : Heap} (h : Es g A u H) (hvm : u.vm.Alike U.vm) : Es g A U H := by
  obtain ⟨h1, h2, h3, ⟨scr, q1, q2, q3⟩, h5⟩ := h
  exact ⟨vx_Zq.moved hvm h1, vx_Zq.moved hvm h2, va_Z.moved hvm h3, ⟨scr, q1, State.isArrayOf_alike hvm q2, q3⟩, h5⟩
theorem Es.kept {g : wG} {A : Nat → Prop} {U : State} {H H1 : Heap} (h : Es g A U H) (hq : ∀ a : Nat, a < H.size → ¬ A a → H1[a]? = H[a]?) : Es g A U H1 := by
  obtain ⟨h1, h2, h3, h4, h5⟩ := h
  have hlt := h4.lt
  obtain ⟨scr, q1, q2⟩ := h4
  exact ⟨h1.kept hq, h2.kept hq, h3.kept hq, ⟨scr, by rw [hq _ hlt h5]; exact q1, q2⟩, h5⟩
theorem Es.narrow {g : wG} {A B : Nat → Prop} {U : State} {H : Heap} (h : Es g A U H) (hAB : ∀ q, B q → A q) : Es g B U H := ⟨h.1.narrow hAB, h.2.1.narrow hAB, h.2.2.1.narrow hAB, h.2.2.2.1, fun q => h.2.2.2.2 (hAB _ q)⟩
def IP (g : wG) (A : Nat → Prop) (H : Heap) (as : List Value) : Array Value → State → Prop := va_Pc as (fun U => U.heap = H ∧ Ek g U ∧ Es g A U H)
def IQr (A : Nat → Prop) (post : Value → Heap → Prop) : Array Value → State → Outcome → State → Prop := fun _ st o t => (∃ v, o = .returned (some v) ∧ post v t.heap) ∧ va_F A st t
def IQv (A : Nat → Prop) (post : Heap → Prop) : Array Value → State → Outcome → State → Prop := fun _ st o t => (o = .returned none ∧ post t.heap) ∧ va_F A st t
def XQ (A : Nat → Prop) (xpost : String → Heap → Prop) : String → State → State → Prop := fun E st t => xpost E t.heap ∧ va_F A st t
abbrev ImpR (l : Launch) (g : wG) (A : Nat → Prop) (H : Heap) (y : MethodName) (ws : List Cond) (fr lo mc ms : Nat) (as : List Value) (post : Value → Heap → Prop) : Prop := Met l y ws { frames := fr, cells := mc, slots := ms, locals := lo } (IP g A H as) (IQr A post) mc ms A
abbrev ImpV (l : Launch) (g : wG) (A : Nat → Prop) (H : Heap) (y : MethodName) (ws : List Cond) (fr lo mc ms : Nat) (as : List Value) (post : Heap → Prop) : Prop := Met l y ws { frames := fr, cells := mc, slots := ms, locals := lo } (IP g A H as) (IQv A post) mc ms A
abbrev ThrR (l : Launch) (g : wG) (A : Nat → Prop) (H : Heap) (y : MethodName) (ws : List Cond) (fr lo mc ms : Nat) (as : List Value) (post : Value → Heap → Prop) (xpost : String → Heap → Prop) : Prop := vx_Met l y ws { frames := fr, cells := mc, slots := ms, locals := lo } (IP g A H as) (IQr A post) (XQ A xpost) mc ms A
abbrev ThrV (l : Launch) (g : wG) (A : Nat → Prop) (H : Heap) (y : MethodName) (ws : List Cond) (fr lo mc ms : Nat) (as : List Value) (post : Heap → Prop) (xpost : String → Heap → Prop) : Prop := vx_Met l y ws { frames := fr, cells := mc, slots := ms, locals := lo } (IP g A H as) (IQv A post) (XQ A xpost) mc ms A
theorem IP.blind {g : wG} {A : Nat → Prop} {H : Heap} {as : List Value} : FrameBlind (IP g A H as) := fun a U gf mk h => ⟨h.1, h.2.1, h.2.2.1.warm (State.WarmedH.refl U), h.2.2.2.moved (Vm.Alike.refl U.vm)⟩
theorem w_F0 {A : Nat → Prop} {s : State} {H : Heap} (hH : s.heap = H) : va_S A s.heap H [] := by rw [hH]; exact va_S.rf
theorem Imp.of {l : Launch} {g : wG} {A : Nat → Prop} {H : Heap} {y : MethodName} {ws ws' : List Cond} {fr lo mc ms maxL : Nat} {cc : ByteArray} {ret : Option FieldType} {as : List Value} {Qc : Array Value → State → Outcome → State → Prop}
    (hy : plainName y.cls = true) (hw : ws = Cond.code y cc maxL ret :: ws') (hsl : (lg_sl as).length ≤ maxL)
    (body : ∀ (p : Program) (e : Env) (s : State) (m : MethodId) (args : Array Value) (below : List Frame) (meth : Method) (c : Code), CallFix p m c cc maxL s args ws y.cls → Ek g s → Es g A s s.heap → meth.name = y.name → meth.sig.returnType = ret → meth.locks = false → va_S A s.heap H [] → ∀ ls : Array Slot, lv_has ls maxL (lv_args 0 as) →
      W p l e { frames := fr, cells := mc, slots := ms, locals := lo } s m args below meth c H [] 0 0 (MQ below Qc args s mc ms A) (F0 m 0 ls [])) : Met l y ws { frames := fr, cells := mc, slots := ms, locals := lo } (IP g A H as) Qc mc ms A := by
  refine Met.ofW (cc := cc) (maxL := maxL) (ret := ret) hy hw ?_
  intro p e s m args below meth c s₁ B hml hv
  obtain ⟨rfl, hH, hE, hEs⟩ := hv
  have hts := atoms_spec (ws := ws) B.pre
  have hown : s.vm.findClass y.cls = some m.cls := findClass_of_methodNamed B.named
  have hl := lv_entry as (n := maxL) hsl
  rw [lg_entry_eq, hH]
  exact body p e s m _ below meth c ⟨B.exec, B.bytes, hml, hown, hts⟩ hE (by rw [hH]; exact hEs) (name_of_methodNamed B.named B.method).1 B.returns B.notSynchronized (w_F0 hH) _ hl
theorem Thr.of {l : Launch} {g : wG} {A : Nat → Prop} {H : Heap} {y : MethodName} {ws ws' : List Cond} {fr lo mc ms maxL : Nat} {cc : ByteArray} {ret : Option FieldType} {as : List Value} {Qc : Array Value → State → Outcome → State → Prop} {XC : String → State → State → Prop}
    (hy : plainName y.cls = true) (hw : ws = Cond.code y cc maxL ret :: ws') (hsl : (lg_sl as).length ≤ maxL)
    (body : ∀ (p : Program) (e : Env) (s : State) (m : MethodId) (args : Array Value) (below : List Frame) (meth : Method) (c : Code), CallFix p m c cc maxL s args ws y.cls → Ek g s → Es g A s s.heap → (∀ x ∈ c.exceptionTable.toList, False) → meth.sig.returnType = ret → meth.locks = false → va_S A s.heap H [] → ∀ ls : Array Slot, lv_has ls maxL (lv_args 0 as) →
      W p l e { frames := fr, cells := mc, slots := ms, locals := lo } s m args below meth c H [] 0 0 (vx_MQ below Qc XC args s mc ms A) (F0 m 0 ls [])) : vx_Met l y ws { frames := fr, cells := mc, slots := ms, locals := lo } (IP g A H as) Qc XC mc ms A := by
  refine vx_ofW (cc := cc) (maxL := maxL) (ret := ret) hy hw ?_
  intro p e s m args below meth c s₁ B hml hx hv
  obtain ⟨rfl, hH, hE, hEs⟩ := hv
  have hts := atoms_spec (ws := ws) B.pre
  have hown : s.vm.findClass y.cls = some m.cls := findClass_of_methodNamed B.named
  have hl := lv_entry as (n := maxL) hsl
  rw [lg_entry_eq, hH]
  exact body p e s m _ below meth c ⟨B.exec, B.bytes, hml, hown, hts⟩ hE (by rw [hH]; exact hEs) hx B.returns B.notSynchronized (w_F0 hH) _ hl
section WR
variable {p : Program} {l : Launch} {e : Env} {R : Room} {s : State} {m : MethodId} {args : Array Value} {below : List Frame} {meth : Method} {c : Code} {H : Heap} {locs : List Loc} {cells slots : Nat} {Q : State → Prop}
variable {cc : ByteArray} {nL : Nat} {Ts : List Cond} {own : String} {pc : Nat} {ls : Array Slot} {rest : List Value} {lv lv' : List (Nat × Value)} {g : wG} {A A1 : Nat → Prop} {mc ms : Nat}
theorem w_put (X : CallFix p m c cc nL s args Ts own) (hE : Ek g s) {ref C : String} {T : u_T} {N ci index a : Nat} {fs : List Value} (hO : Ob g H a ci fs) (hS : va_S A s.heap H locs) (hAa : A a) (k : Nat) (hdg : decode cc pc = .ok (.putfield index, 3)) (hc : vwCl[ci]? = some (C, T, N)) (hin : ∀ w ∈ u_ws C T N, w ∈ Ts) (ty0 : Nat → FieldType) (hty : ∀ k, k < N → parseFieldDescriptor (T k).2.2.1 = some (ty0 k)) (hnm : ∀ a, a < N → ∀ b, b < N → a ≠ b → (T a).2.1 ≠ (T b).2.1) (hk : k < N) (hlink : Cond.fieldLink own index ref (T k).2.1 (T k).2.2.1 ∈ Ts) (hsame : ∀ x, s.fieldFound? (T k).1 (T k).2.1 (T k).2.2.1 = some x → s.fieldFound? ref (T k).2.1 (T k).2.2.1 = some x) (hfin : (T k).2.2.2 = false) {v : Value} (hn : narrow (ty0 k) v = v) (hfit : fits (ty0 k) v = true) (hl : k < fs.length)
    (kk : ∀ (H1 : Heap) (locs1 : List Loc), Ob g H1 a ci (fs.set k v) → H1.size = H.size → (∀ q, q ≠ a → H1[q]? = H[q]?) → va_S A s.heap H1 locs1 → W p l e R s m args below meth c H1 locs1 cells slots Q (F0 m (pc + 3) ls rest)) : W p l e R s m args below meth c H locs cells slots Q (F0 m pc ls (v :: .ref a :: rest)) := by
  obtain ⟨hx, hb, hml, hown, hts⟩ := X
  have hap := va_apart (own := own) hts hin ty0 hty hnm hE.1 hc
  obtain ⟨r, h1, cell, q1, q2, q3, q4⟩ := hO
  have hr : r = (C, T, N) := Option.some.inj (h1.symm.trans hc)
  subst hr
  obtain ⟨hSl, hfc, kC, hkC, hkind⟩ := hE.1.1 ci _ hc
  obtain ⟨cf, kf, fi, f, hi, hsl⟩ := hSl k hk
  have hlay := hts _ (hin _ (u_in_lay hk))
  unfold u_lay at hlay
  rw [if_neg (by rw [hfin]; decide)] at hlay
  have hst := (u_facts hfc hkC (u_lays hts hin hk) hi).1
  have h6 := u_store hfc hkC hkind hlay hi (hty k hk) hn hfit
  refine W.putK hx hb (f := f) ⟨hown, hts _ hlink, ⟨_, _, _, hsame _ hi⟩, hst⟩ (by rw [q2]; exact h6) q1 q3 (by rw [hsl]; exact k2_hasslot (q4 k hk)) rfl rfl hdg fun H' e1 e2 e3 => ?_
  rw [hsl] at e1 ⊢
  exact kk H' _ ⟨_, hc, t_OB.to (V := updV (vp_V fs) k v) ⟨_, e1, q2, q3, t_set q4 hap hk v⟩ (fun j _ => vp_updV_set hl v j)⟩ e2 e3 (hS.put e2 e3 hAa)
theorem w_putN (X : CallFix p m c cc nL s args Ts own) (hE : Ek g s) {ref C : String} {T : u_T} {N ci index a : Nat} {fs : List Value} (hO : Ob g H a ci fs) (hS : va_S A s.heap H locs) (hAa : A a) (k : Nat) (hdg : decode cc pc = .ok (.putfield index, 3)) (hc : vwCl[ci]? = some (C, T, N)) (hin : ∀ w ∈ u_ws C T N, w ∈ Ts) (ty0 : Nat → FieldType) (hty : ∀ k, k < N → parseFieldDescriptor (T k).2.2.1 = some (ty0 k)) (hnm : ∀ a, a < N → ∀ b, b < N → a ≠ b → (T a).2.1 ≠ (T b).2.1) (hk : k < N) (hlink : (own, index, ref, (T k).2.1, (T k).2.2.1) ∈ NWs) (hsame : ∀ x, s.fieldFound? (T k).1 (T k).2.1 (T k).2.2.1 = some x → s.fieldFound? ref (T k).2.1 (T k).2.2.1 = some x) (hfin : (T k).2.2.2 = false) {v : Value} (hn : narrow (ty0 k) v = v) (hfit : fits (ty0 k) v = true) (hl : k < fs.length)
    (kk : ∀ (H1 : Heap) (locs1 : List Loc), Ob g H1 a ci (fs.set k v) → H1.size = H.size → (∀ q, q ≠ a → H1[q]? = H[q]?) → va_S A s.heap H1 locs1 → W p l e R s m args below meth c H1 locs1 cells slots Q (F0 m (pc + 3) ls rest)) : W p l e R s m args below meth c H locs cells slots Q (F0 m pc ls (v :: .ref a :: rest)) := by
  obtain ⟨hx, hb, hml, hown, hts⟩ := X
  have hap := va_apart (own := own) hts hin ty0 hty hnm hE.1 hc
  obtain ⟨r, h1, cell, q1, q2, q3, q4⟩ := hO
  have hr : r = (C, T, N) := Option.some.inj (h1.symm.trans hc)
  subst hr
  obtain ⟨hSl, hfc, kC, hkC, hkind⟩ := hE.1.1 ci _ hc
  obtain ⟨cf, kf, fi, f, hi, hsl⟩ := hSl k hk
  have hlay := hts _ (hin _ (u_in_lay hk))
  unfold u_lay at hlay
  rw [if_neg (by rw [hfin]; decide)] at hlay
  have hst := (u_facts hfc hkC (u_lays hts hin hk) hi).1
  have h6 := u_store hfc hkC hkind hlay hi (hty k hk) hn hfit
  refine va_WputK hx hb (f := f) hown (va_Nw.use rfl (hE.2.2.1 _ hlink)) (hsame _ hi) hst (by rw [q2]; exact h6) q1 q3 (by rw [hsl]; exact k2_hasslot (q4 k hk)) rfl rfl hdg fun H' e1 e2 e3 => ?_
  rw [hsl] at e1 ⊢
  exact kk H' _ ⟨_, hc, t_OB.to (V := updV (vp_V fs) k v) ⟨_, e1, q2, q3, t_set q4 hap hk v⟩ (fun j _ => vp_updV_set hl v j)⟩ e2 e3 (hS.put e2 e3 hAa)
theorem w_putF (X : CallFix p m c cc nL s args Ts own) (hE : Ek g s) {ref C : String} {T : u_T} {N ci index a : Nat} {fs : List Value} (hO : Ob g H a ci fs) (hS : va_S A s.heap H locs) (hAa : A a) (hnm2 : meth.name = "<init>") (k : Nat) (hdg : decode cc pc = .ok (.putfield index, 3)) (hc : vwCl[ci]? = some (C, T, N)) (hin : ∀ w ∈ u_ws C T N, w ∈ Ts) (ty0 : Nat → FieldType) (hty : ∀ k, k < N → parseFieldDescriptor (T k).2.2.1 = some (ty0 k)) (hnm : ∀ a, a < N → ∀ b, b < N → a ≠ b → (T a).2.1 ≠ (T b).2.1) (hk : k < N) (hlink : Cond.fieldLink own index ref (T k).2.1 (T k).2.2.1 ∈ Ts) (hsame : ∀ x, s.fieldFound? (T k).1 (T k).2.1 (T k).2.2.1 = some x → s.fieldFound? ref (T k).2.1 (T k).2.2.1 = some x) (hfin : (T k).2.2.2 = true) (hdecl : (T k).1 = own) {v : Value} (hn : narrow (ty0 k) v = v) (hfit : fits (ty0 k) v = true) (hl : k < fs.length)
    (kk : ∀ (H1 : Heap) (locs1 : List Loc), Ob g H1 a ci (fs.set k v) → H1.size = H.size → (∀ q, q ≠ a → H1[q]? = H[q]?) → va_S A s.heap H1 locs1 → W p l e R s m args below meth c H1 locs1 cells slots Q (F0 m (pc + 3) ls rest)) : W p l e R s m args below meth c H locs cells slots Q (F0 m pc ls (v :: .ref a :: rest)) := by
  obtain ⟨hx, hb, hml, hown, hts⟩ := X
  have hap := va_apart (own := own) hts hin ty0 hty hnm hE.1 hc
  obtain ⟨r, h1, cell, q1, q2, q3, q4⟩ := hO
  have hr : r = (C, T, N) := Option.some.inj (h1.symm.trans hc)
  subst hr
  obtain ⟨hSl, hfc, kC, hkC, hkind⟩ := hE.1.1 ci _ hc
  obtain ⟨cf, kf, fi, f, hi, hsl⟩ := hSl k hk
  have hlay := hts _ (hin _ (u_in_lay hk))
  unfold u_lay at hlay
  rw [if_pos hfin] at hlay
  have hst := (u_facts hfc hkC (u_lays hts hin hk) hi).1
  have hcf : m.cls = cf := by
    obtain ⟨_, _, c', _, _, _, -, -, hf', -, -, -, hown2, -⟩ := Cond.laysFinal_spec hlay
    have e1 : c' = cf := by have := hi.symm.trans hf'; simp at this; exact this.1.symm
    rw [hdecl] at hown2
    rw [← e1]; exact Option.some.inj (hown.symm.trans hown2)
  have h6 := u_fits hfc hkC hkind (Or.inr hlay) hi (hty k hk) hn hfit
  refine W.putFinK hx hb hown (hts _ hlink) (hsame _ hi) hst hcf hnm2 (by rw [q2]; exact h6) q1 q3 (by rw [hsl]; exact k2_hasslot (q4 k hk)) rfl rfl hdg fun H' e1 e2 e3 => ?_
  rw [hsl] at e1 ⊢
  exact kk H' _ ⟨_, hc, t_OB.to (V := updV (vp_V fs) k v) ⟨_, e1, q2, q3, t_set q4 hap hk v⟩ (fun j _ => vp_updV_set hl v j)⟩ e2 e3 (hS.put e2 e3 hAa)
theorem w_new (X : CallFix p m c cc nL s args Ts own) (hE : Ek g s) (hS : va_S A s.heap H locs) {C : String} {T : u_T} {N ci index : Nat} (fs : List Value) (hdg : decode cc pc = .ok (.new index, 3)) (hc : vwCl[ci]? = some (C, T, N)) (hin : ∀ w ∈ u_ws C T N, w ∈ Ts) (ty : Nat → FieldType) (hty : ∀ k, k < N → parseFieldDescriptor (T k).2.2.1 = some (ty k)) (hw : ∀ w ∈ [Cond.classLink own index C, .instantiable C N, .initialized C], w ∈ Ts) (hfs : ∀ j, j < N → defaultValue (ty j) = vp_V fs j) (hcs : cells + 1 ≤ R.cells ∧ slots + N ≤ R.slots)
    (kk : ∀ (H1 : Heap) (a9 : Nat), a9 = H.size → Ob g H1 a9 ci fs → H1.size = H.size + 1 → (∀ q, q < H.size → H1[q]? = H[q]?) → va_S A s.heap H1 locs → W p l e R s m args below meth c H1 locs (cells + 1) (slots + N) Q (F0 m (pc + 3) ls (.ref a9 :: rest))) : W p l e R s m args below meth c H locs cells slots Q (F0 m pc ls rest) := by
  obtain ⟨hx, hb, hml, hown, hts⟩ := X
  have hKn := hE.1.1 ci _ hc
  refine W.newcK hx hb hown (hts _ (hw _ (by simp))) (hts _ (hw _ (by simp))) (hts _ (hw _ (by simp))) rfl hdg hcs.1 hcs.2 hKn.2.1 rfl fun H1 kC hkC e1 z1 o1 => ?_
  exact kk H1 _ rfl ⟨_, hc, (u_born ty hts hin hKn hkC e1 hty).to hfs⟩ z1 o1 ⟨Nat.le_trans hS.1 (by omega), fun x h1 h2 => (o1 x (Nat.lt_of_lt_of_le h1 hS.1)).trans (hS.2.1 x h1 h2), hS.2.2⟩
theorem w_newI (X : CallFix p m c cc nL s args Ts own) (hE : Ek g s) (hS : va_S A s.heap H locs) {z : Int} (N : Nat) (hdg : decode cc pc = .ok (.newarray .int, 2)) (hz : z = (N : Int)) (hN : N ≤ 1000) (hw : Cond.arrayClass .int ∈ Ts) (hcs : cells + 1 ≤ R.cells ∧ slots + N ≤ R.slots)
    (kk : ∀ (H1 : Heap) (a9 : Nat), a9 = H.size → IA g H1 a9 N (fun _ => 0) → H1.size = H.size + 1 → (∀ q, q < H.size → H1[q]? = H[q]?) → va_S A s.heap H1 locs → W p l e R s m args below meth c H1 locs (cells + 1) (slots + N) Q (F0 m (pc + 2) ls (.ref a9 :: rest))) : W p l e R s m args below meth c H locs cells slots Q (F0 m pc ls (.int (wI z) :: rest)) := by
  obtain ⟨hx, hb, hml, hown, hts⟩ := X
  subst hz
  refine va_newaK hx hb (atype := .int) (hts _ hw) rfl hdg rfl (by rw [wI_lt0 ⟨by omega, by omega⟩]; omega) (N := N) (by rw [wI_clamp ⟨by omega, by omega⟩]; omega) (by show N * 4 ≤ _; omega) hcs.1 hcs.2 rfl fun H1 cA e1 z1 o1 hAr hNm => ?_
  have hc : gI g = cA := Option.some.inj (((hE.1.2 0 _ rfl).2 : s.vm.findClass ("[" ++ FieldType.int.toString) = some (gI g)).symm.trans hNm)
  subst hc
  exact kk H1 _ rfl e1 z1 o1 ⟨Nat.le_trans hS.1 (by omega), fun x h1 h2 => (o1 x (Nat.lt_of_lt_of_le h1 hS.1)).trans (hS.2.1 x h1 h2), hS.2.2⟩
theorem w_newR (X : CallFix p m c cc nL s args Ts own) (hE : Ek g s) (hS : va_S A s.heap H locs) {z : Int} {index : Nat} (N : Nat) (hdg : decode cc pc = .ok (.anewarray index, 3)) (hz : z = (N : Int)) (hN : N ≤ 1000) (hw : Cond.classLink own index "java/lang/Object" ∈ Ts) (hcs : cells + 1 ≤ R.cells ∧ slots + N ≤ R.slots)
    (kk : ∀ (H1 : Heap) (a9 : Nat), a9 = H.size → RA g H1 a9 N (fun _ => none) → H1.size = H.size + 1 → (∀ q, q < H.size → H1[q]? = H[q]?) → va_S A s.heap H1 locs → W p l e R s m args below meth c H1 locs (cells + 1) (slots + N) Q (F0 m (pc + 3) ls (.ref a9 :: rest))) : W p l e R s m args below meth c H locs cells slots Q (F0 m pc ls (.int (wI z) :: rest)) := by
  obtain ⟨hx, hb, hml, hown, hts⟩ := X
  subst hz
  have hcl : (wI ((N : Nat) : Int)).toNatClampNeg = N := by rw [wI_clamp ⟨by omega, by omega⟩]; omega
  refine W.anew hx hb hown (hts _ hw) (va_AO.use hE.2.2.2.2.1) rfl hdg rfl (by rw [wI_lt0 ⟨by omega, by omega⟩]; omega) (by rw [hcl]; omega) hcs.1 (by rw [hcl]; exact hcs.2) fun cA kA comp f1 f2 f3 f4 => ?_
  rw [hcl]
  generalize hH1 : H.push ({ cls := cA, slots := Array.replicate N .null, vm := .none } : Cell) = H1
  have z1 : H1.size = H.size + 1 := by rw [← hH1, Array.size_push]
  have e1 : H1[H.size]? = some (arrV cA N (fun _ => .null)) := by rw [← hH1, Array.getElem?_push_size, ← arrV_new]
  have o1 : ∀ q : Nat, q < H.size → H1[q]? = H[q]? := fun q hq => by rw [← hH1, Array.getElem?_push, if_neg (Nat.ne_of_lt hq)]
  obtain ⟨kB, compB, g1, g2, g3, g4⟩ := (hE.1.2 1 _ rfl).2
  have hc : gO g = cA := Option.some.inj (g4.symm.trans f1)
  subst hc
  exact kk H1 _ rfl e1 z1 o1 ⟨Nat.le_trans hS.1 (by omega), fun x h1 h2 => (o1 x (Nat.lt_of_lt_of_le h1 hS.1)).trans (hS.2.1 x h1 h2), hS.2.2⟩
theorem w_aast (X : CallFix p m c cc nL s args Ts own) (hE : Ek g s) {a n v ci N : Nat} {f : Nat → Option Nat} {vs : List Value} {C : String} {T : u_T} (hA : RA g H a n f) (hv : Ob g H v ci vs) (hS : va_S A s.heap H locs) (hAa : A a) {z : Int} (hdg : decode cc pc = .ok (.aastore, 1)) (hc : vwCl[ci]? = some (C, T, N)) (hcast : va_Nw (.castable C "java/lang/Object") s) (h0 : 0 ≤ z) (h1 : z < n) (hn : (n : Int) ≤ 2147483647)
    (kk : ∀ (H1 : Heap) (locs1 : List Loc), RA g H1 a n (va_up f z.toNat (some v)) → H1.size = H.size → (∀ q, q ≠ a → H1[q]? = H[q]?) → va_S A s.heap H1 locs1 → W p l e R s m args below meth c H1 locs1 cells slots Q (F0 m (pc + 1) ls rest)) : W p l e R s m args below meth c H locs cells slots Q (F0 m pc ls (.ref v :: .int (wI z) :: .ref a :: rest)) := by
  obtain ⟨hx, hb, hml, hown, hts⟩ := X
  have hin : vp_in (wI z) n := wI_in h0 h1 hn
  have hcl : (wI z).toNatClampNeg = z.toNat := wI_clamp ⟨h0, by omega⟩
  have hlt : (wI z).toNatClampNeg < n := Nat.not_le.mp fun q => hin (Or.inr q)
  have hn0 : ¬ wI z < 0 := fun q => hin (Or.inl q)
  obtain ⟨r', hr', cellV, g1, g2, g3, -⟩ := hv
  have hr : r' = (C, T, N) := Option.some.inj (hr'.symm.trans hc)
  subst hr
  have hcls := (hE.1.1 ci _ hc).2
  obtain ⟨kA, comp, k1, k2, k3, -⟩ := (hE.1.2 1 _ rfl).2
  obtain ⟨kE, hkE, -⟩ := Vm.findClass_spec k3
  obtain ⟨c0, t1, f1, f2, f3⟩ := Cond.castable_spec (va_Nw.use (A := args) rfl hcast)
  cases hcls.1.symm.trans f1
  cases k3.symm.trans f2
  obtain ⟨kC, hkC, -⟩ := hcls.2
  refine W.aast hx hb (show H[a]? = some (vp_cell (gO g) (n, .inr (.inr (.inr (.inr f))))) from hA) (fun q h => by cases h) (fun h => by cases h) k1 k2 rfl hkE ⟨hn0, by show _ < (arrV _ _ _).slots.size; rw [arrV_size]; exact hlt⟩ g1 (fun q h => by rw [g3] at h; cases h) (by rw [g2]; exact hkC) (by rw [g2]; exact f3) rfl rfl hdg fun H1 e z2 oq => ?_
  refine kk H1 _ ?_ z2 oq (hS.put z2 oq hAa)
  show H1[a]? = some (vp_cell _ _)
  rw [e]
  rw [vp_cell_q, vp_cell_q, arrV_store, hcl]
  congr 2
  funext q
  by_cases hq : q = z.toNat
  · subst hq
    simp [updV, va_up, va_rf]
  · simp [updV, va_up, hq]
theorem w_gets (X : CallFix p m c cc nL s args Ts own) (hEs : Es g A s s.heap) (hS : va_S A s.heap H locs) {index : Nat} (hdg : decode cc pc = .ok (.getstatic index, 3)) (hlink : Cond.fieldLink own index "java/util/ArrayList" "DEFAULTCAPACITY_EMPTY_ELEMENTDATA" "[Ljava/lang/Object;" ∈ Ts)
    (kk : W p l e R s m args below meth c H locs cells slots Q (F0 m (pc + 3) ls (.ref (gE g) :: rest))) : W p l e R s m args below meth c H locs cells slots Q (F0 m pc ls rest) :=
  va_gets X.1 X.2.1 hEs.2.2.1 hS X.2.2.2.1 (X.2.2.2.2 _ hlink) (fun _ h => h) hdg kk
/-- behind a call of a method that writes -/
theorem w_ir {post : Value → Heap → Prop} {st0 : List Value} {a : Array Value} (hr : va_Run p l e R s m args below meth c H locs cells slots mc ms (F0 m pc ls st0) rest (IQr A1 post a) A1) (hS : va_S A s.heap H locs) (hA : ∀ q, A1 q → A q)
    (kk : ∀ (v : Value) (H1 : Heap) (locs1 : List Loc), post v H1 → H.size ≤ H1.size → (∀ q, q < H.size → ¬ A1 q → H1[q]? = H[q]?) → va_S A s.heap H1 locs1 → W p l e R s m args below meth c H1 locs1 (cells + mc) (slots + ms) Q (F0 m (pc + 3) ls (v :: rest))) : W p l e R s m args below meth c H locs cells slots Q (F0 m pc ls st0) := by
  intro T hT X
  obtain ⟨v', st₀, t, T', L, h0, X', hL, e1, e2, ⟨⟨v, hv, hpost⟩, hF⟩, st⟩ := hr T hT X
  cases hv
  obtain ⟨k1, k2, k3⟩ := vx_keep h0 e1 hS (fun q _ h => hA q h) hA hL hF
  obtain ⟨t2, a1, b1⟩ := kk v T'.heap (locs ++ L) (by rw [e1]; exact hpost) k1 k2 k3 T' rfl X'
  exact ⟨t2, st t2 a1, b1⟩
theorem w_ir5 {post : Value → Heap → Prop} {st0 : List Value} {a : Array Value} (hr : va_Run5 p l e R s m args below meth c H locs cells slots mc ms (F0 m pc ls st0) rest (IQr A1 post a) A1) (hS : va_S A s.heap H locs) (hA : ∀ q, A1 q → A q)
    (kk : ∀ (v : Value) (H1 : Heap) (locs1 : List Loc), post v H1 → H.size ≤ H1.size → (∀ q, q < H.size → ¬ A1 q → H1[q]? = H[q]?) → va_S A s.heap H1 locs1 → W p l e R s m args below meth c H1 locs1 (cells + mc) (slots + ms) Q (F0 m (pc + 5) ls (v :: rest))) : W p l e R s m args below meth c H locs cells slots Q (F0 m pc ls st0) := by
  intro T hT X
  obtain ⟨v', st₀, t, T', L, h0, X', hL, e1, e2, ⟨⟨v, hv, hpost⟩, hF⟩, st⟩ := hr T hT X
  cases hv
  obtain ⟨k1, k2, k3⟩ := vx_keep h0 e1 hS (fun q _ h => hA q h) hA hL hF
  obtain ⟨t2, a1, b1⟩ := kk v T'.heap (locs ++ L) (by rw [e1]; exact hpost) k1 k2 k3 T' rfl X'
  exact ⟨t2, st t2 a1, b1⟩
theorem w_iv {post : Heap → Prop} {st0 : List Value} {a : Array Value} (hr : va_Run p l e R s m args below meth c H locs cells slots mc ms (F0 m pc ls st0) rest (IQv A1 post a) A1) (hS : va_S A s.heap H locs) (hA : ∀ q, A1 q → A q)
    (kk : ∀ (H1 : Heap) (locs1 : List Loc), post H1 → H.size ≤ H1.size → (∀ q, q < H.size → ¬ A1 q → H1[q]? = H[q]?) → va_S A s.heap H1 locs1 → W p l e R s m args below meth c H1 locs1 (cells + mc) (slots + ms) Q (F0 m (pc + 3) ls rest)) : W p l e R s m args below meth c H locs cells slots Q (F0 m pc ls st0) := by
  intro T hT X
  obtain ⟨v', st₀, t, T', L, h0, X', hL, e1, e2, ⟨⟨hv, hpost⟩, hF⟩, st⟩ := hr T hT X
  cases hv
  obtain ⟨k1, k2, k3⟩ := vx_keep h0 e1 hS (fun q _ h => hA q h) hA hL hF
  obtain ⟨t2, a1, b1⟩ := kk T'.heap (locs ++ L) (by rw [e1]; exact hpost) k1 k2 k3 T' rfl X'
  exact ⟨t2, st t2 a1, b1⟩
/-- behind a call of a method that may throw -/
theorem w_xr {post : Value → Heap → Prop} {xpost : String → Heap → Prop} {st0 : List Value} {a : Array Value} (hr : vx_Run p l e R s m args below meth c H locs cells slots mc ms (F0 m pc ls st0) rest (IQr A1 post a) (XQ A1 xpost) A1) (hS : va_S A s.heap H locs) (hA : ∀ q, A1 q → A q)
    (kx : ∀ (E : String) (ce : Cell) (q9 : Addr) (H1 : Heap) (locs1 : List Loc), xpost E H1 → H.size ≤ H1.size → (∀ q, q < H.size → ¬ A1 q → H1[q]? = H[q]?) → va_S A s.heap H1 locs1 → H1[q9]? = some ce → ce.vm = .none → s.vm.findClass E = some ce.cls → vx_W p l e R s m args below meth c H1 locs1 (cells + mc) (slots + ms) Q (F0 m pc ls rest) q9)
    (kk : ∀ (v : Value) (H1 : Heap) (locs1 : List Loc), post v H1 → H.size ≤ H1.size → (∀ q, q < H.size → ¬ A1 q → H1[q]? = H[q]?) → va_S A s.heap H1 locs1 → W p l e R s m args below meth c H1 locs1 (cells + mc) (slots + ms) Q (F0 m (pc + 3) ls (v :: rest))) : W p l e R s m args below meth c H locs cells slots Q (F0 m pc ls st0) := by
  intro T hT X
  rcases hr T hT X with ⟨v', st₀, t, T', L, h0, X', hL, e1, e2, ⟨⟨v, hv, hpost⟩, hF⟩, st⟩ | ⟨q, st₀, t, T', L, E, ce, h0, X', hL, e1, e2, ⟨hxp, hF⟩, hce, hcv, hcl, st⟩
  · cases hv
    obtain ⟨k1, k2, k3⟩ := vx_keep h0 e1 hS (fun q _ h => hA q h) hA hL hF
    obtain ⟨t2, a1, b1⟩ := kk v T'.heap (locs ++ L) (by rw [e1]; exact hpost) k1 k2 k3 T' rfl X'
    exact ⟨t2, st t2 a1, b1⟩
  · obtain ⟨k1, k2, k3⟩ := vx_keep h0 e1 hS (fun q _ h => hA q h) hA hL hF
    obtain ⟨t2, a1, b1⟩ := kx E ce q T'.heap (locs ++ L) (by rw [e1]; exact hxp) k1 k2 k3 (by rw [e1]; exact hce) hcv hcl T' rfl X'
    exact ⟨t2, st.trans a1, b1⟩
theorem w_xv {post : Heap → Prop} {xpost : String → Heap → Prop} {st0 : List Value} {a : Array Value} (hr : vx_Run p l e R s m args below meth c H locs cells slots mc ms (F0 m pc ls st0) rest (IQv A1 post a) (XQ A1 xpost) A1) (hS : va_S A s.heap H locs) (hA : ∀ q, A1 q → A q)
    (kx : ∀ (E : String) (ce : Cell) (q9 : Addr) (H1 : Heap) (locs1 : List Loc), xpost E H1 → H.size ≤ H1.size → (∀ q, q < H.size → ¬ A1 q → H1[q]? = H[q]?) → va_S A s.heap H1 locs1 → H1[q9]? = some ce → ce.vm = .none → s.vm.findClass E = some ce.cls → vx_W p l e R s m args below meth c H1 locs1 (cells + mc) (slots + ms) Q (F0 m pc ls rest) q9)
    (kk : ∀ (H1 : Heap) (locs1 : List Loc), post H1 → H.size ≤ H1.size → (∀ q, q < H.size → ¬ A1 q → H1[q]? = H[q]?) → va_S A s.heap H1 locs1 → W p l e R s m args below meth c H1 locs1 (cells + mc) (slots + ms) Q (F0 m (pc + 3) ls rest)) : W p l e R s m args below meth c H locs cells slots Q (F0 m pc ls st0) := by
  intro T hT X
  rcases hr T hT X with ⟨v', st₀, t, T', L, h0, X', hL, e1, e2, ⟨⟨hv, hpost⟩, hF⟩, st⟩ | ⟨q, st₀, t, T', L, E, ce, h0, X', hL, e1, e2, ⟨hxp, hF⟩, hce, hcv, hcl, st⟩
  · cases hv
    obtain ⟨k1, k2, k3⟩ := vx_keep h0 e1 hS (fun q _ h => hA q h) hA hL hF
    obtain ⟨t2, a1, b1⟩ := kk T'.heap (locs ++ L) (by rw [e1]; exact hpost) k1 k2 k3 T' rfl X'
    exact ⟨t2, st t2 a1, b1⟩
  · obtain ⟨k1, k2, k3⟩ := vx_keep h0 e1 hS (fun q _ h => hA q h) hA hL hF
    obtain ⟨t2, a1, b1⟩ := kx E ce q T'.heap (locs ++ L) (by rw [e1]; exact hxp) k1 k2 k3 (by rw [e1]; exact hce) hcv hcl T' rfl X'
    exact ⟨t2, st.trans a1, b1⟩
theorem w_at (hEs : Es g A s s.heap) (hS : va_S A s.heap H locs) : Es g A s H := hEs.kept hS.2.1
theorem w_prS {as : List Value} (hE : Ek g s) (hEs : Es g A s s.heap) (hS : va_S A s.heap H locs) : PreS s H (IP g A H as) as := ⟨IP.blind, fun U hU hW => ⟨rfl, hU, hE.warm hW, (w_at hEs hS).moved hW.alike⟩⟩
theorem w_prV {C : String} {T : u_T} {b ci N : Nat} {fs As : List Value} (hE : Ek g s) (hEs : Es g A s s.heap) (hS : va_S A s.heap H locs) (hO : Ob g H b ci fs) (hc : vwCl[ci]? = some (C, T, N)) : PreV s H C b (IP g A H (.ref b :: As)) As := ⟨IP.blind, hO.recv hE hc, fun U hU hW => ⟨rfl, hU, hE.warm hW, (w_at hEs hS).moved hW.alike⟩⟩
/-- answers -/
theorem w_irR (X : CallFix p m c cc nL s args Ts own) (hr : meth.sig.returnType = some .int) (hk : meth.locks = false) (hS : va_S A s.heap H locs) {x : Int32} {post : Value → Heap → Prop} (hp : post (.int x) H) (hdg : decode cc pc = .ok (.ireturn, 1)) (h1 : cells ≤ mc) (h2 : slots ≤ ms) : W p l e R s m args below meth c H locs cells slots (MQ below (IQr A post) args s mc ms A) (F0 m pc ls [.int x]) :=
  W.widen h1 h2 (W.iret X.1 X.2.1 hr (fun t ht _ => ⟨⟨_, rfl, by rw [ht]; exact hp⟩, hS.F ht⟩) hS.2.2 hdg hk)
theorem w_zrR (X : CallFix p m c cc nL s args Ts own) (hr : meth.sig.returnType = some .boolean) (hk : meth.locks = false) (hS : va_S A s.heap H locs) {z : Int} (h01 : z = 0 ∨ z = 1) {post : Value → Heap → Prop} (hp : post (.int (wI z)) H) (hdg : decode cc pc = .ok (.ireturn, 1)) (h1 : cells ≤ mc) (h2 : slots ≤ ms) : W p l e R s m args below meth c H locs cells slots (MQ below (IQr A post) args s mc ms A) (F0 m pc ls [.int (wI z)]) :=
  W.widen h1 h2 (W.zret X.1 X.2.1 hr (by rcases h01 with rfl | rfl; (rw [wI_0]; exact narrow_b0); (rw [wI_1]; exact narrow_b1)) (fun t ht _ => ⟨⟨_, rfl, by rw [ht]; exact hp⟩, hS.F ht⟩) hS.2.2 hdg hk)
theorem w_arR (X : CallFix p m c cc nL s args Ts own) {rt : FieldType} (hr : meth.sig.returnType = some rt) (hrt : (∃ n, rt = .object n) ∨ ∃ t, rt = .array t) (hk : meth.locks = false) (hS : va_S A s.heap H locs) {a : Nat} {post : Value → Heap → Prop} (hp : post (.ref a) H) (hdg : decode cc pc = .ok (.areturn, 1)) (h1 : cells ≤ mc) (h2 : slots ≤ ms) : W p l e R s m args below meth c H locs cells slots (MQ below (IQr A post) args s mc ms A) (F0 m pc ls [.ref a]) :=
  W.widen h1 h2 (W.aret X.1 X.2.1 hr hrt (Or.inr ⟨a, rfl⟩) (fun t ht _ => ⟨⟨_, rfl, by rw [ht]; exact hp⟩, hS.F ht⟩) hS.2.2 hdg hk)
theorem w_vrV (X : CallFix p m c cc nL s args Ts own) (hr : meth.sig.returnType = none) (hk : meth.locks = false) (hS : va_S A s.heap H locs) {post : Heap → Prop} (hp : post H) (hdg : decode cc pc = .ok (.return_, 1)) (h1 : cells ≤ mc) (h2 : slots ≤ ms) : W p l e R s m args below meth c H locs cells slots (MQ below (IQv A post) args s mc ms A) (F0 m pc ls []) :=
  W.widen h1 h2 (W.vret X.1 X.2.1 hr (fun t ht _ => ⟨⟨rfl, by rw [ht]; exact hp⟩, hS.F ht⟩) hS.2.2 hdg hk)
/-- not caught here -/
theorem w_out {Qc : Array Value → State → Outcome → State → Prop} {xpost : String → Heap → Prop} {E : String} {ce : Cell} {q9 : Addr} (ht : ∀ x ∈ c.exceptionTable.toList, False) (hk : meth.locks = false) (hS : va_S A s.heap H locs) (hce : H[q9]? = some ce) (hcv : ce.vm = .none) (hcl : s.vm.findClass E = some ce.cls) (hp : xpost E H) (h1 : cells ≤ mc) (h2 : slots ≤ ms) : vx_W p l e R s m args below meth c H locs cells slots (vx_MQ below Qc (XQ A xpost) args s mc ms A) (F0 m pc ls rest) q9 :=
  vx_out (fun x hx => (ht x hx).elim) hk hce hcv hcl (fun t ht9 _ => ⟨by rw [ht9]; exact hp, hS.F ht9⟩) hS.2.2 h1 h2
/-- 'throw new E("text")' in the system's class -/
theorem w_throw {Qc : Array Value → State → Outcome → State → Prop} {xpost : String → Heap → Prop} {cls text : String} {ik is ic : Nat} (X : CallFix p m c cc nL s args Ts RX3) (hE : Ek g s) (hEs : Es g A s s.heap) (hS : va_S A s.heap H locs) (hl9 : l.stackTraces = false) (ht : ∀ x ∈ c.exceptionTable.toList, False) (hk : meth.locks = false) (hl : lv_has ls nL lv)
    (d0 : decode cc pc = .ok (.new ik, 3)) (d3 : decode cc (pc + 3) = .ok (.dup, 1)) (d4 : decode cc (pc + 4) = .ok (.ldc is, 2)) (d6 : decode cc (pc + 6) = .ok (.invokespecial ic, 3)) (d9 : decode cc (pc + 9) = .ok (.athrow, 1))
    (hcls : Bundle.fit cls = true) (hst : (is, text) ∈ SWs) (hw : ∀ w ∈ [Cond.classLink RX3 ik cls, .initialized cls], w ∈ Ts) (hx1 : ∀ w ∈ (vx_atS RX3 ic cls xnms).filter goodWord, w ∈ Ts) (hx2 : ∀ w ∈ (vx_atS RX3 ic cls xnms).filter (fun w => !goodWord w), w ∈ EW) (hx3 : (vx_atS RX3 ic cls xnms).all vx_ot = true) (hx4 : vx_ot (Cond.classLink RX3 ik cls) = true ∧ vx_ot (.initialized cls) = true)
    (hR : 5 < R.frames ∧ (rest.map fun v => v.category).sum + 82 ≤ R.locals ∧ cells + 1 ≤ R.cells ∧ slots + 6 ≤ R.slots) (hm : cells + 1 ≤ mc ∧ slots + 6 ≤ ms)
    (hp : ∀ H1 : Heap, H.size ≤ H1.size → (∀ q : Nat, q < H.size → H1[q]? = H[q]?) → xpost cls H1) :
    W p l e R s m args below meth c H locs cells slots (vx_MQ below Qc (XQ A xpost) args s mc ms A) (F0 m pc ls rest) := by
  obtain ⟨hx, hb, hml, hown, hts⟩ := X
  refine vx_throwS (cls := cls) (text := text) (names := xnms) (sa := gS g is) (A := A) hx hb hl9 hown hcls (fun n hn => by rcases List.mem_cons.mp hn with rfl | hn; (decide); (rcases List.mem_cons.mp hn with rfl | hn; (decide); (cases hn))) (hts _ (hw _ (by simp))) (hts _ (hw _ (by simp))) (hE.2.2.2.2.2 _ hst)
    (vx_hat (B := EW) (fun w hw9 => hts _ (hx1 w hw9)) hx2 (fun w hw9 => va_Nw.use (by have q := List.all_eq_true.mp EW_ok w hw9; simp only [Bool.and_eq_true] at q; exact q.1) (hE.2.1 w hw9)))
    (fun w hw9 => by
      rcases List.mem_cons.mp hw9 with rfl | hw9
      · exact hx4.1
      · rcases List.mem_cons.mp hw9 with rfl | hw9
        · exact hx4.2
        · exact List.all_eq_true.mp hx3 w hw9) hEs.1 hEs.2.1 hS (hl.1.trans hml.symm) d0 d3 d4 d6 d9 (fun x hx => (ht x hx).elim) hR.1 hR.2.1 hR.2.2.1 hR.2.2.2 hk
    (fun t hal hz hq => ⟨hp t.heap hz hq, ⟨Nat.le_trans hS.1 hz, fun q h1 h2 => (hq q (Nat.lt_of_lt_of_le h1 hS.1)).trans (hS.2.1 q h1 h2)⟩⟩) hS.2.2 hm.1 hm.2
end WR
