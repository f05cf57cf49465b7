/-! THE CLAIM OUT OF ONE WALK OF THE LAW'S BODY. Your part is whole_start (and what it stands on); all else here is the same for every law, but numbers. -/
def R_law : String := "TaxEqualiserLaw"
def lw_P (b : Addr) (xs : List Int32) (args : Array Value) (s : State) : Prop := args = #[.ref b] ∧ s.IntsAt b xs ∧ xs.length ≤ 2560 ∧ (Jvm.Cond.and given_1 narrow_1).before args s = true
def lw_Q (_ : Array Value) (s : State) (o : Outcome) (t : State) : Prop := o = .returned (some (.int 1)) ∧ Framed s o t [] 634029 7194018
def lw_Z (below : List Frame) (a : Array Value) (s : State) : State → Prop := fun t => ∃ o, t.status = .running ∧ Ended t below o ∧ lw_Q a s o t
/-- the law's own end, with 1 on the stack, nothing written that was there before, its room as the claim has it -/
theorem lw_ret {p : Program} {l : Launch} {e : Env} {s : State} {m : MethodId} {below : List Frame} {meth : Method} {c : Code} {b : Nat} (hx : p.tables.exec = Jvm.exec) (hb : c.code = code) (hr : meth.sig.returnType = ret) (hlocks : meth.locks = false) {pc : Nat} {H : Heap} {ls : Array Slot} (hdg : decode code pc = .ok (.ireturn, 1)) : W p l e room_1 s m #[Value.ref b] below meth c H [] 634029 7194018 (lw_Z below #[Value.ref b] s) (F0 m pc ls [.int 1]) := by
  intro T hT X
  obtain ⟨fs, hret, hrun, hended, hW, hframe⟩ := X.leave (v := some (.int 1)) (hlocks := hlocks) (fun h => by rw [hr] at h; cases h)
  have hmeth' : T.vm.method? m = some meth := X.method'
  refine ⟨T.setFrames fs, ?_, .returned (some (.int 1)), hrun, hended, rfl, ⟨_, rfl⟩, hW, hframe⟩
  jvm_step X.here [X.here.top, hx, hb, hdg, hmeth', hr, ret, narrow_b1]
  (try refine ⟨rfl, ?_⟩); (try refine ⟨rfl, ?_⟩)
  first | (intro acts; rw [hret _ acts rfl rfl rfl]) | rw [hret _ _ rfl rfl rfl]
  exact Steps.refl _
/-- what holds at the law's entry: the machine, the code, the tables' words (any of lw_tbl by 'hts w (by decide +kernel)'), the script of L ints xs at the cell b, what the Statement gives of the start (any of its parts by flat_of_before) -/
def lw_At (p : Program) (s : State) (m : MethodId) (meth : Method) (c : Code) (b L : Nat) (xs : Nat → Int32) : Prop :=
  p.tables.exec = Jvm.exec ∧ c.code = code ∧ meth.sig.returnType = ret ∧ c.maxLocals = 7 ∧ s.vm.findClass R_law = some m.cls ∧ (∀ w ∈ lw_tbl, w.before #[Value.ref b] s = true) ∧ va_X b L xs s s.heap ∧ b < s.heap.size ∧ meth.locks = false ∧ (Jvm.Cond.and given_1 narrow_1).before #[Value.ref b] s = true
/-! the law: what holds through its loop -/
def ALs (s : State) : Nat → Prop := fun q => s.heap.size ≤ q
def LE (p : Program) (l : Launch) (s : State) (m : MethodId) (c : Code) (B0 L : Nat) (xs : Nat → Int32) (g : wG) (out : Nat) (M : Nat → Nat) (AX AM : Nat → Prop) : Prop :=
  CallFix p m c code 7 s #[Value.ref B0] wsL_law RL ∧ (Ek g s ∧ Es g (ALs s) s s.heap ∧ Nx s) ∧ (va_X B0 L xs s s.heap ∧ B0 < s.heap.size ∧ l.stackTraces = false ∧ L ≤ 2560) ∧ ((∀ q, AX q → s.heap.size ≤ q) ∧ (∀ q, AM q → s.heap.size ≤ q) ∧ s.heap.size ≤ out) ∧ ((∀ q, AX q → ¬ AM q) ∧ ¬ AX out ∧ ¬ AM out) ∧ (∀ k, k < 16 → k ≠ 4 → AM (M k)) ∧ AInj M
def LI (s : State) (g : wG) (x out : Nat) (M : Nat → Nat) (AX : Nat → Prop) (σ : St) (th : Int) (fo : Nat → Int64) (H : Heap) (locs : List Loc) : Prop :=
  StGood σ ∧ XInv g AX x σ H ∧ ModAt g H M th σ ∧ JA g H out 1 fo ∧ va_S (ALs s) s.heap H locs ∧ ∀ q, H.size ≤ q → AX q
theorem ModAt.ob {g : wG} {H : Heap} {M : Nat → Nat} {th : Int} {σ : St} (h : ModAt g H M th σ) : ∃ fs, Ob g H (M 0) 5 fs := ⟨_, h 0 _ rfl⟩
theorem ModAt.lt {g : wG} {H : Heap} {M : Nat → Nat} {th : Int} {σ : St} (h : ModAt g H M th σ) : ∀ k, k < 16 → k ≠ 4 → M k < H.size := by
  intro k h1 h2
  match k, h1, h2 with
  | 0, _, _ => exact va_at.lt (h 0 _ rfl)
  | 1, _, _ => exact va_at.lt (h 1 _ rfl)
  | 2, _, _ => exact va_at.lt (h 2 _ rfl)
  | 3, _, _ => exact va_at.lt (h 3 _ rfl)
  | 5, _, _ => exact va_at.lt (h 4 _ rfl)
  | 6, _, _ => exact va_at.lt (h 5 _ rfl)
  | 7, _, _ => exact va_at.lt (h 6 _ rfl)
  | 8, _, _ => exact va_at.lt (h 7 _ rfl)
  | 9, _, _ => exact va_at.lt (h 8 _ rfl)
  | 10, _, _ => exact va_at.lt (h 9 _ rfl)
  | 11, _, _ => exact va_at.lt (h 10 _ rfl)
  | 12, _, _ => exact va_at.lt (h 11 _ rfl)
  | 13, _, _ => exact va_at.lt (h 12 _ rfl)
  | 14, _, _ => exact va_at.lt (h 13 _ rfl)
  | 15, _, _ => exact va_at.lt (h 14 _ rfl)
  | n + 16, h, _ => omega
theorem stp_good {P1 P2 P3 : Prop} {a b : St} (h : P1 → P2 → P3 → StGood a) (h' : StGood b) : StGood (stp P1 P2 P3 a b) := by
  by_cases q : P1 ∧ P2 ∧ P3
  · rw [stp_y q.1 q.2.1 q.2.2]
    exact h q.1 q.2.1 q.2.2
  · rw [stp_n q]
    exact h'
section LAWR
variable {p : Program} {l : Launch} {e : Env} {R : Room} {s : State} {m : MethodId} {args : Array Value} {below : List Frame} {meth : Method} {c : Code} {H : Heap} {locs : List Loc} {cells slots : Nat} {Q : State → Prop}
variable {cc : ByteArray} {nL : Nat} {Ts : List Cond} {own : String} {pc : Nat} {ls : Array Slot} {rest : List Value} {g : wG} {A : Nat → Prop}
theorem w_lcmpEq (X : CallFix p m c cc nL s args Ts own) {x : Int64} (hdg : decode cc pc = .ok (.lcmp, 1))
    (kk : W p l e R s m args below meth c H locs cells slots Q (F0 m (pc + 1) ls (.int (wI 0) :: rest))) : W p l e R s m args below meth c H locs cells slots Q (F0 m pc ls (.long x :: .long x :: rest)) := by
  refine W.lcmp X.1 X.2.1 hdg ?_
  have e0 : lg_cmp x x = wI 0 := by
    rw [wI_0]
    simp [lg_cmp, Int64.lt_irrefl]
  rw [e0]
  exact kk
theorem w_sld {b L : Nat} {xs : Nat → Int32} (X : CallFix p m c cc nL s args Ts own) (hX : va_X b L xs s s.heap) (hbl : b < s.heap.size) (hbA : ¬ A b) (hS : va_S A s.heap H locs) (hL : L ≤ 2560) {z y : Int} (n : Nat) (hz : z = (n : Int)) (hn : n < L) (hy : xs n = wI y) (hdg : decode cc pc = .ok (.iaload, 1))
    (kk : W p l e R s m args below meth c H locs cells slots Q (F0 m (pc + 1) ls (.int (wI y) :: rest))) : W p l e R s m args below meth c H locs cells slots Q (F0 m pc ls (.int (wI z) :: .ref b :: rest)) := by
  subst hz
  have hin : vp_in (wI (n : Int)) L := wI_in (by omega) (by omega) (by omega)
  refine va_sld X.1 X.2.1 hX hbl hbA hS hin hdg ?_
  rw [wI_clamp ⟨by omega, by omega⟩, show ((n : Int)).toNat = n from rfl, hy]
  exact kk
theorem w_slen {b L : Nat} {xs : Nat → Int32} (X : CallFix p m c cc nL s args Ts own) (hX : va_X b L xs s s.heap) (hbl : b < s.heap.size) (hbA : ¬ A b) (hS : va_S A s.heap H locs) (hdg : decode cc pc = .ok (.arraylength, 1))
    (kk : W p l e R s m args below meth c H locs cells slots Q (F0 m (pc + 1) ls (.int (wI (L : Int)) :: rest))) : W p l e R s m args below meth c H locs cells slots Q (F0 m pc ls (.ref b :: rest)) := by
  refine va_slen X.1 X.2.1 hX hbl hbA hS hdg ?_
  have e0 : nI L = wI (L : Int) := by rw [wI_nat]; rfl
  first | exact kk | (rw [e0]; exact kk)
end LAWR
