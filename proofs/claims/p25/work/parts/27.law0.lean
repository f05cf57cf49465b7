/-! THE CLAIM OUT OF ONE WALK OF THE LAW'S BODY. Your part is whole_start (and what it stands on); all else here is the same for every law, but numbers. -/
def R_law : String := "TaxEqualiserLaw"
def lw_P (b : Addr) (xs : List Int32) (args : Array Value) (s : State) : Prop := args = #[.ref b] ∧ s.IntsAt b xs ∧ xs.length ≤ 260 ∧ (Jvm.Cond.and given_1 narrow_1).before args s = true
def lw_Q (_ : Array Value) (s : State) (o : Outcome) (t : State) : Prop := o = .returned (some (.int 1)) ∧ Framed s o t [] 600104 7301314
def lw_Z (below : List Frame) (a : Array Value) (s : State) : State → Prop := fun t => ∃ o, t.status = .running ∧ Ended t below o ∧ lw_Q a s o t
/-- the law's own end, with 1 on the stack, nothing written that was there before, its room as the claim has it -/
theorem lw_ret {p : Program} {l : Launch} {e : Env} {s : State} {m : MethodId} {below : List Frame} {meth : Method} {c : Code} {b : Nat} (hx : p.tables.exec = Jvm.exec) (hb : c.code = code) (hr : meth.sig.returnType = ret) (hlocks : meth.locks = false) {pc : Nat} {H : Heap} {ls : Array Slot} (hdg : decode code pc = .ok (.ireturn, 1)) : W p l e room_1 s m #[Value.ref b] below meth c H [] 600104 7301314 (lw_Z below #[Value.ref b] s) (F0 m pc ls [.int 1]) := by
  intro T hT X
  obtain ⟨fs, hret, hrun, hended, hW, hframe⟩ := X.leave (v := some (.int 1)) (hlocks := hlocks) (fun h => by rw [hr] at h; cases h)
  have hmeth' : T.vm.method? m = some meth := X.method'
  refine ⟨T.setFrames fs, ?_, .returned (some (.int 1)), hrun, hended, rfl, ⟨_, rfl⟩, hW, hframe⟩
  jvm_step X.here [X.here.top, hx, hb, hdg, hmeth', hr, ret, narrow_b1]
  (try refine ⟨rfl, ?_⟩); (try refine ⟨rfl, ?_⟩)
  first | (intro acts; rw [hret _ acts rfl rfl rfl]) | rw [hret _ _ rfl rfl rfl]
  exact Steps.refl _
/-- what holds at the law's entry: the machine, the code, the tables' words (any of lw_tbl by 'hts w (by decide +kernel)'), the script of L ints xs at the cell b, what the Statement gives of the start (any of its parts by flat_of_before) -/
def lw_At (p : Program) (s : State) (m : MethodId) (meth : Method) (c : Code) (b L : Nat) (xs : Nat → Int32) : Prop :=
  p.tables.exec = Jvm.exec ∧ c.code = code ∧ meth.sig.returnType = ret ∧ c.maxLocals = 11 ∧ s.vm.findClass R_law = some m.cls ∧ (∀ w ∈ lw_tbl, w.before #[Value.ref b] s = true) ∧ va_X b L xs s s.heap ∧ b < s.heap.size ∧ meth.locks = false ∧ (Jvm.Cond.and given_1 narrow_1).before #[Value.ref b] s = true
/-! the law: what holds through its loop -/
def ALs (s : State) : Nat → Prop := fun q => s.heap.size ≤ q
def LE (p : Program) (l : Launch) (s : State) (m : MethodId) (c : Code) (B0 L : Nat) (xs : Nat → Int32) (g : wG) (al ap ab : Nat) (AX : Nat → Prop) : Prop :=
  CallFix p m c code 11 s #[Value.ref B0] wsL_law RL ∧ (Ek g s ∧ Es g (ALs s) s s.heap ∧ Nx s) ∧ (va_X B0 L xs s s.heap ∧ B0 < s.heap.size ∧ l.stackTraces = false ∧ L ≤ 260) ∧ ((∀ q, AX q → s.heap.size ≤ q) ∧ ∀ q, s.heap.size ≤ q → q ≠ al → q ≠ ap → q ≠ ab → AX q) ∧ (¬ AX al ∧ ¬ AX ap ∧ ¬ AX ab) ∧ (al ≠ ap ∧ al ≠ ab ∧ ap ≠ ab) ∧ s.heap.size ≤ al ∧ s.heap.size ≤ ap ∧ s.heap.size ≤ ab
def LI (s : State) (g : wG) (x al ap ab : Nat) (AX : Nat → Prop) (σ : St) (H : Heap) (locs : List Loc) : Prop :=
  StGood σ ∧ sn σ ≤ 3 ∧ XInv g AX x σ H ∧ (∃ f, IA g H al 20 f ∧ LA σ f) ∧ (∃ f, IA g H ap 24 f ∧ PA σ f) ∧ (∃ f, IA g H ab 54 f ∧ BA σ f) ∧ va_S (ALs s) s.heap H locs
def LA0 (n : Nat) (f : Nat → Int32) : Prop := ∀ i k, i < n → k < 5 → f (5 * i + k) = wI (land0 k)
theorem LA0.next {n : Nat} {f f' : Nat → Int32} (h : LA0 n f) (h1 : ∀ k, k < 5 → f' (5 * n + k) = wI (land0 k)) (h2 : ∀ q, (q < 5 * n ∨ 5 * n + 5 ≤ q) → f' q = f q) : LA0 (n + 1) f' := by
  intro i k hi hk
  rcases Nat.lt_or_ge i n with q | q
  · rw [h2 _ (by omega)]
    exact h i k q hk
  · obtain rfl : i = n := by omega
    exact h1 k hk
theorem env_ex {s : State} {b : Addr} (hts : ∀ w ∈ lw_tbl, w.before #[Value.ref b] s = true) (hgv : (Jvm.Cond.and given_1 narrow_1).before #[Value.ref b] s = true) : ∃ g : wG, Ek g s ∧ Es g (ALs s) s s.heap ∧ Nx s := by
  obtain ⟨D, hD⟩ := env_cls hts
  obtain ⟨cI, cO, hT⟩ := env_arr hts
  obtain ⟨f, hf⟩ := env_str hts hgv
  obtain ⟨a, t1, t2, t3⟩ := env_te hgv
  have hs := flat_of_before _ hgv
  have hA : ∀ q : Nat, q < s.heap.size → ¬ ALs s q := fun q h => Nat.not_le.mpr h
  refine ⟨(D, cI, cO, cO, f, a), ⟨⟨hD, hT⟩, fun w hw => va_Nw.of (by have q := List.all_eq_true.mp EW_ok w hw; simp only [Bool.and_eq_true] at q; exact q.1) (hts w (EW_in w hw)), fun q hq => va_Nw.of rfl (hts _ (NW_in q hq)), va_Nw.of rfl (hts _ (tb_in (i := 56) (by decide +kernel))), va_AO.of (hts _ (tb_in (i := 128) (by decide +kernel))), hf⟩, ⟨?_, ?_, ?_, t3, hA _ t2⟩, ⟨va_Nw.of rfl (hts _ (tb_in (i := 257) (by decide +kernel))), va_Nw.of rfl (hts _ (tb_in (i := 343) (by decide +kernel)))⟩⟩
  · exact vx_Zqof (hts _ (tb_in (i := 189) (by decide +kernel))) (hts _ (tb_in (i := 10) (by decide +kernel))) (hs _ (by decide +kernel)) hA
  · exact vx_Zqof (hts _ (tb_in (i := 191) (by decide +kernel))) (hts _ (tb_in (i := 10) (by decide +kernel))) (hs _ (by decide +kernel)) hA
  · exact va_Zref (hts _ (tb_in (i := 41) (by decide +kernel))) (hts _ (tb_in (i := 4) (by decide +kernel))) t1 hA
