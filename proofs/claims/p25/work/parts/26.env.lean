/-! what the start gives -/
theorem tb_in {i : Nat} {w : Cond} (h : tables_1[i]? = some w) : w ∈ lw_tbl := List.mem_append_right _ (List.mem_of_getElem? h)
theorem EW_in : ∀ w ∈ EW, w ∈ lw_tbl := by decide +kernel
theorem NW_in : ∀ q ∈ NWs, nfW q ∈ lw_tbl := by
  intro q hq
  simp only [NWs, List.mem_cons, List.not_mem_nil, or_false] at hq
  rcases hq with rfl | rfl | rfl | rfl | rfl | rfl | rfl | rfl | rfl
  · exact tb_in (i := 282) (by decide +kernel)
  · exact tb_in (i := 284) (by decide +kernel)
  · exact tb_in (i := 286) (by decide +kernel)
  · exact tb_in (i := 288) (by decide +kernel)
  · exact tb_in (i := 290) (by decide +kernel)
  · exact tb_in (i := 292) (by decide +kernel)
  · exact tb_in (i := 585) (by decide +kernel)
  · exact tb_in (i := 587) (by decide +kernel)
  · exact tb_in (i := 589) (by decide +kernel)
section ENV
variable {s : State} {b : Addr}
theorem env_cls (hts : ∀ w ∈ lw_tbl, w.before #[Value.ref b] s = true) : ∃ D : va_G, ∀ (c : Nat) (q : vw_C), vwCl[c]? = some q → u_Kn s q.1 q.2.1 q.2.2 (D.1 c) (D.2 c) := by
  obtain ⟨c0, i0, k0⟩ := u_known (C := RJx4a65c) (T := TJx4a65c) (N := 3) (n := 3) hts inJx4a65c (hts _ (tb_in (i := 29) (by decide +kernel)))
  obtain ⟨c1, i1, k1⟩ := u_known (C := RX0) (T := TX0) (N := 3) (n := 3) hts inX0 (hts _ (tb_in (i := 579) (by decide +kernel)))
  obtain ⟨c2, i2, k2⟩ := u_known (C := RX1) (T := TX1) (N := 5) (n := 5) hts inX1 (hts _ (tb_in (i := 55) (by decide +kernel)))
  obtain ⟨c3, i3, k3⟩ := u_known (C := RX2) (T := TX2) (N := 8) (n := 8) hts inX2 (hts _ (tb_in (i := 272) (by decide +kernel)))
  obtain ⟨c4, i4, k4⟩ := u_known (C := RX3) (T := TX3) (N := 2) (n := 2) hts inX3 (hts _ (tb_in (i := 21) (by decide +kernel)))
  refine ⟨⟨fun k => match k with | 0 => c0 | 1 => c1 | 2 => c2 | 3 => c3 | _ => c4, fun k => match k with | 0 => i0 | 1 => i1 | 2 => i2 | 3 => i3 | _ => i4⟩, fun c q hq => ?_⟩
  match c, hq with
  | 0, hq => obtain rfl := Option.some.inj hq; exact k0
  | 1, hq => obtain rfl := Option.some.inj hq; exact k1
  | 2, hq => obtain rfl := Option.some.inj hq; exact k2
  | 3, hq => obtain rfl := Option.some.inj hq; exact k3
  | 4, hq => obtain rfl := Option.some.inj hq; exact k4
  | n + 5, hq => exact absurd hq (by rw [show vwCl[n + 5]? = none from rfl]; intro e; cases e)
theorem env_arr (hts : ∀ w ∈ lw_tbl, w.before #[Value.ref b] s = true) : ∃ cI cO : ClassId, ∀ (k : Nat) (q : ClassId × FieldType), [(cI, FieldType.int), (cO, FieldType.object "java/lang/Object")][k]? = some q → ArrOfT s q.1 q.2 ∧ va_RA s q.1 q.2 := by
  obtain ⟨cI, kI, mI, a1, a2, a3⟩ := Cond.arrayClass_spec (hts (.arrayClass .int) (tb_in (i := 604) (by decide +kernel)))
  obtain ⟨mO, cO, kO, d1, -, d2, d3, d4⟩ := Cond.arrayOver_spec (hts (.arrayOver (.object "java/lang/Object")) (tb_in (i := 128) (by decide +kernel)))
  refine ⟨cI, cO, fun k q hq => ?_⟩
  match k, hq with
  | 0, hq => obtain rfl := Option.some.inj hq; exact ⟨fun n z => ⟨fun k h => (by cases h), kI, a2, mI, a3⟩, a1⟩
  | 1, hq => obtain rfl := Option.some.inj hq; exact ⟨fun n z => ⟨fun k h => (by cases h), kO, d2, mO, d3⟩, kO, mO, d2, d3, d1, d4⟩
  | n + 2, hq => exact absurd hq (by simp)
theorem env_str (hts : ∀ w ∈ lw_tbl, w.before #[Value.ref b] s = true) (hgv : (Jvm.Cond.and given_1 narrow_1).before #[Value.ref b] s = true) : ∃ f : Nat → Nat, ∀ q ∈ SWs, vk_R RX3 q.1 q.2 (f q.1) s := by
  have hs := flat_of_before _ hgv
  have one : ∀ (k : Nat) (tx : String), (Cond.stringRef RX3 k tx).before #[Value.ref b] s = true → (Cond.exactly (.string RX3 k) "java/lang/String").before #[Value.ref b] s = true → ∃ a, vk_R RX3 k tx a s := by
    intro k tx h1 h2
    obtain ⟨a, c, cell, kk, q1, -⟩ := Cond.exactly_spec (args := #[Value.ref b]) (first := s) (o := none) (s := s) (idx := []) (t := .string RX3 k) (cls := "java/lang/String") h2
    exact ⟨a, vk_R.of h1 q1⟩
  obtain ⟨a0, h0⟩ := one 57 "home and host are the same land" (hts _ (tb_in (i := 249) (by decide +kernel))) (hs _ (by decide +kernel))
  obtain ⟨a1, h1⟩ := one 69 "no room for another person" (hts _ (tb_in (i := 264) (by decide +kernel))) (hs _ (by decide +kernel))
  obtain ⟨a2, h2⟩ := one 108 "no room for another bonus" (hts _ (tb_in (i := 578) (by decide +kernel))) (hs _ (by decide +kernel))
  obtain ⟨a3, h3⟩ := one 116 "no such bonus" (hts _ (tb_in (i := 357) (by decide +kernel))) (hs _ (by decide +kernel))
  obtain ⟨a4, h4⟩ := one 158 "no such land" (hts _ (tb_in (i := 203) (by decide +kernel))) (hs _ (by decide +kernel))
  obtain ⟨a5, h5⟩ := one 160 "no such person" (hts _ (tb_in (i := 350) (by decide +kernel))) (hs _ (by decide +kernel))
  obtain ⟨a6, h6⟩ := one 162 "an argument is out of range" (hts _ (tb_in (i := 254) (by decide +kernel))) (hs _ (by decide +kernel))
  refine ⟨fun k => if k = 57 then a0 else if k = 69 then a1 else if k = 108 then a2 else if k = 116 then a3 else if k = 158 then a4 else if k = 160 then a5 else a6, fun q hq => ?_⟩
  simp only [SWs, List.mem_cons, List.not_mem_nil, or_false] at hq
  rcases hq with rfl | rfl | rfl | rfl | rfl | rfl | rfl
  · exact h0
  · exact h1
  · exact h2
  · exact h3
  · exact h4
  · exact h5
  · exact h6
theorem env_te (hgv : (Jvm.Cond.and given_1 narrow_1).before #[Value.ref b] s = true) : ∃ a : Nat, (Term.static "java/util/ArrayList" "DEFAULTCAPACITY_EMPTY_ELEMENTDATA" "[Ljava/lang/Object;").eval #[Value.ref b] s none [] s = some (.ref a) ∧ a < s.heap.size ∧ ∃ scr : Cell, s.heap[a]? = some scr ∧ s.isArrayOf scr (.object "java/lang/Object") ∧ scr.vm ≠ .unknown ∧ scr.slots.size.toInt32 = 0 := by
  have hs := flat_of_before _ hgv
  have h1 : (Cond.exactly (.static "java/util/ArrayList" "DEFAULTCAPACITY_EMPTY_ELEMENTDATA" "[Ljava/lang/Object;") "[Ljava/lang/Object;").before #[Value.ref b] s = true := hs _ (by decide +kernel)
  have h2 : (Cond.arrayOf (.static "java/util/ArrayList" "DEFAULTCAPACITY_EMPTY_ELEMENTDATA" "[Ljava/lang/Object;") (.object "java/lang/Object")).before #[Value.ref b] s = true := hs _ (by decide +kernel)
  have h3 : (Cond.eq (.length (.static "java/util/ArrayList" "DEFAULTCAPACITY_EMPTY_ELEMENTDATA" "[Ljava/lang/Object;")) (.int 0)).before #[Value.ref b] s = true := hs _ (by decide +kernel)
  obtain ⟨a, c, cell, kk, q1, q2, q3, q4, q5, q6, -⟩ := Cond.exactly_spec (args := #[Value.ref b]) (first := s) (o := none) (s := s) (idx := []) (t := .static "java/util/ArrayList" "DEFAULTCAPACITY_EMPTY_ELEMENTDATA" "[Ljava/lang/Object;") (cls := "[Ljava/lang/Object;") h1
  obtain ⟨r1, r2⟩ := Cond.arrayOf_spec h2 q1 q3
  refine ⟨a, q1, (Array.getElem?_eq_some_iff.mp q3).1, cell, q3, r1, r2, ?_⟩
  generalize (Term.static "java/util/ArrayList" "DEFAULTCAPACITY_EMPTY_ELEMENTDATA" "[Ljava/lang/Object;") = st at q1 h3
  simp [Cond.before, Cond.holds, Cond.value, Term.eval, q1] at h3
  cases hm : s.arrayAt? a with
  | none => simp [hm] at h3
  | some c2 =>
    obtain ⟨hcb, -⟩ := State.arrayAt?_spec hm
    cases hcb.symm.trans q3
    by_cases hz : cell.slots.size < 2147483648
    · simpa [hm, hz] using h3
    · simp [hm, hz] at h3
end ENV
