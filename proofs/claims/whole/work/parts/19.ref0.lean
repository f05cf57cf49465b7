/-! the reference: what is kept in its cells; methods that change them -/
theorem IA.ext {g : wG} {H : Heap} {a n : Nat} {f f' : Nat → Int32} (h : IA g H a n f) (e : ∀ j, j < n → f j = f' j) : IA g H a n f' := by
  have h : H[a]? = some (arrV (gI g) n (fun j => .int (f j))) := h
  show H[a]? = some (arrV (gI g) n (fun j => .int (f' j)))
  rw [h]
  unfold arrV
  congr 3
  funext j
  exact congrArg Value.int (e j.val j.isLt)
/-- the cells are apart -/
def AInj (M : Nat → Nat) : Prop := ∀ i j, i < 16 → j < 16 → i ≠ 4 → j ≠ 4 → i ≠ j → M i ≠ M j
theorem ModAt.mk {g : wG} {H : Heap} {M : Nat → Nat} {th : Int} {σ : St} (hO : Ob g H (M 0) 5 [.int (wI (th)), .ref (M 1), .ref (M 2), .ref (M 3), .int (wI (sn σ : Int)), .ref (M 5), .ref (M 6), .ref (M 7), .ref (M 8), .ref (M 9), .ref (M 10), .ref (M 11), .ref (M 12), .ref (M 13), .ref (M 14), .ref (M 15)]) (h1 : IA g H (M 1) 4 (fun j => wI (σ.1 j 0))) (h2 : IA g H (M 2) 4 (fun j => wI (σ.1 j 1))) (h3 : IA g H (M 3) 12 (fun j => wI (σ.1 (j / 3) (2 + j % 3)))) (h5 : IA g H (M 5) 10 (fun j => wI (sp σ j 0))) (h6 : IA g H (M 6) 10 (fun j => wI (sp σ j 1))) (h7 : IA g H (M 7) 10 (fun j => wI (sp σ j 2))) (h8 : IA g H (M 8) 10 (fun j => wI (sp σ j 3))) (h9 : IA g H (M 9) 10 (fun j => wI (sp σ j 4))) (h10 : IA g H (M 10) 10 (fun j => wI (sp σ j 5))) (h11 : IA g H (M 11) 10 (fun j => wI (sp σ j 6))) (h12 : IA g H (M 12) 10 (fun j => wI ((sb σ j : Int)))) (h13 : IA g H (M 13) 60 (fun j => wI (so σ (j / 6) (j % 6) 0))) (h14 : IA g H (M 14) 60 (fun j => wI (so σ (j / 6) (j % 6) 1))) (h15 : IA g H (M 15) 60 (fun j => wI (so σ (j / 6) (j % 6) 2))) : ModAt g H M th σ := by
  intro k q hq
  match k, hq with
  | 0, h =>
    obtain rfl := Option.some.inj h
    exact hO
  | 1, h =>
    obtain rfl := Option.some.inj h
    exact h1
  | 2, h =>
    obtain rfl := Option.some.inj h
    exact h2
  | 3, h =>
    obtain rfl := Option.some.inj h
    exact h3
  | 4, h =>
    obtain rfl := Option.some.inj h
    exact h5
  | 5, h =>
    obtain rfl := Option.some.inj h
    exact h6
  | 6, h =>
    obtain rfl := Option.some.inj h
    exact h7
  | 7, h =>
    obtain rfl := Option.some.inj h
    exact h8
  | 8, h =>
    obtain rfl := Option.some.inj h
    exact h9
  | 9, h =>
    obtain rfl := Option.some.inj h
    exact h10
  | 10, h =>
    obtain rfl := Option.some.inj h
    exact h11
  | 11, h =>
    obtain rfl := Option.some.inj h
    exact h12
  | 12, h =>
    obtain rfl := Option.some.inj h
    exact h13
  | 13, h =>
    obtain rfl := Option.some.inj h
    exact h14
  | 14, h =>
    obtain rfl := Option.some.inj h
    exact h15
  | n + 15, h => exact absurd h (by rw [show (MW g M th σ)[n + 15]? = none from rfl]; intro e; cases e)
theorem ModAt.kept {g : wG} {H H1 : Heap} {M : Nat → Nat} {th : Int} {σ : St} (h : ModAt g H M th σ) (hq : ∀ k, k < 16 → k ≠ 4 → H1[M k]? = H[M k]?) : ModAt g H1 M th σ := by
  refine ModAt.mk (Ob.kept (h 0 _ rfl) (hq 0 (by decide) (by decide))) (IA.kept (h 1 _ rfl) (hq 1 (by decide) (by decide))) (IA.kept (h 2 _ rfl) (hq 2 (by decide) (by decide))) (IA.kept (h 3 _ rfl) (hq 3 (by decide) (by decide))) (IA.kept (h 4 _ rfl) (hq 5 (by decide) (by decide))) (IA.kept (h 5 _ rfl) (hq 6 (by decide) (by decide))) (IA.kept (h 6 _ rfl) (hq 7 (by decide) (by decide))) (IA.kept (h 7 _ rfl) (hq 8 (by decide) (by decide))) (IA.kept (h 8 _ rfl) (hq 9 (by decide) (by decide))) (IA.kept (h 9 _ rfl) (hq 10 (by decide) (by decide))) (IA.kept (h 10 _ rfl) (hq 11 (by decide) (by decide))) (IA.kept (h 11 _ rfl) (hq 12 (by decide) (by decide))) (IA.kept (h 12 _ rfl) (hq 13 (by decide) (by decide))) (IA.kept (h 13 _ rfl) (hq 14 (by decide) (by decide))) (IA.kept (h 14 _ rfl) (hq 15 (by decide) (by decide)))
theorem ModAt.cast {g : wG} {H : Heap} {M : Nat → Nat} {th th' : Int} {σ : St} (h : ModAt g H M th σ) (e : th = th') : ModAt g H M th' σ := e ▸ h
noncomputable def stp (P1 P2 P3 : Prop) (σ' σ : St) : St := @ite _ (P1 ∧ P2 ∧ P3) (Classical.propDecidable _) σ' σ
noncomputable def stv (P1 P2 P3 : Prop) (z : Int) : Int := @ite _ (P1 ∧ P2 ∧ P3) (Classical.propDecidable _) z 0
section REF
variable {g : wG} {H : Heap} {M : Nat → Nat} {σ σ' : St} {P1 P2 P3 : Prop} {z : Int}
theorem ref_y {y : Int} (h : P1) (h2 : P2) (h3 : P3) (hv : y = z) (hM : ModAt g H M 0 σ') : (Value.int (wI y) = .int (wI (stv P1 P2 P3 z))) ∧ ModAt g H M (cd P1 P2 P3) (stp P1 P2 P3 σ' σ) := by
  rw [cd_0 h h2 h3, show stp P1 P2 P3 σ' σ = σ' from @if_pos _ (Classical.propDecidable _) ⟨h, h2, h3⟩ _ _ _, show stv P1 P2 P3 z = z from @if_pos _ (Classical.propDecidable _) ⟨h, h2, h3⟩ _ _ _, hv]
  exact ⟨rfl, hM⟩
theorem ref_n {y th : Int} (h : ¬ (P1 ∧ P2 ∧ P3)) (hc : cd P1 P2 P3 = th) (hv : y = 0) (hM : ModAt g H M th σ) : (Value.int (wI y) = .int (wI (stv P1 P2 P3 z))) ∧ ModAt g H M (cd P1 P2 P3) (stp P1 P2 P3 σ' σ) := by
  rw [hc, show stp P1 P2 P3 σ' σ = σ from @if_neg _ (Classical.propDecidable _) h _ _ _, show stv P1 P2 P3 z = 0 from @if_neg _ (Classical.propDecidable _) h _ _ _, hv]
  exact ⟨rfl, hM⟩
theorem ref_1 {y : Int} (h : ¬ P1) (hv : y = 0) (hM : ModAt g H M 1 σ) : (Value.int (wI y) = .int (wI (stv P1 P2 P3 z))) ∧ ModAt g H M (cd P1 P2 P3) (stp P1 P2 P3 σ' σ) := ref_n (fun q => h q.1) (cd_1 h) hv hM
theorem ref_2 {y : Int} (h : P1) (h2 : ¬ P2) (hv : y = 0) (hM : ModAt g H M 2 σ) : (Value.int (wI y) = .int (wI (stv P1 P2 P3 z))) ∧ ModAt g H M (cd P1 P2 P3) (stp P1 P2 P3 σ' σ) := ref_n (fun q => h2 q.2.1) (cd_2 h h2) hv hM
theorem ref_3 {y : Int} (h : P1) (h2 : P2) (h3 : ¬ P3) (hv : y = 0) (hM : ModAt g H M 3 σ) : (Value.int (wI y) = .int (wI (stv P1 P2 P3 z))) ∧ ModAt g H M (cd P1 P2 P3) (stp P1 P2 P3 σ' σ) := ref_n (fun q => h3 q.2.2) (cd_3 h h2 h3) hv hM
theorem up_at {α : Type} (f : Nat → α) (i : Nat) (v : α) (h : α → Int32) (j : Nat) : h (up f i v j) = va_up (fun j => h (f j)) i (h v) j := by
  unfold up va_up
  split <;> rfl
theorem up_id {α : Type} (f : Nat → α) (i : Nat) (v : α) (h : α → Int32) (e : h v = h (f i)) (j : Nat) : h (up f i v j) = h (f j) := by
  unfold up va_up
  split
  · next q => rw [q]; exact e
  · rfl
end REF
section WRI
variable {p : Program} {l : Launch} {e : Env} {R : Room} {s : State} {m : MethodId} {args : Array Value} {below : List Frame} {meth : Method} {c : Code} {H : Heap} {locs : List Loc} {cells slots : Nat} {Q : State → Prop}
variable {cc : ByteArray} {nL : Nat} {Ts : List Cond} {own : String} {pc : Nat} {ls : Array Slot} {rest : List Value} {g : wG} {A : Nat → Prop}
theorem w_iast (X : CallFix p m c cc nL s args Ts own) (hE : Ek g s) {a n : Nat} {f : Nat → Int32} (hA : IA g H a n f) (hS : va_S A s.heap H locs) (hAa : A a) {z : Int} {x : Int32} (hdg : decode cc pc = .ok (.iastore, 1)) (h0 : 0 ≤ z) (h1 : z < n) (hn : (n : Int) ≤ 2147483647)
    (kk : ∀ (H1 : Heap) (locs1 : List Loc), IA g H1 a n (va_up f z.toNat x) → H1.size = H.size → (∀ q, q ≠ a → H1[q]? = H[q]?) → va_S A s.heap H1 locs1 → W p l e R s m args below meth c H1 locs1 cells slots Q (F0 m (pc + 1) ls rest)) : W p l e R s m args below meth c H locs cells slots Q (F0 m pc ls (.int x :: .int (wI z) :: .ref a :: rest)) := by
  have hin : vp_in (wI z) n := wI_in h0 h1 hn
  have hcl : (wI z).toNatClampNeg = z.toNat := wI_clamp ⟨h0, by omega⟩
  refine W.iast X.1 X.2.1 (show H[a]? = some (vp_cell (gI g) (n, .inl f)) from hA) ((hE.1.2 0 _ rfl).1 n (fun j => .int (f j))) (fun q => by cases q) (by show ¬ (wI z < 0 ∨ (arrV _ _ _).slots.size ≤ _); rw [arrV_size]; exact hin) rfl rfl hdg fun H1 e z2 oq => ?_
  refine kk H1 _ ?_ z2 oq (hS.put z2 oq hAa)
  show H1[a]? = some (vp_cell _ _)
  rw [e]
  rw [vp_cell_i, vp_cell_i, arrV_store, hcl]
  congr 2
  funext q
  by_cases hq : q = z.toNat
  · subst hq
    simp [updV, va_up]
  · simp [updV, va_up, hq]
end WRI
