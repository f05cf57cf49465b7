/-! the object's cells: lists, lands, people, bonuses -/
abbrev up {α : Type} (f : Nat → α) (k : Nat) (v : α) : Nat → α := va_up f k v
section INV
variable {g : wG} {A : Nat → Prop} {H H1 H2 : Heap} {m x : Nat} {c c' al el : Nat → Nat} {mc : Nat → Int32} {fl : Nat → Nat → Option Nat} {σ : St} {Ld P : Nat → Nat}
def XL (g : wG) (A : Nat → Prop) (H : Heap) (m : Nat) (c al el : Nat → Nat) (mc : Nat → Int32) (fl : Nat → Nat → Option Nat) : Prop :=
  (∀ k, k < m → (A (al k) ∧ Ob g H (al k) 0 [.int (mc k), .ref (el k), .int (wI (c k : Int))]) ∧ (0 < c k → A (el k) ∧ RA g H (el k) 10 (fl k)) ∧ (c k = 0 → el k = gE g)) ∧
  (∀ j k, j < m → k < m → al j = al k → j = k) ∧ ∀ j k, j < m → k < m → 0 < c j → 0 < c k → el j = el k → j = k
theorem XL.keptG (h : XL g A H m c al el mc fl) (h1 : ∀ k, k < m → H1[al k]? = H[al k]?) (h2 : ∀ k, k < m → 0 < c k → H1[el k]? = H[el k]?) : XL g A H1 m c al el mc fl :=
  ⟨fun k hk => ⟨⟨(h.1 k hk).1.1, (h.1 k hk).1.2.kept (h1 k hk)⟩, fun hc => ⟨((h.1 k hk).2.1 hc).1, ((h.1 k hk).2.1 hc).2.kept (h2 k hk hc)⟩, (h.1 k hk).2.2⟩, h.2⟩
theorem XL.kept (h : XL g A H m c al el mc fl) (hk : ∀ q, A q → q < H.size → H1[q]? = H[q]?) : XL g A H1 m c al el mc fl :=
  h.keptG (fun k hk9 => hk _ (h.1 k hk9).1.1 (h.1 k hk9).1.2.lt) (fun k hk9 hc => hk _ ((h.1 k hk9).2.1 hc).1 ((h.1 k hk9).2.1 hc).2.lt)
/-- another object changed -/
theorem XL.keptN (hGd : Gd g) (h : XL g A H m c al el mc fl) {d ci : Nat} {fs : List Value} (hd : Ob g H d ci fs) (h0 : 0 ≠ ci) (h6 : ci < 5) (hq : ∀ q, q ≠ d → H1[q]? = H[q]?) : XL g A H1 m c al el mc fl :=
  h.keptG (fun k hk => hq _ (Ob.ne hGd (h.1 k hk).1.2 hd (by omega) h6 h0)) (fun k hk hc => hq _ (Ne.symm (Ob.neR hGd hd ((h.1 k hk).2.1 hc).2 h6)))
theorem XL.congr (h : XL g A H m c al el mc fl) (hc : ∀ k, k < m → c k = c' k) : XL g A H m c' al el mc fl :=
  ⟨fun k hk => by rw [← hc k hk]; exact h.1 k hk, h.2.1, fun j k hj hk h1 h2 => h.2.2 j k hj hk (by rw [hc j hj]; exact h1) (by rw [hc k hk]; exact h2)⟩
theorem XL.new (h : XL g A H m c al el mc fl) {b : Nat} {mc9 : Int32} (hb : A b) (hO : Ob g H b 0 [.int mc9, .ref (gE g), .int (wI 0)]) (hne : ∀ k, k < m → al k ≠ b) : XL g A H (m + 1) (up c m 0) (up al m b) (up el m (gE g)) (up mc m mc9) fl := by
  have hu : ∀ {α : Type} (f : Nat → α) (v : α), up f m v m = v := fun f v => va_up_self f m v
  have hn : ∀ {α : Type} (f : Nat → α) (v : α) (k : Nat), k < m → up f m v k = f k := fun f v k hk => va_up_ne f v (by omega)
  refine ⟨fun k hk => ?_, fun j k hj hk => ?_, fun j k hj hk => ?_⟩
  · rcases Nat.lt_or_ge k m with q | q
    · rw [hn _ _ _ q, hn _ _ _ q, hn _ _ _ q, hn _ _ _ q]
      exact h.1 k q
    · obtain rfl : k = m := by omega
      rw [hu, hu, hu, hu]
      exact ⟨⟨hb, hO⟩, fun q => absurd q (by omega), fun _ => rfl⟩
  · rcases Nat.lt_or_ge j m with q | q <;> rcases Nat.lt_or_ge k m with q' | q'
    · rw [hn _ _ _ q, hn _ _ _ q']
      exact h.2.1 j k q q'
    · obtain rfl : k = m := by omega
      rw [hn _ _ _ q, hu]
      exact fun e => absurd e (hne j q)
    · obtain rfl : j = m := by omega
      rw [hn _ _ _ q', hu]
      exact fun e => absurd e.symm (hne k q')
    · intro _
      omega
  · rcases Nat.lt_or_ge j m with q | q <;> rcases Nat.lt_or_ge k m with q' | q'
    · rw [hn _ _ _ q, hn _ _ _ q, hn _ _ _ q', hn _ _ _ q']
      exact h.2.2 j k q q'
    · obtain rfl : k = m := by omega
      rw [hu c]
      exact fun _ e => absurd e (by omega)
    · obtain rfl : j = m := by omega
      rw [hu c]
      exact fun e => absurd e (by omega)
    · intro _ _ _
      omega
theorem XL.add (hGd : Gd g) (h : XL g A H m c al el mc fl) {k : Nat} (hk : k < m) {v : Nat} {w : Value} (hP : AddPost g A H (al k) (el k) (c k) (mc k) (fl k) v w H1) :
    ∃ (e' : Nat) (f' : Nat → Option Nat), (∀ i, i < c k → f' i = fl k i) ∧ f' (c k) = some v ∧ XL g A H1 m (up c k (c k + 1)) al (up el k e') (up mc k (mc k + wI 1)) (up fl k f') := by
  obtain ⟨-, e', f', hO, hR, hAe, he, hf, hv, hsz, hq⟩ := hP
  have hu : ∀ {α : Type} (f : Nat → α) (v : α), up f k v k = v := fun f v => va_up_self f k v
  have hn : ∀ {α : Type} (f : Nat → α) (v : α) (j : Nat), j ≠ k → up f k v j = f j := fun f v j hj => va_up_ne f v hj
  obtain ⟨⟨kA, kO⟩, kR, kE⟩ := h.1 k hk
  have hel : ∀ j, j < m → j ≠ k → 0 < c j → e' ≠ el j := by
    intro j hj hne hc e
    have hr := ((h.1 j hj).2.1 hc).2
    rcases he with ⟨h0, rfl⟩ | ⟨h0, h1⟩
    · exact hne (h.2.2 j k hj hk hc h0 e.symm)
    · have := hr.lt
      omega
  refine ⟨e', f', hf, hv, fun j hj => ?_, h.2.1, fun i j hi hj => ?_⟩
  · by_cases q : j = k
    · subst q
      rw [hu, hu, hu, hu]
      refine ⟨⟨kA, ?_⟩, fun _ => ⟨hAe, hR⟩, fun q => absurd q (by omega)⟩
      rw [show ((c j + 1 : Nat) : Int) = (c j : Int) + 1 by omega]
      exact hO
    · rw [hn _ _ _ q, hn _ _ _ q, hn _ _ _ q, hn _ _ _ q]
      obtain ⟨⟨jA, jO⟩, jR, jE⟩ := h.1 j hj
      refine ⟨⟨jA, jO.kept (hq _ jO.lt (fun e => q (h.2.1 j k hj hk e)) (fun hc => Ob.neR hGd jO (kR hc).2 (by omega)))⟩, fun hc => ⟨(jR hc).1, (jR hc).2.kept (hq _ (jR hc).2.lt (Ne.symm (Ob.neR hGd kO (jR hc).2 (by omega))) (fun hc' e => q (h.2.2 j k hj hk hc hc' e)))⟩, jE⟩
  · by_cases q : i = k <;> by_cases q' : j = k
    · intro _ _ _
      omega
    · subst q
      rw [hu el, hn c _ _ q', hn el _ _ q']
      exact fun _ h2 e => absurd e (hel j hj q' h2)
    · subst q'
      rw [hu el, hn c _ _ q, hn el _ _ q]
      exact fun h1 _ e => absurd e.symm (hel i hi q h1)
    · rw [hn c _ _ q, hn el _ _ q, hn c _ _ q', hn el _ _ q']
      exact h.2.2 i j hi hj
/-- the object, lands, people, bonuses -/
def XO (g : wG) (A : Nat → Prop) (H : Heap) (x : Nat) (σ : St) (al : Nat → Nat) (fl : Nat → Nat → Option Nat) (Ld P : Nat → Nat) : Prop :=
  (A x ∧ Ob g H x 4 [.ref (al 0), .ref (al 1)]) ∧ (∀ i, i < 4 → fl 0 i = some (Ld i) ∧ A (Ld i) ∧ LandAt g H (Ld i) (σ.1 i)) ∧ (∀ i j, i < 4 → j < 4 → Ld i = Ld j → i = j) ∧
  (∀ i, i < sn σ → fl 1 i = some (P i) ∧ A (P i) ∧ PobAt g H (P i) (Ld (sp σ i 0).toNat) (Ld (sp σ i 1).toNat) (al (i + 2)) (sp σ i)) ∧ (∀ i j, i < sn σ → j < sn σ → P i = P j → i = j) ∧
  ∀ i b, i < sn σ → b < sb σ i → ∃ q, fl (i + 2) b = some q ∧ A q ∧ BonAt g H q (so σ i b)
theorem XO.keptG (h : XO g A H x σ al fl Ld P) (hk : ∀ (q ci : Nat) (fs : List Value), A q → Ob g H q ci fs → 0 ≠ ci → ci < 5 → H1[q]? = H[q]?) : XO g A H1 x σ al fl Ld P :=
  ⟨⟨h.1.1, h.1.2.kept (hk _ _ _ h.1.1 h.1.2 (by omega) (by omega))⟩, fun i hi => ⟨(h.2.1 i hi).1, (h.2.1 i hi).2.1, (h.2.1 i hi).2.2.kept (hk _ _ _ (h.2.1 i hi).2.1 (h.2.1 i hi).2.2 (by omega) (by omega))⟩, h.2.2.1,
    fun i hi => ⟨(h.2.2.2.1 i hi).1, (h.2.2.2.1 i hi).2.1, (h.2.2.2.1 i hi).2.2.kept (hk _ _ _ (h.2.2.2.1 i hi).2.1 (h.2.2.2.1 i hi).2.2 (by omega) (by omega))⟩, h.2.2.2.2.1,
    fun i b hi hb => by
      obtain ⟨q, h1, h2, h3⟩ := h.2.2.2.2.2 i b hi hb
      exact ⟨q, h1, h2, h3.kept (hk _ _ _ h2 h3 (by omega) (by omega))⟩⟩
theorem XO.kept (h : XO g A H x σ al fl Ld P) (hk : ∀ q, A q → q < H.size → H1[q]? = H[q]?) : XO g A H1 x σ al fl Ld P := h.keptG (fun q ci fs hA hO _ _ => hk q hA hO.lt)
def cnt (σ : St) (k : Nat) : Nat := match k with
  | 0 => 4
  | 1 => sn σ
  | k + 2 => sb σ k
def XI (g : wG) (A : Nat → Prop) (H : Heap) (x : Nat) (σ : St) (al el : Nat → Nat) (mc : Nat → Int32) (fl : Nat → Nat → Option Nat) (Ld P : Nat → Nat) : Prop := XL g A H (sn σ + 2) (cnt σ) al el mc fl ∧ XO g A H x σ al fl Ld P
def XInv (g : wG) (A : Nat → Prop) (x : Nat) (σ : St) (H : Heap) : Prop := ∃ (al el : Nat → Nat) (mc : Nat → Int32) (fl : Nat → Nat → Option Nat) (Ld P : Nat → Nat), XI g A H x σ al el mc fl Ld P
theorem XInv.kept (h : XInv g A x σ H) (hk : ∀ q, A q → q < H.size → H1[q]? = H[q]?) : XInv g A x σ H1 := by
  obtain ⟨al, el, mc, fl, Ld, P, h1, h2⟩ := h
  exact ⟨al, el, mc, fl, Ld, P, h1.kept hk, h2.kept hk⟩
theorem XInv.ext (h : XInv g A x σ H) (hk : Ext H H1) : XInv g A x σ H1 := h.kept (fun q _ hq => hk.2 q hq)
theorem XI.land (h : XI g A H x σ al el mc fl Ld P) {i : Nat} (hi : i < 4) : LandAt g H (Ld i) (σ.1 i) := (h.2.2.1 i hi).2.2
theorem XI.hB0 (h : XI g A H x σ al el mc fl Ld P) : ∀ i, i < 4 → ∃ q, fl 0 i = some q ∧ ∃ fs, Ob g H q 2 fs := fun i hi => ⟨_, (h.2.2.1 i hi).1, _, (h.2.2.1 i hi).2.2⟩
theorem XI.hB1 (h : XI g A H x σ al el mc fl Ld P) : ∀ i, i < sn σ → ∃ q, fl 1 i = some q ∧ ∃ fs, Ob g H q 3 fs := fun i hi => ⟨_, (h.2.2.2.2.1 i hi).1, _, (h.2.2.2.2.1 i hi).2.2⟩
theorem XI.l0 (h : XI g A H x σ al el mc fl Ld P) : Ob g H (al 0) 0 [.int (mc 0), .ref (el 0), .int (wI 4)] := (h.1.1 0 (by omega)).1.2
theorem XI.l1 (h : XI g A H x σ al el mc fl Ld P) : Ob g H (al 1) 0 [.int (mc 1), .ref (el 1), .int (wI (sn σ : Int))] := (h.1.1 1 (by omega)).1.2
theorem XI.lb (h : XI g A H x σ al el mc fl Ld P) {i : Nat} (hi : i < sn σ) : Ob g H (al (i + 2)) 0 [.int (mc (i + 2)), .ref (el (i + 2)), .int (wI (sb σ i : Int))] := (h.1.1 (i + 2) (by omega)).1.2
theorem XI.r0 (h : XI g A H x σ al el mc fl Ld P) : 0 < 4 → RA g H (el 0) 10 (fl 0) := fun _ => ((h.1.1 0 (by omega)).2.1 (by show 0 < 4; omega)).2
theorem XI.r1 (h : XI g A H x σ al el mc fl Ld P) : 0 < sn σ → RA g H (el 1) 10 (fl 1) := fun q => ((h.1.1 1 (by omega)).2.1 q).2
theorem XI.rb (h : XI g A H x σ al el mc fl Ld P) {i : Nat} (hi : i < sn σ) : 0 < sb σ i → RA g H (el (i + 2)) 10 (fl (i + 2)) := fun q => ((h.1.1 (i + 2) (by omega)).2.1 q).2
theorem XI.pers (h : XI g A H x σ al el mc fl Ld P) (hσ : StGood σ) {i : Nat} (hi : i < sn σ) : PersAt g H (P i) (sH σ i) (sT σ i) (sp σ i) (sb σ i) (so σ i) := by
  obtain ⟨h1, h2, h3, -⟩ := id hσ
  obtain ⟨h4, h5, h6⟩ := h3 i hi
  refine ⟨⟨h4, h1 _ (by omega), h1 _ (by omega)⟩, Ld (sp σ i 0).toNat, Ld (sp σ i 1).toNat, al (i + 2), el (i + 2), mc (i + 2), fl (i + 2), (h.2.2.2.2.1 i hi).2.2, h.land (by omega), h.land (by omega), h.lb hi, h.rb hi, fun b hb => ?_⟩
  obtain ⟨q, q1, q2, q3⟩ := h.2.2.2.2.2.2 i b hi hb
  exact ⟨q, q1, q3⟩
/-! the state's changes -/
abbrev nxLand (σ : St) (i : Nat) (L : Nat → Int) : St := (up σ.1 i L, σ.2)
abbrev nxPers (σ : St) (i : Nat) (pf : Nat → Int) : St := (σ.1, sn σ, up (sp σ) i pf, sb σ, so σ)
abbrev nxAdd (σ : St) (pf : Nat → Int) : St := (σ.1, sn σ + 1, up (sp σ) (sn σ) pf, sb σ, so σ)
abbrev nxBon (σ : St) (i : Nat) (bo : Nat → Int) : St := (σ.1, sn σ, sp σ, up (sb σ) i (sb σ i + 1), up (so σ) i (up (so σ i) (sb σ i) bo))
theorem XI.toLand (hGd : Gd g) (h : XI g A H x σ al el mc fl Ld P) {i : Nat} (hi : i < 4) {L : Nat → Int} (hO : LandAt g H1 (Ld i) L) (hq : ∀ q, q ≠ Ld i → H1[q]? = H[q]?) : XInv g A x (nxLand σ i L) H1 := by
  have hL := h.land hi
  refine ⟨al, el, mc, fl, Ld, P, h.1.keptN hGd hL (by omega) (by omega) hq, ⟨h.2.1.1, h.2.1.2.kept (hq _ (Ob.ne hGd h.2.1.2 hL (by omega) (by omega) (by omega)))⟩, fun j hj => ⟨(h.2.2.1 j hj).1, (h.2.2.1 j hj).2.1, ?_⟩, h.2.2.2.1,
    fun j hj => ⟨(h.2.2.2.2.1 j hj).1, (h.2.2.2.2.1 j hj).2.1, (h.2.2.2.2.1 j hj).2.2.kept (hq _ (Ob.ne hGd (h.2.2.2.2.1 j hj).2.2 hL (by omega) (by omega) (by omega)))⟩, h.2.2.2.2.2.1, fun j b hj hb => ?_⟩
  · by_cases q : j = i
    · subst q
      rw [show (nxLand σ j L).1 j = L from va_up_self _ _ _]
      exact hO
    · rw [show (nxLand σ i L).1 j = σ.1 j from va_up_ne _ _ q]
      exact (h.land hj).kept (hq _ (fun e => q (h.2.2.2.1 j i hj hi e)))
  · obtain ⟨q, q1, q2, q3⟩ := h.2.2.2.2.2.2 j b hj hb
    exact ⟨q, q1, q2, q3.kept (hq _ (Ob.ne hGd q3 hL (by omega) (by omega) (by omega)))⟩
theorem XI.toPersI (hGd : Gd g) (h : XI g A H x σ al el mc fl Ld P) {i : Nat} (hi : i < sn σ) {pf : Nat → Int} (h0 : pf 0 = sp σ i 0) (h1 : pf 1 = sp σ i 1) (hO : PobAt g H1 (P i) (Ld (sp σ i 0).toNat) (Ld (sp σ i 1).toNat) (al (i + 2)) pf) (hq : ∀ q, q ≠ P i → H1[q]? = H[q]?) : XI g A H1 x (nxPers σ i pf) al el mc fl Ld P := by
  have hL := (h.2.2.2.2.1 i hi).2.2
  refine ⟨h.1.keptN hGd hL (by omega) (by omega) hq, ⟨h.2.1.1, h.2.1.2.kept (hq _ (Ob.ne hGd h.2.1.2 hL (by omega) (by omega) (by omega)))⟩, fun j hj => ⟨(h.2.2.1 j hj).1, (h.2.2.1 j hj).2.1, (h.land hj).kept (hq _ (Ob.ne hGd (h.land hj) hL (by omega) (by omega) (by omega)))⟩, h.2.2.2.1,
    fun j hj => ⟨(h.2.2.2.2.1 j hj).1, (h.2.2.2.2.1 j hj).2.1, ?_⟩, h.2.2.2.2.2.1, fun j b hj hb => ?_⟩
  · by_cases q : j = i
    · subst q
      rw [show sp (nxPers σ j pf) j = pf from va_up_self _ _ _, h0, h1]
      exact hO
    · rw [show sp (nxPers σ i pf) j = sp σ j from va_up_ne _ _ q]
      exact (h.2.2.2.2.1 j hj).2.2.kept (hq _ (fun e => q (h.2.2.2.2.2.1 j i hj hi e)))
  · obtain ⟨q, q1, q2, q3⟩ := h.2.2.2.2.2.2 j b hj hb
    exact ⟨q, q1, q2, q3.kept (hq _ (Ob.ne hGd q3 hL (by omega) (by omega) (by omega)))⟩
theorem XI.toPers (hGd : Gd g) (h : XI g A H x σ al el mc fl Ld P) {i : Nat} (hi : i < sn σ) {pf : Nat → Int} (h0 : pf 0 = sp σ i 0) (h1 : pf 1 = sp σ i 1) (hO : PobAt g H1 (P i) (Ld (sp σ i 0).toNat) (Ld (sp σ i 1).toNat) (al (i + 2)) pf) (hq : ∀ q, q ≠ P i → H1[q]? = H[q]?) : XInv g A x (nxPers σ i pf) H1 := ⟨_, _, _, _, _, _, h.toPersI hGd hi h0 h1 hO hq⟩
theorem StGood.land (h : StGood σ) {i : Nat} {L : Nat → Int} (hL : lGood L) : StGood (nxLand σ i L) := by
  refine ⟨fun j hj => ?_, h.2⟩
  by_cases q : j = i
  · subst q
    rw [show (nxLand σ j L).1 j = L from va_up_self _ _ _]
    exact hL
  · rw [show (nxLand σ i L).1 j = σ.1 j from va_up_ne _ _ q]
    exact h.1 j hj
theorem StGood.pers (h : StGood σ) {i : Nat} (hi : i < sn σ) {pf : Nat → Int} (hp : pGood pf (sb σ i) (so σ i)) (h0 : pf 0 = sp σ i 0) (h1 : pf 1 = sp σ i 1) : StGood (nxPers σ i pf) := by
  refine ⟨h.1, h.2.1, fun j hj => ?_, fun j hj => ?_⟩
  · by_cases q : j = i
    · subst q
      rw [show sp (nxPers σ j pf) j = pf from va_up_self _ _ _, h0, h1]
      exact ⟨hp, (h.2.2.1 j hi).2⟩
    · rw [show sp (nxPers σ i pf) j = sp σ j from va_up_ne _ _ q]
      exact h.2.2.1 j hj
  · have hj : sn σ ≤ j := hj
    rw [show sp (nxPers σ i pf) j = sp σ j from va_up_ne _ _ (by omega)]
    exact h.2.2.2 j hj
theorem StGood.add (h : StGood σ) (hn : sn σ < 10) {pf : Nat → Int} (h0 : 0 ≤ pf 0 ∧ pf 0 < 4) (h1 : 0 ≤ pf 1 ∧ pf 1 < 4) (h2 : 0 ≤ pf 2 ∧ pf 2 ≤ 100000) (h3 : pf 3 = 0 ∧ pf 4 = 0 ∧ pf 5 = 0 ∧ pf 6 = 0) : StGood (nxAdd σ pf) := by
  refine ⟨h.1, hn, fun j hj => ?_, fun j hj => ?_⟩
  · have hj : j < sn σ + 1 := hj
    rcases Nat.lt_or_ge j (sn σ) with q | q
    · rw [show sp (nxAdd σ pf) j = sp σ j from va_up_ne _ _ (by omega)]
      exact h.2.2.1 j q
    · obtain rfl : j = sn σ := by omega
      rw [show sp (nxAdd σ pf) (sn σ) = pf from va_up_self _ _ _]
      have hb : sb σ (sn σ) = 0 := (h.2.2.2 _ (Nat.le_refl _)).1
      refine ⟨⟨h2, by omega, by omega, by omega, ?_, fun b hb' => ?_⟩, h0, h1⟩
      · show sb σ (sn σ) ≤ 6
        omega
      · have hb' : b < sb σ (sn σ) := hb'
        omega
  · have hj : sn σ + 1 ≤ j := hj
    rw [show sp (nxAdd σ pf) j = sp σ j from va_up_ne _ _ (by omega)]
    exact h.2.2.2 j (by omega)
theorem StGood.bon (h : StGood σ) {i : Nat} (hi : i < sn σ) (hb : sb σ i < 6) {bo : Nat → Int} (hg : bGood bo) : StGood (nxBon σ i bo) := by
  refine ⟨h.1, h.2.1, fun j hj => ?_, fun j hj => ?_⟩
  · by_cases q : j = i
    · subst q
      obtain ⟨⟨g1, g2, g3, g4, g5, g6⟩, g7⟩ := h.2.2.1 j hj
      rw [show sb (nxBon σ j bo) j = sb σ j + 1 from va_up_self _ _ _, show so (nxBon σ j bo) j = up (so σ j) (sb σ j) bo from va_up_self _ _ _]
      refine ⟨⟨g1, g2, g3, g4, hb, fun b hb' => ?_⟩, g7⟩
      rcases Nat.lt_or_ge b (sb σ j) with q | q
      · rw [show up (so σ j) (sb σ j) bo b = so σ j b from va_up_ne _ _ (by omega)]
        exact g6 b q
      · obtain rfl : b = sb σ j := by omega
        rw [show up (so σ j) (sb σ j) bo (sb σ j) = bo from va_up_self _ _ _]
        exact hg
    · rw [show sb (nxBon σ i bo) j = sb σ j from va_up_ne _ _ q, show so (nxBon σ i bo) j = so σ j from va_up_ne _ _ q]
      exact h.2.2.1 j hj
  · have hj : sn σ ≤ j := hj
    rw [show sb (nxBon σ i bo) j = sb σ j from va_up_ne _ _ (by omega)]
    exact h.2.2.2 j hj
/-- a list's add leaves all that is no list -/
theorem AddPost.objs (hGd : Gd g) {a e9 n v : Nat} {mc9 : Int32} {f : Nat → Option Nat} {w : Value} {fs9 : List Value} (h : AddPost g A H a e9 n mc9 f v w H1) (ha : Ob g H a 0 fs9) (hr : 0 < n → RA g H e9 10 f) {q ci : Nat} {fs : List Value} (hO : Ob g H q ci fs) (h0 : 0 ≠ ci) (h6 : ci < 5) : H1[q]? = H[q]? := by
  obtain ⟨-, e', f', -, -, -, -, -, -, -, hq⟩ := h
  exact hq _ hO.lt (Ne.symm (Ob.ne hGd ha hO (by omega) h6 h0)) (fun hn => Ob.neR hGd hO (hr hn) h6)
theorem XI.toAdd (hGd : Gd g) (hσ : StGood σ) (h : XI g A H x σ al el mc fl Ld P) (hn : sn σ < 10) {a1 b : Nat} {pf : Nat → Int} {w : Value} {mc9 : Int32} (h2 : ∀ q, q < H.size → H1[q]? = H[q]?) (hz1 : H.size ≤ a1) (hz2 : H.size ≤ b) (hA1 : A a1) (hAb : A b)
    (hO : PobAt g H1 a1 (Ld (pf 0).toNat) (Ld (pf 1).toNat) b pf) (hb : Ob g H1 b 0 [.int mc9, .ref (gE g), .int (wI 0)]) (hP : AddPost g A H1 (al 1) (el 1) (sn σ) (mc 1) (fl 1) a1 w H2) : XInv g A x (nxAdd σ pf) H2 := by
  obtain ⟨hL, hX⟩ := h
  have hL1 := hL.kept (H1 := H1) (fun q _ hq => h2 q hq)
  have hX1 := hX.kept (H1 := H1) (fun q _ hq => h2 q hq)
  have hL2 := hL1.new hAb hb (fun k hk e => by have := (hL.1 k hk).1.2.lt; omega)
  have ne1 : ∀ {α : Type} (f : Nat → α) (v : α), up f (sn σ + 2) v 1 = f 1 := fun f v => va_up_ne f v (by omega)
  have ne0 : ∀ {α : Type} (f : Nat → α) (v : α), up f (sn σ + 2) v 0 = f 0 := fun f v => va_up_ne f v (by omega)
  have hP' : AddPost g A H1 (up al (sn σ + 2) b 1) (up el (sn σ + 2) (gE g) 1) (up (cnt σ) (sn σ + 2) 0 1) (up mc (sn σ + 2) mc9 1) (fl 1) a1 w H2 := by
    rw [ne1, ne1, ne1, ne1]
    exact hP
  obtain ⟨e', f', hf, hv, hL3⟩ := hL2.add hGd (k := 1) (by omega) hP'
  rw [ne1] at hf hv
  have hl1 := (hL1.1 1 (by omega)).1.2
  have hr1 := (hL1.1 1 (by omega)).2.1
  have ho := fun {q ci : Nat} {fs : List Value} (hO : Ob g H1 q ci fs) => hP.objs hGd hl1 (fun hn => (hr1 hn).2) hO
  have hX2 := hX1.keptG (H1 := H2) (fun q ci fs _ hO h0 h6 => ho hO h0 h6)
  refine ⟨_, _, _, _, Ld, up P (sn σ) a1, hL3.congr (fun k hk => ?_), ⟨hX2.1.1, ?_⟩, fun i hi => ?_, hX2.2.2.1, fun i hi => ?_, fun i j hi hj => ?_, fun i b' hi hb' => ?_⟩
  · rcases (show k = 0 ∨ k = 1 ∨ ∃ i, k = i + 2 ∧ i ≤ sn σ from if q : k < 2 then by omega else Or.inr (Or.inr ⟨k - 2, by omega, by omega⟩)) with rfl | rfl | ⟨i, rfl, hi⟩
    · rfl
    · show va_up _ 1 _ 1 = sn σ + 1
      rw [va_up_self, ne1]
      rfl
    · rw [show up (up (cnt σ) (sn σ + 2) 0) 1 (up (cnt σ) (sn σ + 2) 0 1 + 1) (i + 2) = up (cnt σ) (sn σ + 2) 0 (i + 2) from va_up_ne _ _ (by omega)]
      rcases Nat.lt_or_ge i (sn σ) with q | q
      · rw [show up (cnt σ) (sn σ + 2) 0 (i + 2) = cnt σ (i + 2) from va_up_ne _ _ (by omega)]
        rfl
      · obtain rfl : i = sn σ := by omega
        rw [show up (cnt σ) (sn σ + 2) 0 (sn σ + 2) = 0 from va_up_self _ _ _]
        exact (hσ.2.2.2 _ (Nat.le_refl _)).1.symm
  · rw [ne0, ne1]
    exact hX2.1.2
  · rw [show up fl 1 f' 0 = fl 0 from va_up_ne _ _ (by omega)]
    exact hX2.2.1 i hi
  · rw [show up fl 1 f' 1 = f' from va_up_self _ _ _]
    rcases Nat.lt_or_ge i (sn σ) with q | q
    · rw [show up P (sn σ) a1 i = P i from va_up_ne _ _ (by omega), show sp (nxAdd σ pf) i = sp σ i from va_up_ne _ _ (by omega), show up al (sn σ + 2) b (i + 2) = al (i + 2) from va_up_ne _ _ (by omega), hf i q]
      exact hX2.2.2.2.1 i q
    · obtain rfl : i = sn σ := by
        have hi : i < sn σ + 1 := hi
        omega
      rw [show up P (sn σ) a1 (sn σ) = a1 from va_up_self _ _ _, show sp (nxAdd σ pf) (sn σ) = pf from va_up_self _ _ _, show up al (sn σ + 2) b (sn σ + 2) = b from va_up_self _ _ _]
      exact ⟨hv, hA1, hO.kept (ho hO (by omega) (by omega))⟩
  · have hi : i < sn σ + 1 := hi
    have hj : j < sn σ + 1 := hj
    have hP' : ∀ k, k < sn σ → P k < H.size := fun k hk => (hX.2.2.2.1 k hk).2.2.lt
    rcases Nat.lt_or_ge i (sn σ) with q | q <;> rcases Nat.lt_or_ge j (sn σ) with q' | q'
    · rw [show up P (sn σ) a1 i = P i from va_up_ne _ _ (by omega), show up P (sn σ) a1 j = P j from va_up_ne _ _ (by omega)]
      exact hX2.2.2.2.2.1 i j q q'
    · obtain rfl : j = sn σ := by omega
      rw [show up P (sn σ) a1 i = P i from va_up_ne _ _ (by omega), show up P (sn σ) a1 (sn σ) = a1 from va_up_self _ _ _]
      have := hP' i q
      omega
    · obtain rfl : i = sn σ := by omega
      rw [show up P (sn σ) a1 j = P j from va_up_ne _ _ (by omega), show up P (sn σ) a1 (sn σ) = a1 from va_up_self _ _ _]
      have := hP' j q'
      omega
    · omega
  · have hi : i < sn σ + 1 := hi
    rw [show up fl 1 f' (i + 2) = fl (i + 2) from va_up_ne _ _ (by omega)]
    rcases Nat.lt_or_ge i (sn σ) with q | q
    · exact hX2.2.2.2.2.2 i b' q hb'
    · obtain rfl : i = sn σ := by omega
      have hb' : b' < sb σ (sn σ) := hb'
      rw [(hσ.2.2.2 _ (Nat.le_refl _)).1] at hb'
      exact absurd hb' (by omega)
theorem XI.toBon (hGd : Gd g) (h : XI g A H x σ al el mc fl Ld P) {i : Nat} (hi : i < sn σ) {q9 : Nat} {bo : Nat → Int} {w : Value} (h2 : ∀ q, q < H.size → H1[q]? = H[q]?) (hA9 : A q9) (hO : BonAt g H1 q9 bo) (hP : AddPost g A H1 (al (i + 2)) (el (i + 2)) (sb σ i) (mc (i + 2)) (fl (i + 2)) q9 w H2) : XInv g A x (nxBon σ i bo) H2 := by
  obtain ⟨hL, hX⟩ := h
  have hL1 := hL.kept (H1 := H1) (fun q _ hq => h2 q hq)
  have hX1 := hX.kept (H1 := H1) (fun q _ hq => h2 q hq)
  obtain ⟨e', f', hf, hv, hL3⟩ := hL1.add hGd (k := i + 2) (by omega) hP
  have hl1 := (hL1.1 (i + 2) (by omega)).1.2
  have hr1 := (hL1.1 (i + 2) (by omega)).2.1
  have ho := fun {q ci : Nat} {fs : List Value} (hO : Ob g H1 q ci fs) => hP.objs hGd hl1 (fun hn => (hr1 hn).2) hO
  have hX2 := hX1.keptG (H1 := H2) (fun q ci fs _ hO h0 h6 => ho hO h0 h6)
  refine ⟨_, _, _, _, Ld, P, hL3.congr (fun k hk => ?_), hX2.1, fun j hj => ?_, hX2.2.2.1, fun j hj => ?_, hX2.2.2.2.2.1, fun j b' hj hb' => ?_⟩
  · rcases (show k = 0 ∨ k = 1 ∨ ∃ j, k = j + 2 from if q : k < 2 then by omega else Or.inr (Or.inr ⟨k - 2, by omega⟩)) with rfl | rfl | ⟨j, rfl⟩
    · rfl
    · rfl
    · show va_up _ (i + 2) _ (j + 2) = va_up _ i _ j
      by_cases q : j = i
      · subst q
        rw [va_up_self, va_up_self]
        rfl
      · rw [va_up_ne _ _ (by omega), va_up_ne _ _ q]
        rfl
  · rw [show up fl (i + 2) f' 0 = fl 0 from va_up_ne _ _ (by omega)]
    exact hX2.2.1 j hj
  · rw [show up fl (i + 2) f' 1 = fl 1 from va_up_ne _ _ (by omega)]
    exact hX2.2.2.2.1 j hj
  · have hb' : b' < up (sb σ) i (sb σ i + 1) j := hb'
    show ∃ q, _ ∧ _ ∧ BonAt g H2 q (up (so σ) i (up (so σ i) (sb σ i) bo) j b')
    by_cases q : j = i
    · subst q
      rw [show up (sb σ) j (sb σ j + 1) j = sb σ j + 1 from va_up_self _ _ _] at hb'
      rw [show up fl (j + 2) f' (j + 2) = f' from va_up_self _ _ _, show up (so σ) j (up (so σ j) (sb σ j) bo) j = up (so σ j) (sb σ j) bo from va_up_self _ _ _]
      rcases Nat.lt_or_ge b' (sb σ j) with q | q
      · rw [hf b' q, show up (so σ j) (sb σ j) bo b' = so σ j b' from va_up_ne _ _ (by omega)]
        exact hX2.2.2.2.2.2 j b' hj q
      · obtain rfl : b' = sb σ j := by omega
        rw [show up (so σ j) (sb σ j) bo (sb σ j) = bo from va_up_self _ _ _]
        exact ⟨q9, hv, hA9, hO.kept (ho hO (by omega) (by omega))⟩
    · rw [show up (sb σ) i (sb σ i + 1) j = sb σ j from va_up_ne _ _ q] at hb'
      rw [show up fl (i + 2) f' (j + 2) = fl (j + 2) from va_up_ne _ _ (by omega), show up (so σ) i (up (so σ i) (sb σ i) bo) j = so σ j from va_up_ne _ _ q]
      exact hX2.2.2.2.2.2 j b' hj hb'
end INV
