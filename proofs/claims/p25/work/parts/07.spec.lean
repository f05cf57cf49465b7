/-! lands, people and years, in integers. A land L: 0 lower, 1 upper, 2 3 4 rates. A person pf: 0 home, 1 host, 2 pay, 3 from, 4 to, 5 rent, 6 norm; nb bonuses bo b: 0 coins, 1 from, 2 to -/
def lGood (L : Nat → Int) : Prop := 0 ≤ L 0 ∧ L 0 ≤ L 1 ∧ L 1 ≤ 1000000 ∧ (0 ≤ L 2 ∧ L 2 ≤ 60) ∧ (0 ≤ L 3 ∧ L 3 ≤ 60) ∧ 0 ≤ L 4 ∧ L 4 ≤ 60
def taxN (L : Nat → Int) (n : Int) : Int := min n (L 0) * L 2 + max 0 (min n (L 1) - L 0) * L 3 + max 0 (n - L 1) * L 4
def taxS (L : Nat → Int) (n : Int) : Int := taxN L n / 100
theorem taxN_step {L : Nat → Int} (h : lGood L) {n : Int} (hn : 0 ≤ n) : taxN L n ≤ taxN L (n + 1) ∧ taxN L (n + 1) ≤ taxN L n + 60 := by
  obtain ⟨h1, h2, h3, ⟨h4, h5⟩, ⟨h6, h7⟩, h8, h9⟩ := h
  unfold taxN
  rcases (by omega : n < L 0 ∨ (L 0 ≤ n ∧ n < L 1) ∨ L 1 ≤ n) with q | ⟨q, q'⟩ | q
  · rw [show min (n + 1) (L 0) = min n (L 0) + 1 by omega, show max 0 (min (n + 1) (L 1) - L 0) = max 0 (min n (L 1) - L 0) by omega, show max 0 (n + 1 - L 1) = max 0 (n - L 1) by omega, Int.add_mul, Int.one_mul]
    omega
  · rw [show min (n + 1) (L 0) = min n (L 0) by omega, show max 0 (min (n + 1) (L 1) - L 0) = max 0 (min n (L 1) - L 0) + 1 by omega, show max 0 (n + 1 - L 1) = max 0 (n - L 1) by omega, Int.add_mul, Int.one_mul]
    omega
  · rw [show min (n + 1) (L 0) = min n (L 0) by omega, show max 0 (min (n + 1) (L 1) - L 0) = max 0 (min n (L 1) - L 0) by omega, show max 0 (n + 1 - L 1) = max 0 (n - L 1) + 1 by omega, Int.add_mul (max 0 (n - L 1)), Int.one_mul]
    omega
theorem taxN_0 {L : Nat → Int} (h : lGood L) : taxN L 0 = 0 := by
  obtain ⟨h1, h2, h3, -⟩ := h
  unfold taxN
  rw [show min 0 (L 0) = 0 by omega, show max 0 (min 0 (L 1) - L 0) = 0 by omega, show max 0 (0 - L 1) = 0 by omega]
  simp
theorem taxN_nat {L : Nat → Int} (h : lGood L) (n : Nat) : 0 ≤ taxN L n ∧ taxN L n ≤ 60 * n := by
  induction n with
  | zero => rw [show ((0 : Nat) : Int) = 0 from rfl, taxN_0 h]; omega
  | succ n ih =>
    have q := taxN_step h (n := (n : Int)) (by omega)
    rw [show ((n + 1 : Nat) : Int) = (n : Int) + 1 by omega]
    omega
theorem taxN_bd {L : Nat → Int} (h : lGood L) {n : Int} (hn : 0 ≤ n) : 0 ≤ taxN L n ∧ taxN L n ≤ 60 * n := by
  have q := taxN_nat h n.toNat
  rw [show ((n.toNat : Nat) : Int) = n by omega] at q
  exact q
theorem taxS_bd {L : Nat → Int} (h : lGood L) {n : Int} (hn : 0 ≤ n) : 0 ≤ taxS L n ∧ 100 * taxS L n ≤ 60 * n := by
  have q := taxN_bd h hn
  unfold taxS
  omega
theorem taxS_step {L : Nat → Int} (h : lGood L) {n : Int} (hn : 0 ≤ n) : taxS L n ≤ taxS L (n + 1) ∧ taxS L (n + 1) ≤ taxS L n + 1 := by
  have q := taxN_step h hn
  unfold taxS
  omega
/-- the least number for which the tax of n and it together is it -/
def IsGross (L : Nat → Int) (n k : Int) : Prop := 0 ≤ k ∧ taxS L (n + k) ≤ k ∧ ∀ j : Int, 0 ≤ j → j < k → j < taxS L (n + j)
theorem IsGross.uniq {L : Nat → Int} {n k k' : Int} (h : IsGross L n k) (h' : IsGross L n k') : k = k' := by
  rcases Int.lt_trichotomy k k' with q | q | q
  · have := h'.2.2 k h.1 q
    have := h.2.1
    omega
  · exact q
  · have := h.2.2 k' h'.1 q
    have := h'.2.1
    omega
noncomputable def grossS (L : Nat → Int) (n : Int) : Int := Classical.epsilon (fun k => IsGross L n k)
theorem grossS_eq {L : Nat → Int} {n k : Int} (h : IsGross L n k) : grossS L n = k := IsGross.uniq (Classical.epsilon_spec (p := fun k => IsGross L n k) ⟨k, h⟩) h
theorem tax_up {L : Nat → Int} (h : lGood L) {n k : Int} (hn : 0 ≤ n) (hk : 0 ≤ k) (hle : taxS L (n + k) ≤ k) (d : Nat) : taxS L (n + (k + d)) ≤ k + d := by
  induction d with
  | zero => rw [show k + ((0 : Nat) : Int) = k by omega]; exact hle
  | succ d ih =>
    have q := taxS_step h (n := n + (k + d)) (by omega)
    rw [show n + (k + ((d + 1 : Nat) : Int)) = n + (k + d) + 1 by omega]
    omega
theorem tax_low {L : Nat → Int} (h : lGood L) {n k : Int} (hn : 0 ≤ n) (hgt : k < taxS L (n + k)) : ∀ j : Int, 0 ≤ j → j < k + 1 → j < taxS L (n + j) := by
  intro j h0 h1
  rcases Int.lt_or_le j (taxS L (n + j)) with q | q
  · exact q
  · have := tax_up h hn h0 q (k - j).toNat
    rw [show j + (((k - j).toNat : Nat) : Int) = k by omega] at this
    omega
theorem gross_ex {L : Nat → Int} (h : lGood L) {n : Int} (hn : 0 ≤ n) : IsGross L n (grossS L n) ∧ grossS L n ≤ 2 * n := by
  have hb := taxS_bd h (n := n + 2 * n) (by omega)
  obtain ⟨k, hk, hl⟩ := pk_least (fun k : Nat => taxS L (n + k) ≤ k) ⟨(2 * n).toNat, by show taxS L (n + ((2 * n).toNat : Nat)) ≤ _; rw [show (((2 * n).toNat : Nat) : Int) = 2 * n by omega]; omega⟩
  have hG : IsGross L n k := ⟨by omega, hk, fun j h0 h1 => by
    have := hl j.toNat (by omega)
    rw [show ((j.toNat : Nat) : Int) = j by omega] at this
    omega⟩
  rw [grossS_eq hG]
  refine ⟨hG, ?_⟩
  rcases Int.lt_or_le (2 * n) k with q | q
  · have := hG.2.2 (2 * n) (by omega) q
    omega
  · exact q
theorem gross_bd {L : Nat → Int} (h : lGood L) {n : Int} (hn : 0 ≤ n) : 0 ≤ grossS L n ∧ grossS L n ≤ 2 * n := ⟨(gross_ex h hn).1.1, (gross_ex h hn).2⟩
def sumB (f : Nat → Int) : Nat → Int
  | 0 => 0
  | k + 1 => sumB f k + f k
theorem sumB_bd {f : Nat → Int} (n : Nat) (h : ∀ b, b < n → 0 ≤ f b ∧ f b ≤ 500000) : 0 ≤ sumB f n ∧ sumB f n ≤ 500000 * n := by
  induction n with
  | zero => exact ⟨by simp [sumB], by simp [sumB]⟩
  | succ n ih =>
    have q := ih (fun b hb => h b (by omega))
    have r := h n (by omega)
    show 0 ≤ sumB f n + f n ∧ sumB f n + f n ≤ _
    omega
theorem sumB_le {f f' : Nat → Int} (n : Nat) (h : ∀ b, b < n → f b ≤ f' b) : sumB f n ≤ sumB f' n := by
  induction n with
  | zero => exact Int.le_refl _
  | succ n ih =>
    have q := ih (fun b hb => h b (by omega))
    have r := h n (by omega)
    show sumB f n + f n ≤ sumB f' n + f' n
    omega
theorem sumB_sub (f f' : Nat → Int) (n : Nat) : sumB (fun b => f b - f' b) n = sumB f n - sumB f' n := by
  induction n with
  | zero => rfl
  | succ n ih =>
    show sumB (fun b => f b - f' b) n + (f n - f' n) = (sumB f n + f n) - (sumB f' n + f' n)
    omega
theorem sumB_eq {f f' : Nat → Int} (n : Nat) (h : ∀ b, b < n → f b = f' b) : sumB f n = sumB f' n := by
  induction n with
  | zero => rfl
  | succ n ih =>
    show sumB f n + f n = sumB f' n + f' n
    rw [ih (fun b hb => h b (by omega)), h n (by omega)]
def bGood (bo : Nat → Int) : Prop := (1 ≤ bo 0 ∧ bo 0 ≤ 500000) ∧ 0 ≤ bo 1 ∧ bo 1 < bo 2 ∧ bo 2 ≤ 12
def pGood (pf : Nat → Int) (nb : Nat) (bo : Nat → Nat → Int) : Prop := (0 ≤ pf 2 ∧ pf 2 ≤ 100000) ∧ (0 ≤ pf 3 ∧ pf 3 ≤ pf 4 ∧ pf 4 ≤ 12) ∧ (0 ≤ pf 5 ∧ pf 5 ≤ 50000) ∧ (0 ≤ pf 6 ∧ pf 6 ≤ 40) ∧ nb ≤ 6 ∧ ∀ b, b < nb → bGood (bo b)
def monS (pf : Nat → Int) : Int := pf 4 - pf 3
def ownS (pf : Nat → Int) : Int := min (pf 5) (pf 2 * pf 6 / 100)
def ovS (pf bo : Nat → Int) : Int := max 0 (min (bo 2) (pf 4) - max (bo 1) (pf 3))
def parS (pf bo : Nat → Int) : Int := bo 0 * ovS pf bo / (bo 2 - bo 1)
def wholeS (pf : Nat → Int) (nb : Nat) (bo : Nat → Nat → Int) : Int := 12 * pf 2 + sumB (fun b => bo b 0) nb
def heldS (LH pf : Nat → Int) : Int := taxS LH (12 * pf 2) / 12
def hyS (LH pf : Nat → Int) : Int := monS pf * heldS LH pf
def houS (pf : Nat → Int) : Int := monS pf * (pf 5 - ownS pf)
def supS (LH pf : Nat → Int) (nb : Nat) (bo : Nat → Nat → Int) : Int := taxS LH (wholeS pf nb bo)
def ahS (pf : Nat → Int) (nb : Nat) (bo : Nat → Nat → Int) : Int := (12 - monS pf) * pf 2 + sumB (fun b => bo b 0 - parS pf (bo b)) nb
def tahS (LH pf : Nat → Int) (nb : Nat) (bo : Nat → Nat → Int) : Int := if wholeS pf nb bo ≤ 0 then 0 else supS LH pf nb bo * ahS pf nb bo / wholeS pf nb bo
def aosS (pf : Nat → Int) (nb : Nat) (bo : Nat → Nat → Int) : Int := monS pf * pf 2 + houS pf + sumB (fun b => parS pf (bo b)) nb
noncomputable def taoS (LT pf : Nat → Int) (nb : Nat) (bo : Nat → Nat → Int) : Int := grossS LT (aosS pf nb bo)
def borS (LH pf : Nat → Int) (nb : Nat) (bo : Nat → Nat → Int) : Int := hyS LH pf + tahS LH pf nb bo
def setS (LH pf : Nat → Int) (nb : Nat) (bo : Nat → Nat → Int) : Int := supS LH pf nb bo - borS LH pf nb bo
noncomputable def cosS (LH LT pf : Nat → Int) (nb : Nat) (bo : Nat → Nat → Int) : Int := taoS LT pf nb bo + houS pf - hyS LH pf - setS LH pf nb bo
section Bounds
variable {LH LT pf : Nat → Int} {nb : Nat} {bo : Nat → Nat → Int}
theorem mon_bd (h : pGood pf nb bo) : 0 ≤ monS pf ∧ monS pf ≤ 12 := by
  obtain ⟨-, ⟨h1, h2, h3⟩, -⟩ := h
  unfold monS
  omega
theorem pn_bd (h : pGood pf nb bo) : 0 ≤ pf 2 * pf 6 ∧ pf 2 * pf 6 ≤ 4000000 := by
  obtain ⟨h1, -, -, h2, -⟩ := h
  exact w_mul_bd h1 h2
theorem own_bd (h : pGood pf nb bo) : 0 ≤ ownS pf ∧ ownS pf ≤ pf 5 := by
  have h1 := pn_bd h
  obtain ⟨-, -, h2, -⟩ := h
  unfold ownS
  omega
theorem ov_bd {bo : Nat → Int} (hb : bGood bo) : 0 ≤ ovS pf bo ∧ ovS pf bo ≤ bo 2 - bo 1 := by
  obtain ⟨-, h1, h2, h3⟩ := hb
  unfold ovS
  omega
theorem cov_bd {bo : Nat → Int} (hb : bGood bo) : 0 ≤ bo 0 * ovS pf bo ∧ bo 0 * ovS pf bo ≤ 6000000 := by
  have h1 := ov_bd (pf := pf) hb
  obtain ⟨h2, h3, h4, h5⟩ := hb
  exact w_mul_bd ⟨by omega, h2.2⟩ (B := 12) ⟨h1.1, by omega⟩
theorem par_bd {bo : Nat → Int} (hb : bGood bo) : 0 ≤ parS pf bo ∧ parS pf bo ≤ bo 0 := by
  have h1 := ov_bd (pf := pf) hb
  have h2 := cov_bd (pf := pf) hb
  obtain ⟨h3, h4, h5, h6⟩ := hb
  unfold parS
  exact ⟨Int.ediv_nonneg h2.1 (by omega), Int.ediv_le_of_le_mul (by omega) (Int.mul_le_mul_of_nonneg_left h1.2 (by omega))⟩
theorem coins_bd (h : pGood pf nb bo) (k : Nat) (hk : k ≤ nb) : 0 ≤ sumB (fun b => bo b 0) k ∧ sumB (fun b => bo b 0) k ≤ 500000 * k :=
  sumB_bd k fun b hb => by
    have q := (h.2.2.2.2.2 b (by omega)).1
    exact ⟨by omega, q.2⟩
theorem parts_bd (h : pGood pf nb bo) (k : Nat) (hk : k ≤ nb) : 0 ≤ sumB (fun b => parS pf (bo b)) k ∧ sumB (fun b => parS pf (bo b)) k ≤ 500000 * k :=
  sumB_bd k fun b hb => by
    have q := par_bd (pf := pf) (h.2.2.2.2.2 b (by omega))
    have r := (h.2.2.2.2.2 b (by omega)).1
    exact ⟨q.1, by omega⟩
theorem whole_bd (h : pGood pf nb bo) : 0 ≤ wholeS pf nb bo ∧ wholeS pf nb bo ≤ 4200000 := by
  have h1 := coins_bd h nb (Nat.le_refl _)
  obtain ⟨h2, -, -, -, h3, -⟩ := h
  unfold wholeS
  omega
theorem held_bd (hL : lGood LH) (h : pGood pf nb bo) : 0 ≤ heldS LH pf ∧ heldS LH pf ≤ 60000 ∧ 0 ≤ taxS LH (12 * pf 2) ∧ taxS LH (12 * pf 2) ≤ 720000 := by
  obtain ⟨h2, -⟩ := h
  have h1 := taxS_bd hL (n := 12 * pf 2) (by omega)
  unfold heldS
  omega
theorem hy_bd (hL : lGood LH) (h : pGood pf nb bo) : 0 ≤ hyS LH pf ∧ hyS LH pf ≤ 720000 := by
  have h1 := held_bd hL h
  exact w_mul_bd (mon_bd h) (B := 60000) ⟨h1.1, h1.2.1⟩
theorem hou_bd (h : pGood pf nb bo) : 0 ≤ houS pf ∧ houS pf ≤ 600000 := by
  have h1 := own_bd h
  have h2 := h.2.2.1
  exact w_mul_bd (mon_bd h) (B := 50000) ⟨by omega, by omega⟩
theorem sup_bd (hL : lGood LH) (h : pGood pf nb bo) : 0 ≤ supS LH pf nb bo ∧ supS LH pf nb bo ≤ 2520000 := by
  have h1 := whole_bd h
  have h2 := taxS_bd hL h1.1
  unfold supS
  omega
theorem rest_bd (h : pGood pf nb bo) : 0 ≤ (12 - monS pf) * pf 2 ∧ (12 - monS pf) * pf 2 ≤ 12 * pf 2 := by
  have h1 := mon_bd h
  have h2 := h.1
  exact w_mul_bd (A := 12) (B := pf 2) ⟨by omega, by omega⟩ ⟨h2.1, Int.le_refl _⟩
theorem mp_bd (h : pGood pf nb bo) : 0 ≤ monS pf * pf 2 ∧ monS pf * pf 2 ≤ 1200000 := w_mul_bd (mon_bd h) h.1
theorem left_bd (h : pGood pf nb bo) (k : Nat) (hk : k ≤ nb) : 0 ≤ sumB (fun b => bo b 0 - parS pf (bo b)) k ∧ sumB (fun b => bo b 0 - parS pf (bo b)) k ≤ sumB (fun b => bo b 0) k := by
  have h1 := parts_bd h k hk
  have h2 : sumB (fun b => parS pf (bo b)) k ≤ sumB (fun b => bo b 0) k := sumB_le k fun b hb => (par_bd (pf := pf) (h.2.2.2.2.2 b (by omega))).2
  rw [sumB_sub (fun b => bo b 0) (fun b => parS pf (bo b)) k]
  omega
theorem ah_bd (h : pGood pf nb bo) : 0 ≤ ahS pf nb bo ∧ ahS pf nb bo ≤ wholeS pf nb bo := by
  have h1 := rest_bd h
  have h2 := left_bd h nb (Nat.le_refl _)
  unfold ahS wholeS
  omega
theorem sah_bd (hL : lGood LH) (h : pGood pf nb bo) : 0 ≤ supS LH pf nb bo * ahS pf nb bo ∧ supS LH pf nb bo * ahS pf nb bo ≤ 10584000000000 := by
  have h1 := ah_bd h
  have h2 := whole_bd h
  exact w_mul_bd (sup_bd hL h) (B := 4200000) ⟨h1.1, by omega⟩
theorem tah_bd (hL : lGood LH) (h : pGood pf nb bo) : 0 ≤ tahS LH pf nb bo ∧ tahS LH pf nb bo ≤ 2520000 := by
  have h1 := ah_bd h
  have h2 := sup_bd hL h
  have h3 := sah_bd hL h
  unfold tahS
  by_cases hw : wholeS pf nb bo ≤ 0
  · rw [if_pos hw]; omega
  · rw [if_neg hw]
    have h4 : supS LH pf nb bo * ahS pf nb bo / wholeS pf nb bo ≤ supS LH pf nb bo := Int.ediv_le_of_le_mul (by omega) (Int.mul_le_mul_of_nonneg_left h1.2 h2.1)
    have h5 := Int.ediv_nonneg h3.1 (b := wholeS pf nb bo) (by omega)
    omega
theorem aos_bd (h : pGood pf nb bo) : 0 ≤ aosS pf nb bo ∧ aosS pf nb bo ≤ 4800000 := by
  have h1 := mp_bd h
  have h2 := hou_bd h
  have h3 := parts_bd h nb (Nat.le_refl _)
  have h4 := h.2.2.2.2.1
  unfold aosS
  omega
theorem cos_bd (hL : lGood LH) (hT : lGood LT) (h : pGood pf nb bo) : -100000000 ≤ cosS LH LT pf nb bo ∧ cosS LH LT pf nb bo ≤ 100000000 := by
  have h1 := aos_bd h
  have h2 := gross_bd hT h1.1
  have h3 := hou_bd h
  have h4 := hy_bd hL h
  have h5 := sup_bd hL h
  have h6 := tah_bd hL h
  unfold cosS setS borS taoS
  omega
end Bounds
