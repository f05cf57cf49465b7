/-! the state: lands, people, bonuses -/
abbrev St : Type := (Nat → Nat → Int) × Nat × (Nat → Nat → Int) × (Nat → Nat) × (Nat → Nat → Nat → Int)
abbrev sn (σ : St) : Nat := σ.2.1
abbrev sp (σ : St) : Nat → Nat → Int := σ.2.2.1
abbrev sb (σ : St) : Nat → Nat := σ.2.2.2.1
abbrev so (σ : St) : Nat → Nat → Nat → Int := σ.2.2.2.2
abbrev sH (σ : St) (p : Nat) : Nat → Int := σ.1 (sp σ p 0).toNat
abbrev sT (σ : St) (p : Nat) : Nat → Int := σ.1 (sp σ p 1).toNat
def StGood (σ : St) : Prop := (∀ i, i < 4 → lGood (σ.1 i)) ∧ sn σ ≤ 10 ∧ (∀ p, p < sn σ → pGood (sp σ p) (sb σ p) (so σ p) ∧ (0 ≤ sp σ p 0 ∧ sp σ p 0 < 4) ∧ 0 ≤ sp σ p 1 ∧ sp σ p 1 < 4) ∧ ∀ p, sn σ ≤ p → sb σ p = 0 ∧ sp σ p 3 = 0 ∧ sp σ p 4 = 0 ∧ sp σ p 5 = 0 ∧ sp σ p 6 = 0
theorem ah_alt (pf : Nat → Int) (nb : Nat) (bo : Nat → Nat → Int) : ahS pf nb bo = wholeS pf nb bo - pf 2 * monS pf - sumB (fun b => parS pf (bo b)) nb := by
  unfold ahS wholeS
  rw [sumB_sub (fun b => bo b 0) (fun b => parS pf (bo b)) nb, Int.sub_mul, Int.mul_comm (pf 2)]
  omega
theorem aos_alt (pf : Nat → Int) (nb : Nat) (bo : Nat → Nat → Int) : aosS pf nb bo = pf 2 * monS pf + sumB (fun b => parS pf (bo b)) nb + (pf 5 - ownS pf) * monS pf := by
  unfold aosS houS
  rw [Int.mul_comm (pf 2), Int.mul_comm (pf 5 - ownS pf)]
  omega
theorem bor_alt (LH pf : Nat → Int) (nb : Nat) (bo : Nat → Nat → Int) : borS LH pf nb bo = heldS LH pf * monS pf + tahS LH pf nb bo := by
  unfold borS hyS
  rw [Int.mul_comm (heldS LH pf)]
theorem cos_alt (LH LT pf : Nat → Int) (nb : Nat) (bo : Nat → Nat → Int) : cosS LH LT pf nb bo = grossS LT (aosS pf nb bo) + (pf 5 - ownS pf - heldS LH pf) * monS pf - supS LH pf nb bo + borS LH pf nb bo := by
  unfold cosS setS taoS houS hyS
  rw [Int.sub_mul (pf 5 - ownS pf), Int.mul_comm (monS pf), Int.mul_comm (monS pf)]
  omega

