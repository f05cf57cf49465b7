/-! numbers: ints and longs of the machine as images of mathematical integers -/
def wI (z : Int) : Int32 := Int32.ofInt z
def wJ (z : Int) : Int64 := Int64.ofInt z
abbrev wR (z : Int) : Prop := -2147483648 ≤ z ∧ z ≤ 2147483647
abbrev wRJ (z : Int) : Prop := -9223372036854775808 ≤ z ∧ z ≤ 9223372036854775807
theorem wI_toInt {z : Int} (h : wR z) : (wI z).toInt = z := Int32.toInt_ofInt_of_le (by have := h.1; omega) (by have := h.2; omega)
theorem wJ_toInt {z : Int} (h : wRJ z) : (wJ z).toInt = z := Int64.toInt_ofInt_of_le (by have := h.1; omega) (by have := h.2; omega)
theorem wI_ofInt (x : Int32) : wI x.toInt = x := Int32.ofInt_toInt x
theorem wR_toInt (x : Int32) : wR x.toInt := ⟨by have := x.le_toInt; omega, by have := x.toInt_lt; omega⟩
theorem wI_lt {a b : Int} (ha : wR a) (hb : wR b) : wI a < wI b ↔ a < b := by rw [Int32.lt_iff_toInt_lt, wI_toInt ha, wI_toInt hb]
theorem wI_le {a b : Int} (ha : wR a) (hb : wR b) : wI a ≤ wI b ↔ a ≤ b := by rw [Int32.le_iff_toInt_le, wI_toInt ha, wI_toInt hb]
theorem wI_eq {a b : Int} (ha : wR a) (hb : wR b) : wI a = wI b ↔ a = b := by rw [← Int32.toInt_inj, wI_toInt ha, wI_toInt hb]
theorem wI_0 : wI 0 = 0 := by decide
theorem wI_lt0 {a : Int} (ha : wR a) : wI a < 0 ↔ a < 0 := by rw [← wI_0]; exact wI_lt ha ⟨by omega, by omega⟩
theorem wI_le0 {a : Int} (ha : wR a) : wI a ≤ 0 ↔ a ≤ 0 := by rw [← wI_0]; exact wI_le ha ⟨by omega, by omega⟩
theorem wI_0lt {a : Int} (ha : wR a) : 0 < wI a ↔ 0 < a := by rw [← wI_0]; exact wI_lt ⟨by omega, by omega⟩ ha
theorem wI_0le {a : Int} (ha : wR a) : 0 ≤ wI a ↔ 0 ≤ a := by rw [← wI_0]; exact wI_le ⟨by omega, by omega⟩ ha
theorem wI_eq0 {a : Int} (ha : wR a) : wI a = 0 ↔ a = 0 := by rw [← wI_0]; exact wI_eq ha ⟨by omega, by omega⟩
theorem wI_add (a b : Int) : wI a + wI b = wI (a + b) := (Int32.ofInt_add a b).symm
theorem wI_sub (a b : Int) : wI a - wI b = wI (a - b) := (Int32.ofInt_sub a b).symm
theorem wI_mul (a b : Int) : wI a * wI b = wI (a * b) := (Int32.ofInt_mul a b).symm
theorem wJ_add (a b : Int) : wJ a + wJ b = wJ (a + b) := (Int64.ofInt_add a b).symm
theorem wJ_sub (a b : Int) : wJ a - wJ b = wJ (a - b) := (Int64.ofInt_sub a b).symm
theorem wJ_mul (a b : Int) : wJ a * wJ b = wJ (a * b) := (Int64.ofInt_mul a b).symm
theorem wdiv_le {a b : Int} (ha : 0 ≤ a) (hb : 0 < b) : 0 ≤ a / b ∧ a / b ≤ a := ⟨Int.ediv_nonneg ha (by omega), Int.ediv_le_self b ha⟩
theorem wI_div {a b : Int} (ha : 0 ≤ a ∧ a ≤ 2147483647) (hb : 0 < b ∧ b ≤ 2147483647) : wI a / wI b = wI (a / b) := by
  have h := wdiv_le ha.1 hb.1
  have e1 : (wI a).toInt = a := wI_toInt ⟨by omega, by omega⟩
  have e2 : (wI b).toInt = b := wI_toInt ⟨by omega, by omega⟩
  apply Int32.toInt_inj.mp
  rw [lg_idiv_nonneg (by rw [e1]; omega) (by rw [e2]; omega), e1, e2, wI_toInt ⟨by omega, by omega⟩]
theorem wJ_div {a b : Int} (ha : 0 ≤ a ∧ a ≤ 9223372036854775807) (hb : 0 < b ∧ b ≤ 9223372036854775807) : wJ a / wJ b = wJ (a / b) := by
  have h := wdiv_le ha.1 hb.1
  have e1 : (wJ a).toInt = a := wJ_toInt ⟨by omega, by omega⟩
  have e2 : (wJ b).toInt = b := wJ_toInt ⟨by omega, by omega⟩
  apply Int64.toInt_inj.mp
  rw [lg_ldiv_nonneg (by rw [e1]; omega) (by rw [e2]; omega), e1, e2, wJ_toInt ⟨by omega, by omega⟩]
theorem wI_long {z : Int} (h : wR z) : (wI z).toInt64 = wJ z := by
  apply Int64.toInt_inj.mp
  rw [Int32.toInt_toInt64, wI_toInt h, wJ_toInt ⟨by have := h.1; omega, by have := h.2; omega⟩]
theorem wJ_int (z : Int) : (wJ z).toInt32 = wI z := Int64.toInt32_ofInt
theorem wI_clamp {z : Int} (h : 0 ≤ z ∧ z ≤ 2147483647) : (wI z).toNatClampNeg = z.toNat := Int32.toNatClampNeg_ofInt_of_le (by omega) (by omega)
theorem wI_in {z : Int} {n : Nat} (h0 : 0 ≤ z) (h1 : z < n) (hn : (n : Int) ≤ 2147483647) : vp_in (wI z) n := by
  rw [vp_in_iff, wI_toInt ⟨by omega, by omega⟩]
  exact ⟨h0, h1⟩
theorem wI_nat (n : Nat) : wI (n : Int) = Int32.ofNat n := Int32.ofInt_eq_ofNat
theorem wI_max {a b : Int} (ha : wR a) (hb : wR b) : (if wI a < wI b then wI b else wI a) = wI (max a b) := by
  by_cases h : a < b
  · rw [if_pos ((wI_lt ha hb).mpr h), show max a b = b by omega]
  · rw [if_neg (fun q => h ((wI_lt ha hb).mp q)), show max a b = a by omega]
theorem wI_min {a b : Int} (ha : wR a) (hb : wR b) : (if wI b < wI a then wI b else wI a) = wI (min a b) := by
  by_cases h : b < a
  · rw [if_pos ((wI_lt hb ha).mpr h), show min a b = b by omega]
  · rw [if_neg (fun q => h ((wI_lt hb ha).mp q)), show min a b = a by omega]
theorem wJ_lt {a b : Int} (ha : wRJ a) (hb : wRJ b) : wJ a < wJ b ↔ a < b := by rw [Int64.lt_iff_toInt_lt, wJ_toInt ha, wJ_toInt hb]
theorem wJ_eq {a b : Int} (ha : wRJ a) (hb : wRJ b) : wJ a = wJ b ↔ a = b := by rw [← Int64.toInt_inj, wJ_toInt ha, wJ_toInt hb]
theorem wI_m1 : wI (-1) = -1 := by decide
theorem wI_1 : wI 1 = 1 := by decide
theorem w_cmp {a b : Int} (ha : wRJ a) (hb : wRJ b) : ∃ z : Int, lg_cmp (wJ a) (wJ b) = wI z ∧ (z < 0 ↔ a < b) ∧ (0 < z ↔ b < a) ∧ -1 ≤ z ∧ z ≤ 1 := by
  unfold lg_cmp
  by_cases h : b < a
  · refine ⟨1, ?_, by omega, by omega, by omega, by omega⟩
    rw [if_pos ((wJ_lt hb ha).mpr h), wI_1]
  · rw [if_neg (fun q => h ((wJ_lt hb ha).mp q))]
    by_cases h2 : a = b
    · refine ⟨0, ?_, by omega, by omega, by omega, by omega⟩
      rw [if_pos ((wJ_eq ha hb).mpr h2), wI_0]
    · refine ⟨-1, ?_, by omega, by omega, by omega, by omega⟩
      rw [if_neg (fun q => h2 ((wJ_eq ha hb).mp q)), wI_m1]
theorem w_mul_bd {a b A B : Int} (ha : 0 ≤ a ∧ a ≤ A) (hb : 0 ≤ b ∧ b ≤ B) : 0 ≤ a * b ∧ a * b ≤ A * B :=
  ⟨Int.mul_nonneg ha.1 hb.1, Int.mul_le_mul ha.2 hb.2 hb.1 (by omega)⟩
