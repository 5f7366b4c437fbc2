section TM
theorem mx5 {an : Nat} (h : an ≤ 400) : (if nI 0 < nI an - nI 5 then nI an - nI 5 else nI 0) = nI (an - 5) := by
  have : ∀ a : Fin 401, (if nI 0 < nI a.1 - nI 5 then nI a.1 - nI 5 else nI 0) = nI (a.1 - 5) := by decide +kernel
  exact this ⟨an, by omega⟩
def upM (an : Nat) (aT : Nat → Nat) : Nat := if an < 2 then 500 else aT (an - 1) - aT (an - 5)
def loM (an : Nat) (ae xb : Nat → Nat) : Nat := if an < 2 then 1 else xb (ae (an - 1)) - xb (ae (an - 5))
theorem i64_lt0 (x : Int64) : x < 0 ↔ x.toBitVec.msb = true := by
  rw [Int64.lt_iff_toInt_lt, BitVec.msb_eq_toInt]
  simp
theorem i64_div {x y : Int64} (hy : 0 < y) : (x / y).toInt = x.toInt.tdiv y.toInt ∧ (x / y * y).toInt = x.toInt.tdiv y.toInt * y.toInt ∧ (x - x / y * y).toInt = x.toInt.tmod y.toInt := by
  have hy1 : 0 < y.toInt := Int64.lt_iff_toInt_lt.mp hy
  have hxl := x.le_toInt
  have hxu := x.toInt_lt
  have hb : ∀ z : Int, - 2 ^ 63 ≤ z → z < 2 ^ 63 → z.bmod (2 ^ 64) = z := fun z h1 h2 => Int.bmod_eq_of_le_mul_two (by omega) (by omega)
  have hd : x.toInt.tdiv y.toInt * y.toInt + x.toInt.tmod y.toInt = x.toInt := by rw [Int.mul_comm]; exact Int.mul_tdiv_add_tmod _ _
  have hq : (x.toInt.tdiv y.toInt).natAbs ≤ x.toInt.natAbs := by rw [Int.natAbs_tdiv]; exact Nat.div_le_self _ _
  have hq2 : (x.toInt.tdiv y.toInt * y.toInt).natAbs ≤ x.toInt.natAbs := by rw [Int.natAbs_mul, Int.natAbs_tdiv]; exact Nat.div_mul_le_self _ _
  have e1 : (x / y).toInt = x.toInt.tdiv y.toInt := by
    rw [Int64.toInt_div]
    by_cases hm : x.toInt.tdiv y.toInt = 2 ^ 63
    · exfalso
      have h1 : 0 ≤ x.toInt.tdiv y.toInt := by rw [hm]; decide
      have h2 : x.toInt.natAbs = 2 ^ 63 := by omega
      have h3 : x.toInt = - 2 ^ 63 := by omega
      have h5 : x.toInt.tdiv y.toInt ≤ 0 := by rw [h3, Int.neg_tdiv]; have := Int.tdiv_nonneg (show (0 : Int) ≤ 2 ^ 63 by decide) (Int.le_of_lt hy1); omega
      omega
    · exact hb _ (by omega) (by omega)
  have e2 : (x / y * y).toInt = x.toInt.tdiv y.toInt * y.toInt := by
    rw [Int64.toInt_mul, e1]
    by_cases hm : x.toInt.tdiv y.toInt * y.toInt = 2 ^ 63
    · exfalso
      have h2 : x.toInt.natAbs = 2 ^ 63 := by omega
      have h3 : x.toInt = - 2 ^ 63 := by omega
      have h5 : x.toInt.tdiv y.toInt ≤ 0 := by rw [h3, Int.neg_tdiv]; have := Int.tdiv_nonneg (show (0 : Int) ≤ 2 ^ 63 by decide) (Int.le_of_lt hy1); omega
      have h6 := Int.mul_nonneg_of_nonpos_of_nonpos h5 (show -y.toInt ≤ 0 by omega)
      rw [Int.mul_neg] at h6
      omega
    · exact hb _ (by omega) (by omega)
  refine ⟨e1, e2, ?_⟩
  rw [Int64.toInt_sub, e2]
  have : x.toInt - x.toInt.tdiv y.toInt * y.toInt = x.toInt.tmod y.toInt := by omega
  rw [this]
  have hm1 : (x.toInt.tmod y.toInt).natAbs ≤ x.toInt.natAbs := by rw [Int.natAbs_tmod]; exact Nat.mod_le _ _
  by_cases hm : x.toInt.tmod y.toInt = 2 ^ 63
  · exfalso
    have h2 : x.toInt.natAbs = 2 ^ 63 := by omega
    have h3 : x.toInt = - 2 ^ 63 := by omega
    have h5 : x.toInt.tmod y.toInt ≤ 0 := by rw [h3, Int.neg_tmod]; have := Int.tmod_nonneg y.toInt (show (0 : Int) ≤ 2 ^ 63 by decide); omega
    omega
  · exact hb _ (by omega) (by omega)
theorem flD_m {x y : Int64} (hy : 0 < y) : flD x y = if x - x / y * y < 0 then x / y - 1 else x / y := by
  obtain ⟨e1, e2, e3⟩ := i64_div (x := x) hy
  have hy1 : 0 < y.toInt := Int64.lt_iff_toInt_lt.mp hy
  have hxor : (x ^^^ y) < 0 ↔ x < 0 := by
    rw [i64_lt0, i64_lt0]
    show (x.toBitVec ^^^ y.toBitVec).msb = true ↔ _
    rw [BitVec.msb_xor]
    have : y.toBitVec.msb = false := by
      cases h : y.toBitVec.msb with
      | false => rfl
      | true => have := (i64_lt0 y).mpr h; have := Int64.lt_iff_toInt_lt.mp this; simp at this; omega
    rw [this]
    simp
  have hr : x - x / y * y < 0 ↔ x.toInt.tmod y.toInt < 0 := by rw [Int64.lt_iff_toInt_lt, e3]; exact Iff.rfl
  have hx : x < 0 ↔ x.toInt < 0 := by rw [Int64.lt_iff_toInt_lt]; exact Iff.rfl
  have heq : x / y * y = x ↔ x.toInt.tmod y.toInt = 0 := by
    rw [← Int64.toInt_inj, e2]
    have hd : x.toInt.tdiv y.toInt * y.toInt + x.toInt.tmod y.toInt = x.toInt := by rw [Int.mul_comm]; exact Int.mul_tdiv_add_tmod _ _
    omega
  unfold flD
  have hc : ((x ^^^ y) < 0 ∧ ¬ x / y * y = x) ↔ x - x / y * y < 0 := by
    rw [hxor, hr, hx, heq]
    constructor
    · rintro ⟨h1, h2⟩
      have h5 : x.toInt.tmod y.toInt ≤ 0 := by
        obtain ⟨z, hz⟩ : ∃ z, z = -x.toInt := ⟨_, rfl⟩
        have : x.toInt = -z := by omega
        rw [this, Int.neg_tmod]
        have := Int.tmod_nonneg y.toInt (show 0 ≤ z by omega)
        omega
      omega
    · intro h1
      refine ⟨?_, by omega⟩
      apply Decidable.byContradiction
      intro h2
      have := Int.tmod_nonneg y.toInt (show 0 ≤ x.toInt by omega)
      omega
  by_cases h : x - x / y * y < 0
  · rw [if_pos (hc.mpr h), if_pos h]
  · rw [if_neg (fun q => h (hc.mp q)), if_neg h]
theorem lgc_lt {x : Int64} (h : ¬ 0 ≤ lg_cmp x 0) : x < 0 := by
  unfold lg_cmp at h
  by_cases h1 : x > 0
  · rw [if_pos h1] at h; exact absurd (by decide) h
  · rw [if_neg h1] at h
    by_cases h2 : x = 0
    · rw [if_pos h2] at h; exact absurd (by decide) h
    · exact Int64.lt_of_le_of_ne (Int64.not_lt.mp h1) h2
theorem lgc_ge {x : Int64} (h : 0 ≤ lg_cmp x 0) : ¬ x < 0 := by
  intro hx
  unfold lg_cmp at h
  rw [if_neg (fun q => absurd (Int64.lt_trans q hx) (Int64.lt_irrefl)), if_neg (fun q => by rw [q] at hx; exact absurd hx (by decide))] at h
  exact absurd h (by decide)
end TM
