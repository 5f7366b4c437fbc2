/-- a number as the model reads it: k digits from s on -/
def mnF (t : Nat → Nat) (s : Nat) : Nat → Nat
  | 0 => 0
  | k + 1 => min 10000 (10 * mnF t s k + (t (s + k) - 48))
theorem mnF_le {t : Nat → Nat} {s k : Nat} : mnF t s k ≤ 10000 := by
  cases k with
  | zero => simp [mnF]
  | succ k => simp only [mnF]; omega
/-- the model's token at a: kind, sign, number (nu: the number before) -/
def tM (t : Nat → Nat) (ln a : Nat) (nu : Int32) : Nat × Nat × Int32 :=
  if ln ≤ a then (0, 0, nu)
  else if isD (nI (t a)) then (2, 0, nI (mnF t a (dgE t ln a - a)))
  else if 97 ≤ t a ∧ t a ≤ 103 then
    (if ptO t ln (a + 1 + ptK t ln a) then (1, 0, nI (12 * (t (a + 1 + ptK t ln a) - 48)) + bgStep (t a - 97) + ptV t ln a) else (4, 0, nu))
  else if t a = 124 ∧ bA t ln (a + 1) = nI 58 then (3, 256, nu)
  else if t a = 58 ∧ bA t ln (a + 1) = nI 124 then (3, 257, nu)
  else (if ixS (t a) < 0 then 4 else 3, t a, nu)
theorem ixS_in : ∀ c : Fin 256, (ixS c.1 < 0) = decide (¬ (c.1 = 40 ∨ c.1 = 41 ∨ c.1 = 58 ∨ c.1 = 126 ∨ c.1 = 114 ∨ c.1 = 64 ∨ c.1 = 33 ∨ c.1 = 37 ∨ c.1 = 124)) := by
  intro c
  have : ∀ c : Fin 256, decide (ixS c.1 < 0) = decide (¬ (c.1 = 40 ∨ c.1 = 41 ∨ c.1 = 58 ∨ c.1 = 126 ∨ c.1 = 114 ∨ c.1 = 64 ∨ c.1 = 33 ∨ c.1 = 37 ∨ c.1 = 124)) := by decide +kernel
  have h := this c
  apply propext
  constructor
  · intro q; rw [decide_eq_true q] at h; exact h.symm
  · intro q; rw [q] at h; exact of_decide_eq_true h
