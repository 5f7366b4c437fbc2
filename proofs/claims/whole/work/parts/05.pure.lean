theorem fa_and (a b : Nat) : nI a &&& nI b = nI (a &&& b) := by
  apply Int32.toBitVec_inj.1
  show BitVec.ofNat 32 a &&& BitVec.ofNat 32 b = BitVec.ofNat 32 (a &&& b)
  apply BitVec.eq_of_getLsbD_eq
  intro i hi
  simp [hi]
theorem fa_or (a b : Nat) : nI a ||| nI b = nI (a ||| b) := by
  apply Int32.toBitVec_inj.1
  show BitVec.ofNat 32 a ||| BitVec.ofNat 32 b = BitVec.ofNat 32 (a ||| b)
  apply BitVec.eq_of_getLsbD_eq
  intro i hi
  simp [hi]
section PM
/-- the sum of 2 to np j for all j below e: the first state of e -/
def sumP (np : Nat → Nat) : Nat → Nat
  | 0 => 0
  | e + 1 => sumP np e + 2 ^ np e
theorem sumP_mono {np : Nat → Nat} {a b : Nat} (h : a ≤ b) : sumP np a ≤ sumP np b := by
  induction b with
  | zero => rw [Nat.le_zero.mp h]; exact Nat.le_refl _
  | succ b ih =>
    by_cases hb : a = b + 1
    · rw [hb]; exact Nat.le_refl _
    · exact Nat.le_trans (ih (by omega)) (by simp [sumP])
theorem sumP_lt {np : Nat → Nat} {e ev : Nat} (h : e < ev) : sumP np e + 2 ^ np e ≤ sumP np ev := sumP_mono (np := np) (show e + 1 ≤ ev from h)
theorem pw4 {n : Nat} (h : n ≤ 4) : 1 ≤ 2 ^ n ∧ 2 ^ n ≤ 16 := by
  rcases (show n = 0 ∨ n = 1 ∨ n = 2 ∨ n = 3 ∨ n = 4 by omega) with rfl | rfl | rfl | rfl | rfl <;> decide
theorem sumP_le {np : Nat → Nat} : ∀ {e : Nat}, (∀ j, j < e → np j ≤ 4) → sumP np e ≤ 16 * e
  | 0, _ => by simp [sumP]
  | e + 1, h => by
    have h1 := sumP_le (e := e) (fun j hj => h j (by omega))
    have h2 := pw4 (h e (by omega))
    simp only [sumP]
    omega
/-- for i in [i, i + k): acc = min acc (g i) -/
def mfold (g : Nat → Nat) : Nat → Nat → Nat → Nat
  | 0, _, acc => acc
  | k + 1, i, acc => mfold g k (i + 1) (min acc (g i))
theorem mfold_le {g : Nat → Nat} : ∀ {k i acc x : Nat}, mfold g k i acc ≤ x ↔ acc ≤ x ∨ ∃ j, i ≤ j ∧ j < i + k ∧ g j ≤ x
  | 0, i, acc, x => by
    simp only [mfold]
    exact ⟨Or.inl, fun h => h.elim id (fun ⟨j, h1, h2, _⟩ => by omega)⟩
  | k + 1, i, acc, x => by
    simp only [mfold]
    rw [mfold_le]
    constructor
    · rintro (h | ⟨j, h1, h2, h3⟩)
      · by_cases ha : acc ≤ x
        · exact Or.inl ha
        · exact Or.inr ⟨i, Nat.le_refl _, by omega, by omega⟩
      · exact Or.inr ⟨j, by omega, by omega, h3⟩
    · rintro (h | ⟨j, h1, h2, h3⟩)
      · exact Or.inl (by omega)
      · by_cases hj : j = i
        · subst hj; exact Or.inl (by omega)
        · exact Or.inr ⟨j, by omega, by omega, h3⟩
theorem mfold_acc {g : Nat → Nat} {k i acc : Nat} : mfold g k i acc ≤ acc := mfold_le.mpr (Or.inl (Nat.le_refl _))
/-- how many ones of a number below 16 -/
def ones (n : Nat) : Nat := n % 2 + n / 2 % 2 + n / 4 % 2 + n / 8 % 2
/-- what the table f of ev events holds: u c e in column c; behind e; the states in a row -/
def Mus (f : Nat → Int32) (ev st : Nat) (u : Nat → Nat → Nat) (bh : Nat → Option Nat) : Prop :=
  ev ≤ 100 ∧ st = sumP (u 1) ev ∧ ∀ e, e < ev → (f (e * 14 + 0) = nI (u 0 e) ∧ f (e * 14 + 1) = nI (u 1 e) ∧ f (e * 14 + 2) = nI (u 2 e) ∧ f (e * 14 + 3) = nI (u 3 e) ∧ f (e * 14 + 4) = nI (u 4 e) ∧ f (e * 14 + 5) = nI (u 5 e) ∧ f (e * 14 + 6) = nI (u 6 e) ∧ f (e * 14 + 7) = nI (u 7 e)) ∧
    f (e * 14 + 8) = on1 (bh e) ∧ f (e * 14 + 13) = nI (sumP (u 1) e) ∧ (u 0 e < 4 ∧ u 1 e ≤ 4 ∧ u 2 e ≤ 100000 ∧ u 3 e ≤ 999 ∧ u 4 e ≤ 100 ∧ u 5 e ≤ 100 ∧ u 6 e ≤ 1 ∧ u 7 e ≤ 1) ∧ ∀ b, bh e = some b → b ≤ e
section
variable {f : Nat → Int32} {ev st e : Nat} {u : Nat → Nat → Nat} {bh : Nat → Option Nat}
theorem Mus.hev (h : Mus f ev st u bh) : ev ≤ 100 := h.1
theorem Mus.c0 (h : Mus f ev st u bh) (he : e < ev) : f (e * 14 + 0) = nI (u 0 e) := (h.2.2 e he).1.1
theorem Mus.c1 (h : Mus f ev st u bh) (he : e < ev) : f (e * 14 + 1) = nI (u 1 e) := (h.2.2 e he).1.2.1
theorem Mus.c2 (h : Mus f ev st u bh) (he : e < ev) : f (e * 14 + 2) = nI (u 2 e) := (h.2.2 e he).1.2.2.1
theorem Mus.c3 (h : Mus f ev st u bh) (he : e < ev) : f (e * 14 + 3) = nI (u 3 e) := (h.2.2 e he).1.2.2.2.1
theorem Mus.c4 (h : Mus f ev st u bh) (he : e < ev) : f (e * 14 + 4) = nI (u 4 e) := (h.2.2 e he).1.2.2.2.2.1
theorem Mus.c5 (h : Mus f ev st u bh) (he : e < ev) : f (e * 14 + 5) = nI (u 5 e) := (h.2.2 e he).1.2.2.2.2.2.1
theorem Mus.c6 (h : Mus f ev st u bh) (he : e < ev) : f (e * 14 + 6) = nI (u 6 e) := (h.2.2 e he).1.2.2.2.2.2.2.1
theorem Mus.c7 (h : Mus f ev st u bh) (he : e < ev) : f (e * 14 + 7) = nI (u 7 e) := (h.2.2 e he).1.2.2.2.2.2.2.2
theorem Mus.c8 (h : Mus f ev st u bh) (he : e < ev) : f (e * 14 + 8) = on1 (bh e) := (h.2.2 e he).2.1
theorem Mus.c13 (h : Mus f ev st u bh) (he : e < ev) : f (e * 14 + 13) = nI (sumP (u 1) e) := (h.2.2 e he).2.2.1
theorem Mus.bd (h : Mus f ev st u bh) (he : e < ev) : u 0 e < 4 ∧ u 1 e ≤ 4 ∧ u 2 e ≤ 100000 ∧ u 3 e ≤ 999 ∧ u 4 e ≤ 100 ∧ u 5 e ≤ 100 ∧ u 6 e ≤ 1 ∧ u 7 e ≤ 1 := (h.2.2 e he).2.2.2.1
theorem Mus.hbh (h : Mus f ev st u bh) (he : e < ev) {b : Nat} (hb : bh e = some b) : b ≤ e := (h.2.2 e he).2.2.2.2 b hb
theorem Mus.hst (h : Mus f ev st u bh) : st ≤ 1600 := by
  have h1 := sumP_le (np := u 1) (e := ev) (fun j hj => (h.bd hj).2.1)
  have h2 := h.1
  have h3 := h.2.1
  omega
/-- the states of e lie below st; there are between 1 and 16 of them -/
theorem Mus.rg (h : Mus f ev st u bh) (he : e < ev) : sumP (u 1) e + 2 ^ u 1 e ≤ st ∧ 1 ≤ 2 ^ u 1 e ∧ 2 ^ u 1 e ≤ 16 ∧ st ≤ 1600 := by
  have h1 := sumP_lt (np := u 1) he
  rw [← h.2.1] at h1
  have h2 := pw4 (h.bd he).2.1
  exact ⟨h1, h2.1, h2.2, h.hst⟩
end
theorem nd_ne {l : List Nat} (h : va_nd l = true) (i j : Nat) {a b : Nat} (hi : l[i]? = some a) (hj : l[j]? = some b) (hij : (i == j) = false) : a ≠ b := by
  intro e
  subst e
  have := va_nd_inj l h i j a hi hj
  subst this
  simp at hij
theorem up_le {d : Nat → Nat} {B i x : Nat} (h : ∀ j, d j ≤ B) (hx : x ≤ B) : ∀ j, va_up d i x j ≤ B := by
  intro j
  by_cases hj : j = i
  · subst hj; rw [va_up_self]; exact hx
  · rw [va_up_ne _ _ hj]; exact h j
theorem offN_le {d : Nat → Nat} {B cn s c : Nat} (h : ∀ j, d j ≤ B) : ∀ j, offN d cn s c j ≤ B := by
  unfold offN
  split
  · exact up_le h (Nat.le_trans (Nat.min_le_left _ _) (h s))
  · exact h
theorem clr_le {d : Nat → Nat} {n : Nat} (h : ∀ j, d j ≤ 1000000) : ∀ j, clr d n j ≤ 1000000 := by
  intro j
  unfold clr
  split
  · exact Nat.le_refl _
  · exact h j
/-! silent moves, as the class makes them -/
def arrP (a : Nat → Nat) (ev e c : Nat) : Nat → Nat := if e < ev ∧ c < a e then va_up a e c else a
theorem arrP_le {a : Nat → Nat} {B ev e c : Nat} (h : ∀ j, a j ≤ B) : ∀ j, arrP a ev e c j ≤ B := by
  unfold arrP
  split
  · rename_i hc
    exact up_le h (Nat.le_trans (Nat.le_of_lt hc.2) (h e))
  · exact h
def wkS (dd np : Nat → Nat) (bh : Nat → Option Nat) (pL ev e : Nat) (a : Nat → Nat) (ch : Bool) : (Nat → Nat) × Bool :=
  match bh e with
  | none => (arrP a ev (e + 1) (min (dd e) (a e + np e * pL)), ch)
  | some b => (arrP (arrP a ev (e + 1) (min (dd e) (a e + np e * pL))) ev b (min (dd e) (a e + np e * pL)), ch || decide (b < ev ∧ min (dd e) (a e + np e * pL) < arrP a ev (e + 1) (min (dd e) (a e + np e * pL)) b))
def wkF (dd np : Nat → Nat) (bh : Nat → Option Nat) (pL ev : Nat) : Nat → Nat → (Nat → Nat) → Bool → (Nat → Nat) × Bool
  | 0, _, a, ch => (a, ch)
  | k + 1, e, a, ch => wkF dd np bh pL ev k (e + 1) (wkS dd np bh pL ev e a ch).1 (wkS dd np bh pL ev e a ch).2
theorem wkS_le {dd np : Nat → Nat} {bh : Nat → Option Nat} {pL ev e B : Nat} {a : Nat → Nat} {ch : Bool} (h : ∀ j, a j ≤ B) : ∀ j, (wkS dd np bh pL ev e a ch).1 j ≤ B := by
  unfold wkS
  split
  · exact arrP_le h
  · exact arrP_le (arrP_le h)
theorem wkF_le {dd np : Nat → Nat} {bh : Nat → Option Nat} {pL ev B : Nat} : ∀ {k e : Nat} {a : Nat → Nat} {ch : Bool}, (∀ j, a j ≤ B) → ∀ j, (wkF dd np bh pL ev k e a ch).1 j ≤ B
  | 0, e, a, ch, h => h
  | k + 1, e, a, ch, h => by unfold wkF; exact wkF_le (wkS_le h)
theorem wkF_step {dd np : Nat → Nat} {bh : Nat → Option Nat} {pL ev i : Nat} {a : Nat → Nat} {ch : Bool} (h : i < ev) : wkF dd np bh pL ev (ev - i) i a ch = wkF dd np bh pL ev (ev - (i + 1)) (i + 1) (wkS dd np bh pL ev i a ch).1 (wkS dd np bh pL ev i a ch).2 := by
  obtain ⟨k, hk⟩ : ∃ k, ev - i = k + 1 := ⟨ev - i - 1, by omega⟩
  rw [hk, show ev - (i + 1) = k by omega]
  rfl
/-- passes till none changes, at most k -/
def psF (dd np : Nat → Nat) (bh : Nat → Option Nat) (pL ev : Nat) : Nat → (Nat → Nat) → Nat → Nat
  | 0, a => a
  | k + 1, a => if (wkF dd np bh pL ev ev 0 a false).2 then psF dd np bh pL ev k (wkF dd np bh pL ev ev 0 a false).1 else (wkF dd np bh pL ev ev 0 a false).1
/-- leaving e from where something was heard -/
def depF (d np : Nat → Nat) (pL e : Nat) : Nat := mfold (fun b => d (sumP np e + b) + ones (2 ^ np e - 1 - b) * pL) (2 ^ np e - 1) 1 1000000
def ar0 (d np mk : Nat → Nat) (jump e : Nat) : Nat := if mk e = 1 then min (d (sumP np e)) jump else d (sumP np e)
/-- g at the first n places -/
def fil (a g : Nat → Nat) (n : Nat) : Nat → Nat := fun j => if j < n then g j else a j
theorem fil_0 (a g : Nat → Nat) : fil a g 0 = a := by funext j; simp [fil]
theorem fil_s (a g : Nat → Nat) (i : Nat) : va_up (fil a g i) i (g i) = fil a g (i + 1) := by
  funext j
  by_cases h : j = i
  · subst h; rw [va_up_self]; simp [fil]
  · rw [va_up_ne _ _ h]
    by_cases h2 : j < i
    · simp [fil, h2, Nat.lt_succ_of_lt h2]
    · simp [fil, h2, show ¬ j < i + 1 by omega]
theorem fil_le {a g : Nat → Nat} {n B : Nat} (ha : ∀ j, a j ≤ B) (hg : ∀ j, j < n → g j ≤ B) : ∀ j, fil a g n j ≤ B := by
  intro j
  unfold fil
  split
  · exact hg j ‹_›
  · exact ha j
theorem ones_le (n : Nat) : ones n ≤ 4 := by unfold ones; omega
theorem mf_step {g : Nat → Nat} {e i acc : Nat} (h : i < e) : mfold g (e - i) i acc = mfold g (e - (i + 1)) (i + 1) (min acc (g i)) := by
  obtain ⟨k, hk⟩ : ∃ k, e - i = k + 1 := ⟨e - i - 1, by omega⟩
  rw [hk, show e - (i + 1) = k by omega]
  rfl
theorem depF_le {d np : Nat → Nat} {pL e : Nat} : depF d np pL e ≤ 1000000 := mfold_acc
theorem ar0_le {d np mk : Nat → Nat} {jump e : Nat} (h : ∀ j, d j ≤ 1000000) : ar0 d np mk jump e ≤ 1000000 := by
  unfold ar0
  split
  · exact Nat.le_trans (Nat.min_le_left _ _) (h _)
  · exact h _
theorem psF_le {dd np : Nat → Nat} {bh : Nat → Option Nat} {pL ev B : Nat} : ∀ {k : Nat} {a : Nat → Nat}, (∀ j, a j ≤ B) → ∀ j, psF dd np bh pL ev k a j ≤ B
  | 0, a, h => h
  | k + 1, a, h => by
    unfold psF
    split
    · exact psF_le (wkF_le h)
    · exact wkF_le h
/-- departures and arrivals behind the silent moves -/
def silD (d np dd : Nat → Nat) (pL ev : Nat) : Nat → Nat := fil dd (depF d np pL) ev
def silA (d a np mk dd : Nat → Nat) (bh : Nat → Option Nat) (pL jump ev : Nat) : Nat → Nat := psF (silD d np dd pL ev) np bh pL ev 101 (fil a (ar0 d np mk jump) ev)
/-! a note is taken -/
def tnC (d : Nat → Nat) (fs av b : Nat) : Nat := if b = 0 then av else d (fs + b)
def tnS (x : Nat → Nat) (xn fs all ri : Nat) (orn : Bool) (c pA pW b : Nat) : Nat → Nat :=
  if ri ≠ 0 ∧ (orn = true ∨ b &&& ri = 0) then offN (if b = all then offN x xn (fs + b) (c + pA) else offN (offN x xn (fs + b) (c + pA)) xn (fs + (b ||| (b + 1))) (c + pW)) xn (fs + (b ||| ri)) c
  else (if b = all then offN x xn (fs + b) (c + pA) else offN (offN x xn (fs + b) (c + pA)) xn (fs + (b ||| (b + 1))) (c + pW))
def tnF (d : Nat → Nat) (xn fs av all ri : Nat) (orn : Bool) (pA pW : Nat) : Nat → Nat → (Nat → Nat) → Nat → Nat
  | 0, _, x => x
  | k + 1, b, x => tnF d xn fs av all ri orn pA pW k (b + 1) (tnS x xn fs all ri orn (tnC d fs av b) pA pW b)
theorem tnF_step {d : Nat → Nat} {xn fs av all ri : Nat} {orn : Bool} {pA pW i e : Nat} {x : Nat → Nat} (h : i < e) : tnF d xn fs av all ri orn pA pW (e - i) i x = tnF d xn fs av all ri orn pA pW (e - (i + 1)) (i + 1) (tnS x xn fs all ri orn (tnC d fs av i) pA pW i) := by
  obtain ⟨k, hk⟩ : ∃ k, e - i = k + 1 := ⟨e - i - 1, by omega⟩
  rw [hk, show e - (i + 1) = k by omega]
  rfl
theorem tnS_le {x : Nat → Nat} {xn fs all ri : Nat} {orn : Bool} {c pA pW b B : Nat} (h : ∀ j, x j ≤ B) : ∀ j, tnS x xn fs all ri orn c pA pW b j ≤ B := by
  unfold tnS
  split <;> split <;> first | exact offN_le (offN_le (offN_le h)) | exact offN_le (offN_le h) | exact offN_le h
theorem tnF_le {d : Nat → Nat} {xn fs av all ri : Nat} {orn : Bool} {pA pW B : Nat} : ∀ {k b : Nat} {x : Nat → Nat}, (∀ j, x j ≤ B) → ∀ j, tnF d xn fs av all ri orn pA pW k b x j ≤ B
  | 0, b, x, h => h
  | k + 1, b, x, h => by unfold tnF; exact tnF_le (tnS_le h)
theorem or_lt4 {a b n : Nat} (ha : a < 2 ^ n) (hb : b < 2 ^ n) : a ||| b < 2 ^ n := Nat.or_lt_two_pow ha hb
/-- the place, bit by bit: cost, event, bits -/
def fpS (x : Nat → Nat) (fs e b : Nat) (t : Nat × Nat × Nat) : Nat × Nat × Nat := if x (fs + b) < t.1 then (x (fs + b), e, b) else t
def fpF (x : Nat → Nat) (fs e : Nat) : Nat → Nat → Nat × Nat × Nat → Nat × Nat × Nat
  | 0, _, t => t
  | k + 1, b, t => fpF x fs e k (b + 1) (fpS x fs e b t)
theorem fpF_step {x : Nat → Nat} {fs e i n : Nat} {t : Nat × Nat × Nat} (h : i < n) : fpF x fs e (n - i) i t = fpF x fs e (n - (i + 1)) (i + 1) (fpS x fs e i t) := by
  obtain ⟨k, hk⟩ : ∃ k, n - i = k + 1 := ⟨n - i - 1, by omega⟩
  rw [hk, show n - (i + 1) = k by omega]
  rfl
theorem r2_lt {q : Nat → Bool} {np : Nat} : r2 (fstN q np 0) < 2 ^ np := by
  cases h : fstN q np 0 with
  | none => exact Nat.two_pow_pos np
  | some i =>
    obtain ⟨-, h2, -⟩ := fstN_some h
    exact Nat.pow_lt_pow_right (by decide) (by omega)
theorem riB_lt {f : Nat → Int32} {e no kd np : Nat} : riB f e no kd np < 2 ^ np := r2_lt
/-- an event takes the note; the place is looked for in it -/
def evS (d A np : Nat → Nat) (ri : Nat → Nat) (orn : Nat → Bool) (xn pA pW e : Nat) (q : (Nat → Nat) × Nat × Nat × Nat) : (Nat → Nat) × Nat × Nat × Nat :=
  (tnF d xn (sumP np e) (A e) (2 ^ np e - 1) (ri e) (orn e) pA pW (2 ^ np e) 0 q.1, fpF (tnF d xn (sumP np e) (A e) (2 ^ np e - 1) (ri e) (orn e) pA pW (2 ^ np e) 0 q.1) (sumP np e) e (2 ^ np e) 0 q.2)
def evF (d A np : Nat → Nat) (ri : Nat → Nat) (orn : Nat → Bool) (xn pA pW : Nat) : Nat → Nat → (Nat → Nat) × Nat × Nat × Nat → (Nat → Nat) × Nat × Nat × Nat
  | 0, _, q => q
  | k + 1, e, q => evF d A np ri orn xn pA pW k (e + 1) (evS d A np ri orn xn pA pW e q)
theorem evF_step {d A np : Nat → Nat} {ri : Nat → Nat} {orn : Nat → Bool} {xn pA pW i ev : Nat} {q : (Nat → Nat) × Nat × Nat × Nat} (h : i < ev) : evF d A np ri orn xn pA pW (ev - i) i q = evF d A np ri orn xn pA pW (ev - (i + 1)) (i + 1) (evS d A np ri orn xn pA pW i q) := by
  obtain ⟨k, hk⟩ : ∃ k, ev - i = k + 1 := ⟨ev - i - 1, by omega⟩
  rw [hk, show ev - (i + 1) = k by omega]
  rfl
theorem fpF_le {x : Nat → Nat} {fs e : Nat} : ∀ {k b : Nat} {t : Nat × Nat × Nat}, (fpF x fs e k b t).1 ≤ t.1
  | 0, b, t => Nat.le_refl _
  | k + 1, b, t => by
    unfold fpF
    refine Nat.le_trans fpF_le ?_
    unfold fpS
    split
    · exact Nat.le_of_lt ‹_›
    · exact Nat.le_refl _
theorem fpF_ev {x : Nat → Nat} {fs e B : Nat} (he : e ≤ B) : ∀ {k b : Nat} {t : Nat × Nat × Nat}, t.2.1 ≤ B → (fpF x fs e k b t).2.1 ≤ B
  | 0, b, t, h => h
  | k + 1, b, t, h => by
    unfold fpF
    refine fpF_ev he ?_
    unfold fpS
    split
    · exact he
    · exact h
end PM
