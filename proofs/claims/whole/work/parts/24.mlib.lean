section ML
/-- the fields of the model that hold arrays -/
def isR (i : Nat) : Bool := [1, 10, 11, 12, 13, 14, 15, 16, 17, 18, 19, 20, 35, 36, 37, 38, 39, 40, 41, 42].contains i
/-- the model's fields: 45 of them, the arrays at A -/
def RA (A : Nat → Nat) (fs : List Value) : Prop := fs.length = 45 ∧ ∀ i, isR i = true → fs[i]? = some (.ref (A i))
/-- outside l the fields are the same -/
def FF (l : List Nat) (fs fs9 : List Value) : Prop := fs9.length = fs.length ∧ ∀ j, l.contains j = false → fs9[j]? = fs[j]?
theorem FF.refl {l : List Nat} {fs : List Value} : FF l fs fs := ⟨rfl, fun _ _ => rfl⟩
theorem FF.trans {l : List Nat} {fs fs1 fs2 : List Value} (h1 : FF l fs fs1) (h2 : FF l fs1 fs2) : FF l fs fs2 := ⟨h2.1.trans h1.1, fun j hj => (h2.2 j hj).trans (h1.2 j hj)⟩
theorem ct_sub {l l' : List Nat} (hl : (l.all fun k => l'.contains k) = true) {j : Nat} (hj : l'.contains j = false) : l.contains j = false := by
  cases h : l.contains j with
  | false => rfl
  | true =>
    have h1 : j ∈ l := by simpa using h
    have h2 := List.all_eq_true.mp hl j h1
    rw [hj] at h2
    cases h2
theorem ct_sub' {l l' : List Nat} (hl : (l.all fun k => l'.contains k) = true) {j : Nat} (hj : l.contains j = true) : l'.contains j = true := List.all_eq_true.mp hl j (by simpa using hj)
theorem FF.mono {l l' : List Nat} {fs fs9 : List Value} (h : FF l fs fs9) (hl : (l.all fun k => l'.contains k) = true) : FF l' fs fs9 := ⟨h.1, fun j hj => h.2 j (ct_sub hl hj)⟩
theorem FF.set {l : List Nat} {fs fs9 : List Value} {k : Nat} {v : Value} (h : fs.set k v = fs9) (hk : l.contains k = true) : FF l fs fs9 := by
  subst h
  refine ⟨List.length_set, fun j hj => ?_⟩
  have : k ≠ j := fun e => by subst e; rw [hk] at hj; cases hj
  exact List.getElem?_set_ne this
theorem FF.at {l : List Nat} {fs fs9 : List Value} (h : FF l fs fs9) {j : Nat} {x : Option Value} (hj : l.contains j = false) (hf : fs[j]? = x) : fs9[j]? = x := (h.2 j hj).trans hf
theorem st_ne {fs fs9 : List Value} {k j : Nat} {v : Value} {x : Option Value} (h : fs.set k v = fs9) (hj : (k == j) = false) (hf : fs[j]? = x) : fs9[j]? = x := by
  subst h
  rw [List.getElem?_set_ne (fun e => by subst e; simp at hj)]
  exact hf
theorem st_at {A : Nat → Nat} {fs fs9 : List Value} {k : Nat} {v : Value} (h : fs.set k v = fs9) (hA : RA A fs) (hk : k < 45) : fs9[k]? = some v := by
  subst h
  exact List.getElem?_set_self (by rw [hA.1]; exact hk)
theorem RA.lt {A : Nat → Nat} {fs : List Value} {k : Nat} (hA : RA A fs) (hk : k < 45) : k < fs.length := by rw [hA.1]; exact hk
theorem RA.set {A : Nat → Nat} {fs fs9 : List Value} {k : Nat} {v : Value} (hA : RA A fs) (h : fs.set k v = fs9) (hk : isR k = false) : RA A fs9 := by
  refine ⟨by subst h; rw [List.length_set]; exact hA.1, fun i hi => st_ne h ?_ (hA.2 i hi)⟩
  have : k ≠ i := fun e => by subst e; rw [hk] at hi; cases hi
  simpa using this
theorem RA.ff {A : Nat → Nat} {l : List Nat} {fs fs9 : List Value} (hA : RA A fs) (h : FF l fs fs9) (hl : (l.all fun k => !isR k) = true) : RA A fs9 := by
  refine ⟨h.1.trans hA.1, fun i hi => h.at ?_ (hA.2 i hi)⟩
  cases hc : l.contains i with
  | false => rfl
  | true =>
    have h1 : i ∈ l := by simpa using hc
    have h2 := List.all_eq_true.mp hl i h1
    rw [hi] at h2
    cases h2
/-- the arrays are apart, and apart from the object -/
def AD (A : Nat → Nat) (mm : Nat) : Prop := (∀ i j, isR i = true → isR j = true → A i = A j → i = j) ∧ ∀ i, isR i = true → A i ≠ mm
theorem AD.ne {A : Nat → Nat} {mm : Nat} (h : AD A mm) (i j : Nat) (hi : isR i = true) (hj : isR j = true) (hij : (i == j) = false) : A i ≠ A j := fun e => by
  have := h.1 i j hi hj e
  simp [this] at hij
theorem AD.nm {A : Nat → Nat} {mm : Nat} (h : AD A mm) (i : Nat) (hi : isR i = true) : A i ≠ mm := h.2 i hi
theorem AD.mn {A : Nat → Nat} {mm : Nat} (h : AD A mm) (i : Nat) (hi : isR i = true) : mm ≠ A i := (h.2 i hi).symm
/-- r is another array -/
def RW (A : Nat → Nat) (mm r : Nat) : Prop := r ≠ mm ∧ ∀ i, isR i = true → r ≠ A i
/-- outside xs and the arrays A i, i in l, the worlds are the same -/
def FrI (A : Nat → Nat) (xs l : List Nat) (w w9 : pW) : Prop := ∀ x, x ∉ xs → (∀ i, l.contains i = true → x ≠ A i) → w9 x = w x
section
variable {A : Nat → Nat} {mm r j a : Nat} {xs xs' l l' : List Nat} {w w1 w2 w9 : pW} {e : Option pE}
theorem FrI.refl : FrI A xs l w w := fun _ _ _ => rfl
theorem FrI.trans (h1 : FrI A xs l w w1) (h2 : FrI A xs l w1 w2) : FrI A xs l w w2 := fun x hx hl => (h2 x hx hl).trans (h1 x hx hl)
theorem FrI.mono (h : FrI A xs l w w9) (hx : ∀ x ∈ xs, x ∈ xs') (hl : (l.all fun k => l'.contains k) = true) : FrI A xs' l' w w9 := fun x h1 h2 => h x (fun q => h1 (hx x q)) (fun i hi => h2 i (ct_sub' hl hi))
theorem FrI.sub (h : FrI A xs l w w9) (hl : (l.all fun k => l'.contains k) = true) : FrI A xs l' w w9 := h.mono (fun _ q => q) hl
theorem FrI.ux (h : w1 = va_up w a e) (ha : a ∈ xs) : FrI A xs l w w1 := fun x hx _ => by rw [h]; exact va_up_ne w e (fun q => hx (by rw [q]; exact ha))
theorem FrI.ua (h : w1 = va_up w (A j) e) (hj : l.contains j = true) : FrI A xs l w w1 := fun x _ hl => by rw [h]; exact va_up_ne w e (hl j hj)
theorem FrI.a1 (h : FrI A [mm] l w w9) (hAD : AD A mm) (hl : (l.all isR) = true) (hj : isR j = true) (hjl : l.contains j = false) (hf : w (A j) = e) : w9 (A j) = e := by
  refine (h (A j) (by simp only [List.mem_cons, List.not_mem_nil, or_false]; exact hAD.2 j hj) (fun i hi q => ?_)).trans hf
  have := hAD.1 j i hj (List.all_eq_true.mp hl i (by simpa using hi)) q
  rw [this, hi] at hjl
  cases hjl
theorem FrI.a2 (h : FrI A [mm, r] l w w9) (hAD : AD A mm) (hr : RW A mm r) (hl : (l.all isR) = true) (hj : isR j = true) (hjl : l.contains j = false) (hf : w (A j) = e) : w9 (A j) = e := by
  refine (h (A j) (by simp only [List.mem_cons, List.not_mem_nil, or_false, not_or]; exact ⟨hAD.2 j hj, (hr.2 j hj).symm⟩) (fun i hi q => ?_)).trans hf
  have := hAD.1 j i hj (List.all_eq_true.mp hl i (by simpa using hi)) q
  rw [this, hi] at hjl
  cases hjl
theorem FrI.r1 (h : FrI A [mm] l w w9) (hr : RW A mm r) (hl : (l.all isR) = true) (hf : w r = e) : w9 r = e := (h r (by simp only [List.mem_cons, List.not_mem_nil, or_false]; exact hr.1) (fun i hi => hr.2 i (List.all_eq_true.mp hl i (by simpa using hi)))).trans hf
theorem FrI.r2 {r' : Nat} (h : FrI A [mm, r'] l w w9) (hr : RW A mm r) (hn : r ≠ r') (hl : (l.all isR) = true) (hf : w r = e) : w9 r = e := (h r (by simp only [List.mem_cons, List.not_mem_nil, or_false, not_or]; exact ⟨hr.1, hn⟩) (fun i hi => hr.2 i (List.all_eq_true.mp hl i (by simpa using hi)))).trans hf
end
section
variable {P : JP} {pc : Nat} {lv : List (Nat × Value)} {st : List Value} {w : pW} {k n : Nat}
theorem j_putM {a idx ci kf : Nat} {fs : List Value} {ty : FieldType} {v : Value} (f : FS P.1.2.2.2 P.1.2.1 idx ci kf false ty) (hw : w a = some (.inr (ci, fs))) (hn : narrow ty v = v) (hfit : fits ty v = true) (hlen : kf < fs.length) (hd : decode P.1.1 pc = .ok (.putfield idx, 3)) (h : ∀ (w1 : pW) (fs9 : List Value), fs.set kf v = fs9 → w1 = va_up w a (some (.inr (ci, fs9))) → J P (pc + 3) lv st w1 k n) : J P pc lv (v :: .ref a :: st) w k n := j_put f hw hn hfit hlen rfl hd (h _ _ rfl rfl)
end
end ML
section MT
def MU (A : Nat → Nat) (mm : Nat) (L l : List Nat) (w w9 : pW) (fs fs9 : List Value) : Prop := FrI A [mm] L w w9 ∧ w9 mm = some (.inr (6, fs9)) ∧ FF l fs fs9
/-- the token is the sign c -/
def isG (tkn sg c : Nat) : Bool := decide (tkn = 3 ∧ sg = c)
/-- the class's kind of the model's sign c -/
def sgK (c : Nat) : Nat := if c = 256 then 4 else if c = 257 then 5 else c
def sgL : List Nat := [40, 41, 58, 126, 114, 64, 33, 37, 124, 256, 257]
/-- the model's token and sign, where the class's kind is kd -/
def TS (tkn sg kd : Nat) : Prop := tkn < 5 ∧ sg < 300 ∧ (tkn = 1 ↔ kd = 2) ∧ (tkn = 2 ↔ kd = 3) ∧ (tkn = 0 ↔ kd = 0) ∧ ∀ c, sgL.contains c = true → isG tkn sg c = decide (kd = sgK c)
theorem TS.sg {tkn sg kd : Nat} (h : TS tkn sg kd) (c : Nat) (hc : sgL.contains c = true) : isG tkn sg c = decide (kd = sgK c) := h.2.2.2.2.2 c hc
theorem sgL_all {p : Nat → Prop} (h : ∀ c ∈ sgL, p c) : ∀ c, sgL.contains c = true → p c := fun c hc => h c (by simpa using hc)
theorem TS_end : TS 0 0 0 := ⟨by omega, by omega, by omega, by omega, by omega, sgL_all (by decide)⟩
theorem TS_num : TS 2 0 3 := ⟨by omega, by omega, by omega, by omega, by omega, sgL_all (by decide)⟩
theorem TS_pit : TS 1 0 2 := ⟨by omega, by omega, by omega, by omega, by omega, sgL_all (by decide)⟩
theorem TS_op : TS 3 256 4 := ⟨by omega, by omega, by omega, by omega, by omega, sgL_all (by decide)⟩
theorem TS_cl : TS 3 257 5 := ⟨by omega, by omega, by omega, by omega, by omega, sgL_all (by decide)⟩
theorem TS_bad {sg : Nat} (h : sg < 300) : TS 4 sg 1 := by
  refine ⟨by omega, h, by omega, by omega, by omega, sgL_all (fun c hc => ?_)⟩
  have h1 : isG 4 sg c = false := decide_eq_false (fun q => by omega)
  have h2 : ∀ c ∈ sgL, decide (1 = sgK c) = false := by decide
  rw [h1, h2 c hc]
theorem TS_sgn {c : Nat} (h : c = 40 ∨ c = 41 ∨ c = 58 ∨ c = 126 ∨ c = 114 ∨ c = 64 ∨ c = 33 ∨ c = 37 ∨ c = 124) : TS 3 c c := by
  rcases h with rfl | rfl | rfl | rfl | rfl | rfl | rfl | rfl | rfl <;> exact ⟨by omega, by omega, by omega, by omega, by omega, sgL_all (by decide)⟩
/-- the model's number, where the class's token has kind kd, value va and len bytes -/
def NS (nu : Int32) (kd : Nat) (va : Int32) (len : Nat) : Prop := (kd = 2 → nu = va) ∧ (kd = 3 → ∃ x : Nat, nu = nI x ∧ x ≤ 10000 ∧ (va = 0 ↔ (3 < len ∨ x = 0)) ∧ (va ≠ 0 → va = nI x))
theorem NS_no {nu va : Int32} {kd len : Nat} (h2 : kd ≠ 2) (h3 : kd ≠ 3) : NS nu kd va len := ⟨fun q => absurd q h2, fun q => absurd q h3⟩
/-- the model stands at the token that starts at a -/
def AtT (t : Nat → Nat) (ln a : Nat) (fs : List Value) : Prop := ∃ (tkn sg : Nat) (nu : Int32), fs[22]? = some (.int (nI (tk t ln a).1)) ∧ fs[24]? = some (.int (nI tkn)) ∧ fs[25]? = some (.int (nI sg)) ∧ fs[26]? = some (.int nu) ∧ fs[27]? = some (.int (nI a)) ∧ fs[28]? = some (.int (nI (tk t ln a).1)) ∧ TS tkn sg (tkK t ln a) ∧ NS nu (tkK t ln a) (tkV t ln a) ((tk t ln a).1 - a)
theorem AtT.ff {t : Nat → Nat} {ln a : Nat} {fs fs9 : List Value} {l : List Nat} (h : AtT t ln a fs) (hf : FF l fs fs9) (hl : l.contains 22 = false ∧ l.contains 24 = false ∧ l.contains 25 = false ∧ l.contains 26 = false ∧ l.contains 27 = false ∧ l.contains 28 = false) : AtT t ln a fs9 := by
  obtain ⟨tkn, sg, nu, h1, h2, h3, h4, h5, h6, h7⟩ := h
  exact ⟨tkn, sg, nu, hf.at hl.1 h1, hf.at hl.2.1 h2, hf.at hl.2.2.1 h3, hf.at hl.2.2.2.1 h4, hf.at hl.2.2.2.2.1 h5, hf.at hl.2.2.2.2.2 h6, h7⟩
theorem AtT.mk {t : Nat → Nat} {ln a e kd : Nat} {va : Int32} {fs : List Value} {tkn sg : Nat} {nu : Int32} (hk : tk t ln a = (e, kd, va)) (h1 : fs[22]? = some (.int (nI e))) (h2 : fs[24]? = some (.int (nI tkn))) (h3 : fs[25]? = some (.int (nI sg))) (h4 : fs[26]? = some (.int nu)) (h5 : fs[27]? = some (.int (nI a))) (h6 : fs[28]? = some (.int (nI e))) (hT : TS tkn sg kd) (hN : NS nu kd va (e - a)) : AtT t ln a fs := by
  refine ⟨tkn, sg, nu, ?_, h2, h3, h4, h5, ?_, ?_, ?_⟩
  · rw [hk]; exact h1
  · rw [hk]; exact h6
  · unfold tkK; rw [hk]; exact hT
  · unfold tkK tkV; rw [hk]; exact hN
/-- the token begins an event; a mark, a cue or an event -/
def bE (kd : Nat) : Bool := decide (kd = 2 ∨ kd = 40 ∨ kd = 126 ∨ kd = 114)
def bM (kd : Nat) : Bool := decide (kd = 2 ∨ kd = 40 ∨ kd = 126 ∨ kd = 114 ∨ kd = 64 ∨ kd = 33)
/-- a number as the model reads it: k digits from s on -/
def mnF (t : Nat → Nat) (s : Nat) : Nat → Nat
  | 0 => 0
  | k + 1 => min 10000 (10 * mnF t s k + (t (s + k) - 48))
theorem mnF_le {t : Nat → Nat} {s k : Nat} : mnF t s k ≤ 10000 := by
  cases k with
  | zero => simp [mnF]
  | succ k => simp only [mnF]; omega
theorem ixS_in : ∀ c : Fin 256, (ixS c.1 < 0) = decide (¬ (c.1 = 40 ∨ c.1 = 41 ∨ c.1 = 58 ∨ c.1 = 126 ∨ c.1 = 114 ∨ c.1 = 64 ∨ c.1 = 33 ∨ c.1 = 37 ∨ c.1 = 124)) := by
  intro c
  have : ∀ c : Fin 256, decide (ixS c.1 < 0) = decide (¬ (c.1 = 40 ∨ c.1 = 41 ∨ c.1 = 58 ∨ c.1 = 126 ∨ c.1 = 114 ∨ c.1 = 64 ∨ c.1 = 33 ∨ c.1 = 37 ∨ c.1 = 124)) := by decide +kernel
  have h := this c
  apply propext
  constructor
  · intro q; rw [decide_eq_true q] at h; exact h.symm
  · intro q; rw [q] at h; exact of_decide_eq_true h
theorem isD_pit {c : Nat} (h : 97 ≤ c ∧ c ≤ 103) : isD (nI c) = false := by
  have : ∀ j : Fin 7, isD (nI (97 + j.1)) = false := by decide +kernel
  have h1 := this ⟨c - 97, by omega⟩
  rwa [show 97 + (c - 97) = c by omega] at h1
theorem isD_not {c : Nat} (hc : c < 2 ^ 31) (h : isD (nI c) = true) : ¬ (97 ≤ c ∧ c ≤ 103) := fun q => by
  rw [isD_pit q] at h; cases h
end MT
section ML2
variable {A : Nat → Nat} {mm r j b x y : Nat} {xs l : List Nat} {w w9 : pW} {e : Option pE}
theorem nm1 (h : b ≠ x) : b ∉ [x] := by simpa using h
theorem nm2 (h1 : b ≠ x) (h2 : b ≠ y) : b ∉ [x, y] := by simp only [List.mem_cons, List.not_mem_nil, or_false, not_or]; exact ⟨h1, h2⟩
theorem AD.nl (h : AD A mm) (j : Nat) (hl : (l.all isR) = true) (hj : isR j = true) (hjl : l.contains j = false) : ∀ i, l.contains i = true → A j ≠ A i := fun i hi q => by
  have := h.1 j i hj (List.all_eq_true.mp hl i (by simpa using hi)) q
  rw [this, hi] at hjl
  cases hjl
theorem AD.ml (h : AD A mm) (hl : (l.all isR) = true) : ∀ i, l.contains i = true → mm ≠ A i := fun i hi => (h.2 i (List.all_eq_true.mp hl i (by simpa using hi))).symm
theorem RW.nl (h : RW A mm r) (hl : (l.all isR) = true) : ∀ i, l.contains i = true → r ≠ A i := fun i hi => h.2 i (List.all_eq_true.mp hl i (by simpa using hi))
theorem FrI.gen (h : FrI A xs l w w9) (hx : b ∉ xs) (hl : ∀ i, l.contains i = true → b ≠ A i) (hf : w b = e) : w9 b = e := (h b hx hl).trans hf
end ML2
