/-! the model's world, and a call of both -/
def OW (A cr : Nat → Nat) (mm x : Nat) : Prop := x = mm ∨ (∃ i, isR i = true ∧ x = A i) ∨ ∃ i, i < 401 ∧ x = cr i
def KN (A cr : Nat → Nat) (mm : Nat) (w w9 : pW) : Prop := ∀ x, ¬ OW A cr mm x → w9 x = w x
/-- what of the model stays from its making on -/
def MS (A cr : Nat → Nat) (mm : Nat) : Prop := AD A mm ∧ (∀ i, i < 401 → RW A mm (cr i)) ∧ ∀ i j, i < 401 → j < 401 → cr i = cr j → i = j
def MJ (A cr : Nat → Nat) (mm : Nat) (w : pW) (fs : List Value) (pg os : Nat) (nu : Int32) (ot : Nat → Nat) (f2 : Nat → Int32) (a9 : Nat) (xp xl xi xc : Nat → Int32) (o0 ae aT tM : Nat → Nat) : St → (Nat → Nat → Nat) → (Nat → Nat → Nat) → Nat → Prop
  | (t, tl, ld, flt, fp, (sd1, mr1, cu1, mk1, cd1, rp1, np1, oc1, f, ev, be, cq, st, me, pa), p, nt, mcl, pe, pb, _, _), u, cs, th =>
    (w mm = some (.inr (6, fs)) ∧ RA A fs) ∧
    (fs[0]? = some (.int (nI th)) ∧ fs[2]? = some (.int (nI tl)) ∧ fs[3]? = some (.int (nI flt)) ∧ fs[4]? = some (.int fp)) ∧
    (fs[5]? = some (.int (nI ev)) ∧ fs[6]? = some (.int (nI me)) ∧ fs[7]? = some (.int (nI pg)) ∧ fs[8]? = some (.int (nI be)) ∧ fs[9]? = some (.int (nI cu1))) ∧
    (fs[21]? = some (.int (nI os)) ∧ fs[26]? = some (.int nu) ∧ fs[34]? = some (.int (nI nt)) ∧ fs[43]? = some (.int (nI (anL pe nt).length)) ∧ fs[44]? = some (.int (nI ld))) ∧
    (TA A w (u 0) (u 1) xp (u 2) (u 3) (u 4) (u 5) xl xi xc ∧ TBL (u 0) (u 1) xp (u 2) (u 3) (u 4) (u 5) xl xi xc f ev ∧ pgI f ev pg) ∧
    (w (A 1) = some (.inl (0, 2400, .inl (fun j9 => nI (tM j9)))) ∧ w (A 20) = some (.inl (0, 2400, .inl (fun j9 => nI (ot j9)))) ∧ (∀ j, j < tl → tM j = t j) ∧ ∀ j, tM j < 256) ∧
    (w (A 35) = some (.inl (0, 400, .inl (fun j9 => nI (mcl (j9 + 1))))) ∧ w (A 36) = some (.inl (0, 401, .inl (fun j9 => nI (pe j9)))) ∧ w (A 37) = some (.inl (0, 401, .inl (fun j9 => nI (pb j9)))) ∧ w (A 38) = some (.inl (4, 401, .inr (.inr (.inr (.inr (fun j9 => some (cr j9)))))) ) ∧ w (A 39) = some (.inl (0, 1600, .inl (fun j9 => nI (o0 j9)))) ∧ w (A 40) = some (.inl (0, 4, .inl (fun j9 => nI (p j9))))) ∧
    (w (A 41) = some (.inl (0, 400, .inl (fun j9 => nI (ae j9)))) ∧ w (A 42) = some (.inl (0, 400, .inl (fun j9 => nI (aT j9)))) ∧ ANI pe (fun j => mcl (j + 1)) (anL pe nt) ae aT) ∧
    (∀ i, i < 401 → w (cr i) = some (.inl (0, 1600, .inl (fun j9 => nI (cs i j9))))) ∧
    (rRead ot os f2 = (0, a9, (sd1, mr1, cu1, mk1, cd1, rp1, np1, oc1, f, ev, be, cq, st, me, pa)) ∧ (sd1 = 1 ∨ sd1 = 2) ∧ mk1 = false ∧ cd1 = false ∧ (∀ j, ot j < 256) ∧ os ≤ 2400 ∧ ∀ j, o0 j ≤ 268435456)
def MI (A cr : Nat → Nat) (mm : Nat) (w : pW) (σ : St) (u cs : Nat → Nat → Nat) (th : Nat) : Prop :=
  ∃ (fs : List Value) (pg os : Nat) (nu : Int32) (ot : Nat → Nat) (f2 : Nat → Int32) (a9 : Nat) (xp xl xi xc : Nat → Int32) (o0 ae aT tM : Nat → Nat), MJ A cr mm w fs pg os nu ot f2 a9 xp xl xi xc o0 ae aT tM σ u cs th
section
variable {A cr : Nat → Nat} {mm : Nat} {w w9 : pW} {xs l : List Nat} {e : Option pE}
theorem FrI.ai (h : FrI A xs l w w9) (hAD : AD A mm) (hx : ∀ i, isR i = true → A i ∉ xs) (hl : (l.all isR) = true) (j : Nat) (hj : isR j = true) (hjl : l.contains j = false) (hf : w (A j) = e) : w9 (A j) = e := (h _ (hx j hj) (hAD.nl j hl hj hjl)).trans hf
theorem KN.refl : KN A cr mm w w := fun _ _ => rfl
theorem KN.of (h : FrI A xs l w w9) (hx : ∀ x ∈ xs, OW A cr mm x) (hl : (l.all isR) = true) : KN A cr mm w w9 := fun x hn => h x (fun z => hn (hx x z)) (fun i hi z => hn (Or.inr (Or.inl ⟨i, List.all_eq_true.mp hl i (by simpa using hi), z⟩)))
theorem OW.m : OW A cr mm mm := Or.inl rfl
theorem xs1 : ∀ x ∈ [mm], OW A cr mm x := fun x hx => by
  simp only [List.mem_cons, List.not_mem_nil, or_false] at hx
  exact Or.inl hx
theorem xs2 {k : Nat} (hk : k < 401) : ∀ x ∈ [mm, cr k], OW A cr mm x := fun x hx => by
  simp only [List.mem_cons, List.not_mem_nil, or_false] at hx
  rcases hx with z | z
  · exact Or.inl z
  · exact Or.inr (Or.inr ⟨k, hk, z⟩)
theorem MS.x1 (h : MS A cr mm) : ∀ i, isR i = true → A i ∉ [mm] := fun i hi => nm1 (h.1.nm i hi)
theorem MS.x2 (h : MS A cr mm) {k : Nat} (hk : k < 401) : ∀ i, isR i = true → A i ∉ [mm, cr k] := fun i hi => nm2 (h.1.nm i hi) (((h.2.1 k hk).2 i hi).symm)
theorem MS.r1 (h : MS A cr mm) {i : Nat} (hi : i < 401) : cr i ∉ [mm] := nm1 (h.2.1 i hi).1
theorem MS.r2 (h : MS A cr mm) {i k : Nat} (hi : i < 401) (hk : k < 401) (hn : i ≠ k) : cr i ∉ [mm, cr k] := nm2 (h.2.1 i hi).1 (fun z => hn (h.2.2 i k hi hk z))
theorem MS.rl (h : MS A cr mm) {i : Nat} (hi : i < 401) (hl : (l.all isR) = true) : ∀ j, l.contains j = true → cr i ≠ A j := (h.2.1 i hi).nl hl
theorem TA.fr {xk xm : Nat → Nat} {xp : Nat → Int32} {xb xs0 xe xg : Nat → Nat} {xl xi xc : Nat → Int32} (h : TA A w xk xm xp xb xs0 xe xg xl xi xc) (hF : FrI A xs l w w9) (hAD : AD A mm) (hx : ∀ i, isR i = true → A i ∉ xs) (hl : (l.all isR) = true) (hn : ([10, 11, 12, 13, 14, 15, 16, 17, 18, 19].all fun k => !l.contains k) = true) : TA A w9 xk xm xp xb xs0 xe xg xl xi xc := by
  obtain ⟨h1, h2, h3, h4, h5, h6, h7, h8, h9, h10⟩ := h
  have q : ∀ j, j ∈ [10, 11, 12, 13, 14, 15, 16, 17, 18, 19] → l.contains j = false := fun j hj => by
    have := List.all_eq_true.mp hn j hj
    simpa using this
  exact ⟨hF.ai hAD hx hl 10 rfl (q 10 (by simp)) h1, hF.ai hAD hx hl 11 rfl (q 11 (by simp)) h2, hF.ai hAD hx hl 12 rfl (q 12 (by simp)) h3, hF.ai hAD hx hl 13 rfl (q 13 (by simp)) h4, hF.ai hAD hx hl 14 rfl (q 14 (by simp)) h5, hF.ai hAD hx hl 15 rfl (q 15 (by simp)) h6, hF.ai hAD hx hl 16 rfl (q 16 (by simp)) h7, hF.ai hAD hx hl 17 rfl (q 17 (by simp)) h8, hF.ai hAD hx hl 18 rfl (q 18 (by simp)) h9, hF.ai hAD hx hl 19 rfl (q 19 (by simp)) h10⟩
/-- the model's cells alone matter -/
theorem MI.fr {σ : St} {u cs : Nat → Nat → Nat} {th : Nat} (h : MI A cr mm w σ u cs th) (hk : ∀ x, OW A cr mm x → w9 x = w x) : MI A cr mm w9 σ u cs th := by
  obtain ⟨t, tl, ld, flt, fp, ⟨sd1, mr1, cu1, mk1, cd1, rp1, np1, oc1, f, ev, be, cq, st, me, pa⟩, p, nt, mcl, pe, pb, mpc, md⟩ := σ
  obtain ⟨fs, pg, os, nu, ot, f2, a9, xp, xl, xi, xc, o0, ae, aT, tM, ⟨hm, hA⟩, h1, h2, h3, ⟨⟨b1, b2, b3, b4, b5, b6, b7, b8, b9, b10⟩, h5, h5'⟩, ⟨h6, h7, h7'⟩, ⟨h8, h9, h10, h11, h12, h13⟩, ⟨h14, h15, h16⟩, h17, h18⟩ := h
  have ka : ∀ i, isR i = true → w9 (A i) = w (A i) := fun i hi => hk _ (Or.inr (Or.inl ⟨i, hi, rfl⟩))
  refine ⟨fs, pg, os, nu, ot, f2, a9, xp, xl, xi, xc, o0, ae, aT, tM, ⟨(hk mm OW.m).trans hm, hA⟩, h1, h2, h3, ⟨⟨?_, ?_, ?_, ?_, ?_, ?_, ?_, ?_, ?_, ?_⟩, h5, h5'⟩, ⟨(ka 1 rfl).trans h6, (ka 20 rfl).trans h7, h7'⟩, ⟨(ka 35 rfl).trans h8, (ka 36 rfl).trans h9, (ka 37 rfl).trans h10, (ka 38 rfl).trans h11, (ka 39 rfl).trans h12, (ka 40 rfl).trans h13⟩, ⟨(ka 41 rfl).trans h14, (ka 42 rfl).trans h15, h16⟩, fun i hi => (hk _ (Or.inr (Or.inr ⟨i, hi, rfl⟩))).trans (h17 i hi), h18⟩
  · exact (ka 10 rfl).trans b1
  · exact (ka 11 rfl).trans b2
  · exact (ka 12 rfl).trans b3
  · exact (ka 13 rfl).trans b4
  · exact (ka 14 rfl).trans b5
  · exact (ka 15 rfl).trans b6
  · exact (ka 16 rfl).trans b7
  · exact (ka 17 rfl).trans b8
  · exact (ka 18 rfl).trans b9
  · exact (ka 19 rfl).trans b10
theorem MI.held {σ : St} {u cs : Nat → Nat → Nat} {th : Nat} (h : MI A cr mm w σ u cs th) : ∀ x, OW A cr mm x → ∃ c, w x = some c ∧ ∀ k l, c = .inr (k, l) → k = 6 := by
  obtain ⟨t, tl, ld, flt, fp, ⟨sd1, mr1, cu1, mk1, cd1, rp1, np1, oc1, f, ev, be, cq, st, me, pa⟩, p, nt, mcl, pe, pb, mpc, md⟩ := σ
  obtain ⟨fs, pg, os, nu, ot, f2, a9, xp, xl, xi, xc, o0, ae, aT, tM, ⟨hm, hA⟩, h1, h2, h3, ⟨⟨b1, b2, b3, b4, b5, b6, b7, b8, b9, b10⟩, h5, h5'⟩, ⟨h6, h7, h7'⟩, ⟨h8, h9, h10, h11, h12, h13⟩, ⟨h14, h15, h16⟩, h17, h18⟩ := h
  have g : ∀ {x : Nat} {c : Nat × vp_A}, w x = some (.inl c) → ∃ c', w x = some c' ∧ ∀ k l, c' = .inr (k, l) → k = 6 := fun hx => ⟨_, hx, fun k l z => nomatch z⟩
  intro x hx
  rcases hx with rfl | ⟨i, hi, rfl⟩ | ⟨i, hi, rfl⟩
  · exact ⟨_, hm, fun k l z => by cases z; rfl⟩
  · revert i
    refine isR_all (fun i hi => ?_)
    simp only [isRr, List.mem_cons, List.not_mem_nil, or_false] at hi
    rcases hi with rfl | rfl | rfl | rfl | rfl | rfl | rfl | rfl | rfl | rfl | rfl | rfl | rfl | rfl | rfl | rfl | rfl | rfl | rfl | rfl
    · exact g h15
    · exact g h14
    · exact g h13
    · exact g h12
    · exact g h11
    · exact g h10
    · exact g h9
    · exact g h8
    · exact g h7
    · exact g b10
    · exact g b9
    · exact g b8
    · exact g b7
    · exact g b6
    · exact g b5
    · exact g b4
    · exact g b3
    · exact g b2
    · exact g b1
    · exact g h6
  · exact g (h17 i hi)
/-- a call that changes nothing but whether it threw -/
theorem MIx {y : MethodName} {ws : List Cond} {rm : Room} {As : List Value} {v : Value} {σ : St} {u cs : Nat → Nat → Nat} {th th9 : Nat} (hS : MS A cr mm) (h : MI A cr mm w σ u cs th)
    (hc : ∀ (fs : List Value) (pg os : Nat) (nu : Int32) (ot : Nat → Nat) (f2 : Nat → Int32) (a9 : Nat) (xp xl xi xc : Nat → Int32) (o0 ae aT tM : Nat → Nat), MJ A cr mm w fs pg os nu ot f2 a9 xp xl xi xc o0 ae aT tM σ u cs th → Ct y ws rm As w (fun o w9 => o = .inl (some v) ∧ ∃ fs9 : List Value, MU A mm [] [0] w w9 fs fs9 ∧ fs9[0]? = some (.int (nI th9)))) :
    Ct y ws rm As w (fun o w9 => o = .inl (some v) ∧ MI A cr mm w9 σ u cs th9 ∧ KN A cr mm w w9) := by
  obtain ⟨fs, pg, os, nu, ot, f2, a9, xp, xl, xi, xc, o0, ae, aT, tM, hJ⟩ := h
  refine (hc fs pg os nu ot f2 a9 xp xl xi xc o0 ae aT tM hJ).imp ?_
  rintro o w9 ⟨ho, fs9, ⟨hF, hm9, hff⟩, h0⟩
  obtain ⟨t, tl, ld, flt, fp, ⟨sd1, mr1, cu1, mk1, cd1, rp1, np1, oc1, f, ev, be, cq, st, me, pa⟩, p, nt, mcl, pe, pb, mpc, md⟩ := σ
  obtain ⟨⟨hm, hA⟩, ⟨-, g2, g3, g4⟩, ⟨g5, g6, g7, g8, g9⟩, ⟨g21, g26, g34, g43, g44⟩, ⟨h5, h5', h5''⟩, ⟨h6, h7, h7'⟩, ⟨h8, h9, h10, h11, h12, h13⟩, ⟨h14, h15, h16⟩, h17, h18⟩ := hJ
  have ka : ∀ i, isR i = true → w9 (A i) = w (A i) := fun i hi => hF _ (hS.x1 i hi) (fun _ z => nomatch z)
  have kf : ∀ {j : Nat} {x : Option Value}, [0].contains j = false → fs[j]? = x → fs9[j]? = x := fun hj hx => hff.at hj hx
  refine ⟨ho, ⟨fs9, pg, os, nu, ot, f2, a9, xp, xl, xi, xc, o0, ae, aT, tM, ⟨hm9, hA.ff hff rfl⟩, ⟨h0, kf rfl g2, kf rfl g3, kf rfl g4⟩, ⟨kf rfl g5, kf rfl g6, kf rfl g7, kf rfl g8, kf rfl g9⟩, ⟨kf rfl g21, kf rfl g26, kf rfl g34, kf rfl g43, kf rfl g44⟩, ⟨h5.fr hF hS.1 hS.x1 rfl rfl, h5', h5''⟩, ⟨(ka 1 rfl).trans h6, (ka 20 rfl).trans h7, h7'⟩, ⟨(ka 35 rfl).trans h8, (ka 36 rfl).trans h9, (ka 37 rfl).trans h10, (ka 38 rfl).trans h11, (ka 39 rfl).trans h12, (ka 40 rfl).trans h13⟩, ⟨(ka 41 rfl).trans h14, (ka 42 rfl).trans h15, h16⟩, fun i hi => ?_, h18⟩, KN.of hF xs1 rfl⟩
  exact (hF _ (hS.r1 hi) (fun _ z => nomatch z)).trans (h17 i hi)
end
/-- an answer, or the throw of E -/
def ansO {α : Type} (mk : α → Value) (E : String) : Option α → pO
  | some r => .inl (some (mk r))
  | none => .inr E
/-- a call of the class and the same call of the model -/
def SX {α : Type} (mk : α → Value) (E : String) (dir : Bool) (M : Nat → Prop) (A cr : Nat → Nat) (pt mm : Nat) (w : pW) (σ : St) (u cs : Nat → Nat → Nat) (yC : MethodName) (wsC : List Cond) (rC : Room) (AC : List Value) (yM : MethodName) (wsM : List Cond) (rM : Room) (AM : List Value) : Prop :=
  ∃ G : Option α → St → Prop, (dir = true → ∀ a σ9, G a σ9 → a ≠ none) ∧ Ct yC wsC rC AC w (fun o w9 => ∃ (a : Option α) (σ9 : St), o = ansO mk E a ∧ CI M w9 pt σ9 ∧ KP M w w9 ∧ G a σ9) ∧
    ∀ (a : Option α) (σ9 : St), G a σ9 → ∀ (w8 : pW) (th : Nat), MI A cr mm w8 σ u cs th → Ct yM wsM rM AM w8 (fun o w9 => ∃ (r : α) (th9 : Nat) (u9 cs9 : Nat → Nat → Nat), o = .inl (some (mk r)) ∧ ((a = some r ∧ th9 = 0) ∨ (a = none ∧ th9 = 1)) ∧ MI A cr mm w9 σ9 u9 cs9 th9 ∧ PU σ9 u9 cs9 ∧ KN A cr mm w8 w9)
/-- where the class changes nothing, and the model neither -/
theorem SX.cst {α : Type} {mk : α → Value} {E : String} {dir : Bool} {M : Nat → Prop} {A cr : Nat → Nat} {pt mm : Nat} {w : pW} {σ : St} {u cs : Nat → Nat → Nat} {yC : MethodName} {wsC : List Cond} {rC : Room} {AC : List Value} {yM : MethodName} {wsM : List Cond} {rM : Room} {AM : List Value} (hI : CI M w pt σ) (hP : PU σ u cs) (a : Option α) (r : α) (th9 : Nat) (ha : (a = some r ∧ th9 = 0) ∨ (a = none ∧ th9 = 1)) (hd : dir = true → a ≠ none)
    (hC : Ct yC wsC rC AC w (fun o w9 => o = ansO mk E a ∧ w9 = w)) (hD : ∀ (w8 : pW) (th : Nat), MI A cr mm w8 σ u cs th → Ct yM wsM rM AM w8 (fun o w9 => o = .inl (some (mk r)) ∧ MI A cr mm w9 σ u cs th9 ∧ KN A cr mm w8 w9)) : SX mk E dir M A cr pt mm w σ u cs yC wsC rC AC yM wsM rM AM := by
  refine ⟨fun b τ => b = a ∧ τ = σ, fun h b τ hb => by rw [hb.1]; exact hd h, hC.imp ?_, ?_⟩
  · rintro o w9 ⟨ho, rfl⟩
    exact ⟨a, σ, ho, hI, KP.refl, rfl, rfl⟩
  · rintro b τ ⟨rfl, rfl⟩ w8 th h8
    refine (hD w8 th h8).imp ?_
    rintro o w9 ⟨ho, h9, hk⟩
    exact ⟨r, th9, u, cs, ho, ha, h9, hP, hk⟩
/-- the same, both throw -/
theorem SX.bad {α : Type} {mk : α → Value} {E : String} {M : Nat → Prop} {A cr : Nat → Nat} {pt mm : Nat} {w : pW} {σ : St} {u cs : Nat → Nat → Nat} {yC : MethodName} {wsC : List Cond} {rC : Room} {AC : List Value} {yM : MethodName} {wsM : List Cond} {rM : Room} {AM : List Value} {r : α} (hI : CI M w pt σ) (hP : PU σ u cs)
    (hC : Ct yC wsC rC AC w (fun o w9 => o = .inr E ∧ w9 = w)) (hD : ∀ (w8 : pW) (th : Nat), MI A cr mm w8 σ u cs th → Ct yM wsM rM AM w8 (fun o w9 => o = .inl (some (mk r)) ∧ MI A cr mm w9 σ u cs 1 ∧ KN A cr mm w8 w9)) : SX mk E false M A cr pt mm w σ u cs yC wsC rC AC yM wsM rM AM := SX.cst hI hP none r 1 (Or.inr ⟨rfl, rfl⟩) (fun h => nomatch h) hC hD
/-- the same, both answer -/
theorem SX.ok {α : Type} {mk : α → Value} {E : String} {dir : Bool} {M : Nat → Prop} {A cr : Nat → Nat} {pt mm : Nat} {w : pW} {σ : St} {u cs : Nat → Nat → Nat} {yC : MethodName} {wsC : List Cond} {rC : Room} {AC : List Value} {yM : MethodName} {wsM : List Cond} {rM : Room} {AM : List Value} {r r' : α} (hI : CI M w pt σ) (hP : PU σ u cs) (hr : r = r')
    (hC : Ct yC wsC rC AC w (fun o w9 => o = .inl (some (mk r)) ∧ w9 = w)) (hD : ∀ (w8 : pW) (th : Nat), MI A cr mm w8 σ u cs th → Ct yM wsM rM AM w8 (fun o w9 => o = .inl (some (mk r')) ∧ MI A cr mm w9 σ u cs 0 ∧ KN A cr mm w8 w9)) : SX mk E dir M A cr pt mm w σ u cs yC wsC rC AC yM wsM rM AM := by
  subst hr
  exact SX.cst hI hP (some r) r 0 (Or.inl ⟨rfl, rfl⟩) (fun _ h => nomatch h) hC hD
