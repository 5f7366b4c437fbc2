/-! both worlds at the law's loop -/
def MO (A cr : Nat → Nat) (mm ou x : Nat) : Prop := OW A cr mm x ∨ x = ou
/-- both worlds, and the law's own array -/
def JI (A cr : Nat → Nat) (pt mm ou : Nat) (w : pW) : Prop := ∃ (σ : St) (u cs : Nat → Nat → Nat) (th : Nat) (fo : Nat → Int64), CI (MO A cr mm ou) w pt σ ∧ MI A cr mm w σ u cs th ∧ PU σ u cs ∧ w ou = some (.inl (3, 1, .inr (.inl fo)))
section
variable {A cr : Nat → Nat} {pt mm ou : Nat} {w w9 : pW} {σ : St} {u cs : Nat → Nat → Nat} {th : Nat} {fo : Nat → Int64}
theorem MO.mk (h : MI A cr mm w σ u cs th) (ho : w ou = some (.inl (3, 1, .inr (.inl fo)))) : MK (MO A cr mm ou) w := fun x hx => by
  rcases hx with z | z
  · exact h.held x z
  · rw [z]; exact ⟨_, ho, fun k l z => nomatch z⟩
theorem CI.atp (h : CI (MO A cr mm ou) w pt σ) : ∃ fsP : List Value, w pt = some (.inr (5, fsP)) := by
  obtain ⟨t, tl, ld, flt, fp, ⟨sd1, mr1, cu1, mk1, cd1, rp1, np1, oc1, f, ev, be, cq, st, me, pa⟩, p, nt, mcl, pe, pb, mpc, md⟩ := σ
  obtain ⟨tx, rd, sc, fa, fo, pr, ar, de, ms, mn, cm, cn, bf, nx, av, ah, hpt, -⟩ := h.get
  exact ⟨_, hpt⟩
theorem MI.atm (h : MI A cr mm w σ u cs th) : ∃ fs : List Value, w mm = some (.inr (6, fs)) ∧ RA A fs ∧ fs[0]? = some (.int (nI th)) := by
  obtain ⟨t, tl, ld, flt, fp, ⟨sd1, mr1, cu1, mk1, cd1, rp1, np1, oc1, f, ev, be, cq, st, me, pa⟩, p, nt, mcl, pe, pb, mpc, md⟩ := σ
  obtain ⟨fs, pg, os, nu, ot, f2, a9, xp, xl, xi, xc, o0, ae, aT, tM, ⟨hm, hA⟩, ⟨h0, -⟩, -⟩ := h
  exact ⟨fs, hm, hA, h0⟩
theorem MI.kp (h : MI A cr mm w σ u cs th) (hk : KP (MO A cr mm ou) w w9) : MI A cr mm w9 σ u cs th := h.fr (fun x hx => by
  obtain ⟨c, hc, -⟩ := h.held x hx
  rw [hc, hk x c (Or.inl hx) hc])
/-- after the wrapper of a method that may throw -/
theorem lq_int {E : String} {G : Option Int32 → St → Prop} {o : pO} (hou : ¬ OW A cr mm ou) (hm : MI A cr mm w σ u cs th) (hw : w ou = some (.inl (3, 1, .inr (.inl fo))))
    (h : (∃ (r : Int32) (w8 : pW), (∃ (a : Option Int32) (σ9 : St), (.inl (some (.int r)) : pO) = ansO Value.int E a ∧ CI (MO A cr mm ou) w8 pt σ9 ∧ KP (MO A cr mm ou) w w8 ∧ G a σ9) ∧ o = .inl (some (.int (nI 0))) ∧ w9 = va_up w8 ou (some (.inl (3, 1, .inr (.inl (vp_updL fo 0 r.toInt64)))))) ∨ ((∃ (a : Option Int32) (σ9 : St), (.inr E : pO) = ansO Value.int E a ∧ CI (MO A cr mm ou) w9 pt σ9 ∧ KP (MO A cr mm ou) w w9 ∧ G a σ9) ∧ o = .inl (some (.int (nI 1))))) :
    ∃ (a : Option Int32) (σ9 : St) (fo9 : Nat → Int64) (kk : Nat), o = .inl (some (.int (nI kk))) ∧ G a σ9 ∧ CI (MO A cr mm ou) w9 pt σ9 ∧ MI A cr mm w9 σ u cs th ∧ w9 ou = some (.inl (3, 1, .inr (.inl fo9))) ∧ ((∃ r, a = some r ∧ kk = 0 ∧ fo9 0 = r.toInt64) ∨ (a = none ∧ kk = 1)) := by
  rcases h with ⟨r, w8, ⟨a, σ9, ha, h1, h2, h3⟩, ho, rfl⟩ | ⟨⟨a, σ9, ha, h1, h2, h3⟩, ho⟩
  · cases a with
    | none => cases ha
    | some r' =>
      cases ha
      have hm8 := hm.kp h2
      have ho8 := h2 ou _ (Or.inr rfl) hw
      refine ⟨some r, σ9, _, 0, ho, h3, h1.fr (MO.mk hm8 ho8) (fun x hx => va_up_ne _ _ (fun z => hx (Or.inr z))), hm8.fr (fun x hx => va_up_ne _ _ (fun z => hou (z ▸ hx))), va_up_self _ _ _, Or.inl ⟨r, rfl, rfl, ?_⟩⟩
      unfold vp_updL
      simp
  · cases a with
    | some r' => cases ha
    | none => exact ⟨none, σ9, fo, 1, ho, h3, h1, hm.kp h2, h2 ou _ (Or.inr rfl) hw, Or.inr ⟨rfl, rfl⟩⟩
theorem lq_long {E : String} {G : Option Int64 → St → Prop} {o : pO} (hou : ¬ OW A cr mm ou) (hm : MI A cr mm w σ u cs th) (hw : w ou = some (.inl (3, 1, .inr (.inl fo))))
    (h : (∃ (r : Int64) (w8 : pW), (∃ (a : Option Int64) (σ9 : St), (.inl (some (.long r)) : pO) = ansO Value.long E a ∧ CI (MO A cr mm ou) w8 pt σ9 ∧ KP (MO A cr mm ou) w w8 ∧ G a σ9) ∧ o = .inl (some (.int (nI 0))) ∧ w9 = va_up w8 ou (some (.inl (3, 1, .inr (.inl (vp_updL fo 0 r)))))) ∨ ((∃ (a : Option Int64) (σ9 : St), (.inr E : pO) = ansO Value.long E a ∧ CI (MO A cr mm ou) w9 pt σ9 ∧ KP (MO A cr mm ou) w w9 ∧ G a σ9) ∧ o = .inl (some (.int (nI 1))))) :
    ∃ (a : Option Int64) (σ9 : St) (fo9 : Nat → Int64) (kk : Nat), o = .inl (some (.int (nI kk))) ∧ G a σ9 ∧ CI (MO A cr mm ou) w9 pt σ9 ∧ MI A cr mm w9 σ u cs th ∧ w9 ou = some (.inl (3, 1, .inr (.inl fo9))) ∧ ((∃ r, a = some r ∧ kk = 0 ∧ fo9 0 = r) ∨ (a = none ∧ kk = 1)) := by
  rcases h with ⟨r, w8, ⟨a, σ9, ha, h1, h2, h3⟩, ho, rfl⟩ | ⟨⟨a, σ9, ha, h1, h2, h3⟩, ho⟩
  · cases a with
    | none => cases ha
    | some r' =>
      cases ha
      have hm8 := hm.kp h2
      have ho8 := h2 ou _ (Or.inr rfl) hw
      refine ⟨some r, σ9, _, 0, ho, h3, h1.fr (MO.mk hm8 ho8) (fun x hx => va_up_ne _ _ (fun z => hx (Or.inr z))), hm8.fr (fun x hx => va_up_ne _ _ (fun z => hou (z ▸ hx))), va_up_self _ _ _, Or.inl ⟨r, rfl, rfl, ?_⟩⟩
      unfold vp_updL
      simp
  · cases a with
    | some r' => cases ha
    | none => exact ⟨none, σ9, fo, 1, ho, h3, h1, hm.kp h2, h2 ou _ (Or.inr rfl) hw, Or.inr ⟨rfl, rfl⟩⟩
/-- after the model's call -/
theorem JI.of {u9 cs9 : Nat → Nat → Nat} {th9 : Nat} {σ9 : St} (hou : ¬ OW A cr mm ou) (hc : CI (MO A cr mm ou) w pt σ9) (hm : MI A cr mm w σ u cs th) (hw : w ou = some (.inl (3, 1, .inr (.inl fo)))) (h9 : MI A cr mm w9 σ9 u9 cs9 th9) (hp : PU σ9 u9 cs9) (hk : KN A cr mm w w9) : JI A cr pt mm ou w9 ∧ w9 ou = some (.inl (3, 1, .inr (.inl fo))) := by
  have ho : w9 ou = some (.inl (3, 1, .inr (.inl fo))) := (hk ou hou).trans hw
  exact ⟨⟨σ9, u9, cs9, th9, fo, hc.fr (MO.mk hm hw) (fun x hx => hk x (fun z => hx (Or.inl z))), h9, hp, ho⟩, ho⟩
end
/-! the script -/
section
variable {P : JP} {pc : Nat} {lv : List (Nat × Value)} {st : List Value} {w : pW} {k n : Nat} {bs L : Nat} {xs : Nat → Int32}
def lwX (bs L : Nat) (xs : Nat → Int32) : Nat → Array Value → State → Prop := fun b _ s => va_X bs L xs s s.heap ∧ bs < s.heap.size ∧ ¬ pB b bs
theorem j_slen (hX : P.2.2.2 = lwX bs L xs) (hd : decode P.1.1 pc = .ok (.arraylength, 1)) (h : J P (pc + 1) lv (.int (nI L) :: st) w k n) : J P pc lv (.ref bs :: st) w k n := by
  intro p l e s m args below meth c H locs G b ls F hP hD hS hl
  obtain ⟨hx, hb, hml, hown, hts, hr, hlk, hnm, htb, hK, hBg, hst2, hbs, hXX⟩ := id F
  rw [hX] at hXX
  exact va_slen hx hb hXX.1 hXX.2.1 hXX.2.2 hS hd (h p l e s m args below meth c H locs G b ls F hP hD hS hl)
theorem j_sld {j : Nat} (hX : P.2.2.2 = lwX bs L xs) (hj : j < L) (hL : L ≤ 3072) (hd : decode P.1.1 pc = .ok (.iaload, 1)) (h : J P (pc + 1) lv (.int (xs j) :: st) w k n) : J P pc lv (.int (nI j) :: .ref bs :: st) w k n := by
  intro p l e s m args below meth c H locs G b ls F hP hD hS hl
  obtain ⟨hx, hb, hml, hown, hts, hr, hlk, hnm, htb, hK, hBg, hst2, hbs, hXX⟩ := id F
  rw [hX] at hXX
  refine va_sld hx hb hXX.1 hXX.2.1 hXX.2.2 hS (nI_in hj (by omega)) hd ?_
  rw [nI_clamp (by omega)]
  exact h p l e s m args below meth c H locs G b ls F hP hD hS hl
end
theorem and31 (x : Int32) : ∃ k, k < 32 ∧ x &&& nI 31 = nI k := by
  refine ⟨x.toBitVec.toNat &&& 31, ?_, ?_⟩
  · exact Nat.lt_succ_of_le Nat.and_le_right
  · apply Int32.toBitVec_inj.mp
    rw [Int32.toBitVec_and]
    apply BitVec.eq_of_toNat_eq
    rw [BitVec.toNat_and]
    have h1 : (nI 31).toBitVec.toNat = 31 := by decide
    have h2 : x.toBitVec.toNat &&& 31 ≤ 31 := Nat.and_le_right
    rw [h1]
    show _ = (BitVec.ofNat 32 (x.toBitVec.toNat &&& 31)).toNat
    rw [BitVec.toNat_ofNat, Nat.mod_eq_of_lt (by omega)]
theorem sub6 {L i : Nat} (hL : L ≤ 3072) (hi : i ≤ 3078) : nI L - nI 6 < nI i ↔ L < i + 6 := by
  by_cases h : 6 ≤ L
  · rw [pk_sub h]
    constructor
    · intro q
      exact Nat.not_le.mp (fun z => nI_nlt (a := L - 6) (b := i) (by omega) (by omega) q)
    · intro q
      exact nI_lt (by omega) (by omega)
  · have h0 : nI L - nI 6 < nI 0 := by
      rcases (show L = 0 ∨ L = 1 ∨ L = 2 ∨ L = 3 ∨ L = 4 ∨ L = 5 by omega) with rfl | rfl | rfl | rfl | rfl | rfl <;> decide
    constructor
    · intro _; omega
    · intro _
      exact Int32.lt_of_lt_of_le h0 (nI_le (by omega) (by omega))
