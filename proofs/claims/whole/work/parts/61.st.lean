/-! the two worlds side by side: what both hold alike -/
/-- tape, its length, lead, fault and its place, the reading's end, prices, notes; times, places, costs of places and costs of the moments -/
abbrev St : Type := (Nat → Nat) × Nat × Nat × Nat × Int32 × RSt × (Nat → Nat) × Nat × (Nat → Nat) × (Nat → Nat) × (Nat → Nat) × (Nat → Nat) × (Nat → Nat → Nat)
def KP (M : Nat → Prop) (w w9 : pW) : Prop := ∀ x c, M x → w x = some c → w9 x = some c
def MK (M : Nat → Prop) (w : pW) : Prop := ∀ x, M x → ∃ c, w x = some c ∧ ∀ k l, c = .inr (k, l) → k = 6
def NM (M : Nat → Prop) (tx fd fa pr ar de K : Nat) (ca : Nat → Nat) : Prop := (∀ x, x ∈ [tx, fd, fa, pr, ar, de] → ¬ M x) ∧ ∀ i, i ≤ K → ¬ M (ca i)
/-- the class's world, its addresses hidden, all of them outside of M -/
def CI (M : Nat → Prop) (w : pW) (pt : Nat) : St → Prop
  | (t, tl, ld, flt, fp, (sd1, mr1, cu1, mk1, cd1, rp1, np1, oc1, f, ev, be, cq, st, me, pa), p, nt, mcl, pe, pb, mpc, md) =>
    ∃ (tx rd to sd fd sc fa fo pr ar de : Nat) (a dd ml ca : Nat → Nat) (K : Nat) (mcn : Nat → Nat), CW w pt tx rd to sd fd sc fa fo pr ar de t tl ld flt fp (sd1, mr1, cu1, mk1, cd1, rp1, np1, oc1, f, ev, be, cq, st, me, pa) p a dd ml ca K nt mcl pe pb mpc mcn md ∧ NM M tx fd fa pr ar de K ca ∧ ∀ i, i ≤ nt → st ≤ mcn i
theorem KP.refl {M : Nat → Prop} {w : pW} : KP M w w := fun _ _ _ h => h
theorem KP.trans {M : Nat → Prop} {w w1 w2 : pW} (h1 : KP M w w1) (h2 : KP M w1 w2) : KP M w w2 := fun x c hx hc => h2 x c hx (h1 x c hx hc)
theorem MK.out {M : Nat → Prop} {w : pW} (h : MK M w) {x k : Nat} {l : List Value} (hx : w x = some (.inr (k, l))) (hk : k ≠ 6) : ¬ M x := fun hm => by
  obtain ⟨c, hc, hq⟩ := h x hm
  rw [hx] at hc
  injection hc with hc
  exact hk (hq _ _ hc.symm)
theorem MK.new {M : Nat → Prop} {w : pW} (h : MK M w) {x : Nat} (hx : w x = none) : ¬ M x := fun hm => by
  obtain ⟨c, hc, -⟩ := h x hm
  rw [hx] at hc
  cases hc
theorem MK.kp {M : Nat → Prop} {w w9 : pW} (h : MK M w) (hk : KP M w w9) : MK M w9 := fun x hx => by
  obtain ⟨c, hc, hq⟩ := h x hx
  exact ⟨c, hk x c hx hc, hq⟩
theorem KP.up {M : Nat → Prop} {w : pW} {x : Nat} {e : Option pE} (h : ¬ M x) : KP M w (va_up w x e) := fun y c hy hc => by
  have hn : y ≠ x := fun z => h (z ▸ hy)
  rw [va_up_ne _ _ hn]
  exact hc
section
variable {M : Nat → Prop} {w w9 : pW} {pt : Nat}
/-- what is written in M alone leaves the class's world -/
theorem CI.fr {σ : St} (h : CI M w pt σ) (hM : MK M w) (hk : ∀ x, ¬ M x → w9 x = w x) : CI M w9 pt σ := by
  obtain ⟨t, tl, ld, flt, fp, ⟨sd1, mr1, cu1, mk1, cd1, rp1, np1, oc1, f, ev, be, cq, st, me, pa⟩, p, nt, mcl, pe, pb, mpc, md⟩ := σ
  obtain ⟨tx, rd, to, sd, fd, sc, fa, fo, pr, ar, de, a, dd, ml, ca, K, mcn, h1, ⟨h2, h4⟩, h3⟩ := h
  refine ⟨tx, rd, to, sd, fd, sc, fa, fo, pr, ar, de, a, dd, ml, ca, K, mcn, h1.fr (fun x c hx hq => ?_), ⟨h2, h4⟩, h3⟩
  rw [hk x ?_]
  · exact hx
  · rcases hq with ⟨k, l, hk6, rfl⟩ | hq | ⟨i, hi, rfl⟩
    · exact hM.out hx (by omega)
    · exact h2 x hq
    · exact h4 i hi
/-- what the class's methods that change nothing want -/
theorem CI.get {t : Nat → Nat} {tl ld flt : Nat} {fp : Int32} {sd1 mr1 cu1 : Nat} {mk1 cd1 : Bool} {rp1 np1 oc1 : Nat} {f : Nat → Int32} {ev be cq st me pa : Nat} {p : Nat → Nat} {nt : Nat} {mcl pe pb mpc : Nat → Nat} {md : Nat → Nat → Nat}
    (h : CI M w pt (t, tl, ld, flt, fp, (sd1, mr1, cu1, mk1, cd1, rp1, np1, oc1, f, ev, be, cq, st, me, pa), p, nt, mcl, pe, pb, mpc, md)) :
    ∃ (tx rd sc fa fo pr ar de ms mn cm cn : Nat) (bf nx av ah : Option Nat), w pt = some (.inr (5, [.ref tx, .int (nI tl), .ref rd, .ref sc, .ref fo, .int (nI ld)])) ∧ w fo = some (.inr (0, [.ref sc, .ref pr, .ref ar, .ref de, .ref ms, .ref mn, .int (nI nt)])) ∧ w sc = some (.inr (3, [.ref fa, .int (nI ev), .int (nI be), .int (nI cq), .int (nI st), .int (nI me), .int (nI pa)])) ∧ w fa = some (.inl (0, 1400, .inl f)) ∧
      w mn = some (.inr (1, [va_rf bf, va_rf nx, .ref cm, .int (nI (mcl nt)), .int (nI (pe nt)), .int (nI (pb nt)), .int (nI (mpc nt)), .int (nI (anL pe nt).length), va_rf av, va_rf ah])) ∧ w cm = some (.inl (0, cn, .inl (fun j9 => nI (md nt j9)))) ∧ st ≤ cn ∧ cn ≤ 100000 ∧ (∀ j, md nt j ≤ 1000000) ∧ va_nd [fa, cm] = true := by
  obtain ⟨tx, rd, to, sd, fd, sc, fa, fo, pr, ar, de, a, dd, ml, ca, K, mcn, h1, h2, h3⟩ := h
  obtain ⟨⟨e1, e2, e3, e4⟩, ⟨_, _, _, _, _, _, e5⟩, ⟨_, _, _, _, _, _, _, e6, e7⟩, ⟨_, _, _, _, _, _, e8⟩, ⟨e9, e10, e11⟩, ⟨e12, e13, e14, e15, e16⟩, e17, e18, e19⟩ := h1
  obtain ⟨an, av, ah, hm, g⟩ := e17.2.1 nt e17.1
  obtain ⟨rfl, -, -⟩ := g (Nat.le_refl _)
  obtain ⟨hc, hcn, hdd⟩ := e17.2.2.1 nt e17.1
  unfold momE at hm
  exact ⟨tx, rd, sc, fa, fo, pr, ar, de, _, _, _, _, _, _, _, _, e1, e12, e9, e10, hm, hc, h3 nt (Nat.le_refl _), hcn, hdd, by simp [va_nd, Ne.symm (e19 nt e17.1).2.1]⟩
end
/-- a moment's costs in both worlds -/
def LK (ev : Nat) (np : Nat → Nat) (c d : Nat → Nat) (e b pc n : Nat) : Prop := REL np ev c d ∧ BN np ev c (50 * n) ∧ c 0 ≤ 50 * n ∧ (0 < ev → e < ev ∧ b < 2 ^ np e) ∧ c (16 * e + b) = pc ∧ (∀ e', e' < ev → ∀ b', b' < 2 ^ np e' → pc ≤ c (16 * e' + b')) ∧ pc ≤ 50 * n
/-- what holds of the numbers alone -/
def PU : St → (Nat → Nat → Nat) → (Nat → Nat → Nat) → Prop
  | (t, tl, _, _, _, (sd1, mr1, cu1, mk1, cd1, rp1, np1, oc1, f, ev, be, cq, st, me, pa), p, nt, mcl, pe, pb, mpc, md), u, cs =>
    (RJ (sd1, mr1, cu1, mk1, cd1, rp1, np1, oc1, f, ev, be, cq, st, me, pa) ∧ RI3 (sd1, mr1, cu1, mk1, cd1, rp1, np1, oc1, f, ev, be, cq, st, me, pa) ∧ Mus f ev st u (bhF f)) ∧
    (nt ≤ 400 ∧ (ev = 0 → nt = 0) ∧ pe 0 = 0 ∧ pb 0 = 0 ∧ mpc 0 = 0) ∧
    ((∀ j, pe j < 100) ∧ (∀ j, pb j < 16) ∧ (∀ j, mcl j ≤ 100000000) ∧ (∀ j, p j ≤ 50) ∧ (∀ j, t j < 256) ∧ tl ≤ 2400 ∧ ∀ i j, cs i j ≤ 268435456) ∧
    (∀ i j, 1 ≤ i → i ≤ j → j ≤ nt → mcl i ≤ mcl j) ∧ (∀ i, i ≤ nt → LK ev (u 1) (cs i) (md i) (pe i) (pb i) (mpc i) i) ∧ (0 < ev → ∀ j, j < 1600 → cs 0 j = g00 j)
