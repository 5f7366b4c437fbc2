/-! the class's world after hearing -/
section
variable {w w9 : pW} {pt tx rd to sd fd sc fa fo pr ar de : Nat} {t : Nat → Nat} {tl ld flt : Nat} {fp : Int32} {S : RSt} {p a dd ml ca : Nat → Nat} {K nt : Nat} {mcl mpe mpb mpc mcn : Nat → Nat} {md : Nat → Nat → Nat}
theorem CW.hear {nm q K9 : Nat} {cl9 pe9 pb9 pc9 cn9 a9 d9 : Nat → Nat} {md9 : Nat → Nat → Nat} (h : CW w pt tx rd to sd fd sc fa fo pr ar de t tl ld flt fp S p a dd ml ca K nt mcl mpe mpb mpc mcn md) (hq : (nt < K ∧ q = ca (nt + 1)) ∨ w q = none) (hK : (nt < K ∧ K9 = K ∧ nm = ml (nt + 1)) ∨ (nt = K ∧ K9 = nt + 1 ∧ w nm = none))
    (hC9 : CHN w9 (va_up ml (nt + 1) nm) (va_up ca (nt + 1) q) K9 (nt + 1) cl9 pe9 pb9 pc9 cn9 md9) (har : w9 ar = some (.inl (0, 100, .inl (fun j9 => nI (a9 j9))))) (hde : w9 de = some (.inl (0, 100, .inl (fun j9 => nI (d9 j9))))) (hab : ∀ j, a9 j ≤ 1000000) (hdb : ∀ j, d9 j ≤ 1000000)
    (hfo : w9 fo = some (.inr (0, [.ref sc, .ref pr, .ref ar, .ref de, .ref (ml 0), .ref nm, .int (nI (nt + 1))])))
    (hF : ∀ x c, w x = some c → x ≠ ar → x ≠ de → x ≠ fo → (∀ i, i ≤ K → x ≠ ml i ∧ x ≠ ca i) → w9 x = some c) :
    CW w9 pt tx rd to sd fd sc fa fo pr ar de t tl ld flt fp S p a9 d9 (va_up ml (nt + 1) nm) (va_up ca (nt + 1) q) K9 (nt + 1) cl9 pe9 pb9 pc9 cn9 md9 := by
  obtain ⟨s1, s2, s3, s4, s5, s6, s7, s8, f, s10, s11, s12, s13, s14, s15⟩ := S
  obtain ⟨⟨e1, e2, e3, e4⟩, ⟨_, _, _, _, _, _, e5⟩, ⟨_, _, _, _, _, _, _, e6, e7⟩, ⟨_, _, _, _, _, _, e8⟩, ⟨e9, e10, e11⟩, ⟨e12, e13, e14, e15, e16⟩, e17, e18, e19⟩ := h
  have K1 : ∀ x c, w x = some c → (∀ l, c ≠ .inr (1, l)) → (∀ l, c ≠ .inr (0, l)) → (∀ n g, c ≠ .inl (0, n, .inl g)) → w9 x = some c := fun x c hx k1 k2 k3 =>
    hF x c hx (ne_of e14 hx (fun z => k3 _ _ z.symm)) (ne_of e15 hx (fun z => k3 _ _ z.symm)) (ne_of e12 hx (fun z => k2 _ z.symm)) (fun i hi => ⟨((e17.ne hi hx).1 k1).symm, ((e17.ne hi hx).2 k3).symm⟩)
  have K2 : ∀ x n g, w x = some (.inl (0, n, .inl g)) → x ≠ ar → x ≠ de → (∀ i, i ≤ K → ca i ≠ x) → w9 x = some (.inl (0, n, .inl g)) := fun x n g hx k1 k2 k3 =>
    hF x _ hx k1 k2 (ne_of e12 hx (fun z => nomatch z)) (fun i hi => ⟨((e17.ne hi hx).1 (fun l z => nomatch z)).symm, (k3 i hi).symm⟩)
  have d := fun i j (a b : Nat) h1 h2 h3 => nd_ne e18 i j (a := a) (b := b) h1 h2 h3
  refine ⟨⟨K1 _ _ e1 (fun l z => by cases z) (fun l z => by cases z) (fun n g z => by cases z), K1 _ _ e2 (fun l z => by cases z) (fun l z => by cases z) (fun n g z => by cases z), e3, e4⟩, ⟨_, _, _, _, _, _, K1 _ _ e5 (fun l z => by cases z) (fun l z => by cases z) (fun n g z => by cases z)⟩, ⟨_, _, _, _, _, _, _, K1 _ _ e6 (fun l z => by cases z) (fun l z => by cases z) (fun n g z => by cases z), K2 _ _ _ e7 (d 0 3 _ _ rfl rfl rfl) (d 0 4 _ _ rfl rfl rfl) (fun i hi => (e19 i hi).1)⟩, ⟨_, _, _, _, _, _, K1 _ _ e8 (fun l z => by cases z) (fun l z => by cases z) (fun n g z => by cases z)⟩, ⟨K1 _ _ e9 (fun l z => by cases z) (fun l z => by cases z) (fun n g z => by cases z), K2 _ _ _ e10 (d 1 3 _ _ rfl rfl rfl) (d 1 4 _ _ rfl rfl rfl) (fun i hi => (e19 i hi).2.1), e11⟩, ⟨?_, K2 _ _ _ e13 (d 2 3 _ _ rfl rfl rfl) (d 2 4 _ _ rfl rfl rfl) (fun i hi => (e19 i hi).2.2.1), har, hde, e16.1, hab, hdb⟩, hC9, e18, fun i hi => ?_⟩
  · rw [hfo, va_up_self, va_up_ne ml nm (show 0 ≠ nt + 1 by omega)]
  · by_cases hin : i = nt + 1
    · subst hin
      rw [va_up_self]
      rcases hq with ⟨z1, z2⟩ | z
      · rw [z2]; exact e19 _ z1
      · have hz : ∀ {x : Nat} {c : pE}, w x = some c → q ≠ x := fun hx e => by rw [e, hx] at z; cases z
        exact ⟨hz e7, hz e10, hz e13, hz e14, hz e15⟩
    · rw [va_up_ne _ _ hin]
      exact e19 i (by omega)
end
