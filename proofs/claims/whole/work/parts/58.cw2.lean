/-! the class's world, written at one place -/
theorem ne_of {w : pW} {x y : Nat} {c c' : pE} (hx : w x = some c) (hy : w y = some c') (h : c = c' → False) : y ≠ x := fun z => by
  rw [z, hx] at hy
  injection hy with hy
  exact h hy
theorem up_of {w : pW} {x y : Nat} {c c' c9 : pE} (hx : w x = some c) (hy : w y = some c') (h : c = c' → False) : va_up w x (some c9) y = some c' := by
  rw [va_up_ne _ _ (ne_of hx hy h)]
  exact hy
section
variable {w : pW} {pt tx rd to sd fd sc fa fo pr ar de : Nat} {t : Nat → Nat} {tl ld flt : Nat} {fp : Int32} {S : RSt} {p a dd ml ca : Nat → Nat} {K nt : Nat} {mcl mpe mpb mpc mcn : Nat → Nat} {md : Nat → Nat → Nat}
theorem CW.atPt {tl9 ld9 : Nat} (h : CW w pt tx rd to sd fd sc fa fo pr ar de t tl ld flt fp S p a dd ml ca K nt mcl mpe mpb mpc mcn md) (h9 : tl9 ≤ 2400) : CW (va_up w pt (some (.inr (5, [.ref tx, .int (nI tl9), .ref rd, .ref sc, .ref fo, .int (nI ld9)])))) pt tx rd to sd fd sc fa fo pr ar de t tl9 ld9 flt fp S p a dd ml ca K nt mcl mpe mpb mpc mcn md := by
  obtain ⟨s1, s2, s3, s4, s5, s6, s7, s8, f, s10, s11, s12, s13, s14, s15⟩ := S
  obtain ⟨⟨e1, e2, e3, e4⟩, ⟨_, _, _, _, _, _, e5⟩, ⟨_, _, _, _, _, _, _, e6, e7⟩, ⟨_, _, _, _, _, _, e8⟩, ⟨e9, e10, e11⟩, ⟨e12, e13, e14, e15, e16⟩, e17, e18⟩ := h
  refine ⟨⟨va_up_self _ _ _, up_of e1 e2 (fun z => nomatch z), e3, h9⟩, ⟨_, _, _, _, _, _, up_of e1 e5 (fun z => nomatch z)⟩, ⟨_, _, _, _, _, _, _, up_of e1 e6 (fun z => nomatch z), up_of e1 e7 (fun z => nomatch z)⟩, ⟨_, _, _, _, _, _, up_of e1 e8 (fun z => nomatch z)⟩, ⟨up_of e1 e9 (fun z => nomatch z), up_of e1 e10 (fun z => nomatch z), e11⟩, ⟨up_of e1 e12 (fun z => nomatch z), up_of e1 e13 (fun z => nomatch z), up_of e1 e14 (fun z => nomatch z), up_of e1 e15 (fun z => nomatch z), e16⟩, ?_, e18⟩
  exact e17.up e1 (fun l z => nomatch z) (fun n g z => nomatch z)
theorem CW.atTx {t9 : Nat → Nat} (h : CW w pt tx rd to sd fd sc fa fo pr ar de t tl ld flt fp S p a dd ml ca K nt mcl mpe mpb mpc mcn md) (h9 : ∀ j, t9 j < 256) : CW (va_up w tx (some (.inl (1, 2400, .inl (fun j9 => sb_b (t9 j9)))))) pt tx rd to sd fd sc fa fo pr ar de t9 tl ld flt fp S p a dd ml ca K nt mcl mpe mpb mpc mcn md := by
  obtain ⟨s1, s2, s3, s4, s5, s6, s7, s8, f, s10, s11, s12, s13, s14, s15⟩ := S
  obtain ⟨⟨e1, e2, e3, e4⟩, ⟨_, _, _, _, _, _, e5⟩, ⟨_, _, _, _, _, _, _, e6, e7⟩, ⟨_, _, _, _, _, _, e8⟩, ⟨e9, e10, e11⟩, ⟨e12, e13, e14, e15, e16⟩, e17, e18⟩ := h
  refine ⟨⟨up_of e2 e1 (fun z => nomatch z), va_up_self _ _ _, h9, e4⟩, ⟨_, _, _, _, _, _, up_of e2 e5 (fun z => nomatch z)⟩, ⟨_, _, _, _, _, _, _, up_of e2 e6 (fun z => nomatch z), up_of e2 e7 (fun z => by cases z)⟩, ⟨_, _, _, _, _, _, up_of e2 e8 (fun z => nomatch z)⟩, ⟨up_of e2 e9 (fun z => nomatch z), up_of e2 e10 (fun z => by cases z), e11⟩, ⟨up_of e2 e12 (fun z => nomatch z), up_of e2 e13 (fun z => by cases z), up_of e2 e14 (fun z => by cases z), up_of e2 e15 (fun z => by cases z), e16⟩, ?_, e18⟩
  exact e17.up e2 (fun l z => nomatch z) (fun n g z => by cases z)
theorem CW.atFo {n : Nat} (h : CW w pt tx rd to sd fd sc fa fo pr ar de t tl ld flt fp S p a dd ml ca K nt mcl mpe mpb mpc mcn md) (hn : n ≤ nt) : CW (va_up w fo (some (.inr (0, [.ref sc, .ref pr, .ref ar, .ref de, .ref (ml 0), .ref (ml n), .int (nI n)])))) pt tx rd to sd fd sc fa fo pr ar de t tl ld flt fp S p a dd ml ca K n mcl mpe mpb mpc mcn md := by
  obtain ⟨s1, s2, s3, s4, s5, s6, s7, s8, f, s10, s11, s12, s13, s14, s15⟩ := S
  obtain ⟨⟨e1, e2, e3, e4⟩, ⟨_, _, _, _, _, _, e5⟩, ⟨_, _, _, _, _, _, _, e6, e7⟩, ⟨_, _, _, _, _, _, e8⟩, ⟨e9, e10, e11⟩, ⟨e12, e13, e14, e15, e16⟩, e17, e18⟩ := h
  refine ⟨⟨up_of e12 e1 (fun z => by cases z), up_of e12 e2 (fun z => nomatch z), e3, e4⟩, ⟨_, _, _, _, _, _, up_of e12 e5 (fun z => by cases z)⟩, ⟨_, _, _, _, _, _, _, up_of e12 e6 (fun z => by cases z), up_of e12 e7 (fun z => nomatch z)⟩, ⟨_, _, _, _, _, _, up_of e12 e8 (fun z => by cases z)⟩, ⟨up_of e12 e9 (fun z => by cases z), up_of e12 e10 (fun z => nomatch z), e11⟩, ⟨va_up_self _ _ _, up_of e12 e13 (fun z => nomatch z), up_of e12 e14 (fun z => nomatch z), up_of e12 e15 (fun z => nomatch z), e16⟩, ?_, e18⟩
  exact (e17.less hn).up e12 (fun l z => by cases z) (fun n g z => nomatch z)
end
