/-! the class's world after music, a fault, a price; under a frame -/
section
variable {w w9 : pW} {pt tx rd to sd fd sc fa fo pr ar de : Nat} {t : Nat → Nat} {tl ld flt : Nat} {fp : Int32} {S : RSt} {p a dd ml ca : Nat → Nat} {K nt : Nat} {mcl mpe mpb mpc mcn : Nat → Nat} {md : Nat → Nat → Nat}
theorem CW.fr (h : CW w pt tx rd to sd fd sc fa fo pr ar de t tl ld flt fp S p a dd ml ca K nt mcl mpe mpb mpc mcn md)
    (hk : ∀ x c, w x = some c → ((∃ k l, k < 6 ∧ c = .inr (k, l)) ∨ x ∈ [tx, fd, fa, pr, ar, de] ∨ ∃ i, i ≤ K ∧ x = ca i) → w9 x = some c) : CW w9 pt tx rd to sd fd sc fa fo pr ar de t tl ld flt fp S p a dd ml ca K nt mcl mpe mpb mpc mcn md := by
  obtain ⟨s1, s2, s3, s4, s5, s6, s7, s8, f, s10, s11, s12, s13, s14, s15⟩ := S
  obtain ⟨⟨e1, e2, e3, e4⟩, ⟨_, _, _, _, _, _, e5⟩, ⟨_, _, _, _, _, _, _, e6, e7⟩, ⟨_, _, _, _, _, _, e8⟩, ⟨e9, e10, e11⟩, ⟨e12, e13, e14, e15, e16⟩, e17, e18⟩ := h
  have ko : ∀ {x k : Nat} {l : List Value}, k < 6 → w x = some (.inr (k, l)) → w9 x = some (.inr (k, l)) := fun hk6 hx => hk _ _ hx (Or.inl ⟨_, _, hk6, rfl⟩)
  have ka : ∀ {x : Nat} {c : pE}, w x = some c → x ∈ [tx, fd, fa, pr, ar, de] → w9 x = some c := fun hx hm => hk _ _ hx (Or.inr (Or.inl hm))
  refine ⟨⟨ko (by decide) e1, ka e2 (by simp), e3, e4⟩, ⟨_, _, _, _, _, _, ko (by decide) e5⟩, ⟨_, _, _, _, _, _, _, ko (by decide) e6, ka e7 (by simp)⟩, ⟨_, _, _, _, _, _, ko (by decide) e8⟩, ⟨ko (by decide) e9, ka e10 (by simp), e11⟩, ⟨ko (by decide) e12, ka e13 (by simp), ka e14 (by simp), ka e15 (by simp), e16⟩, ?_, e18⟩
  refine e17.fr (fun x c hx ⟨i, hi, z⟩ => ?_)
  rcases z with z | z
  · obtain ⟨_, _, _, e, -⟩ := e17.2.1 i hi
    unfold momE at e
    rw [z, e] at hx
    injection hx with hx
    rw [z, ← hx]
    exact ko (by decide) e
  · exact hk x c hx (Or.inr (Or.inr ⟨i, hi, z⟩))
theorem CW.atPr {p9 : Nat → Nat} (h : CW w pt tx rd to sd fd sc fa fo pr ar de t tl ld flt fp S p a dd ml ca K nt mcl mpe mpb mpc mcn md) (h9 : ∀ j, p9 j ≤ 50) : CW (va_up w pr (some (.inl (0, 4, .inl (fun j9 => nI (p9 j9)))))) pt tx rd to sd fd sc fa fo pr ar de t tl ld flt fp S p9 a dd ml ca K nt mcl mpe mpb mpc mcn md := by
  obtain ⟨s1, s2, s3, s4, s5, s6, s7, s8, f, s10, s11, s12, s13, s14, s15⟩ := S
  obtain ⟨⟨e1, e2, e3, e4⟩, ⟨_, _, _, _, _, _, e5⟩, ⟨_, _, _, _, _, _, _, e6, e7⟩, ⟨_, _, _, _, _, _, e8⟩, ⟨e9, e10, e11⟩, ⟨e12, e13, e14, e15, e16⟩, e17, e18, e19⟩ := h
  have d := fun i j (a b : Nat) h1 h2 h3 => nd_ne e18 i j (a := a) (b := b) h1 h2 h3
  have k2 : ∀ {x : Nat} {c : pE}, w x = some c → x ≠ pr → va_up w pr (some (.inl (0, 4, .inl (fun j9 => nI (p9 j9))))) x = some c := fun hx hn => by rw [va_up_ne _ _ hn]; exact hx
  refine ⟨⟨up_of e13 e1 (fun z => nomatch z), up_of e13 e2 (fun z => by cases z), e3, e4⟩, ⟨_, _, _, _, _, _, up_of e13 e5 (fun z => nomatch z)⟩, ⟨_, _, _, _, _, _, _, up_of e13 e6 (fun z => nomatch z), k2 e7 (d 0 2 _ _ rfl rfl rfl)⟩, ⟨_, _, _, _, _, _, up_of e13 e8 (fun z => nomatch z)⟩, ⟨up_of e13 e9 (fun z => nomatch z), k2 e10 (d 1 2 _ _ rfl rfl rfl), e11⟩, ⟨up_of e13 e12 (fun z => nomatch z), va_up_self _ _ _, k2 e14 (Ne.symm (d 2 3 _ _ rfl rfl rfl)), k2 e15 (Ne.symm (d 2 4 _ _ rfl rfl rfl)), h9, e16.2⟩, ?_, e18, e19⟩
  refine e17.fr (fun x c hx ⟨i, hi, z⟩ => ?_)
  rw [va_up_ne _ _ ?_]
  · exact hx
  · rcases z with z | z
    · rw [z]; exact (e17.ne hi e13).1 (fun l z => nomatch z)
    · rw [z]; exact (e19 i hi).2.2.1
theorem CW.musicF {ln : Nat} {f : Nat → Int32} {R : Nat × Nat × RSt} (h : CW w pt tx rd to sd fd sc fa fo pr ar de t tl ld flt fp S p a dd ml ca K nt mcl mpe mpb mpc mcn md) (hF : Fr [pt, rd, sd, fd, to] w w9)
    (h1 : w9 pt = some (.inr (5, [.ref tx, .int (nI 0), .ref rd, .ref sc, .ref fo, .int (nI ld)]))) (h2 : w9 rd = some (rdC to sd R.1 (fpR R) R.2.2)) (h3 : w9 sd = some (scC fd R.2.2)) (h4 : w9 fd = some (faC R.2.2)) (h5 : w9 to = some (toC tx t ln R.2.1)) :
    CW w9 pt tx rd to sd fd sc fa fo pr ar de t 0 ld R.1 (fpR R) S p a dd ml ca K nt mcl mpe mpb mpc mcn md := by
  obtain ⟨s1, s2, s3, s4, s5, s6, s7, s8, f, s10, s11, s12, s13, s14, s15⟩ := S
  obtain ⟨r1, r2, ⟨z1, z2, z3, z4, z5, z6, z7, z8, z9, z10, z11, z12, z13, z14, z15⟩⟩ := R
  obtain ⟨⟨e1, e2, e3, e4⟩, ⟨_, _, _, _, _, _, e5⟩, ⟨_, _, _, _, _, _, _, e6, e7⟩, ⟨_, _, _, _, _, _, e8⟩, ⟨e9, e10, e11⟩, ⟨e12, e13, e14, e15, e16⟩, e17, e18, e19⟩ := h
  have d := fun i j (a b : Nat) h1 h2 h3 => nd_ne e18 i j (a := a) (b := b) h1 h2 h3
  have kk : ∀ {x : Nat} {c : pE}, w x = some c → x ≠ sd → x ≠ fd → (∀ k l, c = .inr (k, l) → k ≠ 5 ∧ k ≠ 2 ∧ k ≠ 4) → w9 x = some c := fun {x c} hx n1 n2 n3 => by
    rw [hF x ?_]
    · exact hx
    · simp only [List.mem_cons, List.not_mem_nil, or_false, not_or]
      exact ⟨ne_of e1 hx (fun z => (n3 _ _ z.symm).1 rfl), ne_of e5 hx (fun z => (n3 _ _ z.symm).2.1 rfl), n1, n2, ne_of e8 hx (fun z => (n3 _ _ z.symm).2.2 rfl)⟩
  refine ⟨⟨h1, kk e2 (ne_of e6 e2 (fun z => nomatch z)) (ne_of e7 e2 (fun z => by cases z)) (fun k l z => by cases z), e3, by omega⟩, ⟨_, _, _, _, _, _, h2⟩, ⟨_, _, _, _, _, _, _, h3, h4⟩, ⟨_, _, _, _, _, _, h5⟩, ⟨kk e9 (Ne.symm e11) (ne_of e7 e9 (fun z => nomatch z)) (fun k l z => by cases z; decide), kk e10 (ne_of e6 e10 (fun z => nomatch z)) (Ne.symm (d 0 1 _ _ rfl rfl rfl)) (fun k l z => by cases z), e11⟩, ⟨kk e12 (ne_of e6 e12 (fun z => by cases z)) (ne_of e7 e12 (fun z => nomatch z)) (fun k l z => by cases z; decide), kk e13 (ne_of e6 e13 (fun z => nomatch z)) (Ne.symm (d 0 2 _ _ rfl rfl rfl)) (fun k l z => by cases z), kk e14 (ne_of e6 e14 (fun z => nomatch z)) (Ne.symm (d 0 3 _ _ rfl rfl rfl)) (fun k l z => by cases z), kk e15 (ne_of e6 e15 (fun z => nomatch z)) (Ne.symm (d 0 4 _ _ rfl rfl rfl)) (fun k l z => by cases z), e16⟩, ?_, e18, e19⟩
  refine e17.fr (fun x c hx ⟨i, hi, z⟩ => ?_)
  rcases z with z | z
  · obtain ⟨_, _, _, e, -⟩ := e17.2.1 i hi
    unfold momE at e
    rw [z, e] at hx
    injection hx with hx
    rw [z, ← hx]
    exact kk e ((e17.ne hi e6).1 (fun l z => by cases z)) ((e17.ne hi e7).1 (fun l z => nomatch z)) (fun k l z => by cases z; decide)
  · have e := (e17.2.2.1 i hi).1
    rw [z, e] at hx
    injection hx with hx
    rw [z, ← hx]
    exact kk e ((e17.ne hi e6).2 (fun n g z => nomatch z)) (e19 i hi).1 (fun k l z => nomatch z)
theorem CW.music {ln q cn9 : Nat} {md9 : Nat → Nat → Nat} {R : Nat × Nat × RSt} (h : CW w pt tx rd to sd fd sc fa fo pr ar de t tl ld flt fp S p a dd ml ca K nt mcl mpe mpb mpc mcn md) (hq : q = ca 0 ∨ w q = none)
    (hC : CHN w9 ml (va_up ca 0 q) K 0 mcl (va_up mpe 0 0) (va_up mpb 0 0) (va_up mpc 0 0) (va_up mcn 0 cn9) md9)
    (h0 : w9 fo = some (.inr (0, [.ref sd, .ref pr, .ref ar, .ref de, .ref (ml 0), .ref (ml 0), .int (nI 0)]))) (hF : FrS [pt, rd, sd, fd, to, fo, ml 0, ca 0] w w9)
    (h1 : w9 pt = some (.inr (5, [.ref tx, .int (nI 0), .ref rd, .ref sd, .ref fo, .int (nI ld)]))) (h2 : w9 rd = some (rdC to sc 0 (-1) R.2.2)) (h3 : w9 sd = some (scC fd R.2.2)) (h4 : w9 fd = some (faC R.2.2)) (h5 : w9 to = some (toC tx t ln R.2.1)) :
    CW w9 pt tx rd to sc fa sd fd fo pr ar de t 0 ld 0 (-1) R.2.2 p a dd ml (va_up ca 0 q) K 0 mcl (va_up mpe 0 0) (va_up mpb 0 0) (va_up mpc 0 0) (va_up mcn 0 cn9) md9 := by
  obtain ⟨s1, s2, s3, s4, s5, s6, s7, s8, f, s10, s11, s12, s13, s14, s15⟩ := S
  obtain ⟨r1, r2, ⟨z1, z2, z3, z4, z5, z6, z7, z8, z9, z10, z11, z12, z13, z14, z15⟩⟩ := R
  obtain ⟨⟨e1, e2, e3, e4⟩, ⟨_, _, _, _, _, _, e5⟩, ⟨_, _, _, _, _, _, _, e6, e7⟩, ⟨_, _, _, _, _, _, e8⟩, ⟨e9, e10, e11⟩, ⟨e12, e13, e14, e15, e16⟩, e17, e18, e19⟩ := h
  have d := fun i j (a b : Nat) h1 h2 h3 => nd_ne e18 i j (a := a) (b := b) h1 h2 h3
  have kk : ∀ {x : Nat} {c : pE}, w x = some c → x ≠ sd → x ≠ fd → x ≠ ca 0 → (∀ k l, c = .inr (k, l) → k ≠ 5 ∧ k ≠ 2 ∧ k ≠ 4 ∧ k ≠ 0 ∧ k ≠ 1) → w9 x = some c := fun {x c} hx n1 n2 n4 n3 => by
    refine hF x c ?_ hx
    simp only [List.mem_cons, List.not_mem_nil, or_false, not_or]
    exact ⟨ne_of e1 hx (fun z => (n3 _ _ z.symm).1 rfl), ne_of e5 hx (fun z => (n3 _ _ z.symm).2.1 rfl), n1, n2, ne_of e8 hx (fun z => (n3 _ _ z.symm).2.2.1 rfl), ne_of e12 hx (fun z => (n3 _ _ z.symm).2.2.2.1 rfl), ((e17.ne (Nat.zero_le _) hx).1 (fun l z => (n3 _ _ z).2.2.2.2 rfl)).symm, n4⟩
  have n0 := e19 0 (Nat.zero_le _)
  refine ⟨⟨h1, kk e2 (ne_of e6 e2 (fun z => nomatch z)) (ne_of e7 e2 (fun z => by cases z)) ((e17.ne (Nat.zero_le _) e2).2 (fun n g z => by cases z)).symm (fun k l z => by cases z), e3, by omega⟩, ⟨_, _, _, _, _, _, h2⟩, ⟨_, _, _, _, _, _, _, kk e9 (Ne.symm e11) (ne_of e7 e9 (fun z => nomatch z)) ((e17.ne (Nat.zero_le _) e9).2 (fun n g z => nomatch z)).symm (fun k l z => by cases z; decide), kk e10 (ne_of e6 e10 (fun z => nomatch z)) (Ne.symm (d 0 1 _ _ rfl rfl rfl)) (Ne.symm n0.2.1) (fun k l z => by cases z)⟩, ⟨_, _, _, _, _, _, h5⟩, ⟨h3, h4, Ne.symm e11⟩, ⟨h0, kk e13 (ne_of e6 e13 (fun z => nomatch z)) (Ne.symm (d 0 2 _ _ rfl rfl rfl)) (Ne.symm n0.2.2.1) (fun k l z => by cases z), kk e14 (ne_of e6 e14 (fun z => nomatch z)) (Ne.symm (d 0 3 _ _ rfl rfl rfl)) (Ne.symm n0.2.2.2.1) (fun k l z => by cases z), kk e15 (ne_of e6 e15 (fun z => nomatch z)) (Ne.symm (d 0 4 _ _ rfl rfl rfl)) (Ne.symm n0.2.2.2.2) (fun k l z => by cases z), e16⟩, hC, ?_, fun i hi => ?_⟩
  · simp [va_nd, Ne.symm (d 0 1 _ _ rfl rfl rfl), d 0 2 _ _ rfl rfl rfl, d 0 3 _ _ rfl rfl rfl, d 0 4 _ _ rfl rfl rfl, d 1 2 _ _ rfl rfl rfl, d 1 3 _ _ rfl rfl rfl, d 1 4 _ _ rfl rfl rfl, d 2 3 _ _ rfl rfl rfl, d 2 4 _ _ rfl rfl rfl, d 3 4 _ _ rfl rfl rfl]
  · by_cases hi0 : i = 0
    · subst hi0
      rw [va_up_self]
      rcases hq with z | z
      · rw [z]; exact ⟨n0.2.1, n0.1, n0.2.2⟩
      · have hz : ∀ {x : Nat} {c : pE}, w x = some c → q ≠ x := fun hx e => by rw [e, hx] at z; cases z
        exact ⟨hz e10, hz e7, hz e13, hz e14, hz e15⟩
    · rw [va_up_ne _ _ hi0]
      have n := e19 i hi
      exact ⟨n.2.1, n.1, n.2.2⟩
end
