/-! the rest of the class over the chain -/
section
variable {w w9 : pW} {fo sc pr ar de nt : Nat} {fa ev be cu st me pa : Nat} {f : Nat → Int32} {u : Nat → Nat → Nat} {bh : Nat → Option Nat} {p : Nat → Nat} {a : Nat → Nat} {dd : Nat → Nat} {ml ca : Nat → Nat} {K : Nat} {mcl mpe mpb mpc mcn : Nat → Nat} {md : Nat → Nat → Nat} {no t : Nat} {pt tx tl rd ld : Nat}
theorem CHN.fr (h : CHN w ml ca K nt mcl mpe mpb mpc mcn md) (hfr : ∀ x c, w x = some c → (∃ i, i ≤ K ∧ (x = ml i ∨ x = ca i)) → w9 x = some c) : CHN w9 ml ca K nt mcl mpe mpb mpc mcn md := by
  obtain ⟨h1, h2, h3, h4, h5⟩ := h
  refine ⟨h1, fun i hi => ?_, fun i hi => ?_, h4, h5⟩
  · obtain ⟨an, av, ah, e, g⟩ := h2 i hi
    exact ⟨an, av, ah, hfr _ _ e ⟨i, hi, Or.inl rfl⟩, g⟩
  · obtain ⟨e, g⟩ := h3 i hi
    exact ⟨hfr _ _ e ⟨i, hi, Or.inr rfl⟩, g⟩
theorem CHN.less {n : Nat} (h : CHN w ml ca K nt mcl mpe mpb mpc mcn md) (hn : n ≤ nt) : CHN w ml ca K n mcl mpe mpb mpc mcn md := by
  obtain ⟨h1, h2, h3, h4, h5⟩ := h
  refine ⟨by omega, fun i hi => ?_, h3, h4, h5⟩
  obtain ⟨an, av, ah, e, g⟩ := h2 i hi
  exact ⟨an, av, ah, e, fun z => g (by omega)⟩
/-- another object than those of the chain is written -/
theorem CHN.up {x : Nat} {c c9 : pE} (h : CHN w ml ca K nt mcl mpe mpb mpc mcn md) (hx : w x = some c) (k1 : ∀ l, c ≠ .inr (1, l)) (k2 : ∀ n g, c ≠ .inl (0, n, .inl g)) : CHN (va_up w x (some c9)) ml ca K nt mcl mpe mpb mpc mcn md := by
  refine h.fr (fun y d hy ⟨i, hi, z⟩ => ?_)
  rw [va_up_ne _ _ ?_]
  · exact hy
  · rcases z with z | z
    · rw [z]; exact (h.ne hi hx).1 k1
    · rw [z]; exact (h.ne hi hx).2 k2
theorem c_backW (hC : CHN w ml ca K nt mcl mpe mpb mpc mcn md) (hfo : w fo = some (.inr (0, [.ref sc, .ref pr, .ref ar, .ref de, .ref (ml 0), .ref (ml nt), .int (nI nt)]))) (hpt : w pt = some (.inr (5, [.ref tx, .int (nI tl), .ref rd, .ref sc, .ref fo, .int (nI ld)]))) :
    Ct yX5_back wsX5_back rX5_back [.ref pt] w (fun o w9 => (nt = 0 ∧ o = .inl (some (.int (-1))) ∧ w9 = w) ∨ (0 < nt ∧ o = .inl (some (.int (nI (nt - 1)))) ∧ CHN w9 ml ca K (nt - 1) mcl mpe mpb mpc mcn md ∧ w9 = va_up w fo (some (.inr (0, [.ref sc, .ref pr, .ref ar, .ref de, .ref (ml 0), .ref (ml (nt - 1)), .int (nI (nt - 1))]))))) := by
  obtain ⟨an, av, ah, hm, g⟩ := hC.2.1 nt hC.1
  unfold momE at hm
  by_cases h0 : nt = 0
  · rw [if_pos h0] at hm
    exact (c_back0 hfo hpt hm).imp (fun o w9 h => Or.inl ⟨h0, h⟩)
  · rw [if_neg h0] at hm
    refine (c_back1 hfo hpt hm (by omega)).imp (fun o w9 h => Or.inr ⟨by omega, h.1, ?_, h.2⟩)
    rw [h.2]
    exact (hC.less (by omega)).up hfo (fun l z => nomatch z) (fun n g z => nomatch z)
theorem c_againW (hC : CHN w ml ca K nt mcl mpe mpb mpc mcn md) (hfo : w fo = some (.inr (0, [.ref sc, .ref pr, .ref ar, .ref de, .ref (ml 0), .ref (ml nt), .int (nI nt)]))) (hpt : w pt = some (.inr (5, [.ref tx, .int (nI tl), .ref rd, .ref sc, .ref fo, .int (nI ld)]))) :
    Ct yX5_again wsX5_again rX5_again [.ref pt] w (fun o w9 => o = .inl (some (.int (nI nt))) ∧ CHN w9 ml ca K 0 mcl mpe mpb mpc mcn md ∧ w9 = va_up w fo (some (.inr (0, [.ref sc, .ref pr, .ref ar, .ref de, .ref (ml 0), .ref (ml 0), .int (nI 0)])))) := by
  refine (c_again hfo hpt).imp (fun o w9 h => ⟨h.1, ?_, h.2⟩)
  rw [h.2]
  exact (hC.less (Nat.zero_le _)).up hfo (fun l z => nomatch z) (fun n g z => nomatch z)
/-- what X5_heard leaves, with its answer -/
def HRE (o : pO) (w : pW) (fo sc pr ar de : Nat) (ml ca : Nat → Nat) (K nt : Nat) (mcl mpe mpb mpc mcn : Nat → Nat) (md : Nat → Nat → Nat) (f : Nat → Int32) (u : Nat → Nat → Nat) (bh : Nat → Option Nat) (p a dd : Nat → Nat) (no t ev st : Nat) (w9 : pW) : Prop :=
  ∃ (nm q K9 cn9 : Nat) (x9 : Nat → Nat), o = .inl (some (.int (nI (hrF f u bh p a dd (md nt) no ev st (mpc nt) cn9 x9).2.2.1))) ∧ st ≤ cn9 ∧ (∀ j, x9 j ≤ 1000000) ∧ ((nt < K ∧ q = ca (nt + 1)) ∨ w q = none) ∧ ((nt < K ∧ K9 = K ∧ nm = ml (nt + 1)) ∨ (nt = K ∧ K9 = nt + 1 ∧ w nm = none)) ∧
    CHN w9 (va_up ml (nt + 1) nm) (va_up ca (nt + 1) q) K9 (nt + 1) (va_up mcl (nt + 1) t) (va_up mpe (nt + 1) (hrF f u bh p a dd (md nt) no ev st (mpc nt) cn9 x9).2.2.1) (va_up mpb (nt + 1) (hrF f u bh p a dd (md nt) no ev st (mpc nt) cn9 x9).2.2.2) (va_up mpc (nt + 1) (hrF f u bh p a dd (md nt) no ev st (mpc nt) cn9 x9).2.1) (va_up mcn (nt + 1) cn9) (va_up md (nt + 1) (hrF f u bh p a dd (md nt) no ev st (mpc nt) cn9 x9).1) ∧
    w9 ar = some (.inl (0, 100, .inl (fun j9 => nI ((silA (md nt) a (u 1) (u 6) dd bh (p 2) (mpc nt + p 3) ev) j9)))) ∧ w9 de = some (.inl (0, 100, .inl (fun j9 => nI ((silD (md nt) (u 1) dd (p 2) ev) j9)))) ∧
    w9 fo = some (.inr (0, [.ref sc, .ref pr, .ref ar, .ref de, .ref (ml 0), .ref nm, .int (nI (nt + 1))])) ∧
    ∀ x c, w x = some c → x ≠ ar → x ≠ de → x ≠ fo → (∀ i, i ≤ K → x ≠ ml i ∧ x ≠ ca i) → w9 x = some c
theorem c_heardW (hC : CHN w ml ca K nt mcl mpe mpb mpc mcn md) (hfo : w fo = some (.inr (0, [.ref sc, .ref pr, .ref ar, .ref de, .ref (ml 0), .ref (ml nt), .int (nI nt)]))) (hs : w sc = some (.inr (3, [.ref fa, .int (nI ev), .int (nI be), .int (nI cu), .int (nI st), .int (nI me), .int (nI pa)]))) (hf : w fa = some (.inl (0, 1400, .inl f))) (hp : w pr = some (.inl (0, 4, .inl (fun j9 => nI (p j9))))) (ha : w ar = some (.inl (0, 100, .inl (fun j9 => nI (a j9))))) (hde : w de = some (.inl (0, 100, .inl (fun j9 => nI (dd j9))))) (hM : Mus f ev st u bh) (hpb : ∀ j, p j ≤ 50) (hab : ∀ j, a j ≤ 1000000) (hdb : ∀ j, dd j ≤ 1000000) (hst : st ≤ mcn nt) (hN : va_nd [fa, pr, ar, de] = true) (hap : ∀ i, i ≤ K → ca i ≠ fa ∧ ca i ≠ pr ∧ ca i ≠ ar ∧ ca i ≠ de) (hno : no < 128) (hpc : mpc nt ≤ 1000000) (hpe : ∀ i, i ≤ nt → mpe i < 100)
    (hpt : w pt = some (.inr (5, [.ref tx, .int (nI tl), .ref rd, .ref sc, .ref fo, .int (nI ld)]))) (ht : t ≤ 100000000) (hnt : nt < 2 ^ 31) (hclb : mcl nt < 2 ^ 31) :
    Ct yX5_heard wsX5_heard rX5_heard [.ref pt, .int (nI no), .int (nI t)] w (fun o w9 => ((ev = 0 ∨ 400 ≤ nt ∨ t < (if nt = 0 then 0 else mcl nt)) ∧ o = .inl (some (.int (-1))) ∧ w9 = w) ∨ ((0 < ev ∧ nt < 400 ∧ (if nt = 0 then 0 else mcl nt) ≤ t) ∧ HRE o w fo sc pr ar de ml ca K nt mcl mpe mpb mpc mcn md f u bh p a dd no t ev st w9)) := by
  obtain ⟨an, av, ah, hm, -⟩ := hC.2.1 nt hC.1
  unfold momE at hm
  obtain ⟨hc, hcn, hdd⟩ := hC.2.2.1 nt hC.1
  have hN2 : va_nd [fa, ca nt] = true := by simp [va_nd, Ne.symm (hap nt hC.1).1]
  by_cases hy : 0 < ev ∧ nt < 400 ∧ (if nt = 0 then 0 else mcl nt) ≤ t
  · have ptne : ∀ i, i ≤ K → pt ≠ ml i ∧ pt ≠ ca i := fun i hi => ⟨((hC.ne hi hpt).1 (fun l z => nomatch z)).symm, ((hC.ne hi hpt).2 (fun n g z => nomatch z)).symm⟩
    have p1 : pt ≠ ar := fun z => by rw [z, ha] at hpt; cases hpt
    have p2 : pt ≠ de := fun z => by rw [z, hde] at hpt; cases hpt
    have p3 : pt ≠ fo := fun z => by rw [z, hfo] at hpt; cases hpt
    refine (c_heardYes hfo hs hf hm hc hM hst hcn hdd hN2 hpt hno ht hnt hclb hy (c_hearW hC hfo hs hf hp ha hde hM hpb hab hdb hst hN hap hno hpc hpe (t := t)) ?_).imp ?_
    · rintro o w9 ⟨ho, nm, q, K9, cn9, x9, -, -, -, hn, h6, -, -, h9, hF⟩
      obtain ⟨an9, av9, ah9, e, -⟩ := h6.2.1 (nt + 1) h6.1
      rw [va_up_self] at e
      unfold momE at e
      exact ⟨ho, nm, _, _, _, _, _, _, _, _, _, _, hF pt _ hpt p1 p2 p3 ptne, h9, e⟩
    · rintro o w9 ⟨⟨-, nm, q, K9, cn9, x9, y1, y2, y3, y4, h6, y7, y8, h9, hF⟩, nm9, cx9, cl9, pe9, pb9, pc9, an9, bf9, nx9, av9, ah9, ho, -, z2, z3⟩
      refine Or.inr ⟨hy, nm, q, K9, cn9, x9, ?_, y1, y2, y3, y4, h6, y7, y8, h9, hF⟩
      rw [h9] at z2
      injection z2 with z2
      injection z2 with z2
      injection z2 with _ z2
      injection z2 with _ z2
      injection z2 with _ z2
      injection z2 with _ z2
      injection z2 with _ z2
      injection z2 with _ z2
      injection z2 with z2 _
      injection z2 with z2
      subst z2
      obtain ⟨_, _, _, e, -⟩ := h6.2.1 (nt + 1) h6.1
      rw [va_up_self] at e
      unfold momE at e
      rw [z3] at e
      injection e with e
      injection e with e
      injection e with _ e
      injection e with _ e
      injection e with _ e
      injection e with _ e
      injection e with _ e
      injection e with e _
      rw [va_up_self] at e
      rw [ho, e]
  · refine (c_heardNo hfo hs hf hm hc hM hst hcn hdd hN2 hpt hno ht hnt hclb (by omega)).imp (fun o w9 h => Or.inl ⟨by omega, h⟩)
end
