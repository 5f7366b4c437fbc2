/-! hearing, over the chain -/
theorem va_up_id {α : Type} (g : Nat → α) (i : Nat) : va_up g i (g i) = g := by
  funext j
  by_cases h : j = i
  · subst h; exact va_up_self _ _ _
  · exact va_up_ne _ _ h
theorem anL_one {pe : Nat → Nat} : anL pe 1 = [1] := by
  unfold anL
  rw [if_neg (fun z => Nat.lt_irrefl 0 z.1)]
  rfl
theorem an3 {α : Type} (X : Nat → Option Nat → Option Nat → α) {pe ml9 : Nat → Nat} {k E a nm : Nat} {l : List Nat} (hk : 0 < k) (hL : anL pe k = a :: l) (hpa : pe a = pe k) (ha : a ≤ k) (hn : ml9 (k + 1) = nm) :
    ∃ (an9 : Nat) (av9 ah9 : Option Nat), (if E < pe a then X 1 (some nm) none else if E ≠ pe k then X ((anL pe k).length + 1) (some nm) (some (ml9 a)) else X (anL pe k).length (some (ml9 a)) none) = X an9 av9 ah9 ∧
      (an9 = (anL (va_up pe (k + 1) E) (k + 1)).length ∧ av9 = (anL (va_up pe (k + 1) E) (k + 1)).head?.map ml9 ∧ ah9 = mah (va_up pe (k + 1) E) ml9 (k + 1)) := by
  have hc : anL (va_up pe (k + 1) E) k = anL pe k := anL_congr (fun j hj => va_up_ne _ _ (by omega))
  have hs : anL (va_up pe (k + 1) E) (k + 1) = if E = pe k then a :: l else if E < pe a then [k + 1] else (k + 1) :: a :: l := by
    rw [anL]
    rw [hc, hL, va_up_self, va_up_ne pe E (show k ≠ k + 1 by omega)]
    simp only
    rw [va_up_ne pe E (show a ≠ k + 1 by omega)]
    by_cases h : E = pe k
    · rw [if_pos ⟨hk, h⟩, if_pos h]
    · rw [if_neg (fun z => h z.2), if_neg h]
  by_cases h1 : E < pe a
  · rw [if_neg (by omega), if_pos h1] at hs
    refine ⟨_, _, _, if_pos h1, ?_, ?_, ?_⟩
    · rw [hs]; rfl
    · rw [hs]; exact congrArg some hn.symm
    · unfold mah; rw [hs, if_pos (show [k + 1].head? = some (k + 1) from rfl)]; rfl
  · by_cases h2 : E = pe k
    · rw [if_pos h2] at hs
      refine ⟨_, _, _, (if_neg h1).trans (if_neg (fun z => z h2)), ?_, ?_, ?_⟩
      · rw [hs, hL]
      · rw [hs]; rfl
      · unfold mah; rw [hs, if_neg (by intro z; cases z; omega)]
    · rw [if_neg h2, if_neg h1] at hs
      refine ⟨_, _, _, (if_neg h1).trans (if_pos h2), ?_, ?_, ?_⟩
      · rw [hs, hL]; rfl
      · rw [hs]; exact congrArg some hn.symm
      · unfold mah; rw [hs, if_pos (show ((k + 1) :: a :: l).head? = some (k + 1) from rfl)]; rfl
def hrF (f : Nat → Int32) (u : Nat → Nat → Nat) (bh : Nat → Option Nat) (p a dd d : Nat → Nat) (no ev st pc cn9 : Nat) (x9 : Nat → Nat) : (Nat → Nat) × Nat × Nat × Nat :=
  evF d (silA d a (u 1) (u 6) dd bh (p 2) (pc + p 3) ev) (u 1) (fun e => riB f e no (u 0 e) (u 1 e)) (fun e => decide (u 0 e = 2)) cn9 (p 1) (p 0) ev 0 (clr x9 st, 1000000, 0, 0)
/-- what hearing leaves -/
def HRD (w : pW) (fo sc pr ar de : Nat) (ml ca : Nat → Nat) (K nt : Nat) (mcl mpe mpb mpc mcn : Nat → Nat) (md : Nat → Nat → Nat) (f : Nat → Int32) (u : Nat → Nat → Nat) (bh : Nat → Option Nat) (p a dd : Nat → Nat) (no t ev st : Nat) (w9 : pW) : Prop :=
  ∃ (nm q K9 cn9 : Nat) (x9 : Nat → Nat), st ≤ cn9 ∧ (∀ j, x9 j ≤ 1000000) ∧ ((nt < K ∧ q = ca (nt + 1)) ∨ w q = none) ∧ ((nt < K ∧ K9 = K ∧ nm = ml (nt + 1)) ∨ (nt = K ∧ K9 = nt + 1 ∧ w nm = none)) ∧
    CHN w9 (va_up ml (nt + 1) nm) (va_up ca (nt + 1) q) K9 (nt + 1) (va_up mcl (nt + 1) t) (va_up mpe (nt + 1) (hrF f u bh p a dd (md nt) no ev st (mpc nt) cn9 x9).2.2.1) (va_up mpb (nt + 1) (hrF f u bh p a dd (md nt) no ev st (mpc nt) cn9 x9).2.2.2) (va_up mpc (nt + 1) (hrF f u bh p a dd (md nt) no ev st (mpc nt) cn9 x9).2.1) (va_up mcn (nt + 1) cn9) (va_up md (nt + 1) (hrF f u bh p a dd (md nt) no ev st (mpc nt) cn9 x9).1) ∧
    w9 ar = some (.inl (0, 100, .inl (fun j9 => nI ((silA (md nt) a (u 1) (u 6) dd bh (p 2) (mpc nt + p 3) ev) j9)))) ∧ w9 de = some (.inl (0, 100, .inl (fun j9 => nI ((silD (md nt) (u 1) dd (p 2) ev) j9)))) ∧
    w9 fo = some (.inr (0, [.ref sc, .ref pr, .ref ar, .ref de, .ref (ml 0), .ref nm, .int (nI (nt + 1))])) ∧
    ∀ x c, w x = some c → x ≠ ar → x ≠ de → x ≠ fo → (∀ i, i ≤ K → x ≠ ml i ∧ x ≠ ca i) → w9 x = some c
section
variable {w : pW} {fo sc pr ar de nt : Nat} {fa ev be cu st me pa : Nat} {f : Nat → Int32} {u : Nat → Nat → Nat} {bh : Nat → Option Nat} {p : Nat → Nat} {a : Nat → Nat} {dd : Nat → Nat} {ml ca : Nat → Nat} {K : Nat} {mcl mpe mpb mpc mcn : Nat → Nat} {md : Nat → Nat → Nat} {no t : Nat}
theorem CHN.ne (hC : CHN w ml ca K nt mcl mpe mpb mpc mcn md) {i : Nat} (hi : i ≤ K) {x : Nat} {c : pE} (hx : w x = some c) : ((∀ l, c ≠ .inr (1, l)) → ml i ≠ x) ∧ ((∀ n g, c ≠ .inl (0, n, .inl g)) → ca i ≠ x) := by
  obtain ⟨-, h2, h3, -, -⟩ := hC
  refine ⟨fun h e => ?_, fun h e => ?_⟩
  · obtain ⟨_, _, _, e2, -⟩ := h2 i hi
    rw [e, hx] at e2
    cases e2
    exact h _ rfl
  · have e2 := (h3 i hi).1
    rw [e, hx] at e2
    cases e2
    exact h _ _ rfl
theorem CHN.mc (hC : CHN w ml ca K nt mcl mpe mpb mpc mcn md) {i j : Nat} (hi : i ≤ K) (hj : j ≤ K) : ml i ≠ ca j := by
  exact (hC.ne hi (hC.2.2.1 j hj).1).1 (fun l z => nomatch z)
theorem c_hearW (hC : CHN w ml ca K nt mcl mpe mpb mpc mcn md) (hfo : w fo = some (.inr (0, [.ref sc, .ref pr, .ref ar, .ref de, .ref (ml 0), .ref (ml nt), .int (nI nt)]))) (hs : w sc = some (.inr (3, [.ref fa, .int (nI ev), .int (nI be), .int (nI cu), .int (nI st), .int (nI me), .int (nI pa)]))) (hf : w fa = some (.inl (0, 1400, .inl f))) (hp : w pr = some (.inl (0, 4, .inl (fun j9 => nI (p j9))))) (ha : w ar = some (.inl (0, 100, .inl (fun j9 => nI (a j9))))) (hde : w de = some (.inl (0, 100, .inl (fun j9 => nI (dd j9))))) (hM : Mus f ev st u bh) (hpb : ∀ j, p j ≤ 50) (hab : ∀ j, a j ≤ 1000000) (hdb : ∀ j, dd j ≤ 1000000) (hst : st ≤ mcn nt) (hN : va_nd [fa, pr, ar, de] = true) (hap : ∀ i, i ≤ K → ca i ≠ fa ∧ ca i ≠ pr ∧ ca i ≠ ar ∧ ca i ≠ de) (hno : no < 128) (hpc : mpc nt ≤ 1000000) (hpe : ∀ i, i ≤ nt → mpe i < 100) :
    Ct yX0_hear wsX0_hear rX0_hear [.ref fo, .int (nI no), .int (nI t)] w (fun o w9 => o = .inl none ∧ HRD w fo sc pr ar de ml ca K nt mcl mpe mpb mpc mcn md f u bh p a dd no t ev st w9) := by
  have hC0 := hC
  obtain ⟨h1, h2, h3, h4, h5⟩ := hC
  obtain ⟨an, av, ah, hm, g⟩ := h2 nt h1
  obtain ⟨g1, g2, g3⟩ := g (Nat.le_refl _)
  subst g1 g2 g3
  obtain ⟨hc, hcn, hdd⟩ := h3 nt h1
  obtain ⟨a1, a2, a3, a4⟩ := hap nt h1
  have n1 := nd_ne hN 0 1 rfl rfl rfl
  have n2 := nd_ne hN 0 2 rfl rfl rfl
  have n3 := nd_ne hN 0 3 rfl rfl rfl
  have n4 := nd_ne hN 1 2 rfl rfl rfl
  have n5 := nd_ne hN 1 3 rfl rfl rfl
  have n6 := nd_ne hN 2 3 rfl rfl rfl
  have mfo : ∀ i, i ≤ K → ml i ≠ fo := fun i hi => (hC0.ne hi hfo).1 (fun l z => nomatch z)
  have cfo : ∀ i, i ≤ K → ca i ≠ fo := fun i hi => (hC0.ne hi hfo).2 (fun n g z => nomatch z)
  have mar : ∀ i, i ≤ K → ml i ≠ ar := fun i hi => (hC0.ne hi ha).1 (fun l z => nomatch z)
  have mde : ∀ i, i ≤ K → ml i ≠ de := fun i hi => (hC0.ne hi hde).1 (fun l z => nomatch z)
  unfold momE at hm
  by_cases hK : nt < K
  · obtain ⟨an2, av2, ah2, hnm, -⟩ := h2 (nt + 1) hK
    obtain ⟨hcx, hxn, hxb⟩ := h3 (nt + 1) hK
    obtain ⟨b1, b2, b3, b4⟩ := hap (nt + 1) hK
    have hcc : ca nt ≠ ca (nt + 1) := fun z => by have := h5 _ _ h1 hK z; omega
    have hmm : ml nt ≠ ml (nt + 1) := fun z => by have := h4 _ _ h1 hK z; omega
    have hN6 : va_nd [fa, pr, ar, de, ca nt, ca (nt + 1)] = true := by simp [va_nd, n1, n2, n3, n4, n5, n6, Ne.symm a1, Ne.symm a2, Ne.symm a3, Ne.symm a4, Ne.symm b1, Ne.symm b2, Ne.symm b3, Ne.symm b4, hcc]
    rw [if_pos hK] at hm
    unfold momE at hnm
    rw [if_neg (show ¬ nt + 1 = 0 by omega)] at hnm
    by_cases h0 : nt = 0
    · subst h0
      refine (c_hearA0 hfo hs hf hp ha hde hm hc hnm hcx hM hpb hab hdb hst hcn hdd hxn hxb hmm hN6 (t := t) hno hpc (hpe 0 (Nat.le_refl _))).imp ?_
      rintro o w9 ⟨ho, q, cn9, x9, hq, hst9, ⟨e1, e2, e3, e4, e5⟩, hF⟩
      have hx9 : ∀ j, x9 j ≤ 1000000 := by rcases hq with ⟨-, -, z⟩ | ⟨-, -, z⟩ <;> rw [z] <;> first | exact hxb | exact fun _ => Nat.zero_le _
      have hc9 : cn9 ≤ 100000 := by rcases hq with ⟨-, z, -⟩ | ⟨-, z, -⟩ <;> rw [z] <;> first | exact hxn | exact Nat.le_trans hst hcn
      have hq9 : q = ca (0 + 1) ∨ w q = none := by rcases hq with ⟨z, -⟩ | ⟨z, -⟩ <;> first | exact Or.inl z | exact Or.inr z
      have hfr : ∀ x c, w x = some c → x ≠ ml (0 + 1) → x ≠ ca (0 + 1) → (∃ i, i ≤ K ∧ (x = ml i ∨ x = ca i)) → w9 x = some c := fun x c hx k1 k2 ⟨i, hi, z⟩ => hF x c (by
        have q1 := mar i hi; have q2 := mde i hi; have q3 := mfo i hi; have q4 := cfo i hi; obtain ⟨-, -, q5, q6⟩ := hap i hi
        simp only [List.mem_cons, List.not_mem_nil, or_false, not_or]
        rcases z with rfl | rfl
        · exact ⟨q1, q2, k2, k1, q3⟩
        · exact ⟨q5, q6, k2, k1, q4⟩) hx
      have hfr2 : ∀ x c, w x = some c → x ≠ ar → x ≠ de → x ≠ fo → (∀ i, i ≤ K → x ≠ ml i ∧ x ≠ ca i) → w9 x = some c := fun x c hx k1 k2 k3 k4 => hF x c (by
        simp only [List.mem_cons, List.not_mem_nil, or_false, not_or]
        exact ⟨k1, k2, (k4 _ hK).2, (k4 _ hK).1, k3⟩) hx
      refine ⟨ho, ml (0 + 1), q, K, cn9, x9, hst9, hx9, hq9.imp (fun z => ⟨hK, z⟩) id, Or.inl ⟨hK, rfl, rfl⟩, ?_, e1, e2, e5, hfr2⟩
      rw [va_up_id]
      refine hC0.stepA hK hq9 e3 hc9 (evF_le (clr_le hx9)) e4 ⟨?_, ?_, ?_⟩ hfr
      · rw [anL_one]; rfl
      · rw [anL_one]; rfl
      · unfold mah; rw [anL_one, if_pos (show [1].head? = some (0 + 1) from rfl)]; rfl
    · obtain ⟨a0, l, hL, hpa, ha1, hak⟩ := anL_hd (pe := mpe) (k := nt) (by omega)
      have hav : (anL mpe nt).head?.map ml = some (ml a0) := by rw [hL]; rfl
      rw [hav] at hm
      obtain ⟨_, _, _, hlm, -⟩ := h2 a0 (by omega)
      unfold momE at hlm
      have hla : ml a0 ≠ ml (nt + 1) := fun z => by have := h4 _ _ (by omega) hK z; omega
      refine (c_hearA1 hfo hs hf hp ha hde hm hc hnm hcx hM hpb hab hdb hst hcn hdd hxn hxb hmm hN6 (t := t) hno hpc (hpe nt (Nat.le_refl _)) hlm hla (hpe a0 hak)).imp ?_
      rintro o w9 ⟨ho, q, cn9, x9, hq, hst9, ⟨e1, e2, e3, e4, e5⟩, hF⟩
      have hx9 : ∀ j, x9 j ≤ 1000000 := by rcases hq with ⟨-, -, z⟩ | ⟨-, -, z⟩ <;> rw [z] <;> first | exact hxb | exact fun _ => Nat.zero_le _
      have hc9 : cn9 ≤ 100000 := by rcases hq with ⟨-, z, -⟩ | ⟨-, z, -⟩ <;> rw [z] <;> first | exact hxn | exact Nat.le_trans hst hcn
      have hq9 : q = ca (nt + 1) ∨ w q = none := by rcases hq with ⟨z, -⟩ | ⟨z, -⟩ <;> first | exact Or.inl z | exact Or.inr z
      have hfr : ∀ x c, w x = some c → x ≠ ml (nt + 1) → x ≠ ca (nt + 1) → (∃ i, i ≤ K ∧ (x = ml i ∨ x = ca i)) → w9 x = some c := fun x c hx k1 k2 ⟨i, hi, z⟩ => hF x c (by
        have q1 := mar i hi; have q2 := mde i hi; have q3 := mfo i hi; have q4 := cfo i hi; obtain ⟨-, -, q5, q6⟩ := hap i hi
        simp only [List.mem_cons, List.not_mem_nil, or_false, not_or]
        rcases z with rfl | rfl
        · exact ⟨q1, q2, k2, k1, q3⟩
        · exact ⟨q5, q6, k2, k1, q4⟩) hx
      have hfr2 : ∀ x c, w x = some c → x ≠ ar → x ≠ de → x ≠ fo → (∀ i, i ≤ K → x ≠ ml i ∧ x ≠ ca i) → w9 x = some c := fun x c hx k1 k2 k3 k4 => hF x c (by
        simp only [List.mem_cons, List.not_mem_nil, or_false, not_or]
        exact ⟨k1, k2, (k4 _ hK).2, (k4 _ hK).1, k3⟩) hx
      refine ⟨ho, ml (nt + 1), q, K, cn9, x9, hst9, hx9, hq9.imp (fun z => ⟨hK, z⟩) id, Or.inl ⟨hK, rfl, rfl⟩, ?_, e1, e2, e5, hfr2⟩
      rw [va_up_id]
      obtain ⟨an9, av9, ah9, hX, hL9⟩ := an3 (fun an9 av9 ah9 => (.inr (1, [va_rf (some (ml nt)), va_rf (if nt + 1 < K then some (ml (nt + 1 + 1)) else none), .ref q, .int (nI t), .int (nI (hrF f u bh p a dd (md nt) no ev st (mpc nt) cn9 x9).2.2.1), .int (nI (hrF f u bh p a dd (md nt) no ev st (mpc nt) cn9 x9).2.2.2), .int (nI (hrF f u bh p a dd (md nt) no ev st (mpc nt) cn9 x9).2.1), .int (nI an9), va_rf av9, va_rf ah9]) : pE)) (E := (hrF f u bh p a dd (md nt) no ev st (mpc nt) cn9 x9).2.2.1) (ml9 := ml) (show 0 < nt by omega) hL hpa hak rfl
      exact hC0.stepA hK hq9 e3 hc9 (evF_le (clr_le hx9)) (e4.trans (congrArg some hX)) hL9 hfr
  · have hKe : K = nt := by omega
    subst hKe
    have hN5 : va_nd [fa, pr, ar, de, ca K] = true := by simp [va_nd, n1, n2, n3, n4, n5, n6, Ne.symm a1, Ne.symm a2, Ne.symm a3, Ne.symm a4]
    rw [if_neg hK] at hm
    by_cases h0 : K = 0
    · subst h0
      refine (c_hearB0 hfo hs hf hp ha hde hm hc hM hpb hab hdb hst hcn hdd hN5 (t := t) hno hpc (hpe 0 (Nat.le_refl _))).imp ?_
      rintro o w9 ⟨ho, nm, q, cn9, hnn, hqn, hnq, hst9, hc9, ⟨e1, e2, e3, e4, e5⟩, e6, hF⟩
      have hx9 : ∀ j, (fun _ : Nat => 0) j ≤ 1000000 := fun _ => Nat.zero_le _
      have hfr : ∀ x c, w x = some c → x ≠ ml 0 → (∃ i, i ≤ 0 ∧ (x = ml i ∨ x = ca i)) → w9 x = some c := fun x c hx k1 ⟨i, hi, z⟩ => hF x c (by
        have q1 := mar i hi; have q2 := mde i hi; have q3 := mfo i hi; have q4 := cfo i hi; obtain ⟨-, -, q5, q6⟩ := hap i hi
        simp only [List.mem_cons, List.not_mem_nil, or_false, not_or]
        rcases z with rfl | rfl
        · exact ⟨q1, q2, q3, k1⟩
        · exact ⟨q5, q6, q4, k1⟩) hx
      have hfr2 : ∀ x c, w x = some c → x ≠ ar → x ≠ de → x ≠ fo → (∀ i, i ≤ 0 → x ≠ ml i ∧ x ≠ ca i) → w9 x = some c := fun x c hx k1 k2 k3 k4 => hF x c (by
        simp only [List.mem_cons, List.not_mem_nil, or_false, not_or]
        exact ⟨k1, k2, k3, (k4 _ (Nat.le_refl _)).1⟩) hx
      refine ⟨ho, nm, q, 0 + 1, cn9, (fun _ => 0), hst9, hx9, Or.inr hqn, Or.inr ⟨rfl, rfl, hnn⟩, ?_, e1, e2, e5, hfr2⟩
      refine hC0.stepB hnn hqn e3 (by omega) (evF_le (clr_le hx9)) e4 ⟨?_, ?_, ?_⟩ e6 hfr
      · rw [anL_one]; rfl
      · rw [anL_one]; exact congrArg some (va_up_self _ _ _).symm
      · unfold mah; rw [anL_one, if_pos (show [1].head? = some (0 + 1) from rfl)]; rfl
    · obtain ⟨a0, l, hL, hpa, ha1, hak⟩ := anL_hd (pe := mpe) (k := K) (by omega)
      have hav : (anL mpe K).head?.map ml = some (ml a0) := by rw [hL]; rfl
      rw [hav] at hm
      by_cases hea : a0 = K
      · subst hea
        refine (c_hearB2 hfo hs hf hp ha hde hm hc hM hpb hab hdb hst hcn hdd hN5 (t := t) hno hpc (hpe _ (Nat.le_refl _))).imp ?_
        rintro o w9 ⟨ho, nm, q, cn9, hnn, hqn, hnq, hst9, hc9, ⟨e1, e2, e3, e4, e5⟩, e6, hF⟩
        have hx9 : ∀ j, (fun _ : Nat => 0) j ≤ 1000000 := fun _ => Nat.zero_le _
        have hfr : ∀ x c, w x = some c → x ≠ ml a0 → (∃ i, i ≤ a0 ∧ (x = ml i ∨ x = ca i)) → w9 x = some c := fun x c hx k1 ⟨i, hi, z⟩ => hF x c (by
          have q1 := mar i hi; have q2 := mde i hi; have q3 := mfo i hi; have q4 := cfo i hi; obtain ⟨-, -, q5, q6⟩ := hap i hi
          simp only [List.mem_cons, List.not_mem_nil, or_false, not_or]
          rcases z with rfl | rfl
          · exact ⟨q1, q2, q3, k1⟩
          · exact ⟨q5, q6, q4, k1⟩) hx
        have hfr2 : ∀ x c, w x = some c → x ≠ ar → x ≠ de → x ≠ fo → (∀ i, i ≤ a0 → x ≠ ml i ∧ x ≠ ca i) → w9 x = some c := fun x c hx k1 k2 k3 k4 => hF x c (by
          simp only [List.mem_cons, List.not_mem_nil, or_false, not_or]
          exact ⟨k1, k2, k3, (k4 _ (Nat.le_refl _)).1⟩) hx
        refine ⟨ho, nm, q, a0 + 1, cn9, (fun _ => 0), hst9, hx9, Or.inr hqn, Or.inr ⟨rfl, rfl, hnn⟩, ?_, e1, e2, e5, hfr2⟩
        obtain ⟨an9, av9, ah9, hX, hL9⟩ := an3 (fun an9 av9 ah9 => (.inr (1, [va_rf (some (ml a0)), va_rf none, .ref q, .int (nI t), .int (nI (hrF f u bh p a dd (md a0) no ev st (mpc a0) cn9 (fun _ => 0)).2.2.1), .int (nI (hrF f u bh p a dd (md a0) no ev st (mpc a0) cn9 (fun _ => 0)).2.2.2), .int (nI (hrF f u bh p a dd (md a0) no ev st (mpc a0) cn9 (fun _ => 0)).2.1), .int (nI an9), va_rf av9, va_rf ah9]) : pE)) (E := (hrF f u bh p a dd (md a0) no ev st (mpc a0) cn9 (fun _ => 0)).2.2.1) (ml9 := va_up ml (a0 + 1) nm) (show 0 < a0 by omega) hL hpa hak (va_up_self _ _ _)
        rw [va_up_ne ml nm (show a0 ≠ a0 + 1 by omega)] at hX
        exact hC0.stepB hnn hqn e3 (by omega) (evF_le (clr_le hx9)) (e4.trans (congrArg some hX)) hL9 (by rw [hav]; exact e6) hfr
      · obtain ⟨_, _, _, hlm, -⟩ := h2 a0 (by omega)
        unfold momE at hlm
        have hla : ml a0 ≠ ml K := fun z => hea (h4 _ _ (by omega) (by omega) z)
        refine (c_hearB1 hfo hs hf hp ha hde hm hc hM hpb hab hdb hst hcn hdd hN5 (t := t) hno hpc (hpe _ (Nat.le_refl _)) hlm hla (hpe a0 hak)).imp ?_
        rintro o w9 ⟨ho, nm, q, cn9, hnn, hqn, hnq, hst9, hc9, ⟨e1, e2, e3, e4, e5⟩, e6, hF⟩
        have hx9 : ∀ j, (fun _ : Nat => 0) j ≤ 1000000 := fun _ => Nat.zero_le _
        have hfr : ∀ x c, w x = some c → x ≠ ml K → (∃ i, i ≤ K ∧ (x = ml i ∨ x = ca i)) → w9 x = some c := fun x c hx k1 ⟨i, hi, z⟩ => hF x c (by
          have q1 := mar i hi; have q2 := mde i hi; have q3 := mfo i hi; have q4 := cfo i hi; obtain ⟨-, -, q5, q6⟩ := hap i hi
          simp only [List.mem_cons, List.not_mem_nil, or_false, not_or]
          rcases z with rfl | rfl
          · exact ⟨q1, q2, q3, k1⟩
          · exact ⟨q5, q6, q4, k1⟩) hx
        have hfr2 : ∀ x c, w x = some c → x ≠ ar → x ≠ de → x ≠ fo → (∀ i, i ≤ K → x ≠ ml i ∧ x ≠ ca i) → w9 x = some c := fun x c hx k1 k2 k3 k4 => hF x c (by
          simp only [List.mem_cons, List.not_mem_nil, or_false, not_or]
          exact ⟨k1, k2, k3, (k4 _ (Nat.le_refl _)).1⟩) hx
        refine ⟨ho, nm, q, K + 1, cn9, (fun _ => 0), hst9, hx9, Or.inr hqn, Or.inr ⟨rfl, rfl, hnn⟩, ?_, e1, e2, e5, hfr2⟩
        obtain ⟨an9, av9, ah9, hX, hL9⟩ := an3 (fun an9 av9 ah9 => (.inr (1, [va_rf (some (ml K)), va_rf none, .ref q, .int (nI t), .int (nI (hrF f u bh p a dd (md K) no ev st (mpc K) cn9 (fun _ => 0)).2.2.1), .int (nI (hrF f u bh p a dd (md K) no ev st (mpc K) cn9 (fun _ => 0)).2.2.2), .int (nI (hrF f u bh p a dd (md K) no ev st (mpc K) cn9 (fun _ => 0)).2.1), .int (nI an9), va_rf av9, va_rf ah9]) : pE)) (E := (hrF f u bh p a dd (md K) no ev st (mpc K) cn9 (fun _ => 0)).2.2.1) (ml9 := va_up ml (K + 1) nm) (show 0 < K by omega) hL hpa hak (va_up_self _ _ _)
        rw [va_up_ne ml nm (show a0 ≠ K + 1 by omega)] at hX
        exact hC0.stepB hnn hqn e3 (by omega) (evF_le (clr_le hx9)) (e4.trans (congrArg some hX)) hL9 (by rw [hav]; exact e6) hfr
end
