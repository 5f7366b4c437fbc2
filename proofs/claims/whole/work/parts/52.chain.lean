/-! the class's chain of moments -/
theorem anL_congr {pe pe' : Nat → Nat} : ∀ {k : Nat}, (∀ i, i ≤ k → pe' i = pe i) → anL pe' k = anL pe k
  | 0, _ => rfl
  | k + 1, h => by
    have ih := anL_congr (k := k) (fun i hi => h i (by omega))
    unfold anL
    rw [ih, h (k + 1) (by omega), h k (by omega)]
    cases hL : anL pe k with
    | nil => rfl
    | cons a l =>
      have ha : a ≤ k := anL_mem (by rw [hL]; exact List.mem_cons_self)
      simp only
      rw [h a (by omega)]
/-- the anchor before, of a moment that is an anchor itself -/
def mah (pe ml : Nat → Nat) (i : Nat) : Option Nat := if (anL pe i).head? = some i then ((anL pe i)[1]?).map ml else none
def momE (ml ca : Nat → Nat) (K : Nat) (mcl mpe mpb mpc : Nat → Nat) (an : Nat) (av ah : Option Nat) (i : Nat) : pE :=
  .inr (1, [va_rf (if i = 0 then none else some (ml (i - 1))), va_rf (if i < K then some (ml (i + 1)) else none), .ref (ca i), .int (nI (mcl i)), .int (nI (mpe i)), .int (nI (mpb i)), .int (nI (mpc i)), .int (nI an), va_rf av, va_rf ah])
def CHN (w : pW) (ml ca : Nat → Nat) (K nt : Nat) (mcl mpe mpb mpc mcn : Nat → Nat) (md : Nat → Nat → Nat) : Prop :=
  nt ≤ K ∧
  (∀ i, i ≤ K → ∃ (an : Nat) (av ah : Option Nat), w (ml i) = some (momE ml ca K mcl mpe mpb mpc an av ah i) ∧ (i ≤ nt → an = (anL mpe i).length ∧ av = (anL mpe i).head?.map ml ∧ ah = mah mpe ml i)) ∧
  (∀ i, i ≤ K → w (ca i) = some (.inl (0, mcn i, .inl (fun j9 => nI (md i j9)))) ∧ mcn i ≤ 100000 ∧ ∀ j, md i j ≤ 1000000) ∧
  (∀ i j, i ≤ K → j ≤ K → ml i = ml j → i = j) ∧ (∀ i j, i ≤ K → j ≤ K → ca i = ca j → i = j)
theorem omap_congr {l : Option Nat} {g h : Nat → Nat} (hh : ∀ a, l = some a → g a = h a) : l.map g = l.map h := by
  cases l with
  | none => rfl
  | some a => exact congrArg some (hh a rfl)
theorem CHN.stepA {w w9 : pW} {ml ca : Nat → Nat} {K nt : Nat} {mcl mpe mpb mpc mcn : Nat → Nat} {md : Nat → Nat → Nat} {q t E B C cn9 an9 : Nat} {d9 : Nat → Nat} {av9 ah9 : Option Nat} (h : CHN w ml ca K nt mcl mpe mpb mpc mcn md) (hK : nt < K) (hq : q = ca (nt + 1) ∨ w q = none)
    (hwq : w9 q = some (.inl (0, cn9, .inl (fun j9 => nI (d9 j9))))) (hcn : cn9 ≤ 100000) (hd9 : ∀ j, d9 j ≤ 1000000)
    (hwn : w9 (ml (nt + 1)) = some (.inr (1, [va_rf (some (ml nt)), va_rf (if nt + 1 < K then some (ml (nt + 1 + 1)) else none), .ref q, .int (nI t), .int (nI E), .int (nI B), .int (nI C), .int (nI an9), va_rf av9, va_rf ah9])))
    (hL : an9 = (anL (va_up mpe (nt + 1) E) (nt + 1)).length ∧ av9 = (anL (va_up mpe (nt + 1) E) (nt + 1)).head?.map ml ∧ ah9 = mah (va_up mpe (nt + 1) E) ml (nt + 1))
    (hfr : ∀ x c, w x = some c → x ≠ ml (nt + 1) → x ≠ ca (nt + 1) → (∃ i, i ≤ K ∧ (x = ml i ∨ x = ca i)) → w9 x = some c) :
    CHN w9 ml (va_up ca (nt + 1) q) K (nt + 1) (va_up mcl (nt + 1) t) (va_up mpe (nt + 1) E) (va_up mpb (nt + 1) B) (va_up mpc (nt + 1) C) (va_up mcn (nt + 1) cn9) (va_up md (nt + 1) d9) := by
  obtain ⟨h1, h2, h3, h4, h5⟩ := h
  have hmc : ∀ i j, i ≤ K → j ≤ K → ml i ≠ ca j := fun i j hi hj hij => by
    obtain ⟨an, av, ah, e, -⟩ := h2 i hi
    rw [hij, (h3 j hj).1] at e
    cases e
  refine ⟨by omega, fun i hi => ?_, fun i hi => ?_, h4, fun i j hi hj hij => ?_⟩
  · by_cases hin : i = nt + 1
    · subst hin
      refine ⟨an9, av9, ah9, ?_, fun _ => hL⟩
      rw [hwn]
      unfold momE
      rw [va_up_self, va_up_self, va_up_self, va_up_self, va_up_self, if_neg (show ¬ nt + 1 = 0 by omega)]
      rfl
    · obtain ⟨an, av, ah, e, g⟩ := h2 i hi
      refine ⟨an, av, ah, ?_, fun hle => ?_⟩
      · rw [hfr _ _ e (fun z => hin (h4 _ _ hi (by omega) z)) (hmc _ _ hi (by omega)) ⟨i, hi, Or.inl rfl⟩]
        unfold momE
        rw [va_up_ne _ _ hin, va_up_ne _ _ hin, va_up_ne _ _ hin, va_up_ne _ _ hin, va_up_ne _ _ hin]
      · have hc : anL (va_up mpe (nt + 1) E) i = anL mpe i := anL_congr (fun j hj => va_up_ne _ _ (by omega))
        unfold mah
        rw [hc]
        exact g (by omega)
  · by_cases hin : i = nt + 1
    · subst hin
      rw [va_up_self, va_up_self, va_up_self]
      exact ⟨hwq, hcn, hd9⟩
    · rw [va_up_ne _ _ hin, va_up_ne _ _ hin, va_up_ne _ _ hin]
      obtain ⟨e, g⟩ := h3 i hi
      exact ⟨hfr _ _ e (fun z => hmc _ _ (by omega) hi z.symm) (fun z => hin (h5 _ _ hi (by omega) z)) ⟨i, hi, Or.inr rfl⟩, g⟩
  · have key : ∀ i, i ≤ K → i ≠ nt + 1 → q ≠ ca i := fun i hi hin z => by
      rcases hq with z2 | z2
      · exact hin (h5 _ _ hi (by omega) (z.symm.trans z2))
      · rw [z, (h3 i hi).1] at z2; cases z2
    by_cases hin : i = nt + 1
    · by_cases hjn : j = nt + 1
      · omega
      · subst hin; rw [va_up_self, va_up_ne _ _ hjn] at hij; exact absurd hij (key j hj hjn)
    · by_cases hjn : j = nt + 1
      · subst hjn; rw [va_up_self, va_up_ne _ _ hin] at hij; exact absurd hij.symm (key i hi hin)
      · rw [va_up_ne _ _ hin, va_up_ne _ _ hjn] at hij; exact h5 _ _ hi hj hij
theorem CHN.stepB {w w9 : pW} {ml ca : Nat → Nat} {nt : Nat} {mcl mpe mpb mpc mcn : Nat → Nat} {md : Nat → Nat → Nat} {nm q t E B C cn9 an9 : Nat} {d9 : Nat → Nat} {av9 ah9 : Option Nat} (h : CHN w ml ca nt nt mcl mpe mpb mpc mcn md) (hnm : w nm = none) (hq : w q = none)
    (hwq : w9 q = some (.inl (0, cn9, .inl (fun j9 => nI (d9 j9))))) (hcn : cn9 ≤ 100000) (hd9 : ∀ j, d9 j ≤ 1000000)
    (hwn : w9 nm = some (.inr (1, [va_rf (some (ml nt)), va_rf none, .ref q, .int (nI t), .int (nI E), .int (nI B), .int (nI C), .int (nI an9), va_rf av9, va_rf ah9])))
    (hL : an9 = (anL (va_up mpe (nt + 1) E) (nt + 1)).length ∧ av9 = (anL (va_up mpe (nt + 1) E) (nt + 1)).head?.map (va_up ml (nt + 1) nm) ∧ ah9 = mah (va_up mpe (nt + 1) E) (va_up ml (nt + 1) nm) (nt + 1))
    (hmn : w9 (ml nt) = some (.inr (1, [va_rf (if nt = 0 then none else some (ml (nt - 1))), va_rf (some nm), .ref (ca nt), .int (nI (mcl nt)), .int (nI (mpe nt)), .int (nI (mpb nt)), .int (nI (mpc nt)), .int (nI (anL mpe nt).length), va_rf ((anL mpe nt).head?.map ml), va_rf (mah mpe ml nt)])))
    (hfr : ∀ x c, w x = some c → x ≠ ml nt → (∃ i, i ≤ nt ∧ (x = ml i ∨ x = ca i)) → w9 x = some c) :
    CHN w9 (va_up ml (nt + 1) nm) (va_up ca (nt + 1) q) (nt + 1) (nt + 1) (va_up mcl (nt + 1) t) (va_up mpe (nt + 1) E) (va_up mpb (nt + 1) B) (va_up mpc (nt + 1) C) (va_up mcn (nt + 1) cn9) (va_up md (nt + 1) d9) := by
  obtain ⟨h1, h2, h3, h4, h5⟩ := h
  have hmc : ∀ i j, i ≤ nt → j ≤ nt → ml i ≠ ca j := fun i j hi hj hij => by
    obtain ⟨an, av, ah, e, -⟩ := h2 i hi
    rw [hij, (h3 j hj).1] at e
    cases e
  have hmap : ∀ i, i ≤ nt → (anL mpe i).head?.map (va_up ml (nt + 1) nm) = (anL mpe i).head?.map ml ∧ mah mpe (va_up ml (nt + 1) nm) i = mah mpe ml i := fun i hi => by
    refine ⟨omap_congr (fun a ha => ?_), ?_⟩
    · have : a ≤ i := anL_mem (List.mem_of_mem_head? ha)
      exact va_up_ne _ _ (by omega)
    · unfold mah
      split
      · refine omap_congr (fun a ha => ?_)
        have : a ≤ i := anL_mem (List.mem_of_getElem? ha)
        exact va_up_ne _ _ (by omega)
      · rfl
  refine ⟨Nat.le_refl _, fun i hi => ?_, fun i hi => ?_, fun i j hi hj hij => ?_, fun i j hi hj hij => ?_⟩
  · by_cases hin : i = nt + 1
    · subst hin
      refine ⟨an9, av9, ah9, ?_, fun _ => hL⟩
      rw [va_up_self, hwn]
      unfold momE
      rw [va_up_self, va_up_self, va_up_self, va_up_self, va_up_self, if_neg (show ¬ nt + 1 = 0 by omega), if_neg (show ¬ nt + 1 < nt + 1 by omega), va_up_ne ml nm (show nt + 1 - 1 ≠ nt + 1 by omega)]
      rfl
    · have hc : anL (va_up mpe (nt + 1) E) i = anL mpe i := anL_congr (fun j hj => va_up_ne _ _ (by omega))
      obtain ⟨an, av, ah, e, g⟩ := h2 i (by omega)
      obtain ⟨rfl, rfl, rfl⟩ := g (by omega)
      refine ⟨(anL mpe i).length, (anL mpe i).head?.map ml, mah mpe ml i, ?_, fun hle => ⟨by rw [hc], by rw [hc]; exact (hmap i (by omega)).1.symm, by rw [← (hmap i (by omega)).2]; unfold mah; rw [hc]⟩⟩
      rw [va_up_ne ml nm hin]
      by_cases hie : i = nt
      · subst hie
        rw [hmn]
        unfold momE
        rw [va_up_ne _ _ hin, va_up_ne _ _ hin, va_up_ne _ _ hin, va_up_ne _ _ hin, va_up_ne _ _ hin, va_up_self, if_pos (show i < i + 1 by omega), va_up_ne ml nm (show i - 1 ≠ i + 1 by omega)]
      · rw [hfr _ _ e (fun z => hie (h4 _ _ (by omega) (by omega) z)) ⟨i, by omega, Or.inl rfl⟩]
        unfold momE
        rw [va_up_ne _ _ hin, va_up_ne _ _ hin, va_up_ne _ _ hin, va_up_ne _ _ hin, va_up_ne _ _ hin, if_pos (show i < nt by omega), if_pos (show i < nt + 1 by omega), va_up_ne ml nm (show i - 1 ≠ nt + 1 by omega), va_up_ne ml nm (show i + 1 ≠ nt + 1 by omega)]
  · by_cases hin : i = nt + 1
    · subst hin
      rw [va_up_self, va_up_self, va_up_self]
      exact ⟨hwq, hcn, hd9⟩
    · rw [va_up_ne _ _ hin, va_up_ne _ _ hin, va_up_ne _ _ hin]
      obtain ⟨e, g⟩ := h3 i (by omega)
      exact ⟨hfr _ _ e (fun z => hmc _ _ (Nat.le_refl _) (by omega) z.symm) ⟨i, by omega, Or.inr rfl⟩, g⟩
  · have key : ∀ i, i ≤ nt → nm ≠ ml i := fun i hi z => by
      obtain ⟨_, _, _, e, -⟩ := h2 i hi
      rw [z, e] at hnm; cases hnm
    by_cases hin : i = nt + 1
    · by_cases hjn : j = nt + 1
      · omega
      · subst hin; rw [va_up_self, va_up_ne _ _ hjn] at hij; exact absurd hij (key j (by omega))
    · by_cases hjn : j = nt + 1
      · subst hjn; rw [va_up_self, va_up_ne _ _ hin] at hij; exact absurd hij.symm (key i (by omega))
      · rw [va_up_ne _ _ hin, va_up_ne _ _ hjn] at hij; exact h4 _ _ (by omega) (by omega) hij
  · have key : ∀ i, i ≤ nt → q ≠ ca i := fun i hi z => by
      rw [z, (h3 i hi).1] at hq; cases hq
    by_cases hin : i = nt + 1
    · by_cases hjn : j = nt + 1
      · omega
      · subst hin; rw [va_up_self, va_up_ne _ _ hjn] at hij; exact absurd hij (key j (by omega))
    · by_cases hjn : j = nt + 1
      · subst hjn; rw [va_up_self, va_up_ne _ _ hin] at hij; exact absurd hij.symm (key i (by omega))
      · rw [va_up_ne _ _ hin, va_up_ne _ _ hjn] at hij; exact h5 _ _ (by omega) (by omega) hij
/-- the costs stay below the greatest -/
theorem evF_le {d A np : Nat → Nat} {ri : Nat → Nat} {orn : Nat → Bool} {xn pA pW B : Nat} : ∀ {k e : Nat} {q : (Nat → Nat) × Nat × Nat × Nat}, (∀ j, q.1 j ≤ B) → ∀ j, (evF d A np ri orn xn pA pW k e q).1 j ≤ B
  | 0, _, _, h => h
  | k + 1, e, q, h => by unfold evF; exact evF_le (tnF_le h)
theorem evF_pc {d A np : Nat → Nat} {ri : Nat → Nat} {orn : Nat → Bool} {xn pA pW B : Nat} : ∀ {k e : Nat} {q : (Nat → Nat) × Nat × Nat × Nat}, q.2.1 ≤ B → (evF d A np ri orn xn pA pW k e q).2.1 ≤ B
  | 0, _, _, h => h
  | k + 1, e, q, h => by unfold evF; exact evF_pc (Nat.le_trans fpF_le h)
