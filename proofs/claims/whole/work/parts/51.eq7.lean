section EQ7
/-- beats rise from event to event -/
theorem RT_beat {f : Nat → Int32} {ev be st : Nat} (h : RT f ev be st) : ∀ {e' e : Nat}, e < e' → e' < ev → cl f 2 e < cl f 2 e'
  | 0, e, h1, _ => by omega
  | e' + 1, e, h1, h2 => by
    have hl := (h.2.1 e' (by omega)).1
    have hs := (h.1 e' (by omega)).2.2.2.1.1
    by_cases q : e = e'
    · subst q; omega
    · have := RT_beat h (e' := e') (e := e) (by omega) (by omega)
      omega
theorem RT_page {f : Nat → Int32} {ev be st : Nat} (h : RT f ev be st) : ∀ {e' e : Nat}, e ≤ e' → e' < ev → cl f 5 e ≤ cl f 5 e'
  | 0, e, h1, _ => by rw [show e = 0 by omega]; exact Nat.le_refl _
  | e' + 1, e, h1, h2 => by
    have hl := (h.2.1 e' (by omega)).2
    by_cases q : e = e' + 1
    · rw [q]; exact Nat.le_refl _
    · exact Nat.le_trans (RT_page h (e' := e') (e := e) (by omega) (by omega)) hl
section
variable {pe : Nat → Nat}
theorem anL_two {k j a b : Nat} (ha : (anL pe k)[j]? = some a) (hb : (anL pe k)[j + 1]? = some b) : pe b < pe a ∧ b < a := by
  obtain ⟨h1, e1⟩ := List.getElem?_eq_some_iff.mp ha
  obtain ⟨h2, e2⟩ := List.getElem?_eq_some_iff.mp hb
  refine anL_inc (pe := pe) (k := k) (l1 := (anL pe k).take j) (l2 := (anL pe k).drop (j + 1 + 1)) ?_
  have d1 := List.drop_eq_getElem_cons h1
  have d2 := List.drop_eq_getElem_cons h2
  rw [e1] at d1
  rw [e2] at d2
  rw [← d2, ← d1, List.take_append_drop]
theorem anL_lt {k i : Nat} : ∀ {j a b : Nat}, i < j → (anL pe k)[i]? = some a → (anL pe k)[j]? = some b → pe b < pe a ∧ b < a
  | 0, a, b, h, _, _ => by omega
  | j + 1, a, b, h, ha, hb => by
    by_cases q : i = j
    · subst q; exact anL_two ha hb
    · have hj : j < (anL pe k).length := by have := (List.getElem?_eq_some_iff.mp hb).1; omega
      have hc : (anL pe k)[j]? = some ((anL pe k)[j]) := List.getElem?_eq_getElem hj
      have h1 := anL_lt (show i < j by omega) ha hc
      have h2 := anL_two hc hb
      exact ⟨Nat.lt_trans h2.1 h1.1, Nat.lt_trans h2.2 h1.2⟩
theorem anL_pos : ∀ {k a : Nat}, a ∈ anL pe k → 1 ≤ a
  | 0, a, h => by simp [anL] at h
  | k + 1, a, h => by
    unfold anL at h
    split at h
    · exact anL_pos h
    · split at h
      · simp at h; omega
      · rename_i a0 l hL
        split at h
        · simp at h; omega
        · rcases List.mem_cons.mp h with q | q
          · omega
          · exact anL_pos (k := k) (by rw [hL]; exact q)
/-- the anchors behind the i-th -/
theorem anL_tail {k i a : Nat} (ha : (anL pe k)[i]? = some a) : anL pe a = (anL pe k).drop i := by
  obtain ⟨h1, e1⟩ := List.getElem?_eq_some_iff.mp ha
  have d1 := List.drop_eq_getElem_cons h1
  rw [e1] at d1
  have := anL_drop (pe := pe) (k := k) (a := a) (l1 := (anL pe k).take i) (l2 := (anL pe k).drop (i + 1)) (by rw [← d1, List.take_append_drop])
  rw [this, d1]
end
/-- the tempo's two numbers, from the arrays and from the chain -/
theorem up_eq {pe ti aT ae mcl : Nat → Nat} {L : List Nat} (hA : ANI pe ti L ae aT) (hcl : ∀ a ∈ L, mcl a = ti (a - 1)) (hn : 2 ≤ L.length) : upM L.length aT = mcl (L.getD 0 0) - mcl (L.getD (min 4 (L.length - 1)) 0) := by
  unfold upM
  rw [if_neg (by omega)]
  have h1 : ∀ i, i < L.length → aT (L.length - 1 - i) = mcl (L.getD i 0) := fun i hi => by
    have e : L[i]? = some (L.getD i 0) := by rw [List.getD_eq_getElem?_getD, List.getElem?_eq_getElem hi]; rfl
    rw [(hA i _ e).2, hcl _ (List.mem_of_getElem? e)]
  have a0 := h1 0 (by omega)
  have a4 := h1 (min 4 (L.length - 1)) (by omega)
  rw [Nat.sub_zero] at a0
  rw [show L.length - 1 - min 4 (L.length - 1) = L.length - 5 by omega] at a4
  rw [a0, a4]
theorem lo_eq {pe ti aT ae xb : Nat → Nat} {L : List Nat} (hA : ANI pe ti L ae aT) (hn : 2 ≤ L.length) : loM L.length ae xb = xb (pe (L.getD 0 0)) - xb (pe (L.getD (min 4 (L.length - 1)) 0)) := by
  unfold loM
  rw [if_neg (by omega)]
  have h1 : ∀ i, i < L.length → ae (L.length - 1 - i) = pe (L.getD i 0) := fun i hi => by
    have e : L[i]? = some (L.getD i 0) := by rw [List.getD_eq_getElem?_getD, List.getElem?_eq_getElem hi]; rfl
    exact (hA i _ e).1
  have a0 := h1 0 (by omega)
  have a4 := h1 (min 4 (L.length - 1)) (by omega)
  rw [Nat.sub_zero] at a0
  rw [show L.length - 1 - min 4 (L.length - 1) = L.length - 5 by omega] at a4
  rw [a0, a4]
theorem idivN {a b : Nat} (ha : a < 2 ^ 31) (hb : 0 < b) (hb2 : b < 2 ^ 31) : nI a / nI b = nI (a / b) := by
  apply Int32.toInt_inj.mp
  have e1 : (nI a).toInt = a := Int32.toInt_ofNat_of_lt ha
  have e2 : (nI b).toInt = b := Int32.toInt_ofNat_of_lt hb2
  have hq : a / b ≤ a := Nat.div_le_self _ _
  have e3 : (nI (a / b)).toInt = ((a / b : Nat) : Int) := Int32.toInt_ofNat_of_lt (by omega)
  rw [Int32.toInt_div, e1, e2, e3]
  have h1 : (a : Int).tdiv (b : Int) = ((a / b : Nat) : Int) := by rw [Int.tdiv_eq_ediv_of_nonneg (by omega)]; rfl
  rw [h1]
  generalize a / b = z at hq
  have g1 : -((2 : Int) ^ 31) ≤ (z : Int) := by omega
  have g2 : (z : Int) < (2 : Int) ^ 31 := by omega
  rw [Int.bmod_def, Int.emod_eq_of_lt (by omega) (by omega)]
  rw [if_pos (by omega)]
/-- tempo's answer, both ways -/
theorem tp_eq {bl : Bool} {up lo : Nat} (hup : up < 2 ^ 31) (hlo : 0 < lo) (hlo2 : lo < 2 ^ 31) : nI (tpF bl up lo) = if bl then nI lo / nI (Nat.gcd up lo) else nI up / nI (Nat.gcd up lo) := by
  have hg := gcF_gcd 31 64 up lo hlo2 (by omega)
  have hp : 0 < Nat.gcd up lo := Nat.gcd_pos_of_pos_right _ hlo
  have hle : Nat.gcd up lo ≤ lo := Nat.gcd_le_right _ hlo
  unfold tpF
  rw [hg, if_neg (by omega)]
  cases bl with
  | true => simp only [if_true]; rw [idivN hlo2 hp (by omega)]
  | false => simp only [Bool.false_eq_true, if_false]; rw [idivN hup hp (by omega)]
/-- counts, both ways -/
theorem cnt_eq {sd mr cu rep np oc ev be cq st me pa pg nt an tl k : Nat} {f : Nat → Int32} (hJ : RJ (sd, mr, cu, false, false, rep, np, oc, f, ev, be, cq, st, me, pa)) (hsd : sd = 1 ∨ sd = 2) (hpg : pgI f ev pg) (hk : k < 8) : cntF f ev be nt an tl cq k = nI (cntM ev me pg be nt an tl cu k) := by
  obtain ⟨-, hT, -, ⟨p1, p2, -, -⟩, -, h124, ⟨q1, -, -⟩, -⟩ := hJ
  have hcq : cq = cu := q1 (by omega)
  have hrow : 0 < ev → f ((ev - 1) * 14 + 4) = nI (cl f 4 (ev - 1)) ∧ f ((ev - 1) * 14 + 5) = nI (cl f 5 (ev - 1)) := fun h => by
    have := (hT.1 (ev - 1) (by omega)).1.1
    exact ⟨this.2.2.2.1, this.2.2.2.2.1⟩
  unfold cntF cntM
  rcases (show k = 0 ∨ k = 1 ∨ k = 2 ∨ k = 3 ∨ k = 4 ∨ k = 5 ∨ k = 6 ∨ k = 7 by omega) with rfl | rfl | rfl | rfl | rfl | rfl | rfl | rfl
  · rfl
  · simp only [Nat.one_ne_zero, if_false, if_true]
    by_cases h0 : ev = 0
    · rw [if_pos h0]; exact congrArg nI (by omega)
    · rw [if_neg h0, (hrow (by omega)).1, ← h124 (by omega) (by omega)]
      exact nI_add _ 1
  · simp only [show (2 = 0) = False by simp, show (2 = 1) = False by simp, if_false, if_true]
    by_cases h0 : ev = 0
    · rw [if_pos h0, hpg.1 h0]
    · rw [if_neg h0, (hrow (by omega)).2, ← hpg.2 (by omega)]
      exact nI_add _ 1
  · rfl
  · rfl
  · rfl
  · rfl
  · rw [hcq]; rfl
end EQ7
