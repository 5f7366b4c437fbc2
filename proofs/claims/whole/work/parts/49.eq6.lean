section EQ6
/-- Euclid's steps come to their end -/
theorem gcF_gcd : ∀ (n k a b : Nat), b < 2 ^ n → 2 * n + 1 ≤ k → gcF k a b = Nat.gcd a b
  | 0, k, a, b, hb, hk => by
    have h0 : b = 0 := by simpa using hb
    subst h0
    rw [gcF_stop, Nat.gcd_zero_right]
  | n + 1, k, a, b, hb, hk => by
    by_cases h0 : b = 0
    · subst h0; rw [gcF_stop, Nat.gcd_zero_right]
    · obtain ⟨k1, rfl⟩ : ∃ k1, k = k1 + 1 + 1 := ⟨k - 2, by omega⟩
      have e1 : gcF (k1 + 1 + 1) a b = gcF (k1 + 1) b (a % b) := if_neg h0
      rw [e1, Nat.gcd_comm a b, Nat.gcd_rec b a, Nat.gcd_comm (a % b) b]
      by_cases hr : a % b = 0
      · rw [hr, gcF_stop, Nat.gcd_zero_right]
      · have e2 : gcF (k1 + 1) b (a % b) = gcF k1 (a % b) (b % (a % b)) := if_neg hr
        have hlt : a % b < b := Nat.mod_lt _ (by omega)
        have h3 : b % (a % b) < a % b := Nat.mod_lt _ (by omega)
        have h4 : b % (a % b) + (a % b) * (b / (a % b)) = b := Nat.mod_add_div _ _
        have h5 : 1 ≤ b / (a % b) := Nat.div_pos (by omega) (by omega)
        have h6 : a % b ≤ (a % b) * (b / (a % b)) := Nat.le_mul_of_pos_right _ h5
        have h7 : 2 ^ (n + 1) = 2 * 2 ^ n := by rw [Nat.pow_succ]; omega
        rw [e2, gcF_gcd n k1 (a % b) (b % (a % b)) (by omega) (by omega), Nat.gcd_comm (a % b), Nat.gcd_rec (b % (a % b)) (a % b)]
        rw [← Nat.gcd_rec (b % (a % b)) (a % b), Nat.gcd_comm b (a % b), Nat.gcd_rec (a % b) b]
theorem mfold_min {g : Nat → Nat} {x : Nat} : ∀ {k i acc : Nat}, min x (mfold g k i acc) = mfold g k i (min x acc)
  | 0, i, acc => rfl
  | k + 1, i, acc => by
    simp only [mfold]
    rw [mfold_min]
    congr 1
    omega
theorem mf_phi {d c : Nat → Nat} {fs e0 : Nat} : ∀ {k i a : Nat}, (∀ j, i ≤ j → j < i + k → d (fs + j) = phi (c (e0 + j))) → mfold d k (fs + i) (phi a) = phi (mfold (fun b => c (e0 + b)) k i a)
  | 0, i, a, _ => rfl
  | k + 1, i, a, h => by
    simp only [mfold]
    rw [h i (Nat.le_refl _) (by omega), ← mf_phi (fun j h1 h2 => h j (by omega) (by omega)), Nat.add_assoc]
    congr 1
    unfold phi
    omega
theorem lea_eq {c d np ms : Nat → Nat} {h ev : Nat} (hR : REL np ev c d) : ∀ {k e a : Nat}, e + k ≤ ev → leaM d np ms h k e (phi a) = phi (smE c np ms h k e a)
  | 0, e, a, _ => rfl
  | k + 1, e, a, hk => by
    simp only [leaM, smE]
    by_cases q : ms e = h
    · rw [if_pos q, if_pos q]; exact lea_eq hR (by omega)
    · rw [if_neg q, if_neg q, ← lea_eq hR (by omega)]
      congr 1
      unfold leaE
      rw [mfold_min, ← mf_phi (d := d) (fs := sumP np e) (fun j _ hj => hR e (by omega) j (by omega)), Nat.add_zero]
      congr 1
      unfold phi
      omega
theorem mfold_in {P : Nat → Prop} {g : Nat → Nat} : ∀ {k i acc : Nat}, P acc → (∀ j, i ≤ j → j < i + k → P (g j)) → P (mfold g k i acc)
  | 0, i, acc, h, _ => h
  | k + 1, i, acc, h, hg => by
    simp only [mfold]
    refine mfold_in ?_ (fun j h1 h2 => hg j (by omega) (by omega))
    rcases Nat.le_total acc (g i) with q | q
    · rw [Nat.min_eq_left q]; exact h
    · rw [Nat.min_eq_right q]; exact hg i (Nat.le_refl _) (by omega)
theorem smE_in {P : Nat → Prop} {c np ms : Nat → Nat} {h ev : Nat} (hs : ∀ e, e < ev → ∀ b, b < 2 ^ np e → P (c (16 * e + b))) : ∀ {k e a : Nat}, e + k ≤ ev → P a → P (smE c np ms h k e a)
  | 0, e, a, _, ha => ha
  | k + 1, e, a, hk, ha => by
    simp only [smE]
    refine smE_in hs (by omega) ?_
    split
    · exact ha
    · exact mfold_in ha (fun j _ hj => hs e (by omega) j (by omega))
/-- sure, both ways -/
theorem sure_eq {c d np ms : Nat → Nat} {h ev pc : Nat} (hR : REL np ev c d) (hs : ∀ e, e < ev → ∀ b, b < 2 ^ np e → (c (16 * e + b) = 268435456 ∨ c (16 * e + b) < 1000000) ∧ pc ≤ c (16 * e + b)) (hpc : pc ≤ 1000000) : surN (leaM d np ms h ev 0 1000000) pc = if smE c np ms h ev 0 268435456 < 268435456 then nI (smE c np ms h ev 0 268435456) - nI pc else -1 := by
  have h1 := smE_in (P := fun v => (v = 268435456 ∨ v < 1000000) ∧ pc ≤ v) (ms := ms) (h := h) hs (k := ev) (e := 0) (a := 268435456) (by omega) ⟨Or.inl rfl, by omega⟩
  have h2 := lea_eq (ms := ms) (h := h) hR (k := ev) (e := 0) (a := 268435456) (by omega)
  rw [show phi 268435456 = 1000000 from rfl] at h2
  rw [h2]
  unfold surN
  by_cases q : smE c np ms h ev 0 268435456 < 268435456
  · have q2 : smE c np ms h ev 0 268435456 < 1000000 := by omega
    have e1 : phi (smE c np ms h ev 0 268435456) = smE c np ms h ev 0 268435456 := by unfold phi; omega
    rw [if_pos q, e1, if_pos q2, pk_sub h1.2]
  · have e1 : phi (smE c np ms h ev 0 268435456) = 1000000 := by unfold phi; omega
    rw [if_neg q, e1, if_neg (by omega)]
/-! the list of anchors -/
section
variable {pe : Nat → Nat}
theorem anL_hd : ∀ {k : Nat}, 0 < k → ∃ a l, anL pe k = a :: l ∧ pe a = pe k ∧ 1 ≤ a ∧ a ≤ k
  | 0, h => by omega
  | k + 1, _ => by
    unfold anL
    split
    · rename_i h
      obtain ⟨a, l, h1, h2, h3, h4⟩ := anL_hd h.1
      exact ⟨a, l, h1, h2.trans h.2.symm, h3, by omega⟩
    · split
      · exact ⟨k + 1, [], rfl, rfl, by omega, Nat.le_refl _⟩
      · split
        · exact ⟨k + 1, [], rfl, rfl, by omega, Nat.le_refl _⟩
        · exact ⟨k + 1, _, rfl, rfl, by omega, Nat.le_refl _⟩
/-- the anchors behind one are those that stood when it was dropped -/
theorem anL_drop : ∀ {k a : Nat} {l1 l2 : List Nat}, anL pe k = l1 ++ a :: l2 → anL pe a = a :: l2
  | 0, a, l1, l2, h => by cases l1 <;> simp [anL] at h
  | k + 1, a, l1, l2, h => by
    have hself : ∀ l, anL pe (k + 1) = l → l = l1 ++ a :: l2 → l1 = [] → anL pe a = a :: l2 := fun l h1 h2 h3 => by
      subst h3
      have : ∃ l3, l = (k + 1) :: l3 ∨ l = anL pe k := by
        rw [← h1, show anL pe (k + 1) = (if 0 < k ∧ pe (k + 1) = pe k then anL pe k else match anL pe k with | [] => [k + 1] | a :: l => if pe (k + 1) < pe a then [k + 1] else (k + 1) :: a :: l) from rfl]
        split
        · exact ⟨[], Or.inr rfl⟩
        · split
          · exact ⟨_, Or.inl rfl⟩
          · split
            · exact ⟨_, Or.inl rfl⟩
            · exact ⟨_, Or.inl rfl⟩
      obtain ⟨l3, q | q⟩ := this
      · rw [q] at h2
        simp only [List.nil_append, List.cons.injEq] at h2
        rw [← h2.1, h1, q, h2.1, h2.2]
      · exact anL_drop (l1 := []) (q.symm.trans h2)
    cases l1 with
    | nil => exact hself _ rfl h rfl
    | cons x l1 =>
      unfold anL at h
      split at h
      · exact anL_drop h
      · split at h
        · simp at h
        · rename_i b l hL
          split at h
          · simp at h
          · simp only [List.cons_append, List.cons.injEq] at h
            exact anL_drop (l1 := l1) (hL.trans h.2)
/-- events and notes rise along the anchors -/
theorem anL_inc : ∀ {k a b : Nat} {l1 l2 : List Nat}, anL pe k = l1 ++ a :: b :: l2 → pe b < pe a ∧ b < a
  | 0, a, b, l1, l2, h => by cases l1 <;> simp [anL] at h
  | k + 1, a, b, l1, l2, h => by
    unfold anL at h
    split at h
    · exact anL_inc h
    · rename_i hne
      split at h
      · cases l1 with
        | nil => simp at h
        | cons x l1 => simp at h
      · rename_i a0 l hL
        split at h
        · cases l1 with
          | nil => simp at h
          | cons x l1 => simp at h
        · rename_i hge
          cases l1 with
          | nil =>
            simp only [List.nil_append, List.cons.injEq] at h
            obtain ⟨h1, h2, h3⟩ := h
            subst h1 h2
            have hk0 : 0 < k := by
              cases k with
              | zero => simp [anL] at hL
              | succ k => omega
            obtain ⟨a1, l3, g1, g2, g3, g4⟩ := anL_hd (pe := pe) hk0
            rw [hL] at g1
            simp only [List.cons.injEq] at g1
            rw [← g1.1] at g2 g4
            refine ⟨?_, by omega⟩
            have : pe (k + 1) ≠ pe k := fun q => hne ⟨hk0, q⟩
            omega
          | cons x l1 =>
            simp only [List.cons_append, List.cons.injEq] at h
            exact anL_inc (l1 := l1) (hL.trans h.2)
end
end EQ6
