section EQ
/-- the model's numbers as the class holds them -/
def phi (v : Nat) : Nat := min v 1000000
/-- y stays below what the class's silent moves bring -/
def SolC (d np mkN : Nat → Nat) (bh : Nat → Option Nat) (pL jump ev : Nat) (y : Nat → Nat) : Prop := (∀ e, e < ev → y e ≤ ar0 d np mkN jump e) ∧ ∀ e, e < ev → ∀ t, t < ev → (t = e + 1 ∨ bh e = some t) → y t ≤ min (depF d np pL e) (y e + np e * pL)
section
variable {a a' dd np : Nat → Nat} {bh : Nat → Option Nat} {pL ev e k c t : Nat} {ch : Bool}
theorem arrP_dn : ∀ j, arrP a ev t c j ≤ a j := by
  intro j
  unfold arrP
  split
  · rename_i h
    by_cases q : j = t
    · subst q; rw [va_up_self]; exact Nat.le_of_lt h.2
    · rw [va_up_ne _ _ q]; exact Nat.le_refl _
  · exact Nat.le_refl _
theorem arrP_at (ht : t < ev) : arrP a ev t c t ≤ c := by
  unfold arrP
  split
  · rw [va_up_self]; exact Nat.le_refl _
  · rename_i h; omega
theorem arrP_ne {j : Nat} (h : j ≠ t) : arrP a ev t c j = a j := by
  unfold arrP
  split
  · exact va_up_ne _ _ h
  · rfl
theorem wkS_dn : ∀ j, (wkS dd np bh pL ev e a ch).1 j ≤ a j := by
  intro j
  unfold wkS
  split
  · exact arrP_dn j
  · exact Nat.le_trans (arrP_dn j) (arrP_dn j)
theorem wkF_dn : ∀ {k e : Nat} {a : Nat → Nat} {ch : Bool}, ∀ j, (wkF dd np bh pL ev k e a ch).1 j ≤ a j
  | 0, e, a, ch => fun _ => Nat.le_refl _
  | k + 1, e, a, ch => fun j => by unfold wkF; exact Nat.le_trans (wkF_dn j) (wkS_dn j)
/-- what one event sends on -/
theorem wkS_at (ht : t < ev) (hs : t = e + 1 ∨ bh e = some t) : (wkS dd np bh pL ev e a ch).1 t ≤ min (dd e) (a e + np e * pL) := by
  unfold wkS
  split
  · rename_i h
    rcases hs with rfl | q
    · exact arrP_at ht
    · rw [h] at q; cases q
  · rename_i b h
    rcases hs with rfl | q
    · exact Nat.le_trans (arrP_dn _) (arrP_at ht)
    · rw [h] at q; cases q; exact arrP_at ht
/-- a pass: every event sends on what it held when its turn came -/
theorem wkF_at : ∀ {k e0 : Nat} {a : Nat → Nat} {ch : Bool}, e0 ≤ e → e < e0 + k → t < ev → (t = e + 1 ∨ bh e = some t) → ∃ v, (wkF dd np bh pL ev k e0 a ch).1 e ≤ v ∧ v ≤ a e ∧ (wkF dd np bh pL ev k e0 a ch).1 t ≤ min (dd e) (v + np e * pL)
  | 0, e0, a, ch, h1, h2, _, _ => by omega
  | k + 1, e0, a, ch, h1, h2, ht, hs => by
    unfold wkF
    by_cases q : e0 = e
    · subst q
      exact ⟨a e0, Nat.le_trans (wkF_dn _) (wkS_dn _), Nat.le_refl _, Nat.le_trans (wkF_dn _) (wkS_at ht hs)⟩
    · obtain ⟨v, g1, g2, g3⟩ := wkF_at (k := k) (e0 := e0 + 1) (a := (wkS dd np bh pL ev e0 a ch).1) (ch := (wkS dd np bh pL ev e0 a ch).2) (by omega) (by omega) ht hs
      exact ⟨v, g1, Nat.le_trans g2 (wkS_dn _), g3⟩
/-- solutions stay below -/
theorem wkF_ge {y : Nat → Nat} (hy : ∀ e, e < ev → ∀ t, t < ev → (t = e + 1 ∨ bh e = some t) → y t ≤ min (dd e) (y e + np e * pL)) : ∀ {k e0 : Nat} {a : Nat → Nat} {ch : Bool}, e0 + k ≤ ev → (∀ j, j < ev → y j ≤ a j) → ∀ j, j < ev → y j ≤ (wkF dd np bh pL ev k e0 a ch).1 j
  | 0, e0, a, ch, _, h => h
  | k + 1, e0, a, ch, hk, h => by
    unfold wkF
    refine wkF_ge hy (by omega) (fun j hj => ?_)
    have hL : ∀ t, t < ev → (t = e0 + 1 ∨ bh e0 = some t) → y t ≤ min (dd e0) (a e0 + np e0 * pL) := fun t ht hs => by
      have := hy e0 (by omega) t ht hs
      have := h e0 (by omega)
      omega
    have hA : ∀ (a1 : Nat → Nat) t, (∀ j, j < ev → y j ≤ a1 j) → (t = e0 + 1 ∨ bh e0 = some t) → ∀ j, j < ev → y j ≤ arrP a1 ev t (min (dd e0) (a e0 + np e0 * pL)) j := fun a1 t h1 hs j hj => by
      by_cases q : j = t
      · subst q
        unfold arrP
        split
        · rw [va_up_self]; exact hL j hj hs
        · exact h1 j hj
      · rw [arrP_ne q]; exact h1 j hj
    unfold wkS
    split
    · exact hA _ _ h (Or.inl rfl) j hj
    · rename_i b hb
      exact hA _ _ (hA _ _ h (Or.inl rfl)) (Or.inr hb) j hj
/-- a pass that finds nothing to bring back leaves what lies behind as it was -/
theorem wkF_quiet : ∀ {k e0 : Nat} {a : Nat → Nat} {ch : Bool}, (wkF dd np bh pL ev k e0 a ch).2 = false → ch = false ∧ ∀ j, j ≤ e0 → (wkF dd np bh pL ev k e0 a ch).1 j = a j
  | 0, e0, a, ch, h => ⟨h, fun _ _ => rfl⟩
  | k + 1, e0, a, ch, h => by
    unfold wkF at h ⊢
    obtain ⟨h1, h2⟩ := wkF_quiet h
    unfold wkS at h1 h2 ⊢
    split at h1
    · rename_i hb
      simp only [hb] at h2 ⊢
      exact ⟨h1, fun j hj => (h2 j (by omega)).trans (arrP_ne (by omega))⟩
    · rename_i b hb
      simp only [hb] at h2 ⊢
      simp only [Bool.or_eq_false_iff, decide_eq_false_iff_not] at h1
      refine ⟨h1.1, fun j hj => (h2 j (by omega)).trans ?_⟩
      have : arrP (arrP a ev (e0 + 1) (min (dd e0) (a e0 + np e0 * pL))) ev b (min (dd e0) (a e0 + np e0 * pL)) = arrP a ev (e0 + 1) (min (dd e0) (a e0 + np e0 * pL)) := by
        rw [arrP, if_neg h1.2]
      rw [this]
      exact arrP_ne (by omega)
theorem wkF_closed : ∀ {k e0 : Nat} {a : Nat → Nat} {ch : Bool}, (wkF dd np bh pL ev k e0 a ch).2 = false → e0 ≤ e → e < e0 + k → t < ev → (t = e + 1 ∨ bh e = some t) → (wkF dd np bh pL ev k e0 a ch).1 t ≤ min (dd e) ((wkF dd np bh pL ev k e0 a ch).1 e + np e * pL)
  | 0, e0, a, ch, _, h1, h2, _, _ => by omega
  | k + 1, e0, a, ch, h, h1, h2, ht, hs => by
    by_cases q : e0 = e
    · subst q
      have hq := (wkF_quiet h).2 e0 (Nat.le_refl _)
      rw [hq]
      unfold wkF
      exact Nat.le_trans (wkF_dn _) (wkS_at ht hs)
    · unfold wkF at h ⊢
      exact wkF_closed h (by omega) (by omega) ht hs
end
/-- where all have come to their end a pass finds nothing -/
theorem wkF_still {dd np X : Nat → Nat} {bh : Nat → Option Nat} {pL ev : Nat} (hX : ∀ e, e < ev → ∀ t, t < ev → (t = e + 1 ∨ bh e = some t) → X t ≤ min (dd e) (X e + np e * pL)) : ∀ {k e0 : Nat} {a : Nat → Nat}, e0 + k ≤ ev → (∀ e, e < ev → a e = X e) → (wkF dd np bh pL ev k e0 a false).2 = false
  | 0, e0, a, _, _ => rfl
  | k + 1, e0, a, hk, h => by
    have hL : ∀ t, t < ev → (t = e0 + 1 ∨ bh e0 = some t) → a t ≤ min (dd e0) (a e0 + np e0 * pL) := fun t ht hs => by rw [h t ht, h e0 (by omega)]; exact hX e0 (by omega) t ht hs
    have h1 : arrP a ev (e0 + 1) (min (dd e0) (a e0 + np e0 * pL)) = a := by
      rw [arrP, if_neg]
      rintro ⟨q1, q2⟩
      have := hL _ q1 (Or.inl rfl)
      omega
    unfold wkF
    have h2 : wkS dd np bh pL ev e0 a false = (a, false) := by
      unfold wkS
      rw [h1]
      split
      · rfl
      · rename_i b hb
        have h3 : ¬ (b < ev ∧ min (dd e0) (a e0 + np e0 * pL) < a b) := by
          rintro ⟨q1, q2⟩
          have := hL _ q1 (Or.inr hb)
          omega
        rw [arrP, if_neg h3, decide_eq_false h3]
        rfl
    rw [h2]
    exact wkF_still hX (by omega) h
/-- how many events have come to their end -/
def cntE (X a : Nat → Nat) : Nat → Nat
  | 0 => 0
  | n + 1 => cntE X a n + (if a n = X n then 1 else 0)
theorem cntE_le {X a : Nat → Nat} : ∀ {n : Nat}, cntE X a n ≤ n
  | 0 => Nat.le_refl _
  | n + 1 => by have := cntE_le (X := X) (a := a) (n := n); simp only [cntE]; split <;> omega
theorem cntE_mono {X a a' : Nat → Nat} : ∀ {n : Nat}, (∀ e, e < n → a e = X e → a' e = X e) → cntE X a n ≤ cntE X a' n ∧ (cntE X a' n ≤ cntE X a n → ∀ e, e < n → a' e = X e → a e = X e)
  | 0, _ => ⟨Nat.le_refl _, fun _ e he => by omega⟩
  | n + 1, h => by
    obtain ⟨h1, h2⟩ := cntE_mono (X := X) (a := a) (a' := a') (n := n) (fun e he => h e (by omega))
    have h3 := h n (by omega)
    simp only [cntE]
    by_cases q : a n = X n
    · rw [if_pos q, if_pos (h3 q)]
      refine ⟨by omega, fun hc e he hx => ?_⟩
      by_cases z : e = n
      · rw [z]; exact q
      · exact h2 (by omega) e (by omega) hx
    · rw [if_neg q]
      by_cases q2 : a' n = X n
      · rw [if_pos q2]
        exact ⟨by omega, fun hc => by omega⟩
      · rw [if_neg q2]
        refine ⟨by omega, fun hc e he hx => ?_⟩
        by_cases z : e = n
        · rw [z] at hx; exact absurd hx q2
        · exact h2 (by omega) e (by omega) hx
section
variable {d np mkN dd X : Nat → Nat} {bh : Nat → Option Nat} {pL jump ev : Nat}
/-- passes come to the greatest solution -/
theorem psF_eq (hX : SolC d np mkN bh pL jump ev X) (hG : ∀ y, SolC d np mkN bh pL jump ev y → ∀ e, e < ev → y e ≤ X e) (hdd : ∀ e, e < ev → dd e = depF d np pL e) : ∀ {k : Nat} {a : Nat → Nat}, (∀ e, e < ev → X e ≤ a e) → (∀ e, e < ev → a e ≤ ar0 d np mkN jump e) → ev < cntE X a ev + k → ∀ e, e < ev → psF dd np bh pL ev k a e = X e
  | 0, a, h1, h2, h3 => fun e he => by have := cntE_le (X := X) (a := a) (n := ev); omega
  | k + 1, a, h1, h2, h3 => by
    have hXd : ∀ e, e < ev → ∀ t, t < ev → (t = e + 1 ∨ bh e = some t) → X t ≤ min (dd e) (X e + np e * pL) := fun e he t ht hs => by rw [hdd e he]; exact hX.2 e he t ht hs
    have hge : ∀ j, j < ev → X j ≤ (wkF dd np bh pL ev ev 0 a false).1 j := wkF_ge hXd (by omega) h1
    have hle : ∀ j, (wkF dd np bh pL ev ev 0 a false).1 j ≤ a j := wkF_dn
    unfold psF
    by_cases hc : (wkF dd np bh pL ev ev 0 a false).2 = true
    · rw [if_pos hc]
      obtain ⟨m1, m2⟩ := cntE_mono (X := X) (a := a) (a' := (wkF dd np bh pL ev ev 0 a false).1) (n := ev) (fun e he q => by have := hge e he; have := hle e; omega)
      refine psF_eq hX hG hdd hge (fun e he => Nat.le_trans (hle e) (h2 e he)) ?_
      apply Decidable.byContradiction
      intro hcon
      have hno := m2 (by omega)
      -- then all have come to their end
      have hall : ∀ e, e < ev → a e = X e := by
        have hy : SolC d np mkN bh pL jump ev (fun e => if a e = X e then X e else X e + 1) := by
          refine ⟨fun e he => ?_, fun e he t ht hs => ?_⟩
          · by_cases q : a e = X e
            · simp only [if_pos q]; exact hX.1 e he
            · simp only [if_neg q]
              have := h1 e he
              have := h2 e he
              omega
          · obtain ⟨v, g1, g2, g3⟩ := wkF_at (dd := dd) (np := np) (bh := bh) (pL := pL) (ev := ev) (k := ev) (e0 := 0) (a := a) (ch := false) (Nat.zero_le e) (by omega) ht hs
            rw [hdd e he] at g3
            have hyt : (if a t = X t then X t else X t + 1) ≤ (wkF dd np bh pL ev ev 0 a false).1 t := by
              have := hge t ht
              by_cases q : a t = X t
              · rw [if_pos q]; exact this
              · rw [if_neg q]
                have hne : (wkF dd np bh pL ev ev 0 a false).1 t ≠ X t := fun z => q (hno t ht z)
                omega
            show (if a t = X t then X t else X t + 1) ≤ min (depF d np pL e) ((if a e = X e then X e else X e + 1) + np e * pL)
            by_cases q : a e = X e
            · rw [if_pos q]
              have hv : v = X e := by have := hge e he; omega
              rw [hv] at g3
              omega
            · rw [if_neg q]
              have := hX.2 e he t ht hs
              have hyt2 : (if a t = X t then X t else X t + 1) ≤ X t + 1 := by split <;> omega
              omega
        intro e he
        have := hG _ hy e he
        by_cases q : a e = X e
        · exact q
        · simp only [if_neg q] at this; omega
      -- and the pass had nothing to change
      have hq : (wkF dd np bh pL ev ev 0 a false).2 = false := wkF_still (X := X) hXd (by omega) (fun e he => hall e he)
      rw [hq] at hc
      cases hc
    · have hc : (wkF dd np bh pL ev ev 0 a false).2 = false := by simpa using hc
      rw [if_neg (by rw [hc]; decide)]
      intro e he
      have hs : SolC d np mkN bh pL jump ev (wkF dd np bh pL ev ev 0 a false).1 := ⟨fun e he => Nat.le_trans (hle e) (h2 e he), fun e he t ht hs => by rw [← hdd e he]; exact wkF_closed hc (Nat.zero_le e) (by omega) ht hs⟩
      have := hG _ hs e he
      have := hge e he
      omega
end
end EQ
