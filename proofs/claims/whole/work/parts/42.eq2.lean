section EQ2
/-- the costs alike: the class's row d, the model's c -/
def REL (np : Nat → Nat) (ev : Nat) (c d : Nat → Nat) : Prop := ∀ e, e < ev → ∀ b, b < 2 ^ np e → d (sumP np e + b) = phi (c (16 * e + b))
theorem le_mfold {g : Nat → Nat} {k i acc x : Nat} (h1 : x ≤ acc) (h2 : ∀ j, i ≤ j → j < i + k → x ≤ g j) : x ≤ mfold g k i acc := by
  rcases mfold_at (g := g) (k := k) (i := i) (acc := acc) with q | ⟨j, q1, q2, q3⟩
  · omega
  · have := h2 j q1 q2; omega
theorem ones_full {n : Nat} (hn : n ≤ 4) : ones (2 ^ n - 1) = n := by
  rcases (show n = 0 ∨ n = 1 ∨ n = 2 ∨ n = 3 ∨ n = 4 by omega) with rfl | rfl | rfl | rfl | rfl <;> rfl
section
variable {c d np mkN o a dd : Nat → Nat} {bh : Nat → Option Nat} {mk : Nat → Bool} {p2 p3 ev pe pb pc : Nat}
theorem REL.z (h : REL np ev c d) {e : Nat} (he : e < ev) : d (sumP np e) = phi (c (16 * e)) := h e he 0 (Nat.two_pow_pos _)
/-- where the model has come to is a solution of the class's -/
theorem bd_sol (hR : REL np ev c d) (hm4 : ∀ e, e < ev → np e ≤ 4) (hev : ev ≤ 100) (hB : BDF c np bh mk p2 p3 ev o) (hmk : ∀ e, e < ev → mkN e = 1 → mk e = true) (hpe : pe < ev) (hpb : pb < 2 ^ np pe) (hpc : c (16 * pe + pb) = pc) (hpN : pc < 268435456) : SolC d np mkN bh p2 (pc + p3) ev (fun e => phi (o (16 * e))) := by
  obtain ⟨⟨i1, i2, i3, i4⟩, hcl, all, ha1, ha2⟩ := hB
  have hob : ∀ e, e < ev → ∀ b, b < 2 ^ np e → b ≠ 0 → o (16 * e + b) = c (16 * e + b) := fun e he b hb hb0 => by
    have h4 := pw4 (hm4 e he)
    exact i2 _ (by omega) (fun e' he' => by omega)
  have hoc : ∀ e, e < ev → ∀ b, b < 2 ^ np e → o (16 * e + b) ≤ c (16 * e + b) := fun e he b hb => by
    by_cases q : b = 0
    · subst q; exact i3 e he
    · rw [hob e he b hb q]; exact Nat.le_refl _
  refine ⟨fun e he => ?_, fun e he t ht hs => ?_⟩
  · have h0 := hR.z he
    have h1 := i3 e he
    have h2 : phi (o (16 * e)) ≤ d (sumP np e) := by rw [h0]; unfold phi; omega
    unfold ar0
    by_cases q : mkN e = 1
    · rw [if_pos q]
      have h3 := ha1 pe hpe pb hpb
      have h4 := hoc pe hpe pb hpb
      have h5 := ha2 (by omega) e he (hmk e he q)
      have h6 : phi (o (16 * e)) ≤ o (16 * e) := by unfold phi; omega
      show phi (o (16 * e)) ≤ min (d (sumP np e)) (pc + p3)
      omega
    · rw [if_neg q]; exact h2
  · have hle : o (16 * t) ≤ lvE o p2 (np e) e := by
      rcases hs with rfl | q
      · exact (hcl e he).1 ht
      · exact (hcl e he).2 t q
    have h6 : phi (o (16 * t)) ≤ o (16 * t) := by unfold phi; omega
    have h7 : phi (o (16 * t)) ≤ 1000000 := by unfold phi; omega
    have hterm : ∀ b, b < 2 ^ np e → o (16 * e + b) < 268435456 → phi (o (16 * t)) ≤ o (16 * e + b) + p2 * ones (2 ^ np e - 1 - b) := fun b hb hN => by
      have := mfold_ge (g := fun b => if o (16 * e + b) < 268435456 then o (16 * e + b) + p2 * ones (2 ^ np e - 1 - b) else 268435456) (k := 2 ^ np e) (i := 0) (acc := 268435456) (j := b) (Nat.zero_le _) (by omega)
      simp only [if_pos hN] at this
      exact Nat.le_trans h6 (Nat.le_trans hle this)
    show phi (o (16 * t)) ≤ min (depF d np p2 e) (phi (o (16 * e)) + np e * p2)
    refine Nat.le_min.mpr ⟨?_, ?_⟩
    · unfold depF
      refine le_mfold h7 (fun b hb1 hb2 => ?_)
      have hb3 : b < 2 ^ np e := by have := Nat.two_pow_pos (np e); omega
      rw [hR e he b hb3, ← hob e he b hb3 (by omega)]
      by_cases q : o (16 * e + b) < 1000000
      · have := hterm b hb3 (by omega)
        have e1 : phi (o (16 * e + b)) = o (16 * e + b) := by unfold phi; omega
        rw [e1, Nat.mul_comm (ones (2 ^ np e - 1 - b)) p2]
        exact this
      · have e1 : phi (o (16 * e + b)) = 1000000 := by unfold phi; omega
        rw [e1]
        exact Nat.le_trans h7 (Nat.le_add_right _ _)
    · by_cases q : o (16 * e) < 1000000
      · have := hterm 0 (Nat.two_pow_pos _) (by rw [Nat.add_zero]; omega)
        rw [Nat.sub_zero, ones_full (hm4 e he), Nat.add_zero, Nat.mul_comm p2 (np e)] at this
        have e1 : phi (o (16 * e)) = o (16 * e) := by unfold phi; omega
        rw [e1]
        exact this
      · have e1 : phi (o (16 * e)) = 1000000 := by unfold phi; omega
        rw [e1]
        exact Nat.le_trans h7 (Nat.le_add_right _ _)
/-- a solution of the class's that lies above the place's cost is one of the model's -/
theorem sol_St {y : Nat → Nat} (hR : REL np ev c d) (hm4 : ∀ e, e < ev → np e ≤ 4) (hev : ev ≤ 100) (hmk : ∀ e, e < ev → mk e = true → mkN e = 1) (hbh : ∀ e, e < ev → ∀ b, bh e = some b → b < ev) (hmin : ∀ e, e < ev → ∀ b, b < 2 ^ np e → pc ≤ c (16 * e + b)) (hy : SolC d np mkN bh p2 (pc + p3) ev y) (hyc : ∀ e, e < ev → pc ≤ y e) : StY c np bh mk p2 p3 ev y := by
  have hd : ∀ e, e < ev → y e ≤ d (sumP np e) := fun e he => by
    have := hy.1 e he
    unfold ar0 at this
    split at this <;> omega
  refine ⟨fun e he => ?_, fun o ho hok e he => ?_⟩
  · have := hd e he
    rw [hR.z he] at this
    unfold phi at this
    omega
  · have hob : ∀ b, b < 2 ^ np e → b ≠ 0 → o (16 * e + b) = c (16 * e + b) := fun b hb hb0 => by
      have h4 := pw4 (hm4 e he)
      exact hok.1 _ (by omega) (fun e' he' => by omega)
    have hlv : ∀ t, t < ev → (t = e + 1 ∨ bh e = some t) → y t ≤ lvE o p2 (np e) e := fun t ht hs => by
      have h1 := hy.2 e he t ht hs
      have h2 : depF d np p2 e ≤ 1000000 := depF_le
      unfold lvE
      refine le_mfold (by omega) (fun b _ hb => ?_)
      have hb3 : b < 2 ^ np e := by omega
      by_cases q : o (16 * e + b) < 268435456
      · simp only [if_pos q]
        by_cases hb0 : b = 0
        · subst hb0
          rw [Nat.sub_zero, ones_full (hm4 e he), Nat.add_zero, Nat.mul_comm p2]
          have := hok.2 e he
          omega
        · rw [hob b hb3 hb0]
          have h3 : depF d np p2 e ≤ d (sumP np e + b) + ones (2 ^ np e - 1 - b) * p2 := mfold_ge (g := fun b => d (sumP np e + b) + ones (2 ^ np e - 1 - b) * p2) (by omega) (by omega)
          rw [hR e he b hb3] at h3
          have h4 : phi (c (16 * e + b)) ≤ c (16 * e + b) := by unfold phi; omega
          rw [Nat.mul_comm p2]
          omega
      · simp only [if_neg q]
        omega
    refine ⟨fun h => hlv _ h (Or.inl rfl), fun b hb => hlv b (hbh e he b hb) (Or.inr hb), fun b hb e' he' hm => ?_⟩
    have h1 := hy.1 e' he'
    unfold ar0 at h1
    rw [if_pos (hmk e' he' hm)] at h1
    have h2 : pc ≤ o (16 * e + b) := by
      by_cases hb0 : b = 0
      · subst hb0; exact Nat.le_trans (hyc e he) (hok.2 e he)
      · rw [hob b hb hb0]; exact hmin e he b hb
    omega
theorem sol_max {y : Nat → Nat} (hR : REL np ev c d) (hmin : ∀ e, e < ev → ∀ b, b < 2 ^ np e → pc ≤ c (16 * e + b)) (hpN : pc ≤ 1000000) (hy : SolC d np mkN bh p2 (pc + p3) ev y) : SolC d np mkN bh p2 (pc + p3) ev (fun e => max (y e) pc) := by
  have hph : ∀ e, e < ev → ∀ b, b < 2 ^ np e → pc ≤ phi (c (16 * e + b)) := fun e he b hb => by have := hmin e he b hb; unfold phi; omega
  refine ⟨fun e he => Nat.max_le.mpr ⟨hy.1 e he, ?_⟩, fun e he t ht hs => Nat.max_le.mpr ⟨?_, ?_⟩⟩
  · have := hph e he 0 (Nat.two_pow_pos _)
    rw [Nat.add_zero, ← hR.z he] at this
    unfold ar0
    split <;> omega
  · have := hy.2 e he t ht hs
    have h2 : y e ≤ max (y e) pc := Nat.le_max_left _ _
    exact Nat.le_trans this (Nat.le_min.mpr ⟨Nat.min_le_left _ _, Nat.le_trans (Nat.min_le_right _ _) (Nat.add_le_add_right h2 _)⟩)
  · refine Nat.le_min.mpr ⟨?_, Nat.le_trans (Nat.le_max_right _ _) (Nat.le_add_right _ _)⟩
    unfold depF
    refine le_mfold hpN (fun b hb1 hb2 => ?_)
    have hb3 : b < 2 ^ np e := by have := Nat.two_pow_pos (np e); omega
    rw [hR e he b hb3]
    exact Nat.le_trans (hph e he b hb3) (Nat.le_add_right _ _)
/-- the silent moves, both ways -/
theorem sil_eq (hR : REL np ev c d) (hm4 : ∀ e, e < ev → np e ≤ 4) (hev : ev ≤ 100) (hB : BDF c np bh mk p2 p3 ev o) (hmk : ∀ e, e < ev → (mkN e = 1 ↔ mk e = true)) (hbh : ∀ e, e < ev → ∀ b, bh e = some b → b < ev) (hpe : pe < ev) (hpb : pb < 2 ^ np pe) (hpc : c (16 * pe + pb) = pc) (hpN : pc < 1000000) (hmin : ∀ e, e < ev → ∀ b, b < 2 ^ np e → pc ≤ c (16 * e + b)) : ∀ e, e < ev → silA d a np mkN dd bh p2 (pc + p3) ev e = phi (o (16 * e)) := by
  have hX := bd_sol (mkN := mkN) hR hm4 hev hB (fun e he => (hmk e he).mp) hpe hpb hpc (by omega)
  have hf : ∀ e, e < ev → fil a (ar0 d np mkN (pc + p3)) ev e = ar0 d np mkN (pc + p3) e := fun e he => if_pos he
  refine psF_eq (X := fun e => phi (o (16 * e))) hX (fun y hy e he => ?_) (fun e he => if_pos he) (fun e he => by rw [hf e he]; exact hX.1 e he) (fun e he => by rw [hf e he]; exact Nat.le_refl _) (by omega)
  have h1 := sol_max hR hmin (by omega) hy
  have h2 := sol_St hR hm4 hev (fun e he => (hmk e he).mpr) hbh hmin h1 (fun e he => Nat.le_max_right _ _)
  have h3 := hB.1.2.2.2 _ h2 e he
  have h4 : y e ≤ max (y e) pc := Nat.le_max_left _ _
  have h5 := hy.1 e he
  have h6 := hR.z he
  unfold ar0 at h5
  show y e ≤ phi (o (16 * e))
  have h7 : d (sumP np e) ≤ 1000000 := by rw [h6]; unfold phi; omega
  have h8 : y e ≤ 1000000 := by split at h5 <;> omega
  unfold phi
  omega
end
/-! the note -/
theorem phi_le (v : Nat) : phi v ≤ 1000000 := Nat.min_le_right _ _
theorem phi_min {z v q : Nat} : min (phi z) (phi v + q) = phi (min z (v + q)) := by unfold phi; omega
theorem st_inj {np : Nat → Nat} {e e' b b' : Nat} (hb : b < 2 ^ np e) (hb' : b' < 2 ^ np e') (h : sumP np e + b = sumP np e' + b') : e = e' ∧ b = b' := by
  rcases Nat.lt_trichotomy e e' with q | q | q
  · have := sumP_lt (np := np) q; omega
  · subst q; omega
  · have := sumP_lt (np := np) q; omega
section
variable {X x np o : Nat → Nat} {ev e b xn v q : Nat}
theorem off_rel (hR : REL np ev X x) (hm4 : ∀ e, e < ev → np e ≤ 4) (he : e < ev) (hb : b < 2 ^ np e) (hs : sumP np e + b < xn) : REL np ev (cmF X (16 * e + b) (v + q)) (offN x xn (sumP np e + b) (phi v + q)) := by
  intro e' he' b' hb'
  unfold offN cmF
  rw [if_pos hs]
  have h4 := pw4 (hm4 e he)
  have h4' := pw4 (hm4 e' he')
  by_cases z : e = e' ∧ b = b'
  · obtain ⟨rfl, rfl⟩ := z
    rw [va_up_self, va_up_self, hR e he b hb]
    exact phi_min
  · rw [va_up_ne _ _ (fun w => z (by have := st_inj hb' hb w; exact ⟨this.1.symm, this.2.symm⟩)), va_up_ne _ _ (by omega)]
    exact hR e' he' b' hb'
theorem off_skip (hR : REL np ev X x) (he : e < ev) (hb : b < 2 ^ np e) : REL np ev X (offN x xn (sumP np e + b) (1000000 + q)) := by
  intro e' he' b' hb'
  unfold offN
  split
  · by_cases z : sumP np e' + b' = sumP np e + b
    · rw [z, va_up_self]
      obtain ⟨rfl, rfl⟩ := st_inj hb' hb z
      have := hR e' he' b' hb'
      rw [this]
      unfold phi
      omega
    · rw [va_up_ne _ _ z]; exact hR e' he' b' hb'
  · exact hR e' he' b' hb'
theorem cmF_sw {k v v' : Nat} : cmF (cmF X k v) k v' = cmF (cmF X k v') k v := by
  unfold cmF
  rw [va_uu, va_uu, va_up_self, va_up_self]
  congr 1
  omega
theorem rbF_none {xp : Nat → Int32} {no left : Nat} : ∀ {k i : Nat} {X : Nat → Nat}, (∀ j, i ≤ j → j < i + k → ¬ (left / 2 ^ j % 2 = 1 ∧ xp (4 * e + j) = nI no)) → rbF xp no e b left v k i X = X
  | 0, i, X, _ => rfl
  | k + 1, i, X, h => by
    unfold rbF
    rw [if_neg (h i (Nat.le_refl _) (by omega))]
    exact rbF_none (fun j h1 h2 => h j (by omega) (by omega))
theorem rbF_hit {xp : Nat → Int32} {no left i0 : Nat} : ∀ {k i : Nat} {X : Nat → Nat}, i ≤ i0 → i0 < i + k → (left / 2 ^ i0 % 2 = 1 ∧ xp (4 * e + i0) = nI no) → (∀ j, i ≤ j → j < i + k → j ≠ i0 → ¬ xp (4 * e + j) = nI no) → rbF xp no e b left v k i X = cmF X (16 * e + (b ||| 2 ^ i0)) v
  | 0, i, X, h1, h2, _, _ => by omega
  | k + 1, i, X, h1, h2, h3, h4 => by
    unfold rbF
    by_cases z : i = i0
    · subst z
      rw [if_pos h3]
      exact rbF_none (fun j g1 g2 g3 => h4 j (by omega) (by omega) (by omega) g3.2)
    · rw [if_neg (fun g => h4 i (Nat.le_refl _) (by omega) z g.2)]
      exact rbF_hit (by omega) (by omega) h3 (fun j g1 g2 => h4 j (by omega) (by omega))
theorem bit_un {n b i : Nat} (hn : n ≤ 4) (hb : b < 2 ^ n) (hi : i < n) : ((2 ^ n - 1 - b) / 2 ^ i % 2 = 1 ↔ b &&& 2 ^ i = 0) ∧ b ||| 2 ^ i < 2 ^ n := by
  have h4 := pw4 hn
  have : ∀ n : Fin 5, ∀ b : Fin 16, ∀ i : Fin 4, b.1 < 2 ^ n.1 → i.1 < n.1 → ((2 ^ n.1 - 1 - b.1) / 2 ^ i.1 % 2 = 1 ↔ b.1 &&& 2 ^ i.1 = 0) ∧ b.1 ||| 2 ^ i.1 < 2 ^ n.1 := by decide +kernel
  exact this ⟨n, by omega⟩ ⟨b, by omega⟩ ⟨i, by omega⟩ hb hi
end
end EQ2
