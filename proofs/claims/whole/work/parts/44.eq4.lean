section EQ4
/-- costs that can be reached are small -/
def BN (np : Nat → Nat) (ev : Nat) (X : Nat → Nat) (B : Nat) : Prop := ∀ e, e < ev → ∀ b, b < 2 ^ np e → X (16 * e + b) = 268435456 ∨ X (16 * e + b) ≤ 200 * e + B
section
variable {o X x np p c d : Nat → Nat} {xp f : Nat → Int32} {bh : Nat → Option Nat} {mk : Nat → Bool} {ev e b n no B v k p2 p3 nt : Nat}
theorem cm_bn (h : BN np ev X B) (hm4 : ∀ e, e < ev → np e ≤ 4) (hb : b < 16) (hv : v ≤ 200 * e + B) : BN np ev (cmF X (16 * e + b) v) B := by
  intro e' he' b' hb'
  have h4 := pw4 (hm4 e' he')
  by_cases z : 16 * e' + b' = 16 * e + b
  · have he : e' = e := by omega
    rw [z]
    unfold cmF
    rw [va_up_self, he]
    right
    omega
  · rw [cm_lo z]; exact h e' he' b' hb'
theorem rb_bn (hm4 : ∀ e, e < ev → np e ≤ 4) (hb : b < 16) (hn : n ≤ 4) (hv : v ≤ 200 * e + B) {left : Nat} : ∀ {k i : Nat} {X : Nat → Nat}, i + k ≤ n → BN np ev X B → BN np ev (rbF xp no e b left v k i X) B
  | 0, i, X, _, h => h
  | k + 1, i, X, hk, h => by
    unfold rbF
    refine rb_bn hm4 hb hn hv (by omega) ?_
    split
    · have h2i : 2 ^ i < 2 ^ 4 := Nat.pow_lt_pow_right (by decide) (by omega)
      exact cm_bn h hm4 (Nat.or_lt_two_pow (n := 4) (by omega) h2i) hv
    · exact h
theorem hbS_bn (h : BN np ev X B) (hm4 : ∀ e, e < ev → np e ≤ 4) (hn : n ≤ 4) (hb : b < 2 ^ n) (hp : ∀ j, p j ≤ 50) (ho : o (16 * e + b) = 268435456 ∨ o (16 * e + b) + 50 ≤ 200 * e + B) {orn : Bool} : BN np ev (hbS o xp p orn n no e b X) B := by
  have h4 := pw4 hn
  have hb16 : b < 16 := by omega
  unfold hbS
  by_cases hv : o (16 * e + b) < 268435456
  · rw [if_pos hv]
    have ho2 : o (16 * e + b) + 50 ≤ 200 * e + B := by omega
    have h0 := hp 0
    have h1 := hp 1
    have c1 := cm_bn (e := e) (v := o (16 * e + b) + p 1) h hm4 hb16 (by omega)
    split
    · have c2 : BN np ev (if nearB (nI no - xp (4 * e)) then cmF (cmF X (16 * e + b) (o (16 * e + b) + p 1)) (16 * e + 1) (o (16 * e + b)) else cmF X (16 * e + b) (o (16 * e + b) + p 1)) B := by
        split
        · exact cm_bn c1 hm4 (by omega) (by omega)
        · exact c1
      split
      · exact cm_bn c2 hm4 (by omega) (by omega)
      · exact c2
    · refine rb_bn hm4 hb16 hn (by omega) (by omega) ?_
      split
      · exact c1
      · rename_i hl
        have := (lowb hn hb hl).2.2.2
        exact cm_bn c1 hm4 (by omega) (by omega)
  · rw [if_neg hv]; exact h
theorem hbF_bn (hm4 : ∀ e, e < ev → np e ≤ 4) (hn : n ≤ 4) (hp : ∀ j, p j ≤ 50) {orn : Bool} (ho : ∀ b, b < 2 ^ n → o (16 * e + b) = 268435456 ∨ o (16 * e + b) + 50 ≤ 200 * e + B) : ∀ {k b : Nat} {X : Nat → Nat}, b + k ≤ 2 ^ n → BN np ev X B → BN np ev (hbF o xp p orn n no e k b X) B
  | 0, b, X, _, h => h
  | k + 1, b, X, hk, h => by
    unfold hbF
    exact hbF_bn hm4 hn hp ho (by omega) (hbS_bn h hm4 hn (by omega) hp (ho b (by omega)))
theorem heF_bn {xk : Nat → Nat} (hm4 : ∀ e, e < ev → np e ≤ 4) (hp : ∀ j, p j ≤ 50) (ho : ∀ e, e < ev → ∀ b, b < 2 ^ np e → o (16 * e + b) = 268435456 ∨ o (16 * e + b) + 50 ≤ 200 * e + B) : ∀ {k e : Nat} {X : Nat → Nat}, e + k ≤ ev → BN np ev X B → BN np ev (heF o xk np xp p no k e X) B
  | 0, e, X, _, h => h
  | k + 1, e, X, hk, h => by
    unfold heF
    exact heF_bn hm4 hp ho (by omega) (hbF_bn hm4 (hm4 e (by omega)) hp (ho e (by omega)) (by omega) h)
/-- costs only fall -/
theorem cm_dn {j : Nat} : cmF X k v j ≤ X j := by
  by_cases z : j = k
  · subst z; unfold cmF; rw [va_up_self]; exact Nat.min_le_left _ _
  · rw [cm_lo z]; exact Nat.le_refl _
theorem rb_dn {left j : Nat} : ∀ {k i : Nat} {X : Nat → Nat}, rbF xp no e b left v k i X j ≤ X j
  | 0, i, X => Nat.le_refl _
  | k + 1, i, X => by
    unfold rbF
    refine Nat.le_trans rb_dn ?_
    split
    · exact cm_dn
    · exact Nat.le_refl _
theorem hbS_dn {orn : Bool} {j : Nat} : hbS o xp p orn n no e b X j ≤ X j := by
  unfold hbS
  split
  · split
    · split
      · refine Nat.le_trans cm_dn ?_
        split
        · exact Nat.le_trans cm_dn cm_dn
        · exact cm_dn
      · split
        · exact Nat.le_trans cm_dn cm_dn
        · exact cm_dn
    · refine Nat.le_trans rb_dn ?_
      split
      · exact cm_dn
      · exact Nat.le_trans cm_dn cm_dn
  · exact Nat.le_refl _
theorem hbS_at (hv : o (16 * e + b) < 268435456) {orn : Bool} : hbS o xp p orn n no e b X (16 * e + b) ≤ o (16 * e + b) + p 1 := by
  have h1 : cmF X (16 * e + b) (o (16 * e + b) + p 1) (16 * e + b) ≤ o (16 * e + b) + p 1 := by unfold cmF; rw [va_up_self]; exact Nat.min_le_right _ _
  unfold hbS
  rw [if_pos hv]
  split
  · split
    · refine Nat.le_trans cm_dn ?_
      split
      · exact Nat.le_trans cm_dn h1
      · exact h1
    · split
      · exact Nat.le_trans cm_dn h1
      · exact h1
  · refine Nat.le_trans rb_dn ?_
    split
    · exact h1
    · exact Nat.le_trans cm_dn h1
theorem hbF_dn {orn : Bool} {j : Nat} : ∀ {k b : Nat} {X : Nat → Nat}, hbF o xp p orn n no e k b X j ≤ X j
  | 0, b, X => Nat.le_refl _
  | k + 1, b, X => by unfold hbF; exact Nat.le_trans hbF_dn hbS_dn
theorem heF_dn {xk : Nat → Nat} {j : Nat} : ∀ {k e : Nat} {X : Nat → Nat}, heF o xk np xp p no k e X j ≤ X j
  | 0, e, X => Nat.le_refl _
  | k + 1, e, X => by unfold heF; exact Nat.le_trans heF_dn hbF_dn
theorem heF_00 {xk : Nat → Nat} (hev : 0 < ev) (h0 : o 0 < 268435456) : heF o xk np xp p no ev 0 X 0 ≤ o 0 + p 1 := by
  obtain ⟨k, rfl⟩ : ∃ k, ev = k + 1 := ⟨ev - 1, by omega⟩
  unfold heF
  refine Nat.le_trans heF_dn ?_
  obtain ⟨k2, hk2⟩ : ∃ k2, 2 ^ np 0 = k2 + 1 := ⟨2 ^ np 0 - 1, by have := Nat.two_pow_pos (np 0); omega⟩
  rw [hk2]
  unfold hbF
  refine Nat.le_trans hbF_dn ?_
  exact hbS_at (e := 0) (b := 0) h0
/-- behind the silent moves every event can be reached -/
theorem bd_bn (hB : BDF c np bh mk p2 p3 ev o) (hm4 : ∀ e, e < ev → np e ≤ 4) (hp2 : p2 ≤ 50) (hc : BN np ev c (50 * nt)) (h0 : c 0 ≤ 50 * nt) (hnt : nt ≤ 400) (hev : ev ≤ 100) : (∀ e, e < ev → o (16 * e) ≤ 200 * e + 50 * nt) ∧ BN np ev o (50 * nt) := by
  obtain ⟨⟨i1, i2, i3, i4⟩, hcl, -⟩ := hB
  have h1 : ∀ e, e < ev → o (16 * e) ≤ 200 * e + 50 * nt := by
    intro e
    induction e with
    | zero => intro he; have := i3 0 he; simp only [Nat.mul_zero] at this ⊢; omega
    | succ e ih =>
      intro he
      have h1 := ih (by omega)
      have h2 := (hcl e (by omega)).1 he
      have h3 : lvE o p2 (np e) e ≤ o (16 * e) + p2 * np e := by
        have := mfold_ge (g := fun b => if o (16 * e + b) < 268435456 then o (16 * e + b) + p2 * ones (2 ^ np e - 1 - b) else 268435456) (k := 2 ^ np e) (i := 0) (acc := 268435456) (j := 0) (Nat.zero_le _) (by have := Nat.two_pow_pos (np e); omega)
        simp only [Nat.add_zero, Nat.sub_zero] at this
        rw [if_pos (by omega), ones_full (hm4 e (by omega))] at this
        exact this
      have h4 : p2 * np e ≤ 50 * 4 := Nat.mul_le_mul hp2 (hm4 e (by omega))
      omega
  refine ⟨h1, fun e he b hb => ?_⟩
  by_cases q : b = 0
  · subst q; right; exact h1 e he
  · have h4 := pw4 (hm4 e he)
    rw [i2 _ (by omega) (fun e' he' => by omega)]
    exact hc e he b hb
/-! the place -/
def RTp (t T : Nat × Nat × Nat) : Prop := t.1 = phi T.1 ∧ t.2 = T.2 ∧ (T.1 = 268435456 ∨ T.1 < 1000000)
theorem fp_fold {fs : Nat} : ∀ {k b : Nat} {t T : Nat × Nat × Nat}, (∀ j, b ≤ j → j < b + k → x (fs + j) = phi (X (16 * e + j)) ∧ (X (16 * e + j) = 268435456 ∨ X (16 * e + j) < 1000000)) → RTp t T → RTp (fpF x fs e k b t) (fpF X (16 * e) e k b T)
  | 0, b, t, T, _, h => h
  | k + 1, b, t, T, hx, h => by
    unfold fpF
    refine fp_fold (fun j h1 h2 => hx j (by omega) (by omega)) ?_
    obtain ⟨h1, h2⟩ := hx b (Nat.le_refl _) (by omega)
    obtain ⟨g1, g2, g3⟩ := h
    unfold fpS
    by_cases q : X (16 * e + b) < T.1
    · have q2 : x (fs + b) < t.1 := by rw [h1, g1]; unfold phi; omega
      rw [if_pos q, if_pos q2]
      exact ⟨h1, rfl, h2⟩
    · have q2 : ¬ x (fs + b) < t.1 := by rw [h1, g1]; unfold phi; omega
      rw [if_neg q, if_neg q2]
      exact ⟨g1, g2, g3⟩
theorem fpF_min {fs : Nat} : ∀ {k b : Nat} {T : Nat × Nat × Nat}, (fpF X fs e k b T).1 ≤ T.1 ∧ ∀ j, b ≤ j → j < b + k → (fpF X fs e k b T).1 ≤ X (fs + j)
  | 0, b, T => ⟨Nat.le_refl _, fun j h1 h2 => by omega⟩
  | k + 1, b, T => by
    unfold fpF
    obtain ⟨h1, h2⟩ := fpF_min (fs := fs) (k := k) (b := b + 1) (T := fpS X fs e b T)
    have h3 : (fpS X fs e b T).1 ≤ T.1 ∧ (fpS X fs e b T).1 ≤ X (fs + b) := by
      unfold fpS
      split
      · exact ⟨by simp only; omega, Nat.le_refl _⟩
      · exact ⟨Nat.le_refl _, by omega⟩
    refine ⟨by omega, fun j g1 g2 => ?_⟩
    by_cases z : j = b
    · subst z; omega
    · exact h2 j (by omega) (by omega)
theorem fpF_at {P : Nat × Nat × Nat → Prop} {fs : Nat} : ∀ {k b : Nat} {T : Nat × Nat × Nat}, (∀ j, b ≤ j → j < b + k → P (X (fs + j), e, j)) → P T → P (fpF X fs e k b T)
  | 0, b, T, _, h => h
  | k + 1, b, T, hx, h => by
    unfold fpF
    refine fpF_at (fun j h1 h2 => hx j (by omega) (by omega)) ?_
    unfold fpS
    split
    · exact hx b (Nat.le_refl _) (by omega)
    · exact h
theorem fpE_min : ∀ {k e : Nat} {T : Nat × Nat × Nat}, (fpE X np k e T).1 ≤ T.1 ∧ ∀ e', e ≤ e' → e' < e + k → ∀ b, b < 2 ^ np e' → (fpE X np k e T).1 ≤ X (16 * e' + b)
  | 0, e, T => ⟨Nat.le_refl _, fun j h1 h2 => by omega⟩
  | k + 1, e, T => by
    unfold fpE
    obtain ⟨h1, h2⟩ := fpE_min (k := k) (e := e + 1) (T := fpF X (16 * e) e (2 ^ np e) 0 T)
    obtain ⟨h3, h4⟩ := fpF_min (X := X) (e := e) (fs := 16 * e) (k := 2 ^ np e) (b := 0) (T := T)
    refine ⟨by omega, fun e' g1 g2 b hb => ?_⟩
    by_cases z : e' = e
    · subst z; exact Nat.le_trans h1 (h4 b (Nat.zero_le _) (by omega))
    · exact h2 e' (by omega) (by omega) b hb
theorem fpE_at {P : Nat × Nat × Nat → Prop} : ∀ {k e : Nat} {T : Nat × Nat × Nat}, (∀ e', e ≤ e' → e' < e + k → ∀ b, b < 2 ^ np e' → P (X (16 * e' + b), e', b)) → P T → P (fpE X np k e T)
  | 0, e, T, _, h => h
  | k + 1, e, T, hx, h => by
    unfold fpE
    exact fpE_at (fun e' h1 h2 => hx e' (by omega) (by omega)) (fpF_at (fun j h1 h2 => hx e (Nat.le_refl _) (by omega) j (by omega)) h)
end
/-- all events take the note: costs and place alike -/
theorem ev_eq {o np p d A xk : Nat → Nat} {f xp : Nat → Int32} {ev xn no : Nat} (hm4 : ∀ e, e < ev → np e ≤ 4) (hxn : sumP np ev ≤ xn) (hK : ∀ e, e < ev → EvK f xp (xk e) (np e) e) (hno : no < 128) (hoN : ∀ j, o j ≤ 268435456) (hc : ∀ e, e < ev → ∀ b, b < 2 ^ np e → tnC d (sumP np e) (A e) b = phi (o (16 * e + b))) : ∀ {k e : Nat} {X x : Nat → Nat} {t T : Nat × Nat × Nat}, e + k = ev → REL np ev X x → RTp t T → (∀ e1, e1 < ev → ∀ b, b < 2 ^ np e1 → heF o xk np xp p no k e X (16 * e1 + b) = 268435456 ∨ heF o xk np xp p no k e X (16 * e1 + b) < 1000000) → REL np ev (heF o xk np xp p no k e X) (evF d A np (fun e => riB f e no (xk e) (np e)) (fun e => decide (xk e = 2)) xn (p 1) (p 0) k e (x, t)).1 ∧ RTp (evF d A np (fun e => riB f e no (xk e) (np e)) (fun e => decide (xk e = 2)) xn (p 1) (p 0) k e (x, t)).2 (fpE (heF o xk np xp p no k e X) np k e T)
  | 0, e, X, x, t, T, _, h1, h2, _ => ⟨h1, h2⟩
  | k + 1, e, X, x, t, T, hk, h1, h2, hF => by
    have he : e < ev := by omega
    have h4 := pw4 (hm4 e he)
    have hr := tn_fold (p := p) (A := A) hm4 he rfl (Nat.le_trans (sumP_lt he) hxn) (hK e he) hno (fun b _ => hoN _) (hc e he) (k := 2 ^ np e) (b := 0) (by omega) h1
    unfold heF at hF ⊢
    unfold evF evS fpE
    refine ev_eq hm4 hxn hK hno hoN hc (by omega) hr (fp_fold (fun j _ hj => ?_) h2) hF
    have hj2 : j < 2 ^ np e := by omega
    have hlo := heF_lo (o := o) (xk := xk) (p := p) (xp := xp) (no := no) (j := 16 * e + j) hm4 (k := k) (e := e + 1) (X := hbF o xp p (decide (xk e = 2)) (np e) no e (2 ^ np e) 0 X) (by omega) (by omega)
    exact ⟨by rw [hlo]; exact hr e he j hj2, hF e he j hj2⟩
end EQ4
