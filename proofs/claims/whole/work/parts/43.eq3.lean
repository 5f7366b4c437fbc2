section EQ3
/-- a pitch's number -/
def PV (x : Int32) : Prop := ∃ z : Nat, z < 256 ∧ x = nI z - nI 1
theorem pv_sub {no z : Nat} (hno : no < 128) (hz : z < 256) : nI no - (nI z - nI 1) = nI (no + 257 - z) - nI 256 := by
  apply Int32.toBitVec_inj.1
  show BitVec.ofNat 32 no - (BitVec.ofNat 32 z - BitVec.ofNat 32 1) = BitVec.ofNat 32 (no + 257 - z) - BitVec.ofNat 32 256
  apply BitVec.eq_of_toNat_eq
  simp only [BitVec.toNat_sub, BitVec.toNat_ofNat]
  omega
theorem pv_eq {no z : Nat} (hno : no < 128) (hz : z < 256) : nI z - nI 1 = nI no ↔ no + 257 - z = 256 := by
  constructor
  · intro h
    have h1 : (BitVec.ofNat 32 z - BitVec.ofNat 32 1).toNat = (BitVec.ofNat 32 no).toNat := congrArg (fun q => q.toBitVec.toNat) h
    simp only [BitVec.toNat_sub, BitVec.toNat_ofNat] at h1
    omega
  · intro h
    rw [pk_sub (by omega)]
    exact congrArg nI (by omega)
theorem pv_ab {x : Int32} {no : Nat} (h : PV x) (hno : no < 128) : (ab (nI no - x) ≤ nI 0 ↔ x = nI no) ∧ (ab (nI no - x) ≤ nI 1 ↔ nearB (nI no - x) = true) := by
  obtain ⟨z, hz, rfl⟩ := h
  have : ∀ s : Fin 400, (ab (nI s.1 - nI 256) ≤ nI 0 ↔ s.1 = 256) ∧ (ab (nI s.1 - nI 256) ≤ nI 1 ↔ nearB (nI s.1 - nI 256) = true) := by decide +kernel
  have h1 := this ⟨no + 257 - z, by omega⟩
  rw [pv_sub hno hz, pv_eq hno hz]
  exact h1
section
variable {o X x np p d A : Nat → Nat} {f xp : Nat → Int32} {ev e b xn no kd n : Nat}
/-- what is known of an event that takes a note -/
def EvK (f xp : Nat → Int32) (kd n e : Nat) : Prop := n ≤ 4 ∧ kO kd n ∧ (∀ i, i < n → f (e * 14 + (9 + i)) = xp (4 * e + i) ∧ PV (xp (4 * e + i))) ∧ ∀ i j, i < j → j < n → xp (4 * e + i) ≠ xp (4 * e + j)
theorem tn_step (hR : REL np ev X x) (hm4 : ∀ e, e < ev → np e ≤ 4) (he : e < ev) (hn : np e = n) (hb : b < 2 ^ n) (hxn : sumP np e + 2 ^ n ≤ xn) (hK : EvK f xp kd n e) (hno : no < 128) (hoN : o (16 * e + b) ≤ 268435456) (hc : tnC d (sumP np e) (A e) b = phi (o (16 * e + b))) : REL np ev (hbS o xp p (decide (kd = 2)) n no e b X) (tnS x xn (sumP np e) (2 ^ n - 1) (riB f e no kd n) (decide (kd = 2)) (tnC d (sumP np e) (A e) b) (p 1) (p 0) b) := by
  obtain ⟨hn4, hkO, hxp, hdis⟩ := hK
  have h4 := pw4 hn4
  rw [hc]
  have hri : riB f e no kd n < 2 ^ n := riB_lt
  have hbr : b ||| riB f e no kd n < 2 ^ n := Nat.or_lt_two_pow hb hri
  subst hn
  by_cases hv : o (16 * e + b) < 268435456
  · -- a place that can be reached
    have h1 := off_rel (v := o (16 * e + b)) (q := p 1) (xn := xn) hR hm4 he hb (by omega)
    unfold hbS tnS
    rw [if_pos hv]
    by_cases hk : kd = 2
    · have hn1 : np e = 1 := by rcases hkO with q | q | q | q <;> omega
      have hp0 := hxp 0 (by omega)
      have hpv := (pv_ab hp0.2 hno).2
      have hriE : riB f e no kd (np e) = if nearB (nI no - xp (4 * e)) then 1 else 0 := by
        unfold riB
        rw [hn1, hk]
        have hq : hiQ f e no (rcK 2) 0 = nearB (nI no - xp (4 * e)) := by
          unfold hiQ
          rw [hp0.1]
          show decide (ab (nI no - xp (4 * e + 0)) ≤ nI 1) = nearB (nI no - xp (4 * e + 0))
          cases hnb : nearB (nI no - xp (4 * e + 0)) with
          | true => exact decide_eq_true (hpv.mpr hnb)
          | false => exact decide_eq_false (fun q => by rw [hpv.mp q] at hnb; cases hnb)
        cases hnb : nearB (nI no - xp (4 * e)) with
        | true => rw [fstN_hit (by omega) (hq.trans hnb)]; rfl
        | false =>
          have : fstN (hiQ f e no (rcK 2)) 1 0 = none := by
            have := fstN_miss (q := hiQ f e no (rcK 2)) (e := 1) (i := 0) (by omega) (hq.trans hnb)
            rw [Nat.sub_zero] at this
            rw [this]
            rfl
          rw [this]; rfl
      have hb2 : b < 2 := by rw [hn1] at hb; exact hb
      rw [decide_eq_true hk, if_pos rfl, hriE]
      have hs1 : sumP np e + 1 < xn := by rw [hn1] at hxn; omega
      have h11 : (1 : Nat) < 2 ^ np e := by rw [hn1]; decide
      rcases (show b = 0 ∨ b = 1 by omega) with rfl | rfl
      · have hb0 : ¬ (0 = 2 ^ np e - 1) := by rw [hn1]; decide
        have h2 := off_rel (v := o (16 * e + 0)) (q := p 0) (xn := xn) h1 hm4 he h11 hs1
        simp only [if_neg hb0]
        cases hnb : nearB (nI no - xp (4 * e)) with
        | true =>
          have h3 := off_rel (v := o (16 * e + 0)) (q := 0) (xn := xn) h2 hm4 he h11 hs1
          rw [cmF_sw] at h3
          exact h3
        | false => exact h2
      · have hb1 : 1 = 2 ^ np e - 1 := by rw [hn1]
        simp only [if_pos hb1]
        cases hnb : nearB (nI no - xp (4 * e)) with
        | true => exact off_rel (v := o (16 * e + 1)) (q := 0) (xn := xn) h1 hm4 he h11 hs1
        | false => exact h1
    · rw [decide_eq_false hk, if_neg (by decide)]
      -- the wrong note
      have h2 : REL np ev (if 2 ^ np e - 1 - b = 0 then cmF X (16 * e + b) (o (16 * e + b) + p 1) else cmF (cmF X (16 * e + b) (o (16 * e + b) + p 1)) (16 * e + (b ||| (b + 1))) (o (16 * e + b) + p 0)) (if b = 2 ^ np e - 1 then offN x xn (sumP np e + b) (phi (o (16 * e + b)) + p 1) else offN (offN x xn (sumP np e + b) (phi (o (16 * e + b)) + p 1)) xn (sumP np e + (b ||| (b + 1))) (phi (o (16 * e + b)) + p 0)) := by
        by_cases q : b = 2 ^ np e - 1
        · rw [if_pos q, if_pos (by omega)]; exact h1
        · rw [if_neg q, if_neg (by omega)]
          have := (lowb hn4 hb (by omega)).2.2.2
          exact off_rel h1 hm4 he this (by omega)
      -- the right one
      have hq : ∀ i, i < np e → (hiQ f e no (rcK kd) i = true ↔ xp (4 * e + i) = nI no) := fun i hi => by
        have hp0 := hxp i hi
        have hrc : rcK kd = 0 := if_neg hk
        unfold hiQ
        rw [hrc, hp0.1, decide_eq_true_eq]
        exact (pv_ab hp0.2 hno).1
      generalize (if 2 ^ np e - 1 - b = 0 then cmF X (16 * e + b) (o (16 * e + b) + p 1) else cmF (cmF X (16 * e + b) (o (16 * e + b) + p 1)) (16 * e + (b ||| (b + 1))) (o (16 * e + b) + p 0)) = X2 at h2 ⊢
      generalize (if b = 2 ^ np e - 1 then offN x xn (sumP np e + b) (phi (o (16 * e + b)) + p 1) else offN (offN x xn (sumP np e + b) (phi (o (16 * e + b)) + p 1)) xn (sumP np e + (b ||| (b + 1))) (phi (o (16 * e + b)) + p 0)) = x2 at h2 ⊢
      unfold riB
      cases hfs : fstN (hiQ f e no (rcK kd)) (np e) 0 with
      | none =>
        have hnone := fstN_none hfs
        rw [rbF_none (fun j _ hj g => by
          have := hnone j (Nat.zero_le _) hj
          rw [(hq j (by omega)).mpr g.2] at this
          cases this), if_neg (fun q => q.1 rfl)]
        exact h2
      | some i =>
        obtain ⟨-, hi, hqi, -⟩ := fstN_some hfs
        have hi : i < np e := by omega
        have hxi := (hq i hi).mp hqi
        have hbu := bit_un hn4 hb hi
        have hoth : ∀ j, 0 ≤ j → j < 0 + np e → j ≠ i → ¬ xp (4 * e + j) = nI no := fun j _ hj hne g => by
          rcases Nat.lt_or_ge j i with z | z
          · exact hdis j i z hi (g.trans hxi.symm)
          · exact hdis i j (by omega) (by omega) (hxi.trans g.symm)
        have h2i : r2 (some i) = 2 ^ i := rfl
        rw [h2i]
        have h2p := Nat.two_pow_pos i
        by_cases hbi : b &&& 2 ^ i = 0
        · rw [rbF_hit (i0 := i) (Nat.zero_le _) (by omega) ⟨hbu.1.mpr hbi, hxi⟩ hoth, if_pos ⟨by omega, Or.inr hbi⟩]
          exact off_rel (v := o (16 * e + b)) (q := 0) h2 hm4 he hbu.2 (by omega)
        · rw [rbF_none (fun j h0 hj g => by
            by_cases z : j = i
            · subst z; exact hbi (hbu.1.mp g.1)
            · exact hoth j h0 hj z g.2), if_neg (fun q => q.2.elim (fun z => by cases z) hbi)]
          exact h2
  · -- a place that can't
    have hN : o (16 * e + b) = 268435456 := by omega
    have hph : phi (o (16 * e + b)) = 1000000 := by rw [hN]; rfl
    unfold hbS tnS
    rw [if_neg hv, hph]
    have h1 := off_skip (xn := xn) (q := p 1) hR he hb
    have h2 : REL np ev X (if b = 2 ^ np e - 1 then offN x xn (sumP np e + b) (1000000 + p 1) else offN (offN x xn (sumP np e + b) (1000000 + p 1)) xn (sumP np e + (b ||| (b + 1))) (1000000 + p 0)) := by
      by_cases q : b = 2 ^ np e - 1
      · rw [if_pos q]; exact h1
      · rw [if_neg q]
        exact off_skip h1 he (lowb hn4 hb (by omega)).2.2.2
    split
    · exact off_skip (q := 0) h2 he hbr
    · exact h2
theorem tn_fold (hm4 : ∀ e, e < ev → np e ≤ 4) (he : e < ev) (hn : np e = n) (hxn : sumP np e + 2 ^ n ≤ xn) (hK : EvK f xp kd n e) (hno : no < 128) (hoN : ∀ b, b < 2 ^ n → o (16 * e + b) ≤ 268435456) (hc : ∀ b, b < 2 ^ n → tnC d (sumP np e) (A e) b = phi (o (16 * e + b))) : ∀ {k b : Nat} {X x : Nat → Nat}, b + k ≤ 2 ^ n → REL np ev X x → REL np ev (hbF o xp p (decide (kd = 2)) n no e k b X) (tnF d xn (sumP np e) (A e) (2 ^ n - 1) (riB f e no kd n) (decide (kd = 2)) (p 1) (p 0) k b x)
  | 0, b, X, x, _, h => h
  | k + 1, b, X, x, hk, h => by
    unfold hbF tnF
    exact tn_fold hm4 he hn hxn hK hno hoN hc (by omega) (tn_step h hm4 he hn (by omega) hxn hK hno (hoN b (by omega)) (hc b (by omega)))
end
/-! later events leave earlier ones -/
section
variable {o p xk xm : Nat → Nat} {xp : Nat → Int32} {no : Nat}
theorem cm_lo {X : Nat → Nat} {k v j : Nat} (h : j ≠ k) : cmF X k v j = X j := va_up_ne _ _ h
theorem rbF_lo {e b left v n j : Nat} (hb : b < 16) (hn : n ≤ 4) (hj : j < 16 * e) : ∀ {k i : Nat} {X : Nat → Nat}, i + k ≤ n → rbF xp no e b left v k i X j = X j
  | 0, i, X, _ => rfl
  | k + 1, i, X, hk => by
    unfold rbF
    rw [rbF_lo hb hn hj (by omega)]
    split
    · exact cm_lo (by omega)
    · rfl
theorem hbS_lo {orn : Bool} {n e b j : Nat} {X : Nat → Nat} (hb : b < 16) (hn : n ≤ 4) (hj : j < 16 * e) : hbS o xp p orn n no e b X j = X j := by
  unfold hbS
  split
  · split
    · split
      · rw [cm_lo (by omega)]
        split
        · rw [cm_lo (by omega), cm_lo (by omega)]
        · rw [cm_lo (by omega)]
      · split
        · rw [cm_lo (by omega), cm_lo (by omega)]
        · rw [cm_lo (by omega)]
    · rw [rbF_lo hb hn hj (by omega)]
      split
      · rw [cm_lo (by omega)]
      · rw [cm_lo (by omega), cm_lo (by omega)]
  · rfl
theorem hbF_lo {orn : Bool} {n e j : Nat} (hn : n ≤ 4) (hj : j < 16 * e) : ∀ {k b : Nat} {X : Nat → Nat}, b + k ≤ 16 → hbF o xp p orn n no e k b X j = X j
  | 0, b, X, _ => rfl
  | k + 1, b, X, hk => by unfold hbF; rw [hbF_lo hn hj (by omega)]; exact hbS_lo (by omega) hn hj
theorem heF_lo {ev j : Nat} (hm4 : ∀ e, e < ev → xm e ≤ 4) : ∀ {k e : Nat} {X : Nat → Nat}, e + k ≤ ev → j < 16 * e → heF o xk xm xp p no k e X j = X j
  | 0, e, X, _, _ => rfl
  | k + 1, e, X, hk, hj => by
    have h4 := pw4 (hm4 e (by omega))
    unfold heF
    rw [heF_lo hm4 (by omega) (by omega)]
    exact hbF_lo (hm4 e (by omega)) hj (by omega)
end
end EQ3
