section EQ5
/-- pitches are small numbers -/
def RI3 : RSt → Prop
  | (sd, _, _, _, _, _, np, _, f, ev, _, _, _, _, _) => (∀ e, e < ev → ∀ k, k < cl f 1 e → PV (f (e * 14 + (9 + k)))) ∧ (64 ≤ sd → ∀ k, k < np → PV (f (ev * 14 + (9 + k))))
theorem PV_lo {f f' : Nat → Int32} {ev : Nat} (h : ∀ e, e < ev → cl f 1 e ≤ 4 ∧ ∀ k, k < cl f 1 e → PV (f (e * 14 + (9 + k)))) (hl : ∀ e, e < ev → ∀ c, c < 14 → c ≠ 8 → f' (e * 14 + c) = f (e * 14 + c)) : ∀ e, e < ev → ∀ k, k < cl f' 1 e → PV (f' (e * 14 + (9 + k))) := by
  intro e he k hk
  rw [cl_cg (hl e he 1 (by omega) (by omega))] at hk
  have h4 := (h e he).1
  rw [hl e he (9 + k) (by omega) (by omega)]
  exact (h e he).2 k hk
theorem RI3_take {s : RSt} {kd : Nat} {va : Int32} (h : RI s) (h2 : RI2 s) (h3 : RI3 s) (hf : rFault kd va s = 0) (hk0 : kd ≠ 0) (hva : kd = 2 → PV va) : RI3 (rTake kd va s) := by
  obtain ⟨hfit, hto⟩ := rF0 hf
  obtain ⟨sd, mr, cu, mkd, cud, rep, np, oc, f, ev, be, cq, st, me, pa⟩ := s
  obtain ⟨h1, i2, i3, i4, i5, i6, i7⟩ := h
  obtain ⟨hT, hO, -⟩ := h2
  obtain ⟨g1, g2⟩ := h3
  replace hfit : sd &&& stA kd ≠ 0 := hfit
  have hg : ∀ e, e < ev → cl f 1 e ≤ 4 ∧ ∀ k, k < cl f 1 e → PV (f (e * 14 + (9 + k))) := fun e he => ⟨(hT.1 e he).1.2.2.2.1, g1 e he⟩
  have hop : ∀ k, ∀ e, e < ev → ∀ c, c < 14 → c ≠ 8 → opF f ev k be me pa st (zb mkd) (zb cud) (e * 14 + c) = f (e * 14 + c) := fun k e he c hc _ => opF_lo (by omega)
  rcases kd_of hfit with rfl | rfl | rfl | rfl | rfl | rfl | rfl | rfl | rfl | rfl | rfl | rfl | rfl | rfl
  · exact absurd rfl hk0
  · by_cases hz : sd &&& 63 = 0
    · have hs3 : sd = 64 ∨ sd = 128 ∨ sd = 256 := by
        rcases h1 with rfl | rfl | rfl | rfl | rfl | rfl | rfl | rfl | rfl | rfl | rfl <;> first | omega | exact absurd hz (by decide) | exact absurd (by decide) hfit
      have hn4 := tooM_b hto rfl hz
      have hadd : ∀ k, k < np + 1 → PV (adF f ev np va (ev * 14 + (9 + k))) := fun k hk => by
        unfold adF
        rw [pk_un (by omega)]
        by_cases q : k = np
        · subst q; rw [pk_us]; exact hva rfl
        · rw [pk_un (by omega)]; exact g2 (by omega) k (by omega)
      have hlo := PV_lo (f' := adF f ev np va) hg (fun e he c hc _ => adF_lo (by omega))
      by_cases h64 : sd = 64
      · subst h64
        rw [tPitN rfl]
        exact ⟨hlo, fun _ => hadd⟩
      · rw [tPitC rfl (by omega)]
        exact ⟨hlo, fun _ => hadd⟩
    · have hs6 : sd = 1 ∨ sd = 2 ∨ sd = 4 ∨ sd = 8 ∨ sd = 16 ∨ sd = 32 := by
        rcases h1 with rfl | rfl | rfl | rfl | rfl | rfl | rfl | rfl | rfl | rfl | rfl <;> first | omega | exact absurd (by decide) hz
      rw [tPitO rfl hs6]
      refine ⟨PV_lo hg (fun e he c hc h8 => (adF_lo (by omega)).trans (hop 0 e he c hc h8)), fun _ k hk => ?_⟩
      have hk2 : k = 0 := by have : k < 0 + 1 := hk; omega
      subst hk2
      show PV (adF (opF f ev 0 be me pa st (zb mkd) (zb cud)) ev 0 va (ev * 14 + (9 + 0)))
      unfold adF
      rw [pk_un (by omega), pk_us]
      exact hva rfl
  · have e := sd1024 h1 hfit
    subst e
    have hro := hO (by omega)
    refine ⟨fun e he k hk => ?_, fun q => by have : 64 ≤ 8 := q; omega⟩
    replace he : e < ev + 1 := he
    replace hk : k < cl (upd f (ev * 14 + 3) (nI va.toNatClampNeg)) 1 e := hk
    show PV (upd f (ev * 14 + 3) (nI va.toNatClampNeg) (e * 14 + (9 + k)))
    have h14 : cl f 1 ev ≤ 4 := hro.1.2.2.2.1
    rw [cl_cg (pk_un (by omega))] at hk
    by_cases q : e = ev
    · subst q
      rw [pk_un (by omega)]
      exact g2 (by omega) k (by rw [hro.2.1] at hk; exact hk)
    · have h4 := (hg e (by omega)).1
      rw [pk_un (by omega)]
      exact g1 e (by omega) k hk
  · exact ⟨g1, fun q => by have : 64 ≤ 4 := q; omega⟩
  · exact ⟨PV_lo hg (fun e he c hc h8 => pk_un (by omega)), fun q => by have : 64 ≤ 2 := q; omega⟩
  · exact ⟨g1, fun q => by have : 64 ≤ 32 := q; omega⟩
  · exact ⟨g1, fun q => by have : 64 ≤ 1 := q; omega⟩
  · exact ⟨PV_lo hg (hop 1), fun _ k hk => absurd hk (Nat.not_lt_zero _)⟩
  · have hs : sd = 256 := by rcases h1 with rfl | rfl | rfl | rfl | rfl | rfl | rfl | rfl | rfl | rfl | rfl <;> first | rfl | exact absurd (by decide) hfit
    exact ⟨g1, fun _ => g2 (by omega)⟩
  · have hs : sd = 512 := by rcases h1 with rfl | rfl | rfl | rfl | rfl | rfl | rfl | rfl | rfl | rfl | rfl <;> first | rfl | exact absurd (by decide) hfit
    exact ⟨g1, fun _ => g2 (by omega)⟩
  · exact ⟨g1, fun q => by have : 64 ≤ 16 := q; omega⟩
  · exact ⟨PV_lo hg (hop 3), fun _ k hk => absurd hk (Nat.not_lt_zero _)⟩
  · exact ⟨g1, fun q => by have : 64 ≤ 2 := q; omega⟩
  · exact ⟨PV_lo hg (hop 2), fun _ k hk => absurd hk (Nat.not_lt_zero _)⟩
def stepN : Nat → Nat := fun j => match j with
  | 0 => 9
  | 1 => 11
  | 2 => 0
  | 3 => 2
  | 4 => 4
  | 5 => 5
  | _ => 7
theorem tkV2 {t : Nat → Nat} {ln a : Nat} (hk : tkK t ln a = 2) : PV (tkV t ln a) := by
  have ha : a < ln := tk0 (by rw [hk]; decide)
  unfold tkK at hk
  unfold tkV
  by_cases h1 : 97 ≤ t a ∧ t a ≤ 103
  · rw [tk_pitch ha h1] at hk ⊢
    simp only at hk ⊢
    by_cases ho : ptO t ln (a + 1 + ptK t ln a) = true
    · rw [if_pos ho]
      have hd := of_decide_eq_true ho
      have hv : ptV t ln a = nI 1 ∨ ptV t ln a = -1 ∨ ptV t ln a = nI 0 := by
        unfold ptV
        split
        · exact Or.inl rfl
        · split
          · exact Or.inr (Or.inl rfl)
          · exact Or.inr (Or.inr rfl)
      have hall : ∀ dg : Fin 9, ∀ l : Fin 7, nI (12 * dg.1) + bgStep l.1 + nI 1 = nI (12 * dg.1 + stepN l.1 + 2) - nI 1 ∧ nI (12 * dg.1) + bgStep l.1 + (-1) = nI (12 * dg.1 + stepN l.1) - nI 1 ∧ nI (12 * dg.1) + bgStep l.1 + nI 0 = nI (12 * dg.1 + stepN l.1 + 1) - nI 1 ∧ 12 * dg.1 + stepN l.1 + 2 < 256 := by decide +kernel
      have := hall ⟨t (a + 1 + ptK t ln a) - 48, by omega⟩ ⟨t a - 97, by omega⟩
      simp only at this
      rcases hv with q | q | q <;> rw [q]
      · exact ⟨_, this.2.2.2, this.1⟩
      · exact ⟨_, by omega, this.2.1⟩
      · exact ⟨_, by omega, this.2.2.1⟩
    · rw [if_neg ho] at hk; cases hk
  · exfalso
    by_cases h2 : isD (nI (t a)) = true
    · rw [tk_num ha h1 h2] at hk; cases hk
    · have h2 : isD (nI (t a)) = false := by simpa using h2
      by_cases h3 : t a = 124 ∧ bA t ln (a + 1) = nI 58
      · rw [tk_op ha h1 h2 h3] at hk; cases hk
      · by_cases h4 : t a = 58 ∧ bA t ln (a + 1) = nI 124
        · rw [tk_cl ha h1 h2 h3 h4] at hk; cases hk
        · by_cases h5 : ixS (t a) < 0
          · rw [tk_bad ha h1 h2 h3 h4 h5] at hk; cases hk
          · rw [tk_sign ha h1 h2 h3 h4 h5] at hk
            replace hk : t a = 2 := hk
            rw [hk] at h5
            exact h5 (by decide +kernel)
/-- what holds of the state holds of the end -/
theorem rRun_all {t : Nat → Nat} {ln : Nat} (ht : ∀ j, t j < 256) : ∀ {k a : Nat} {s : RSt}, RJ s → RI3 s → RJ (rRun t ln k a s).2.2 ∧ RI3 (rRun t ln k a s).2.2
  | 0, a, s, h1, h2 => ⟨h1, h2⟩
  | k + 1, a, s, h1, h2 => by
    simp only [rRun]
    split
    · rename_i h
      exact rRun_all ht ⟨RI_take h1.1 h.1 h.2, RI2_take h1.1 h1.2 h.1 h.2 (fun q => tkV3 ht q)⟩ (RI3_take h1.1 h1.2 h2 h.1 h.2 tkV2)
    · exact ⟨h1, h2⟩
theorem rRead_all {t : Nat → Nat} {ln : Nat} {f : Nat → Int32} (ht : ∀ j, t j < 256) : RJ (rRead t ln f).2.2 ∧ RI3 (rRead t ln f).2.2 := rRun_all ht (RJ_0 f) ⟨fun e he => absurd he (Nat.not_lt_zero _), fun q => by have : 64 ≤ 1 := q; omega⟩
/-- where an event leads back to -/
def bhF (f : Nat → Int32) (e : Nat) : Option Nat := if f (e * 14 + 8) = -1 then none else some (cl f 8 e)
theorem Mus_of {f : Nat → Int32} {ev be st : Nat} (hev : ev ≤ 100) (h : RT f ev be st) : Mus f ev st (fun c e => cl f c e) (bhF f) := by
  obtain ⟨h1, h2, h3, h4, h5, h6⟩ := h
  refine ⟨hev, h6, fun e he => ?_⟩
  obtain ⟨⟨⟨g0, g1, g2, g4, g5, g6, g7⟩, k6, k7, k1, k13, kd⟩, hk, g3, ⟨b1, b2, b3, b4, b5⟩, h8⟩ := h1 e he
  have hbh : f (e * 14 + 8) = on1 (bhF f e) ∧ ∀ b, bhF f e = some b → b ≤ e := by
    unfold bhF
    rcases h8 with q | ⟨b, hb, q⟩
    · rw [if_pos q]; exact ⟨q, fun b hb => by cases hb⟩
    · have hne : ¬ f (e * 14 + 8) = -1 := by rw [q]; exact nI_m1 (by omega)
      have hc := cl_at q (by omega)
      rw [if_neg hne, hc]
      exact ⟨q, fun b' hb' => by cases hb'; exact hb⟩
  refine ⟨⟨g0, g1, g2, g3, g4, g5, g6, g7⟩, hbh.1, k13, ⟨?_, k1, (show cl f 2 e ≤ 100000 by omega), b2, (show cl f 4 e ≤ 100 by omega), (show cl f 5 e ≤ 100 by omega), k6, k7⟩, hbh.2⟩
  show cl f 0 e < 4
  rcases hk with q | q | q | q <;> omega
end EQ5
