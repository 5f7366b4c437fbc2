section HQ
theorem cmF_le {x : Nat → Nat} {k v B : Nat} (h : ∀ j, x j ≤ B) : ∀ j, cmF x k v j ≤ B := up_le h (Nat.le_trans (Nat.min_le_left _ _) (h k))
theorem rbF_le {xp : Nat → Int32} {no e b left v B : Nat} : ∀ {k i : Nat} {x : Nat → Nat}, (∀ j, x j ≤ B) → ∀ j, rbF xp no e b left v k i x j ≤ B
  | 0, i, x, h => h
  | k + 1, i, x, h => by
    unfold rbF
    refine rbF_le ?_
    split
    · exact cmF_le h
    · exact h
theorem hbS_le {o : Nat → Nat} {xp : Nat → Int32} {p : Nat → Nat} {orn : Bool} {n no e b B : Nat} {x : Nat → Nat} (h : ∀ j, x j ≤ B) : ∀ j, hbS o xp p orn n no e b x j ≤ B := by
  unfold hbS
  split
  · split
    · split
      · refine cmF_le ?_
        split
        · exact cmF_le (cmF_le h)
        · exact cmF_le h
      · split
        · exact cmF_le (cmF_le h)
        · exact cmF_le h
    · refine rbF_le ?_
      split
      · exact cmF_le h
      · exact cmF_le (cmF_le h)
  · exact h
theorem hbF_le {o : Nat → Nat} {xp : Nat → Int32} {p : Nat → Nat} {orn : Bool} {n no e B : Nat} : ∀ {k b : Nat} {x : Nat → Nat}, (∀ j, x j ≤ B) → ∀ j, hbF o xp p orn n no e k b x j ≤ B
  | 0, b, x, h => h
  | k + 1, b, x, h => by unfold hbF; exact hbF_le (hbS_le h)
theorem heF_le {o xk xm : Nat → Nat} {xp : Nat → Int32} {p : Nat → Nat} {no B : Nat} : ∀ {k e : Nat} {x : Nat → Nat}, (∀ j, x j ≤ B) → ∀ j, heF o xk xm xp p no k e x j ≤ B
  | 0, e, x, h => h
  | k + 1, e, x, h => by unfold heF; exact heF_le (hbF_le h)
theorem fpE_ev {x xm : Nat → Nat} : ∀ {k e : Nat} {t : Nat × Nat × Nat}, e + k ≤ 100 → t.2.1 ≤ 99 → (fpE x xm k e t).2.1 ≤ 99
  | 0, e, t, _, h => h
  | k + 1, e, t, hk, h => by unfold fpE; exact fpE_ev (by omega) (fpF_ev (by omega) h)
theorem plE_lt {pe : Nat → Nat} {n b v B : Nat} (h : ∀ j, pe j < B) (hv : v < B) : ∀ j, plE pe n b v j < B := by
  intro j
  by_cases hj : j = n
  · unfold plE
    split
    · rw [hj, va_up_self]; exact hv
    · exact h j
  · rw [plE_ne hj]; exact h j
/-- the least cost in another measure -/
def smE (c xm xe : Nat → Nat) (h : Nat) : Nat → Nat → Nat → Nat
  | 0, _, acc => acc
  | k + 1, e, acc => smE c xm xe h k (e + 1) (if xe e = h then acc else mfold (fun b => c (16 * e + b)) (2 ^ xm e) 0 acc)
theorem smE_step {c xm xe : Nat → Nat} {h ev e acc : Nat} (hi : e < ev) : smE c xm xe h (ev - e) e acc = smE c xm xe h (ev - (e + 1)) (e + 1) (if xe e = h then acc else mfold (fun b => c (16 * e + b)) (2 ^ xm e) 0 acc) := by
  obtain ⟨k, hk⟩ : ∃ k, ev - e = k + 1 := ⟨ev - e - 1, by omega⟩
  rw [hk, show ev - (e + 1) = k by omega]
  rfl
end HQ
abbrev rX6_heard : Room := { frames := 3, cells := 0, slots := 0, locals := 75 }
theorem fsX6_heard_80 : FS wsX6_heard RX6 80 6 0 false (.int) := ⟨RX6, TX6, 45, tyX6, rfl, by decide, by decide +kernel, by decide +kernel, tyX6_ok, nmX6, rfl, rfl, rfl⟩
set_option maxHeartbeats 4000000 in
set_option maxRecDepth 100000 in
theorem m_heardBadN {x y : Int32} {w : pW} {A : Nat → Nat} {mm : Nat} {fs : List Value} (hAD : AD A mm) (hmm : w mm = some (.inr (6, fs))) (hA : RA A fs) (hb : x < 0 ∨ nI 127 < x) : Ct yX6_heard wsX6_heard rX6_heard [.ref mm, .int x, .int y] w (fun o w9 => o = .inl (some (.int (nI 0))) ∧ ∃ fs9 : List Value, MU A mm [] [0] w w9 fs fs9 ∧ fs9[0]? = some (.int (nI 1))) := by
  refine Ct.of (cc := cX6_heard) (own := RX6) (nm := "heard") (nL := 3) (ret := (some .int)) (by decide +kernel) rfl rfl rfl (Nat.le_of_ble_eq_true rfl) ?_
  refine j_lvE (lv' := [(0, .ref mm), (1, .int x), (2, .int y)]) rfl ?_
  refine j_aload_n dX6_heard_0 0 rfl ?_
  refine j_iconst (v := nI 0) dX6_heard_1 (by decide) ?_
  refine j_putM fsX6_heard_80 hmm rfl rfl (RA.lt hA (by decide)) dX6_heard_2 (fun w1 fs2 sfs2 hw1 => ?_)
  have f3 : w1 mm = some (.inr (6, fs2)) := up_at hw1
  have rfs2 : RA A fs2 := RA.set hA sfs2 rfl
  have v4 := st_at sfs2 hA (by decide : 0 < 45)
  refine j_iload_n dX6_heard_5 1 rfl ?_
  refine j_if_lt 25 dX6_heard_6 (by decide) (fun c6 => ?_) (fun c6 => ?_)
  · skip
    refine j_aload_n dX6_heard_25 0 rfl ?_
    refine j_callV (rm := rX6_fail) (As := []) (st := []) (b0 := mm) (ci := 6) (na := 0) (m_fail hAD f3 rfs2) (by intro E w9 h9; first | exact nomatch h9.1 | (obtain ⟨_, h9, _⟩ := h9; exact nomatch h9) | (obtain ⟨_, _, _, h9, _⟩ := h9; exact nomatch h9)) gX6_heard_X6_fail rfl rfl f3 (by decide +kernel) rfl ⟨Nat.le_of_ble_eq_true rfl, Nat.le_of_ble_eq_true rfl⟩ rfl (Nat.le_of_ble_eq_true rfl) dX6_heard_26 ⟨(show 0 + 0 ≤ 0 by omega), (show 0 + 0 ≤ 0 by omega)⟩ (fun v11 w12 h13 => ?_)
    obtain ⟨h10, fs6, ⟨hfr7, hm8, hff9⟩, v5⟩ := h13
    cases h10
    refine j_after (st' := [.int (nI 0)]) (k' := 0) (n' := 0) rfl rfl rfl ?_
    have r14 : RA A fs6 := RA.ff rfs2 hff9 rfl
    exact j_iret rfl ⟨rfl, _, ⟨(((FrI.refl : FrI A [mm] [] w w).trans (FrI.ux hw1 (by simp))).trans (FrI.sub hfr7 rfl)), hm8, (((FF.refl : FF [0] fs fs).trans (FF.set sfs2 rfl)).trans (FF.mono hff9 rfl))⟩, v5⟩ (show 0 ≤ 0 by omega) (show 0 ≤ 0 by omega) dX6_heard_29
  · skip
    refine j_iload_n dX6_heard_9 1 rfl ?_
    refine j_bipush (v := nI 127) dX6_heard_10 (by decide) ?_
    refine j_icmp_gt 25 dX6_heard_12 (by decide) (fun c12 => ?_) (fun c12 => ?_)
    · skip
      refine j_aload_n dX6_heard_25 0 rfl ?_
      refine j_callV (rm := rX6_fail) (As := []) (st := []) (b0 := mm) (ci := 6) (na := 0) (m_fail hAD f3 rfs2) (by intro E w9 h9; first | exact nomatch h9.1 | (obtain ⟨_, h9, _⟩ := h9; exact nomatch h9) | (obtain ⟨_, _, _, h9, _⟩ := h9; exact nomatch h9)) gX6_heard_X6_fail rfl rfl f3 (by decide +kernel) rfl ⟨Nat.le_of_ble_eq_true rfl, Nat.le_of_ble_eq_true rfl⟩ rfl (Nat.le_of_ble_eq_true rfl) dX6_heard_26 ⟨(show 0 + 0 ≤ 0 by omega), (show 0 + 0 ≤ 0 by omega)⟩ (fun v21 w22 h23 => ?_)
      obtain ⟨h20, fs16, ⟨hfr17, hm18, hff19⟩, v15⟩ := h23
      cases h20
      refine j_after (st' := [.int (nI 0)]) (k' := 0) (n' := 0) rfl rfl rfl ?_
      have r24 : RA A fs16 := RA.ff rfs2 hff19 rfl
      exact j_iret rfl ⟨rfl, _, ⟨(((FrI.refl : FrI A [mm] [] w w).trans (FrI.ux hw1 (by simp))).trans (FrI.sub hfr17 rfl)), hm18, (((FF.refl : FF [0] fs fs).trans (FF.set sfs2 rfl)).trans (FF.mono hff19 rfl))⟩, v15⟩ (show 0 ≤ 0 by omega) (show 0 ≤ 0 by omega) dX6_heard_29
    · skip
      exact absurd (bad3 hb c6 c12) id
set_option maxRecDepth 100000 in
theorem mX6_heard_0 : Cond.constant RX6 217 (100000000) ∈ wsX6_heard := by decide +kernel
set_option maxHeartbeats 4000000 in
set_option maxRecDepth 100000 in
theorem m_heardBadT {no : Nat} {y : Int32} {w : pW} {A : Nat → Nat} {mm : Nat} {fs : List Value} (hAD : AD A mm) (hmm : w mm = some (.inr (6, fs))) (hA : RA A fs) (hno : no < 128) (hb : y < 0 ∨ nI 100000000 < y) : Ct yX6_heard wsX6_heard rX6_heard [.ref mm, .int (nI no), .int y] w (fun o w9 => o = .inl (some (.int (nI 0))) ∧ ∃ fs9 : List Value, MU A mm [] [0] w w9 fs fs9 ∧ fs9[0]? = some (.int (nI 1))) := by
  refine Ct.of (cc := cX6_heard) (own := RX6) (nm := "heard") (nL := 3) (ret := (some .int)) (by decide +kernel) rfl rfl rfl (Nat.le_of_ble_eq_true rfl) ?_
  refine j_lvE (lv' := [(0, .ref mm), (1, .int (nI no)), (2, .int y)]) rfl ?_
  refine j_aload_n dX6_heard_0 0 rfl ?_
  refine j_iconst (v := nI 0) dX6_heard_1 (by decide) ?_
  refine j_putM fsX6_heard_80 hmm rfl rfl (RA.lt hA (by decide)) dX6_heard_2 (fun w1 fs2 sfs2 hw1 => ?_)
  have f3 : w1 mm = some (.inr (6, fs2)) := up_at hw1
  have rfs2 : RA A fs2 := RA.set hA sfs2 rfl
  have v4 := st_at sfs2 hA (by decide : 0 < 45)
  refine j_iload_n dX6_heard_5 1 rfl ?_
  refine j_if_ltN (by omega) dX6_heard_6 (by decide : _ = ((25 : Nat) : Int)) ?_
  refine j_iload_n dX6_heard_9 1 rfl ?_
  refine j_bipush (v := nI 127) dX6_heard_10 (by decide) ?_
  refine j_icmp_gtN 25 (by omega) (by omega) dX6_heard_12 (by decide) (fun c12 => ?_) (fun c12 => ?_)
  · skip
    refine j_aload_n dX6_heard_25 0 rfl ?_
    refine j_callV (rm := rX6_fail) (As := []) (st := []) (b0 := mm) (ci := 6) (na := 0) (m_fail hAD f3 rfs2) (by intro E w9 h9; first | exact nomatch h9.1 | (obtain ⟨_, h9, _⟩ := h9; exact nomatch h9) | (obtain ⟨_, _, _, h9, _⟩ := h9; exact nomatch h9)) gX6_heard_X6_fail rfl rfl f3 (by decide +kernel) rfl ⟨Nat.le_of_ble_eq_true rfl, Nat.le_of_ble_eq_true rfl⟩ rfl (Nat.le_of_ble_eq_true rfl) dX6_heard_26 ⟨(show 0 + 0 ≤ 0 by omega), (show 0 + 0 ≤ 0 by omega)⟩ (fun v11 w12 h13 => ?_)
    obtain ⟨h10, fs6, ⟨hfr7, hm8, hff9⟩, v5⟩ := h13
    cases h10
    refine j_after (st' := [.int (nI 0)]) (k' := 0) (n' := 0) rfl rfl rfl ?_
    have r14 : RA A fs6 := RA.ff rfs2 hff9 rfl
    exact j_iret rfl ⟨rfl, _, ⟨(((FrI.refl : FrI A [mm] [] w w).trans (FrI.ux hw1 (by simp))).trans (FrI.sub hfr7 rfl)), hm8, (((FF.refl : FF [0] fs fs).trans (FF.set sfs2 rfl)).trans (FF.mono hff9 rfl))⟩, v5⟩ (show 0 ≤ 0 by omega) (show 0 ≤ 0 by omega) dX6_heard_29
  · skip
    refine j_iload_n dX6_heard_15 2 rfl ?_
    refine j_if_lt 25 dX6_heard_16 (by decide) (fun c16 => ?_) (fun c16 => ?_)
    · skip
      refine j_aload_n dX6_heard_25 0 rfl ?_
      refine j_callV (rm := rX6_fail) (As := []) (st := []) (b0 := mm) (ci := 6) (na := 0) (m_fail hAD f3 rfs2) (by intro E w9 h9; first | exact nomatch h9.1 | (obtain ⟨_, h9, _⟩ := h9; exact nomatch h9) | (obtain ⟨_, _, _, h9, _⟩ := h9; exact nomatch h9)) gX6_heard_X6_fail rfl rfl f3 (by decide +kernel) rfl ⟨Nat.le_of_ble_eq_true rfl, Nat.le_of_ble_eq_true rfl⟩ rfl (Nat.le_of_ble_eq_true rfl) dX6_heard_26 ⟨(show 0 + 0 ≤ 0 by omega), (show 0 + 0 ≤ 0 by omega)⟩ (fun v21 w22 h23 => ?_)
      obtain ⟨h20, fs16, ⟨hfr17, hm18, hff19⟩, v15⟩ := h23
      cases h20
      refine j_after (st' := [.int (nI 0)]) (k' := 0) (n' := 0) rfl rfl rfl ?_
      have r24 : RA A fs16 := RA.ff rfs2 hff19 rfl
      exact j_iret rfl ⟨rfl, _, ⟨(((FrI.refl : FrI A [mm] [] w w).trans (FrI.ux hw1 (by simp))).trans (FrI.sub hfr17 rfl)), hm18, (((FF.refl : FF [0] fs fs).trans (FF.set sfs2 rfl)).trans (FF.mono hff19 rfl))⟩, v15⟩ (show 0 ≤ 0 by omega) (show 0 ≤ 0 by omega) dX6_heard_29
    · skip
      refine j_iload_n dX6_heard_19 2 rfl ?_
      refine j_ldc (v := nI 100000000) dX6_heard_20 mX6_heard_0 ?_
      refine j_icmp_le 30 dX6_heard_22 (by decide) (fun c22 => ?_) (fun c22 => ?_)
      · skip
        exact absurd (bad2 hb c16 c22) id
      · skip
        refine j_aload_n dX6_heard_25 0 rfl ?_
        refine j_callV (rm := rX6_fail) (As := []) (st := []) (b0 := mm) (ci := 6) (na := 0) (m_fail hAD f3 rfs2) (by intro E w9 h9; first | exact nomatch h9.1 | (obtain ⟨_, h9, _⟩ := h9; exact nomatch h9) | (obtain ⟨_, _, _, h9, _⟩ := h9; exact nomatch h9)) gX6_heard_X6_fail rfl rfl f3 (by decide +kernel) rfl ⟨Nat.le_of_ble_eq_true rfl, Nat.le_of_ble_eq_true rfl⟩ rfl (Nat.le_of_ble_eq_true rfl) dX6_heard_26 ⟨(show 0 + 0 ≤ 0 by omega), (show 0 + 0 ≤ 0 by omega)⟩ (fun v31 w32 h33 => ?_)
        obtain ⟨h30, fs26, ⟨hfr27, hm28, hff29⟩, v25⟩ := h33
        cases h30
        refine j_after (st' := [.int (nI 0)]) (k' := 0) (n' := 0) rfl rfl rfl ?_
        have r34 : RA A fs26 := RA.ff rfs2 hff29 rfl
        exact j_iret rfl ⟨rfl, _, ⟨(((FrI.refl : FrI A [mm] [] w w).trans (FrI.ux hw1 (by simp))).trans (FrI.sub hfr27 rfl)), hm28, (((FF.refl : FF [0] fs fs).trans (FF.set sfs2 rfl)).trans (FF.mono hff29 rfl))⟩, v25⟩ (show 0 ≤ 0 by omega) (show 0 ≤ 0 by omega) dX6_heard_29
theorem flX6_heard_144 : FL wsX6_heard RX6 144 6 5 := ⟨RX6, TX6, 45, rfl, by decide, by decide +kernel, by decide +kernel⟩
theorem flX6_heard_196 : FL wsX6_heard RX6 196 6 34 := ⟨RX6, TX6, 45, rfl, by decide, by decide +kernel, by decide +kernel⟩
theorem flX6_heard_51 : FL wsX6_heard RX6 51 6 35 := ⟨RX6, TX6, 45, rfl, by decide, by decide +kernel, by decide +kernel⟩
set_option maxHeartbeats 4000000 in
set_option maxRecDepth 100000 in
theorem m_heardNo {ev nt no t : Nat} {ti : Nat → Nat} {w : pW} {A : Nat → Nat} {mm : Nat} {fs : List Value} (hAD : AD A mm) (hmm : w mm = some (.inr (6, fs))) (hA : RA A fs) (h5 : fs[5]? = some (.int (nI ev))) (h34 : fs[34]? = some (.int (nI nt))) (a35 : w (A 35) = some (.inl (0, 400, .inl (fun j9 => nI (ti j9))))) (hno : no < 128) (ht : t ≤ 100000000) (hev : ev ≤ 100) (hnt : nt ≤ 400) (htb : ∀ j, ti j ≤ 100000000) (hq : ev = 0 ∨ nt = 400 ∨ (0 < nt ∧ t < ti (nt - 1))) : Ct yX6_heard wsX6_heard rX6_heard [.ref mm, .int (nI no), .int (nI t)] w (fun o w9 => o = .inl (some (.int (-1))) ∧ ∃ fs9 : List Value, MU A mm [] [0] w w9 fs fs9 ∧ fs9[0]? = some (.int (nI 0))) := by
  refine Ct.of (cc := cX6_heard) (own := RX6) (nm := "heard") (nL := 3) (ret := (some .int)) (by decide +kernel) rfl rfl rfl (Nat.le_of_ble_eq_true rfl) ?_
  refine j_lvE (lv' := [(0, .ref mm), (1, .int (nI no)), (2, .int (nI t))]) rfl ?_
  refine j_aload_n dX6_heard_0 0 rfl ?_
  refine j_iconst (v := nI 0) dX6_heard_1 (by decide) ?_
  refine j_putM fsX6_heard_80 hmm rfl rfl (RA.lt hA (by decide)) dX6_heard_2 (fun w1 fs2 sfs2 hw1 => ?_)
  have f3 : w1 mm = some (.inr (6, fs2)) := up_at hw1
  have rfs2 : RA A fs2 := RA.set hA sfs2 rfl
  have v4 := st_at sfs2 hA (by decide : 0 < 45)
  refine j_iload_n dX6_heard_5 1 rfl ?_
  refine j_if_ltN (by omega) dX6_heard_6 (by decide : _ = ((25 : Nat) : Int)) ?_
  refine j_iload_n dX6_heard_9 1 rfl ?_
  refine j_bipush (v := nI 127) dX6_heard_10 (by decide) ?_
  refine j_icmp_gtN 25 (by omega) (by omega) dX6_heard_12 (by decide) (fun c12 => ?_) (fun c12 => ?_)
  · skip
    exfalso; omega
  · skip
    refine j_iload_n dX6_heard_15 2 rfl ?_
    refine j_if_ltN (by omega) dX6_heard_16 (by decide : _ = ((25 : Nat) : Int)) ?_
    refine j_iload_n dX6_heard_19 2 rfl ?_
    refine j_ldc (v := nI 100000000) dX6_heard_20 mX6_heard_0 ?_
    refine j_icmp_leN 30 (by omega) (by omega) dX6_heard_22 (by decide) (fun c22 => ?_) (fun c22 => ?_)
    · skip
      refine j_aload_n dX6_heard_30 0 rfl ?_
      have v5 := (st_ne sfs2 rfl h5)
      refine j_get (v := .int (nI ev)) flX6_heard_144 f3 v5 dX6_heard_31 ?_
      refine j_if_eqN 69 (by omega) dX6_heard_34 (by decide) (fun c34 => ?_) (fun c34 => ?_)
      · skip
        refine j_iconst (v := (-1)) dX6_heard_69 (by decide) ?_
        exact j_iret rfl ⟨rfl, _, ⟨((FrI.refl : FrI A [mm] [] w w).trans (FrI.ux hw1 (by simp))), f3, ((FF.refl : FF [0] fs fs).trans (FF.set sfs2 rfl))⟩, v4⟩ (show 0 ≤ 0 by omega) (show 0 ≤ 0 by omega) dX6_heard_70
      · skip
        refine j_aload_n dX6_heard_37 0 rfl ?_
        have v6 := (st_ne sfs2 rfl h34)
        refine j_get (v := .int (nI nt)) flX6_heard_196 f3 v6 dX6_heard_38 ?_
        refine j_sipush (v := nI 400) dX6_heard_41 (by decide) ?_
        refine j_icmp_eqN 69 (by omega) (by omega) dX6_heard_44 (by decide) (fun c44 => ?_) (fun c44 => ?_)
        · skip
          refine j_iconst (v := (-1)) dX6_heard_69 (by decide) ?_
          exact j_iret rfl ⟨rfl, _, ⟨((FrI.refl : FrI A [mm] [] w w).trans (FrI.ux hw1 (by simp))), f3, ((FF.refl : FF [0] fs fs).trans (FF.set sfs2 rfl))⟩, v4⟩ (show 0 ≤ 0 by omega) (show 0 ≤ 0 by omega) dX6_heard_70
        · skip
          refine j_aload_n dX6_heard_47 0 rfl ?_
          refine j_get (v := .int (nI nt)) flX6_heard_196 f3 v6 dX6_heard_48 ?_
          refine j_if_leN 71 (by omega) dX6_heard_51 (by decide) (fun c51 => ?_) (fun c51 => ?_)
          · skip
            exfalso; omega
          · skip
            refine j_iload_n dX6_heard_54 2 rfl ?_
            refine j_aload_n dX6_heard_55 0 rfl ?_
            refine j_get (v := .ref (A 35)) flX6_heard_51 f3 (rfs2.2 35 rfl) dX6_heard_56 ?_
            refine j_aload_n dX6_heard_59 0 rfl ?_
            refine j_get (v := .int (nI nt)) flX6_heard_196 f3 v6 dX6_heard_60 ?_
            refine j_iconst (v := nI 1) dX6_heard_63 (by decide) ?_
            refine j_isubN (by omega) dX6_heard_64 ?_
            have f7 := (up_ne hw1 (AD.nm hAD 35 rfl) a35)
            refine j_ialdN (j := nt - 1) f7 rfl (by omega) (by omega) dX6_heard_65 ?_
            have hb8 := htb (nt - 1)
            refine j_icmp_geN 71 (by omega) (by omega) dX6_heard_66 (by decide) (fun c66 => ?_) (fun c66 => ?_)
            · skip
              exfalso; omega
            · skip
              refine j_iconst (v := (-1)) dX6_heard_69 (by decide) ?_
              exact j_iret rfl ⟨rfl, _, ⟨((FrI.refl : FrI A [mm] [] w w).trans (FrI.ux hw1 (by simp))), f3, ((FF.refl : FF [0] fs fs).trans (FF.set sfs2 rfl))⟩, v4⟩ (show 0 ≤ 0 by omega) (show 0 ≤ 0 by omega) dX6_heard_70
    · skip
      exfalso; omega
theorem flX6_heard_62 : FL wsX6_heard RX6 62 6 38 := ⟨RX6, TX6, 45, rfl, by decide, by decide +kernel, by decide +kernel⟩
theorem fsX6_heard_196 : FS wsX6_heard RX6 196 6 34 false (.int) := ⟨RX6, TX6, 45, tyX6, rfl, by decide, by decide +kernel, by decide +kernel, tyX6_ok, nmX6, rfl, rfl, rfl⟩
theorem flX6_heard_54 : FL wsX6_heard RX6 54 6 36 := ⟨RX6, TX6, 45, rfl, by decide, by decide +kernel, by decide +kernel⟩
set_option maxHeartbeats 4000000 in
set_option maxRecDepth 100000 in
theorem m_heardYes {xk xm ti pe pb o0 p ae aT cr c x0 : Nat → Nat} {xp xl xi : Nat → Int32} {bh : Nat → Option Nat} {mk : Nat → Bool} {ev nt no t : Nat} {w : pW} {A : Nat → Nat} {mm : Nat} {fs : List Value} (hAD : AD A mm) (hmm : w mm = some (.inr (6, fs))) (hA : RA A fs) (h5 : fs[5]? = some (.int (nI ev))) (h34 : fs[34]? = some (.int (nI nt))) (a10 : w (A 10) = some (.inl (0, 100, .inl (fun j9 => nI (xk j9))))) (a11 : w (A 11) = some (.inl (0, 100, .inl (fun j9 => nI (xm j9))))) (a12 : w (A 12) = some (.inl (0, 400, .inl xp))) (a17 : w (A 17) = some (.inl (0, 100, .inl xl))) (a18 : w (A 18) = some (.inl (2, 100, .inl xi))) (a35 : w (A 35) = some (.inl (0, 400, .inl (fun j9 => nI (ti j9))))) (a36 : w (A 36) = some (.inl (0, 401, .inl (fun j9 => nI (pe j9))))) (a37 : w (A 37) = some (.inl (0, 401, .inl (fun j9 => nI (pb j9))))) (a38 : w (A 38) = some (.inl (4, 401, .inr (.inr (.inr (.inr (fun j9 => some (cr j9)))))))) (a39 : w (A 39) = some (.inl (0, 1600, .inl (fun j9 => nI (o0 j9))))) (a40 : w (A 40) = some (.inl (0, 4, .inl (fun j9 => nI (p j9))))) (a41 : w (A 41) = some (.inl (0, 400, .inl (fun j9 => nI (ae j9))))) (a42 : w (A 42) = some (.inl (0, 400, .inl (fun j9 => nI (aT j9))))) (hr0 : w (cr nt) = some (.inl (0, 1600, .inl (fun j9 => nI (c j9))))) (hr1 : w (cr (nt + 1)) = some (.inl (0, 1600, .inl (fun j9 => nI (x0 j9))))) (hrw0 : RW A mm (cr nt)) (hrw1 : RW A mm (cr (nt + 1))) (hrn : cr nt ≠ cr (nt + 1)) (hev : ev ≤ 100) (hm4 : ∀ e, e < ev → xm e ≤ 4) (hk2 : ∀ e, e < ev → xk e < 4 ∧ (xk e = 2 → xm e = 1)) (hpb : ∀ j, p j ≤ 50) (hxl : ∀ e, e < ev → xl e = on1 (bh e) ∧ ∀ b, bh e = some b → b ≤ e) (hxi : ∀ e, e < ev → xi e = zb (mk e)) (hcN : ∀ j, c j ≤ 268435456) (hoN : ∀ j, o0 j ≤ 268435456) (hx0 : ∀ j, x0 j ≤ 268435456) (hpe100 : ∀ j, pe j < 100) (htb : ∀ j, ti j ≤ 100000000) (hno : no < 128) (ht : t ≤ 100000000) (hev0 : 0 < ev) (hnt : nt < 400) (hq : nt = 0 ∨ ti (nt - 1) ≤ t) : Ct yX6_heard wsX6_heard rX6_heard [.ref mm, .int (nI no), .int (nI t)] w (fun o w9 => ∃ (o9 X pe9 pb9 ae9 aT9 : Nat → Nat) (T : Nat × Nat × Nat), o = .inl (some (.int (nI (pe9 (nt + 1))))) ∧ ∃ fs9 : List Value, MV A mm (cr (nt + 1)) [35, 36, 37, 39, 41, 42] [0, 34, 43] w w9 fs fs9 ∧ fs9[0]? = some (.int (nI 0)) ∧ fs9[34]? = some (.int (nI (nt + 1))) ∧ fs9[43]? = some (.int (nI (anL pe9 (nt + 1)).length)) ∧ BDF c xm bh mk (p 2) (p 3) ev o9 ∧ X = heF o9 xk xm xp p no ev 0 (fil x0 (fun _ => 268435456) 1600) ∧ T = fpE X xm ev 0 (268435456, 0, 0) ∧ pe9 = plE pe (nt + 1) T.1 T.2.1 ∧ pb9 = plE pb (nt + 1) T.1 T.2.2 ∧ w9 (cr (nt + 1)) = some (.inl (0, 1600, .inl (fun j9 => nI (X j9)))) ∧ w9 (A 35) = some (.inl (0, 400, .inl (fun j9 => nI ((va_up ti nt t) j9)))) ∧ w9 (A 36) = some (.inl (0, 401, .inl (fun j9 => nI (pe9 j9)))) ∧ w9 (A 37) = some (.inl (0, 401, .inl (fun j9 => nI (pb9 j9)))) ∧ w9 (A 39) = some (.inl (0, 1600, .inl (fun j9 => nI (o9 j9)))) ∧ w9 (A 41) = some (.inl (0, 400, .inl (fun j9 => nI (ae9 j9)))) ∧ w9 (A 42) = some (.inl (0, 400, .inl (fun j9 => nI (aT9 j9)))) ∧ ANI pe9 (va_up ti nt t) (anL pe9 (nt + 1)) ae9 aT9) := by
  refine Ct.of (cc := cX6_heard) (own := RX6) (nm := "heard") (nL := 3) (ret := (some .int)) (by decide +kernel) rfl rfl rfl (Nat.le_of_ble_eq_true rfl) ?_
  refine j_lvE (lv' := [(0, .ref mm), (1, .int (nI no)), (2, .int (nI t))]) rfl ?_
  refine j_aload_n dX6_heard_0 0 rfl ?_
  refine j_iconst (v := nI 0) dX6_heard_1 (by decide) ?_
  refine j_putM fsX6_heard_80 hmm rfl rfl (RA.lt hA (by decide)) dX6_heard_2 (fun w1 fs2 sfs2 hw1 => ?_)
  have f3 : w1 mm = some (.inr (6, fs2)) := up_at hw1
  have rfs2 : RA A fs2 := RA.set hA sfs2 rfl
  have v4 := st_at sfs2 hA (by decide : 0 < 45)
  refine j_iload_n dX6_heard_5 1 rfl ?_
  refine j_if_ltN (by omega) dX6_heard_6 (by decide : _ = ((25 : Nat) : Int)) ?_
  refine j_iload_n dX6_heard_9 1 rfl ?_
  refine j_bipush (v := nI 127) dX6_heard_10 (by decide) ?_
  refine j_icmp_gtN 25 (by omega) (by omega) dX6_heard_12 (by decide) (fun c12 => ?_) (fun c12 => ?_)
  · skip
    exfalso; omega
  · skip
    refine j_iload_n dX6_heard_15 2 rfl ?_
    refine j_if_ltN (by omega) dX6_heard_16 (by decide : _ = ((25 : Nat) : Int)) ?_
    refine j_iload_n dX6_heard_19 2 rfl ?_
    refine j_ldc (v := nI 100000000) dX6_heard_20 mX6_heard_0 ?_
    refine j_icmp_leN 30 (by omega) (by omega) dX6_heard_22 (by decide) (fun c22 => ?_) (fun c22 => ?_)
    · skip
      refine j_aload_n dX6_heard_30 0 rfl ?_
      have v5 := (st_ne sfs2 rfl h5)
      refine j_get (v := .int (nI ev)) flX6_heard_144 f3 v5 dX6_heard_31 ?_
      refine j_if_eqN 69 (by omega) dX6_heard_34 (by decide) (fun c34 => ?_) (fun c34 => ?_)
      · skip
        exfalso; omega
      · skip
        refine j_aload_n dX6_heard_37 0 rfl ?_
        have v6 := (st_ne sfs2 rfl h34)
        refine j_get (v := .int (nI nt)) flX6_heard_196 f3 v6 dX6_heard_38 ?_
        refine j_sipush (v := nI 400) dX6_heard_41 (by decide) ?_
        refine j_icmp_eqN 69 (by omega) (by omega) dX6_heard_44 (by decide) (fun c44 => ?_) (fun c44 => ?_)
        · skip
          exfalso; omega
        · skip
          refine j_aload_n dX6_heard_47 0 rfl ?_
          refine j_get (v := .int (nI nt)) flX6_heard_196 f3 v6 dX6_heard_48 ?_
          refine j_if_leN 71 (by omega) dX6_heard_51 (by decide) (fun c51 => ?_) (fun c51 => ?_)
          · skip
            refine j_aload_n dX6_heard_71 0 rfl ?_
            refine j_aload_n dX6_heard_72 0 rfl ?_
            refine j_get (v := .ref (A 38)) flX6_heard_62 f3 (rfs2.2 38 rfl) dX6_heard_73 ?_
            refine j_aload_n dX6_heard_76 0 rfl ?_
            refine j_get (v := .int (nI nt)) flX6_heard_196 f3 v6 dX6_heard_77 ?_
            have f7 := (up_ne hw1 (AD.nm hAD 38 rfl) a38)
            refine j_aaldN (j := nt) f7 rfl (by omega) (by omega) dX6_heard_80 ?_
            refine j_after (st' := [.ref (cr nt), .ref mm]) (k' := 0) (n' := 0) rfl rfl rfl ?_
            have f11 := (up_ne hw1 (AD.nm hAD 11 rfl) a11)
            have f12 := (up_ne hw1 (AD.nm hAD 17 rfl) a17)
            have f13 := (up_ne hw1 (AD.nm hAD 18 rfl) a18)
            have f14 := (up_ne hw1 (AD.nm hAD 40 rfl) a40)
            have f15 := (up_ne hw1 (AD.nm hAD 39 rfl) a39)
            have f16 := (up_ne hw1 hrw0.1 hr0)
            refine j_callV (rm := rX6_bringDown) (As := [.ref (cr nt)]) (st := []) (b0 := mm) (ci := 6) (na := 1) (m_bringDown hAD f3 rfs2 v5 f11 f12 f13 f14 f15 f16 hrw0 hev hm4 hpb hxl hxi hcN hoN) (by intro E w9 h9; first | exact nomatch h9.1 | (obtain ⟨_, h9, _⟩ := h9; exact nomatch h9) | (obtain ⟨_, _, _, h9, _⟩ := h9; exact nomatch h9)) gX6_heard_X6_bringDown rfl rfl f3 (by decide +kernel) rfl ⟨Nat.le_of_ble_eq_true rfl, Nat.le_of_ble_eq_true rfl⟩ rfl (Nat.le_of_ble_eq_true rfl) dX6_heard_81 ⟨(show 0 + 0 ≤ 0 by omega), (show 0 + 0 ≤ 0 by omega)⟩ (fun v19 w20 h21 => ?_)
            obtain ⟨h18, hfr17, o9, f8, hBD10⟩ := h21
            cases h18
            refine j_after (st' := []) (k' := 0) (n' := 0) rfl rfl rfl ?_
            refine j_aload_n dX6_heard_84 0 rfl ?_
            refine j_iload_n dX6_heard_85 1 rfl ?_
            refine j_aload_n dX6_heard_86 0 rfl ?_
            have f22 := (FrI.gen hfr17 List.not_mem_nil (AD.ml hAD rfl) f3)
            refine j_get (v := .ref (A 38)) flX6_heard_62 f22 (rfs2.2 38 rfl) dX6_heard_87 ?_
            refine j_aload_n dX6_heard_90 0 rfl ?_
            refine j_get (v := .int (nI nt)) flX6_heard_196 f22 v6 dX6_heard_91 ?_
            refine j_iconst (v := nI 1) dX6_heard_94 (by decide) ?_
            refine j_iaddN dX6_heard_95 ?_
            have f23 := (FrI.gen hfr17 List.not_mem_nil (AD.nl hAD 38 rfl rfl rfl) f7)
            refine j_aaldN (j := nt + 1) f23 rfl (by omega) (by omega) dX6_heard_96 ?_
            refine j_after (st' := [.ref (cr (nt + 1)), .int (nI no), .ref mm]) (k' := 0) (n' := 0) rfl rfl rfl ?_
            have f25 := (FrI.gen hfr17 List.not_mem_nil (AD.nl hAD 10 rfl rfl rfl) (up_ne hw1 (AD.nm hAD 10 rfl) a10))
            have f26 := (FrI.gen hfr17 List.not_mem_nil (AD.nl hAD 11 rfl rfl rfl) f11)
            have f27 := (FrI.gen hfr17 List.not_mem_nil (AD.nl hAD 12 rfl rfl rfl) (up_ne hw1 (AD.nm hAD 12 rfl) a12))
            have f28 := (FrI.gen hfr17 List.not_mem_nil (AD.nl hAD 40 rfl rfl rfl) f14)
            have f29 := (FrI.gen hfr17 List.not_mem_nil (RW.nl hrw1 rfl) (up_ne hw1 hrw1.1 hr1))
            refine j_callV (rm := rX6_hear) (As := [.int (nI no), .ref (cr (nt + 1))]) (st := []) (b0 := mm) (ci := 6) (na := 2) (m_hear hAD f22 rfs2 v5 f25 f26 f27 f8 f28 f29 hrw1 hev hm4 hk2 hpb hBD10.1.1 hno hx0) (by intro E w9 h9; first | exact nomatch h9.1 | (obtain ⟨_, h9, _⟩ := h9; exact nomatch h9) | (obtain ⟨_, _, _, h9, _⟩ := h9; exact nomatch h9)) gX6_heard_X6_hear rfl rfl f22 (by decide +kernel) rfl ⟨Nat.le_of_ble_eq_true rfl, Nat.le_of_ble_eq_true rfl⟩ rfl (Nat.le_of_ble_eq_true rfl) dX6_heard_97 ⟨(show 0 + 0 ≤ 0 by omega), (show 0 + 0 ≤ 0 by omega)⟩ (fun v32 w33 h34 => ?_)
            obtain ⟨h31, hfr30, f24⟩ := h34
            cases h31
            refine j_after (st' := []) (k' := 0) (n' := 0) rfl rfl rfl ?_
            obtain ⟨X35, hX35⟩ : ∃ z, z = heF o9 xk xm xp p no ev 0 (fil x0 (fun _ => 268435456) 1600) := ⟨_, rfl⟩
            rw [← hX35] at f24
            have hX35b : ∀ j, X35 j ≤ 268435456 := by rw [hX35]; exact heF_le (fil_le hx0 (fun _ _ => Nat.le_refl _))
            refine j_aload_n dX6_heard_100 0 rfl ?_
            have f36 := (FrI.gen hfr30 (nm1 (Ne.symm hrw1.1)) (AD.ml hAD rfl) f22)
            refine j_get (v := .ref (A 35)) flX6_heard_51 f36 (rfs2.2 35 rfl) dX6_heard_101 ?_
            refine j_aload_n dX6_heard_104 0 rfl ?_
            refine j_get (v := .int (nI nt)) flX6_heard_196 f36 v6 dX6_heard_105 ?_
            refine j_iload_n dX6_heard_108 2 rfl ?_
            have f37 := (FrI.gen hfr30 (nm1 (Ne.symm (hrw1.2 35 rfl))) (AD.nl hAD 35 rfl rfl rfl) (FrI.gen hfr17 List.not_mem_nil (AD.nl hAD 35 rfl rfl rfl) (up_ne hw1 (AD.nm hAD 35 rfl) a35)))
            refine j_iastn (j := nt) (x := t) f37 rfl (by omega) (by omega) dX6_heard_109 ?_
            refine j_w (fun w38 hw38 => ?_)
            have f39 : w38 (A 35) = some (.inl (0, 400, .inl (fun j9 => nI ((va_up ti nt t) j9)))) := up_at hw38
            have hb40 : ∀ j9, (va_up ti nt t) j9 ≤ 100000000 := up_le htb (by omega)
            refine j_aload_n dX6_heard_110 0 rfl ?_
            refine j_dup dX6_heard_111 rfl ?_
            have f41 := (up_ne hw38 (AD.mn hAD 35 rfl) f36)
            refine j_get (v := .int (nI nt)) flX6_heard_196 f41 v6 dX6_heard_112 ?_
            refine j_iconst (v := nI 1) dX6_heard_115 (by decide) ?_
            refine j_iaddN dX6_heard_116 ?_
            refine j_putM fsX6_heard_196 f41 rfl rfl (RA.lt rfs2 (by decide)) dX6_heard_117 (fun w42 fs43 sfs43 hw42 => ?_)
            have f44 : w42 mm = some (.inr (6, fs43)) := up_at hw42
            have rfs43 : RA A fs43 := RA.set rfs2 sfs43 rfl
            have v45 := st_at sfs43 rfs2 (by decide : 34 < 45)
            refine j_aload_n dX6_heard_120 0 rfl ?_
            refine j_aload_n dX6_heard_121 0 rfl ?_
            refine j_get (v := .int (nI (nt + 1))) flX6_heard_196 f44 v45 dX6_heard_122 ?_
            have v48 := (st_ne sfs43 rfl v5)
            have f49 := (up_ne hw42 (AD.nm hAD 11 rfl) (up_ne hw38 (AD.ne hAD 11 35 rfl rfl rfl) (FrI.gen hfr30 (nm1 (Ne.symm (hrw1.2 11 rfl))) (AD.nl hAD 11 rfl rfl rfl) f26)))
            have f50 := (up_ne hw42 (AD.nm hAD 36 rfl) (up_ne hw38 (AD.ne hAD 36 35 rfl rfl rfl) (FrI.gen hfr30 (nm1 (Ne.symm (hrw1.2 36 rfl))) (AD.nl hAD 36 rfl rfl rfl) (FrI.gen hfr17 List.not_mem_nil (AD.nl hAD 36 rfl rfl rfl) (up_ne hw1 (AD.nm hAD 36 rfl) a36)))))
            have f51 := (up_ne hw42 (AD.nm hAD 37 rfl) (up_ne hw38 (AD.ne hAD 37 35 rfl rfl rfl) (FrI.gen hfr30 (nm1 (Ne.symm (hrw1.2 37 rfl))) (AD.nl hAD 37 rfl rfl rfl) (FrI.gen hfr17 List.not_mem_nil (AD.nl hAD 37 rfl rfl rfl) (up_ne hw1 (AD.nm hAD 37 rfl) a37)))))
            have f52 := (up_ne hw42 (AD.nm hAD 38 rfl) (up_ne hw38 (AD.ne hAD 38 35 rfl rfl rfl) (FrI.gen hfr30 (nm1 (Ne.symm (hrw1.2 38 rfl))) (AD.nl hAD 38 rfl rfl rfl) f23)))
            have f53 := (up_ne hw42 hrw1.1 (up_ne hw38 (hrw1.2 35 rfl) f24))
            refine j_callV (rm := rX6_findPlace) (As := [.int (nI (nt + 1))]) (st := []) (b0 := mm) (ci := 6) (na := 1) (m_findPlace (n := nt + 1) hAD f44 rfs43 v48 f49 f50 f51 f52 f53 hrw1 hev hm4 (by omega) hX35b) (by intro E w9 h9; first | exact nomatch h9.1 | (obtain ⟨_, h9, _⟩ := h9; exact nomatch h9) | (obtain ⟨_, _, _, h9, _⟩ := h9; exact nomatch h9)) gX6_heard_X6_findPlace rfl rfl f44 (by decide +kernel) rfl ⟨Nat.le_of_ble_eq_true rfl, Nat.le_of_ble_eq_true rfl⟩ rfl (Nat.le_of_ble_eq_true rfl) dX6_heard_125 ⟨(show 0 + 0 ≤ 0 by omega), (show 0 + 0 ≤ 0 by omega)⟩ (fun v56 w57 h58 => ?_)
            obtain ⟨h55, hfr54, f46, f47⟩ := h58
            cases h55
            refine j_after (st' := []) (k' := 0) (n' := 0) rfl rfl rfl ?_
            obtain ⟨T59, hT59⟩ : ∃ z, z = fpE X35 xm ev 0 (268435456, 0, 0) := ⟨_, rfl⟩
            rw [← hT59] at f46 f47
            have hT59e : T59.2.1 < 100 := by rw [hT59]; exact Nat.lt_succ_of_le (fpE_ev (by omega) (by decide))
            obtain ⟨pe60, hpe60⟩ : ∃ z, z = plE pe (nt + 1) T59.1 T59.2.1 := ⟨_, rfl⟩
            rw [← hpe60] at f46
            have hpe60b : ∀ j, pe60 j < 100 := by rw [hpe60]; exact plE_lt hpe100 hT59e
            refine j_aload_n dX6_heard_128 0 rfl ?_
            have f61 := (FrI.gen hfr54 List.not_mem_nil (AD.ml hAD rfl) f44)
            have f68 := (FrI.gen hfr54 List.not_mem_nil (AD.nl hAD 35 rfl rfl rfl) (up_ne hw42 (AD.nm hAD 35 rfl) f39))
            have f69 := (FrI.gen hfr54 List.not_mem_nil (AD.nl hAD 41 rfl rfl rfl) (up_ne hw42 (AD.nm hAD 41 rfl) (up_ne hw38 (AD.ne hAD 41 35 rfl rfl rfl) (FrI.gen hfr30 (nm1 (Ne.symm (hrw1.2 41 rfl))) (AD.nl hAD 41 rfl rfl rfl) (FrI.gen hfr17 List.not_mem_nil (AD.nl hAD 41 rfl rfl rfl) (up_ne hw1 (AD.nm hAD 41 rfl) a41))))))
            have f70 := (FrI.gen hfr54 List.not_mem_nil (AD.nl hAD 42 rfl rfl rfl) (up_ne hw42 (AD.nm hAD 42 rfl) (up_ne hw38 (AD.ne hAD 42 35 rfl rfl rfl) (FrI.gen hfr30 (nm1 (Ne.symm (hrw1.2 42 rfl))) (AD.nl hAD 42 rfl rfl rfl) (FrI.gen hfr17 List.not_mem_nil (AD.nl hAD 42 rfl rfl rfl) (up_ne hw1 (AD.nm hAD 42 rfl) a42))))))
            refine j_callV (rm := rX6_anchor) (As := []) (st := []) (b0 := mm) (ci := 6) (na := 0) (m_anchor hAD f61 rfs43 v45 f68 f46 f69 f70 (by omega) (fun j _ => hpe60b j)) (by intro E w9 h9; first | exact nomatch h9.1 | (obtain ⟨_, h9, _⟩ := h9; exact nomatch h9) | (obtain ⟨_, _, _, h9, _⟩ := h9; exact nomatch h9)) gX6_heard_X6_anchor rfl rfl f61 (by decide +kernel) rfl ⟨Nat.le_of_ble_eq_true rfl, Nat.le_of_ble_eq_true rfl⟩ rfl (Nat.le_of_ble_eq_true rfl) dX6_heard_129 ⟨(show 0 + 0 ≤ 0 by omega), (show 0 + 0 ≤ 0 by omega)⟩ (fun v76 w77 h78 => ?_)
            obtain ⟨h75, fs71, ⟨hfr72, hm73, hff74⟩, v62, ae63, aT64, f65, f66, hN67⟩ := h78
            cases h75
            refine j_after (st' := []) (k' := 0) (n' := 0) rfl rfl rfl ?_
            have r79 : RA A fs71 := RA.ff rfs43 hff74 rfl
            refine j_aload_n dX6_heard_132 0 rfl ?_
            refine j_get (v := .ref (A 36)) flX6_heard_54 hm73 (r79.2 36 rfl) dX6_heard_133 ?_
            refine j_aload_n dX6_heard_136 0 rfl ?_
            have v80 := (FF.at hff74 rfl v45)
            refine j_get (v := .int (nI (nt + 1))) flX6_heard_196 hm73 v80 dX6_heard_137 ?_
            have f81 := (FrI.gen hfr72 (nm1 (AD.nm hAD 36 rfl)) (AD.nl hAD 36 rfl rfl rfl) f46)
            refine j_ialdN (j := nt + 1) f81 rfl (by omega) (by omega) dX6_heard_140 ?_
            have v82 := (FF.at hff74 rfl (st_ne sfs43 rfl v4))
            have f83 := (FrI.gen hfr72 (nm1 hrw1.1) (RW.nl hrw1 rfl) (FrI.gen hfr54 List.not_mem_nil (RW.nl hrw1 rfl) f53))
            have f84 := (FrI.gen hfr72 (nm1 (AD.nm hAD 35 rfl)) (AD.nl hAD 35 rfl rfl rfl) f68)
            have f85 := (FrI.gen hfr72 (nm1 (AD.nm hAD 37 rfl)) (AD.nl hAD 37 rfl rfl rfl) f47)
            have f86 := (FrI.gen hfr72 (nm1 (AD.nm hAD 39 rfl)) (AD.nl hAD 39 rfl rfl rfl) (FrI.gen hfr54 List.not_mem_nil (AD.nl hAD 39 rfl rfl rfl) (up_ne hw42 (AD.nm hAD 39 rfl) (up_ne hw38 (AD.ne hAD 39 35 rfl rfl rfl) (FrI.gen hfr30 (nm1 (Ne.symm (hrw1.2 39 rfl))) (AD.nl hAD 39 rfl rfl rfl) f8)))))
            exact j_iret rfl ⟨_, _, _, _, _, _, T59, rfl, _, ⟨((((((((FrI.refl : FrI A [mm, (cr (nt + 1))] [35, 36, 37, 39, 41, 42] w w).trans (FrI.ux hw1 (by simp))).trans (FrI.mono hfr17 (by simp) rfl)).trans (FrI.mono hfr30 (by simp) rfl)).trans (FrI.ua hw38 rfl)).trans (FrI.ux hw42 (by simp))).trans (FrI.mono hfr54 (by simp) rfl)).trans (FrI.mono hfr72 (by simp) rfl)), hm73, ((((FF.refl : FF [0, 34, 43] fs fs).trans (FF.set sfs2 rfl)).trans (FF.set sfs43 rfl)).trans (FF.mono hff74 rfl))⟩, v82, v80, v62, hBD10, hX35, hT59, hpe60, rfl, f83, f84, f81, f85, f86, f65, f66, hN67⟩ (show 0 ≤ 0 by omega) (show 0 ≤ 0 by omega) dX6_heard_141
          · skip
            refine j_iload_n dX6_heard_54 2 rfl ?_
            refine j_aload_n dX6_heard_55 0 rfl ?_
            refine j_get (v := .ref (A 35)) flX6_heard_51 f3 (rfs2.2 35 rfl) dX6_heard_56 ?_
            refine j_aload_n dX6_heard_59 0 rfl ?_
            refine j_get (v := .int (nI nt)) flX6_heard_196 f3 v6 dX6_heard_60 ?_
            refine j_iconst (v := nI 1) dX6_heard_63 (by decide) ?_
            refine j_isubN (by omega) dX6_heard_64 ?_
            have f87 := (up_ne hw1 (AD.nm hAD 35 rfl) a35)
            refine j_ialdN (j := nt - 1) f87 rfl (by omega) (by omega) dX6_heard_65 ?_
            have hb88 := htb (nt - 1)
            refine j_icmp_geN 71 (by omega) (by omega) dX6_heard_66 (by decide) (fun c66 => ?_) (fun c66 => ?_)
            · skip
              refine j_aload_n dX6_heard_71 0 rfl ?_
              refine j_aload_n dX6_heard_72 0 rfl ?_
              refine j_get (v := .ref (A 38)) flX6_heard_62 f3 (rfs2.2 38 rfl) dX6_heard_73 ?_
              refine j_aload_n dX6_heard_76 0 rfl ?_
              refine j_get (v := .int (nI nt)) flX6_heard_196 f3 v6 dX6_heard_77 ?_
              have f89 := (up_ne hw1 (AD.nm hAD 38 rfl) a38)
              refine j_aaldN (j := nt) f89 rfl (by omega) (by omega) dX6_heard_80 ?_
              refine j_after (st' := [.ref (cr nt), .ref mm]) (k' := 0) (n' := 0) rfl rfl rfl ?_
              have f93 := (up_ne hw1 (AD.nm hAD 11 rfl) a11)
              have f94 := (up_ne hw1 (AD.nm hAD 17 rfl) a17)
              have f95 := (up_ne hw1 (AD.nm hAD 18 rfl) a18)
              have f96 := (up_ne hw1 (AD.nm hAD 40 rfl) a40)
              have f97 := (up_ne hw1 (AD.nm hAD 39 rfl) a39)
              have f98 := (up_ne hw1 hrw0.1 hr0)
              refine j_callV (rm := rX6_bringDown) (As := [.ref (cr nt)]) (st := []) (b0 := mm) (ci := 6) (na := 1) (m_bringDown hAD f3 rfs2 v5 f93 f94 f95 f96 f97 f98 hrw0 hev hm4 hpb hxl hxi hcN hoN) (by intro E w9 h9; first | exact nomatch h9.1 | (obtain ⟨_, h9, _⟩ := h9; exact nomatch h9) | (obtain ⟨_, _, _, h9, _⟩ := h9; exact nomatch h9)) gX6_heard_X6_bringDown rfl rfl f3 (by decide +kernel) rfl ⟨Nat.le_of_ble_eq_true rfl, Nat.le_of_ble_eq_true rfl⟩ rfl (Nat.le_of_ble_eq_true rfl) dX6_heard_81 ⟨(show 0 + 0 ≤ 0 by omega), (show 0 + 0 ≤ 0 by omega)⟩ (fun v101 w102 h103 => ?_)
              obtain ⟨h100, hfr99, o91, f90, hBD92⟩ := h103
              cases h100
              refine j_after (st' := []) (k' := 0) (n' := 0) rfl rfl rfl ?_
              refine j_aload_n dX6_heard_84 0 rfl ?_
              refine j_iload_n dX6_heard_85 1 rfl ?_
              refine j_aload_n dX6_heard_86 0 rfl ?_
              have f104 := (FrI.gen hfr99 List.not_mem_nil (AD.ml hAD rfl) f3)
              refine j_get (v := .ref (A 38)) flX6_heard_62 f104 (rfs2.2 38 rfl) dX6_heard_87 ?_
              refine j_aload_n dX6_heard_90 0 rfl ?_
              refine j_get (v := .int (nI nt)) flX6_heard_196 f104 v6 dX6_heard_91 ?_
              refine j_iconst (v := nI 1) dX6_heard_94 (by decide) ?_
              refine j_iaddN dX6_heard_95 ?_
              have f105 := (FrI.gen hfr99 List.not_mem_nil (AD.nl hAD 38 rfl rfl rfl) f89)
              refine j_aaldN (j := nt + 1) f105 rfl (by omega) (by omega) dX6_heard_96 ?_
              refine j_after (st' := [.ref (cr (nt + 1)), .int (nI no), .ref mm]) (k' := 0) (n' := 0) rfl rfl rfl ?_
              have f107 := (FrI.gen hfr99 List.not_mem_nil (AD.nl hAD 10 rfl rfl rfl) (up_ne hw1 (AD.nm hAD 10 rfl) a10))
              have f108 := (FrI.gen hfr99 List.not_mem_nil (AD.nl hAD 11 rfl rfl rfl) f93)
              have f109 := (FrI.gen hfr99 List.not_mem_nil (AD.nl hAD 12 rfl rfl rfl) (up_ne hw1 (AD.nm hAD 12 rfl) a12))
              have f110 := (FrI.gen hfr99 List.not_mem_nil (AD.nl hAD 40 rfl rfl rfl) f96)
              have f111 := (FrI.gen hfr99 List.not_mem_nil (RW.nl hrw1 rfl) (up_ne hw1 hrw1.1 hr1))
              refine j_callV (rm := rX6_hear) (As := [.int (nI no), .ref (cr (nt + 1))]) (st := []) (b0 := mm) (ci := 6) (na := 2) (m_hear hAD f104 rfs2 v5 f107 f108 f109 f90 f110 f111 hrw1 hev hm4 hk2 hpb hBD92.1.1 hno hx0) (by intro E w9 h9; first | exact nomatch h9.1 | (obtain ⟨_, h9, _⟩ := h9; exact nomatch h9) | (obtain ⟨_, _, _, h9, _⟩ := h9; exact nomatch h9)) gX6_heard_X6_hear rfl rfl f104 (by decide +kernel) rfl ⟨Nat.le_of_ble_eq_true rfl, Nat.le_of_ble_eq_true rfl⟩ rfl (Nat.le_of_ble_eq_true rfl) dX6_heard_97 ⟨(show 0 + 0 ≤ 0 by omega), (show 0 + 0 ≤ 0 by omega)⟩ (fun v114 w115 h116 => ?_)
              obtain ⟨h113, hfr112, f106⟩ := h116
              cases h113
              refine j_after (st' := []) (k' := 0) (n' := 0) rfl rfl rfl ?_
              obtain ⟨X117, hX117⟩ : ∃ z, z = heF o91 xk xm xp p no ev 0 (fil x0 (fun _ => 268435456) 1600) := ⟨_, rfl⟩
              rw [← hX117] at f106
              have hX117b : ∀ j, X117 j ≤ 268435456 := by rw [hX117]; exact heF_le (fil_le hx0 (fun _ _ => Nat.le_refl _))
              refine j_aload_n dX6_heard_100 0 rfl ?_
              have f118 := (FrI.gen hfr112 (nm1 (Ne.symm hrw1.1)) (AD.ml hAD rfl) f104)
              refine j_get (v := .ref (A 35)) flX6_heard_51 f118 (rfs2.2 35 rfl) dX6_heard_101 ?_
              refine j_aload_n dX6_heard_104 0 rfl ?_
              refine j_get (v := .int (nI nt)) flX6_heard_196 f118 v6 dX6_heard_105 ?_
              refine j_iload_n dX6_heard_108 2 rfl ?_
              have f119 := (FrI.gen hfr112 (nm1 (Ne.symm (hrw1.2 35 rfl))) (AD.nl hAD 35 rfl rfl rfl) (FrI.gen hfr99 List.not_mem_nil (AD.nl hAD 35 rfl rfl rfl) f87))
              refine j_iastn (j := nt) (x := t) f119 rfl (by omega) (by omega) dX6_heard_109 ?_
              refine j_w (fun w120 hw120 => ?_)
              have f121 : w120 (A 35) = some (.inl (0, 400, .inl (fun j9 => nI ((va_up ti nt t) j9)))) := up_at hw120
              have hb122 : ∀ j9, (va_up ti nt t) j9 ≤ 100000000 := up_le htb (by omega)
              refine j_aload_n dX6_heard_110 0 rfl ?_
              refine j_dup dX6_heard_111 rfl ?_
              have f123 := (up_ne hw120 (AD.mn hAD 35 rfl) f118)
              refine j_get (v := .int (nI nt)) flX6_heard_196 f123 v6 dX6_heard_112 ?_
              refine j_iconst (v := nI 1) dX6_heard_115 (by decide) ?_
              refine j_iaddN dX6_heard_116 ?_
              refine j_putM fsX6_heard_196 f123 rfl rfl (RA.lt rfs2 (by decide)) dX6_heard_117 (fun w124 fs125 sfs125 hw124 => ?_)
              have f126 : w124 mm = some (.inr (6, fs125)) := up_at hw124
              have rfs125 : RA A fs125 := RA.set rfs2 sfs125 rfl
              have v127 := st_at sfs125 rfs2 (by decide : 34 < 45)
              refine j_aload_n dX6_heard_120 0 rfl ?_
              refine j_aload_n dX6_heard_121 0 rfl ?_
              refine j_get (v := .int (nI (nt + 1))) flX6_heard_196 f126 v127 dX6_heard_122 ?_
              have v130 := (st_ne sfs125 rfl v5)
              have f131 := (up_ne hw124 (AD.nm hAD 11 rfl) (up_ne hw120 (AD.ne hAD 11 35 rfl rfl rfl) (FrI.gen hfr112 (nm1 (Ne.symm (hrw1.2 11 rfl))) (AD.nl hAD 11 rfl rfl rfl) f108)))
              have f132 := (up_ne hw124 (AD.nm hAD 36 rfl) (up_ne hw120 (AD.ne hAD 36 35 rfl rfl rfl) (FrI.gen hfr112 (nm1 (Ne.symm (hrw1.2 36 rfl))) (AD.nl hAD 36 rfl rfl rfl) (FrI.gen hfr99 List.not_mem_nil (AD.nl hAD 36 rfl rfl rfl) (up_ne hw1 (AD.nm hAD 36 rfl) a36)))))
              have f133 := (up_ne hw124 (AD.nm hAD 37 rfl) (up_ne hw120 (AD.ne hAD 37 35 rfl rfl rfl) (FrI.gen hfr112 (nm1 (Ne.symm (hrw1.2 37 rfl))) (AD.nl hAD 37 rfl rfl rfl) (FrI.gen hfr99 List.not_mem_nil (AD.nl hAD 37 rfl rfl rfl) (up_ne hw1 (AD.nm hAD 37 rfl) a37)))))
              have f134 := (up_ne hw124 (AD.nm hAD 38 rfl) (up_ne hw120 (AD.ne hAD 38 35 rfl rfl rfl) (FrI.gen hfr112 (nm1 (Ne.symm (hrw1.2 38 rfl))) (AD.nl hAD 38 rfl rfl rfl) f105)))
              have f135 := (up_ne hw124 hrw1.1 (up_ne hw120 (hrw1.2 35 rfl) f106))
              refine j_callV (rm := rX6_findPlace) (As := [.int (nI (nt + 1))]) (st := []) (b0 := mm) (ci := 6) (na := 1) (m_findPlace (n := nt + 1) hAD f126 rfs125 v130 f131 f132 f133 f134 f135 hrw1 hev hm4 (by omega) hX117b) (by intro E w9 h9; first | exact nomatch h9.1 | (obtain ⟨_, h9, _⟩ := h9; exact nomatch h9) | (obtain ⟨_, _, _, h9, _⟩ := h9; exact nomatch h9)) gX6_heard_X6_findPlace rfl rfl f126 (by decide +kernel) rfl ⟨Nat.le_of_ble_eq_true rfl, Nat.le_of_ble_eq_true rfl⟩ rfl (Nat.le_of_ble_eq_true rfl) dX6_heard_125 ⟨(show 0 + 0 ≤ 0 by omega), (show 0 + 0 ≤ 0 by omega)⟩ (fun v138 w139 h140 => ?_)
              obtain ⟨h137, hfr136, f128, f129⟩ := h140
              cases h137
              refine j_after (st' := []) (k' := 0) (n' := 0) rfl rfl rfl ?_
              obtain ⟨T141, hT141⟩ : ∃ z, z = fpE X117 xm ev 0 (268435456, 0, 0) := ⟨_, rfl⟩
              rw [← hT141] at f128 f129
              have hT141e : T141.2.1 < 100 := by rw [hT141]; exact Nat.lt_succ_of_le (fpE_ev (by omega) (by decide))
              obtain ⟨pe142, hpe142⟩ : ∃ z, z = plE pe (nt + 1) T141.1 T141.2.1 := ⟨_, rfl⟩
              rw [← hpe142] at f128
              have hpe142b : ∀ j, pe142 j < 100 := by rw [hpe142]; exact plE_lt hpe100 hT141e
              refine j_aload_n dX6_heard_128 0 rfl ?_
              have f143 := (FrI.gen hfr136 List.not_mem_nil (AD.ml hAD rfl) f126)
              have f150 := (FrI.gen hfr136 List.not_mem_nil (AD.nl hAD 35 rfl rfl rfl) (up_ne hw124 (AD.nm hAD 35 rfl) f121))
              have f151 := (FrI.gen hfr136 List.not_mem_nil (AD.nl hAD 41 rfl rfl rfl) (up_ne hw124 (AD.nm hAD 41 rfl) (up_ne hw120 (AD.ne hAD 41 35 rfl rfl rfl) (FrI.gen hfr112 (nm1 (Ne.symm (hrw1.2 41 rfl))) (AD.nl hAD 41 rfl rfl rfl) (FrI.gen hfr99 List.not_mem_nil (AD.nl hAD 41 rfl rfl rfl) (up_ne hw1 (AD.nm hAD 41 rfl) a41))))))
              have f152 := (FrI.gen hfr136 List.not_mem_nil (AD.nl hAD 42 rfl rfl rfl) (up_ne hw124 (AD.nm hAD 42 rfl) (up_ne hw120 (AD.ne hAD 42 35 rfl rfl rfl) (FrI.gen hfr112 (nm1 (Ne.symm (hrw1.2 42 rfl))) (AD.nl hAD 42 rfl rfl rfl) (FrI.gen hfr99 List.not_mem_nil (AD.nl hAD 42 rfl rfl rfl) (up_ne hw1 (AD.nm hAD 42 rfl) a42))))))
              refine j_callV (rm := rX6_anchor) (As := []) (st := []) (b0 := mm) (ci := 6) (na := 0) (m_anchor hAD f143 rfs125 v127 f150 f128 f151 f152 (by omega) (fun j _ => hpe142b j)) (by intro E w9 h9; first | exact nomatch h9.1 | (obtain ⟨_, h9, _⟩ := h9; exact nomatch h9) | (obtain ⟨_, _, _, h9, _⟩ := h9; exact nomatch h9)) gX6_heard_X6_anchor rfl rfl f143 (by decide +kernel) rfl ⟨Nat.le_of_ble_eq_true rfl, Nat.le_of_ble_eq_true rfl⟩ rfl (Nat.le_of_ble_eq_true rfl) dX6_heard_129 ⟨(show 0 + 0 ≤ 0 by omega), (show 0 + 0 ≤ 0 by omega)⟩ (fun v158 w159 h160 => ?_)
              obtain ⟨h157, fs153, ⟨hfr154, hm155, hff156⟩, v144, ae145, aT146, f147, f148, hN149⟩ := h160
              cases h157
              refine j_after (st' := []) (k' := 0) (n' := 0) rfl rfl rfl ?_
              have r161 : RA A fs153 := RA.ff rfs125 hff156 rfl
              refine j_aload_n dX6_heard_132 0 rfl ?_
              refine j_get (v := .ref (A 36)) flX6_heard_54 hm155 (r161.2 36 rfl) dX6_heard_133 ?_
              refine j_aload_n dX6_heard_136 0 rfl ?_
              have v162 := (FF.at hff156 rfl v127)
              refine j_get (v := .int (nI (nt + 1))) flX6_heard_196 hm155 v162 dX6_heard_137 ?_
              have f163 := (FrI.gen hfr154 (nm1 (AD.nm hAD 36 rfl)) (AD.nl hAD 36 rfl rfl rfl) f128)
              refine j_ialdN (j := nt + 1) f163 rfl (by omega) (by omega) dX6_heard_140 ?_
              have v164 := (FF.at hff156 rfl (st_ne sfs125 rfl v4))
              have f165 := (FrI.gen hfr154 (nm1 hrw1.1) (RW.nl hrw1 rfl) (FrI.gen hfr136 List.not_mem_nil (RW.nl hrw1 rfl) f135))
              have f166 := (FrI.gen hfr154 (nm1 (AD.nm hAD 35 rfl)) (AD.nl hAD 35 rfl rfl rfl) f150)
              have f167 := (FrI.gen hfr154 (nm1 (AD.nm hAD 37 rfl)) (AD.nl hAD 37 rfl rfl rfl) f129)
              have f168 := (FrI.gen hfr154 (nm1 (AD.nm hAD 39 rfl)) (AD.nl hAD 39 rfl rfl rfl) (FrI.gen hfr136 List.not_mem_nil (AD.nl hAD 39 rfl rfl rfl) (up_ne hw124 (AD.nm hAD 39 rfl) (up_ne hw120 (AD.ne hAD 39 35 rfl rfl rfl) (FrI.gen hfr112 (nm1 (Ne.symm (hrw1.2 39 rfl))) (AD.nl hAD 39 rfl rfl rfl) f90)))))
              exact j_iret rfl ⟨_, _, _, _, _, _, T141, rfl, _, ⟨((((((((FrI.refl : FrI A [mm, (cr (nt + 1))] [35, 36, 37, 39, 41, 42] w w).trans (FrI.ux hw1 (by simp))).trans (FrI.mono hfr99 (by simp) rfl)).trans (FrI.mono hfr112 (by simp) rfl)).trans (FrI.ua hw120 rfl)).trans (FrI.ux hw124 (by simp))).trans (FrI.mono hfr136 (by simp) rfl)).trans (FrI.mono hfr154 (by simp) rfl)), hm155, ((((FF.refl : FF [0, 34, 43] fs fs).trans (FF.set sfs2 rfl)).trans (FF.set sfs125 rfl)).trans (FF.mono hff156 rfl))⟩, v164, v162, v144, hBD92, hX117, hT141, hpe142, rfl, f165, f166, f163, f167, f168, f147, f148, hN149⟩ (show 0 ≤ 0 by omega) (show 0 ≤ 0 by omega) dX6_heard_141
            · skip
              exfalso; omega
    · skip
      exfalso; omega
abbrev rX6_back : Room := { frames := 1, cells := 0, slots := 0, locals := 22 }
theorem fsX6_back_80 : FS wsX6_back RX6 80 6 0 false (.int) := ⟨RX6, TX6, 45, tyX6, rfl, by decide, by decide +kernel, by decide +kernel, tyX6_ok, nmX6, rfl, rfl, rfl⟩
theorem flX6_back_196 : FL wsX6_back RX6 196 6 34 := ⟨RX6, TX6, 45, rfl, by decide, by decide +kernel, by decide +kernel⟩
set_option maxHeartbeats 4000000 in
set_option maxRecDepth 100000 in
theorem m_back0 {w : pW} {A : Nat → Nat} {mm : Nat} {fs : List Value} (hAD : AD A mm) (hmm : w mm = some (.inr (6, fs))) (hA : RA A fs) (h34 : fs[34]? = some (.int (nI 0))) : Ct yX6_back wsX6_back rX6_back [.ref mm] w (fun o w9 => o = .inl (some (.int (-1))) ∧ ∃ fs9 : List Value, MU A mm [] [0] w w9 fs fs9 ∧ fs9[0]? = some (.int (nI 0))) := by
  refine Ct.of (cc := cX6_back) (own := RX6) (nm := "back") (nL := 1) (ret := (some .int)) (by decide +kernel) rfl rfl rfl (Nat.le_of_ble_eq_true rfl) ?_
  refine j_lvE (lv' := [(0, .ref mm)]) rfl ?_
  refine j_aload_n dX6_back_0 0 rfl ?_
  refine j_iconst (v := nI 0) dX6_back_1 (by decide) ?_
  refine j_putM fsX6_back_80 hmm rfl rfl (RA.lt hA (by decide)) dX6_back_2 (fun w1 fs2 sfs2 hw1 => ?_)
  have f3 : w1 mm = some (.inr (6, fs2)) := up_at hw1
  have rfs2 : RA A fs2 := RA.set hA sfs2 rfl
  have v4 := st_at sfs2 hA (by decide : 0 < 45)
  refine j_aload_n dX6_back_5 0 rfl ?_
  have v5 := (st_ne sfs2 rfl h34)
  refine j_get (v := .int (nI 0)) flX6_back_196 f3 v5 dX6_back_6 ?_
  refine j_if_neN 14 (by decide) dX6_back_9 (by decide) (fun h9 => absurd rfl h9) (fun _ => ?_)
  refine j_iconst (v := (-1)) dX6_back_12 (by decide) ?_
  exact j_iret rfl ⟨rfl, _, ⟨((FrI.refl : FrI A [mm] [] w w).trans (FrI.ux hw1 (by simp))), f3, ((FF.refl : FF [0] fs fs).trans (FF.set sfs2 rfl))⟩, v4⟩ (show 0 ≤ 0 by omega) (show 0 ≤ 0 by omega) dX6_back_13
theorem fsX6_back_196 : FS wsX6_back RX6 196 6 34 false (.int) := ⟨RX6, TX6, 45, tyX6, rfl, by decide, by decide +kernel, by decide +kernel, tyX6_ok, nmX6, rfl, rfl, rfl⟩
set_option maxHeartbeats 4000000 in
set_option maxRecDepth 100000 in
theorem m_back {pe ti ae aT : Nat → Nat} {nt : Nat} {w : pW} {A : Nat → Nat} {mm : Nat} {fs : List Value} (hAD : AD A mm) (hmm : w mm = some (.inr (6, fs))) (hA : RA A fs) (h34 : fs[34]? = some (.int (nI nt))) (a35 : w (A 35) = some (.inl (0, 400, .inl (fun j9 => nI (ti j9))))) (a36 : w (A 36) = some (.inl (0, 401, .inl (fun j9 => nI (pe j9))))) (a41 : w (A 41) = some (.inl (0, 400, .inl (fun j9 => nI (ae j9))))) (a42 : w (A 42) = some (.inl (0, 400, .inl (fun j9 => nI (aT j9))))) (hnt : nt ≤ 400) (hn0 : 0 < nt) (hpe100 : ∀ j, pe j < 100) : Ct yX6_back wsX6_back rX6_back [.ref mm] w (fun o w9 => o = .inl (some (.int (nI (nt - 1)))) ∧ ∃ fs9 : List Value, MU A mm [41, 42] [0, 34, 43] w w9 fs fs9 ∧ fs9[0]? = some (.int (nI 0)) ∧ fs9[34]? = some (.int (nI (nt - 1))) ∧ fs9[43]? = some (.int (nI (anL pe (nt - 1)).length)) ∧ ∃ ae9 aT9 : Nat → Nat, w9 (A 41) = some (.inl (0, 400, .inl (fun j9 => nI (ae9 j9)))) ∧ w9 (A 42) = some (.inl (0, 400, .inl (fun j9 => nI (aT9 j9)))) ∧ ANI pe ti (anL pe (nt - 1)) ae9 aT9) := by
  refine Ct.of (cc := cX6_back) (own := RX6) (nm := "back") (nL := 1) (ret := (some .int)) (by decide +kernel) rfl rfl rfl (Nat.le_of_ble_eq_true rfl) ?_
  refine j_lvE (lv' := [(0, .ref mm)]) rfl ?_
  refine j_aload_n dX6_back_0 0 rfl ?_
  refine j_iconst (v := nI 0) dX6_back_1 (by decide) ?_
  refine j_putM fsX6_back_80 hmm rfl rfl (RA.lt hA (by decide)) dX6_back_2 (fun w1 fs2 sfs2 hw1 => ?_)
  have f3 : w1 mm = some (.inr (6, fs2)) := up_at hw1
  have rfs2 : RA A fs2 := RA.set hA sfs2 rfl
  have v4 := st_at sfs2 hA (by decide : 0 < 45)
  refine j_aload_n dX6_back_5 0 rfl ?_
  have v5 := (st_ne sfs2 rfl h34)
  refine j_get (v := .int (nI nt)) flX6_back_196 f3 v5 dX6_back_6 ?_
  refine j_if_neN 14 (by omega) dX6_back_9 (by decide) (fun c9 => ?_) (fun c9 => ?_)
  · skip
    refine j_aload_n dX6_back_14 0 rfl ?_
    refine j_dup dX6_back_15 rfl ?_
    refine j_get (v := .int (nI nt)) flX6_back_196 f3 v5 dX6_back_16 ?_
    refine j_iconst (v := nI 1) dX6_back_19 (by decide) ?_
    refine j_isubN (by omega) dX6_back_20 ?_
    refine j_putM fsX6_back_196 f3 rfl rfl (RA.lt rfs2 (by decide)) dX6_back_21 (fun w6 fs7 sfs7 hw6 => ?_)
    have f8 : w6 mm = some (.inr (6, fs7)) := up_at hw6
    have rfs7 : RA A fs7 := RA.set rfs2 sfs7 rfl
    have v9 := st_at sfs7 rfs2 (by decide : 34 < 45)
    refine j_aload_n dX6_back_24 0 rfl ?_
    have f16 := (up_ne hw6 (AD.nm hAD 35 rfl) (up_ne hw1 (AD.nm hAD 35 rfl) a35))
    have f17 := (up_ne hw6 (AD.nm hAD 36 rfl) (up_ne hw1 (AD.nm hAD 36 rfl) a36))
    have f18 := (up_ne hw6 (AD.nm hAD 41 rfl) (up_ne hw1 (AD.nm hAD 41 rfl) a41))
    have f19 := (up_ne hw6 (AD.nm hAD 42 rfl) (up_ne hw1 (AD.nm hAD 42 rfl) a42))
    refine j_callV (rm := rX6_anchor) (As := []) (st := []) (b0 := mm) (ci := 6) (na := 0) (m_anchor hAD f8 rfs7 v9 f16 f17 f18 f19 (by omega) (fun j _ => hpe100 j)) (by intro E w9 h9; first | exact nomatch h9.1 | (obtain ⟨_, h9, _⟩ := h9; exact nomatch h9) | (obtain ⟨_, _, _, h9, _⟩ := h9; exact nomatch h9)) gX6_back_X6_anchor rfl rfl f8 (by decide +kernel) rfl ⟨Nat.le_of_ble_eq_true rfl, Nat.le_of_ble_eq_true rfl⟩ rfl (Nat.le_of_ble_eq_true rfl) dX6_back_25 ⟨(show 0 + 0 ≤ 0 by omega), (show 0 + 0 ≤ 0 by omega)⟩ (fun v25 w26 h27 => ?_)
    obtain ⟨h24, fs20, ⟨hfr21, hm22, hff23⟩, v10, ae11, aT12, f13, f14, hN15⟩ := h27
    cases h24
    refine j_after (st' := []) (k' := 0) (n' := 0) rfl rfl rfl ?_
    have r28 : RA A fs20 := RA.ff rfs7 hff23 rfl
    refine j_aload_n dX6_back_28 0 rfl ?_
    have v29 := (FF.at hff23 rfl v9)
    refine j_get (v := .int (nI (nt - 1))) flX6_back_196 hm22 v29 dX6_back_29 ?_
    have v30 := (FF.at hff23 rfl (st_ne sfs7 rfl v4))
    exact j_iret rfl ⟨rfl, _, ⟨((((FrI.refl : FrI A [mm] [41, 42] w w).trans (FrI.ux hw1 (by simp))).trans (FrI.ux hw6 (by simp))).trans (FrI.sub hfr21 rfl)), hm22, ((((FF.refl : FF [0, 34, 43] fs fs).trans (FF.set sfs2 rfl)).trans (FF.set sfs7 rfl)).trans (FF.mono hff23 rfl))⟩, v30, v29, v10, _, _, f13, f14, hN15⟩ (show 0 ≤ 0 by omega) (show 0 ≤ 0 by omega) dX6_back_32
  · skip
    exfalso; omega
abbrev rX6_place : Room := { frames := 1, cells := 0, slots := 0, locals := 20 }
theorem fsX6_place_80 : FS wsX6_place RX6 80 6 0 false (.int) := ⟨RX6, TX6, 45, tyX6, rfl, by decide, by decide +kernel, by decide +kernel, tyX6_ok, nmX6, rfl, rfl, rfl⟩
theorem flX6_place_144 : FL wsX6_place RX6 144 6 5 := ⟨RX6, TX6, 45, rfl, by decide, by decide +kernel, by decide +kernel⟩
set_option maxHeartbeats 4000000 in
set_option maxRecDepth 100000 in
theorem m_place0 {x : Int32} {w : pW} {A : Nat → Nat} {mm : Nat} {fs : List Value} (hAD : AD A mm) (hmm : w mm = some (.inr (6, fs))) (hA : RA A fs) (h5 : fs[5]? = some (.int (nI 0))) : Ct yX6_place wsX6_place rX6_place [.ref mm, .int x] w (fun o w9 => o = .inl (some (.int (nI 0))) ∧ ∃ fs9 : List Value, MU A mm [] [0] w w9 fs fs9 ∧ fs9[0]? = some (.int (nI 1))) := by
  refine Ct.of (cc := cX6_place) (own := RX6) (nm := "place") (nL := 3) (ret := (some .int)) (by decide +kernel) rfl rfl rfl (Nat.le_of_ble_eq_true rfl) ?_
  refine j_lvE (lv' := [(0, .ref mm), (1, .int x)]) rfl ?_
  refine j_aload_n dX6_place_0 0 rfl ?_
  refine j_iconst (v := nI 0) dX6_place_1 (by decide) ?_
  refine j_putM fsX6_place_80 hmm rfl rfl (RA.lt hA (by decide)) dX6_place_2 (fun w1 fs2 sfs2 hw1 => ?_)
  have f3 : w1 mm = some (.inr (6, fs2)) := up_at hw1
  have rfs2 : RA A fs2 := RA.set hA sfs2 rfl
  have v4 := st_at sfs2 hA (by decide : 0 < 45)
  refine j_aload_n dX6_place_5 0 rfl ?_
  have v5 := (st_ne sfs2 rfl h5)
  refine j_get (v := .int (nI 0)) flX6_place_144 f3 v5 dX6_place_6 ?_
  refine j_if_eqN 21 (by decide) dX6_place_9 (by decide) (fun _ => ?_) (fun h9 => absurd rfl h9)
  refine j_aload_n dX6_place_21 0 rfl ?_
  refine j_callV (rm := rX6_fail) (As := []) (st := []) (b0 := mm) (ci := 6) (na := 0) (m_fail hAD f3 rfs2) (by intro E w9 h9; first | exact nomatch h9.1 | (obtain ⟨_, h9, _⟩ := h9; exact nomatch h9) | (obtain ⟨_, _, _, h9, _⟩ := h9; exact nomatch h9)) gX6_place_X6_fail rfl rfl f3 (by decide +kernel) rfl ⟨Nat.le_of_ble_eq_true rfl, Nat.le_of_ble_eq_true rfl⟩ rfl (Nat.le_of_ble_eq_true rfl) dX6_place_22 ⟨(show 0 + 0 ≤ 0 by omega), (show 0 + 0 ≤ 0 by omega)⟩ (fun v12 w13 h14 => ?_)
  obtain ⟨h11, fs7, ⟨hfr8, hm9, hff10⟩, v6⟩ := h14
  cases h11
  refine j_after (st' := [.int (nI 0)]) (k' := 0) (n' := 0) rfl rfl rfl ?_
  have r15 : RA A fs7 := RA.ff rfs2 hff10 rfl
  exact j_iret rfl ⟨rfl, _, ⟨(((FrI.refl : FrI A [mm] [] w w).trans (FrI.ux hw1 (by simp))).trans (FrI.sub hfr8 rfl)), hm9, (((FF.refl : FF [0] fs fs).trans (FF.set sfs2 rfl)).trans (FF.mono hff10 rfl))⟩, v6⟩ (show 0 ≤ 0 by omega) (show 0 ≤ 0 by omega) dX6_place_25
set_option maxHeartbeats 4000000 in
set_option maxRecDepth 100000 in
theorem m_placeBad {ev : Nat} {x : Int32} {w : pW} {A : Nat → Nat} {mm : Nat} {fs : List Value} (hAD : AD A mm) (hmm : w mm = some (.inr (6, fs))) (hA : RA A fs) (h5 : fs[5]? = some (.int (nI ev))) (hev : ev ≤ 100) (hb : x < 0 ∨ nI 4 < x) : Ct yX6_place wsX6_place rX6_place [.ref mm, .int x] w (fun o w9 => o = .inl (some (.int (nI 0))) ∧ ∃ fs9 : List Value, MU A mm [] [0] w w9 fs fs9 ∧ fs9[0]? = some (.int (nI 1))) := by
  refine Ct.of (cc := cX6_place) (own := RX6) (nm := "place") (nL := 3) (ret := (some .int)) (by decide +kernel) rfl rfl rfl (Nat.le_of_ble_eq_true rfl) ?_
  refine j_lvE (lv' := [(0, .ref mm), (1, .int x)]) rfl ?_
  refine j_aload_n dX6_place_0 0 rfl ?_
  refine j_iconst (v := nI 0) dX6_place_1 (by decide) ?_
  refine j_putM fsX6_place_80 hmm rfl rfl (RA.lt hA (by decide)) dX6_place_2 (fun w1 fs2 sfs2 hw1 => ?_)
  have f3 : w1 mm = some (.inr (6, fs2)) := up_at hw1
  have rfs2 : RA A fs2 := RA.set hA sfs2 rfl
  have v4 := st_at sfs2 hA (by decide : 0 < 45)
  refine j_aload_n dX6_place_5 0 rfl ?_
  have v5 := (st_ne sfs2 rfl h5)
  refine j_get (v := .int (nI ev)) flX6_place_144 f3 v5 dX6_place_6 ?_
  refine j_if_eqN 21 (by omega) dX6_place_9 (by decide) (fun c9 => ?_) (fun c9 => ?_)
  · skip
    refine j_aload_n dX6_place_21 0 rfl ?_
    refine j_callV (rm := rX6_fail) (As := []) (st := []) (b0 := mm) (ci := 6) (na := 0) (m_fail hAD f3 rfs2) (by intro E w9 h9; first | exact nomatch h9.1 | (obtain ⟨_, h9, _⟩ := h9; exact nomatch h9) | (obtain ⟨_, _, _, h9, _⟩ := h9; exact nomatch h9)) gX6_place_X6_fail rfl rfl f3 (by decide +kernel) rfl ⟨Nat.le_of_ble_eq_true rfl, Nat.le_of_ble_eq_true rfl⟩ rfl (Nat.le_of_ble_eq_true rfl) dX6_place_22 ⟨(show 0 + 0 ≤ 0 by omega), (show 0 + 0 ≤ 0 by omega)⟩ (fun v12 w13 h14 => ?_)
    obtain ⟨h11, fs7, ⟨hfr8, hm9, hff10⟩, v6⟩ := h14
    cases h11
    refine j_after (st' := [.int (nI 0)]) (k' := 0) (n' := 0) rfl rfl rfl ?_
    have r15 : RA A fs7 := RA.ff rfs2 hff10 rfl
    exact j_iret rfl ⟨rfl, _, ⟨(((FrI.refl : FrI A [mm] [] w w).trans (FrI.ux hw1 (by simp))).trans (FrI.sub hfr8 rfl)), hm9, (((FF.refl : FF [0] fs fs).trans (FF.set sfs2 rfl)).trans (FF.mono hff10 rfl))⟩, v6⟩ (show 0 ≤ 0 by omega) (show 0 ≤ 0 by omega) dX6_place_25
  · skip
    refine j_iload_n dX6_place_12 1 rfl ?_
    refine j_if_lt 21 dX6_place_13 (by decide) (fun c13 => ?_) (fun c13 => ?_)
    · skip
      refine j_aload_n dX6_place_21 0 rfl ?_
      refine j_callV (rm := rX6_fail) (As := []) (st := []) (b0 := mm) (ci := 6) (na := 0) (m_fail hAD f3 rfs2) (by intro E w9 h9; first | exact nomatch h9.1 | (obtain ⟨_, h9, _⟩ := h9; exact nomatch h9) | (obtain ⟨_, _, _, h9, _⟩ := h9; exact nomatch h9)) gX6_place_X6_fail rfl rfl f3 (by decide +kernel) rfl ⟨Nat.le_of_ble_eq_true rfl, Nat.le_of_ble_eq_true rfl⟩ rfl (Nat.le_of_ble_eq_true rfl) dX6_place_22 ⟨(show 0 + 0 ≤ 0 by omega), (show 0 + 0 ≤ 0 by omega)⟩ (fun v22 w23 h24 => ?_)
      obtain ⟨h21, fs17, ⟨hfr18, hm19, hff20⟩, v16⟩ := h24
      cases h21
      refine j_after (st' := [.int (nI 0)]) (k' := 0) (n' := 0) rfl rfl rfl ?_
      have r25 : RA A fs17 := RA.ff rfs2 hff20 rfl
      exact j_iret rfl ⟨rfl, _, ⟨(((FrI.refl : FrI A [mm] [] w w).trans (FrI.ux hw1 (by simp))).trans (FrI.sub hfr18 rfl)), hm19, (((FF.refl : FF [0] fs fs).trans (FF.set sfs2 rfl)).trans (FF.mono hff20 rfl))⟩, v16⟩ (show 0 ≤ 0 by omega) (show 0 ≤ 0 by omega) dX6_place_25
    · skip
      refine j_iload_n dX6_place_16 1 rfl ?_
      refine j_iconst (v := nI 4) dX6_place_17 (by decide) ?_
      refine j_icmp_le 26 dX6_place_18 (by decide) (fun c18 => ?_) (fun c18 => ?_)
      · skip
        exact absurd (bad2 hb c13 c18) id
      · skip
        refine j_aload_n dX6_place_21 0 rfl ?_
        refine j_callV (rm := rX6_fail) (As := []) (st := []) (b0 := mm) (ci := 6) (na := 0) (m_fail hAD f3 rfs2) (by intro E w9 h9; first | exact nomatch h9.1 | (obtain ⟨_, h9, _⟩ := h9; exact nomatch h9) | (obtain ⟨_, _, _, h9, _⟩ := h9; exact nomatch h9)) gX6_place_X6_fail rfl rfl f3 (by decide +kernel) rfl ⟨Nat.le_of_ble_eq_true rfl, Nat.le_of_ble_eq_true rfl⟩ rfl (Nat.le_of_ble_eq_true rfl) dX6_place_22 ⟨(show 0 + 0 ≤ 0 by omega), (show 0 + 0 ≤ 0 by omega)⟩ (fun v32 w33 h34 => ?_)
        obtain ⟨h31, fs27, ⟨hfr28, hm29, hff30⟩, v26⟩ := h34
        cases h31
        refine j_after (st' := [.int (nI 0)]) (k' := 0) (n' := 0) rfl rfl rfl ?_
        have r35 : RA A fs27 := RA.ff rfs2 hff30 rfl
        exact j_iret rfl ⟨rfl, _, ⟨(((FrI.refl : FrI A [mm] [] w w).trans (FrI.ux hw1 (by simp))).trans (FrI.sub hfr28 rfl)), hm29, (((FF.refl : FF [0] fs fs).trans (FF.set sfs2 rfl)).trans (FF.mono hff30 rfl))⟩, v26⟩ (show 0 ≤ 0 by omega) (show 0 ≤ 0 by omega) dX6_place_25
theorem flX6_place_54 : FL wsX6_place RX6 54 6 36 := ⟨RX6, TX6, 45, rfl, by decide, by decide +kernel, by decide +kernel⟩
theorem flX6_place_196 : FL wsX6_place RX6 196 6 34 := ⟨RX6, TX6, 45, rfl, by decide, by decide +kernel, by decide +kernel⟩
theorem flX6_place_57 : FL wsX6_place RX6 57 6 37 := ⟨RX6, TX6, 45, rfl, by decide, by decide +kernel, by decide +kernel⟩
theorem flX6_place_62 : FL wsX6_place RX6 62 6 38 := ⟨RX6, TX6, 45, rfl, by decide, by decide +kernel, by decide +kernel⟩
theorem flX6_place_32 : FL wsX6_place RX6 32 6 15 := ⟨RX6, TX6, 45, rfl, by decide, by decide +kernel, by decide +kernel⟩
theorem flX6_place_35 : FL wsX6_place RX6 35 6 16 := ⟨RX6, TX6, 45, rfl, by decide, by decide +kernel, by decide +kernel⟩
set_option maxHeartbeats 4000000 in
set_option maxRecDepth 100000 in
theorem m_place {pe pb xe xg cr c : Nat → Nat} {ev nt k : Nat} {w : pW} {A : Nat → Nat} {mm : Nat} {fs : List Value} (hAD : AD A mm) (hmm : w mm = some (.inr (6, fs))) (hA : RA A fs) (h5 : fs[5]? = some (.int (nI ev))) (h34 : fs[34]? = some (.int (nI nt))) (a15 : w (A 15) = some (.inl (0, 100, .inl (fun j9 => nI (xe j9))))) (a16 : w (A 16) = some (.inl (0, 100, .inl (fun j9 => nI (xg j9))))) (a36 : w (A 36) = some (.inl (0, 401, .inl (fun j9 => nI (pe j9))))) (a37 : w (A 37) = some (.inl (0, 401, .inl (fun j9 => nI (pb j9))))) (a38 : w (A 38) = some (.inl (4, 401, .inr (.inr (.inr (.inr (fun j9 => some (cr j9)))))))) (hr0 : w (cr nt) = some (.inl (0, 1600, .inl (fun j9 => nI (c j9))))) (hrw0 : RW A mm (cr nt)) (hev : ev ≤ 100) (hev0 : 0 < ev) (hnt : nt ≤ 400) (hpe : pe nt < 100) (hpb : pb nt < 16) (hk : k < 5) : Ct yX6_place wsX6_place rX6_place [.ref mm, .int (nI k)] w (fun o w9 => o = .inl (some (.int (plcF (xe (pe nt)) (xg (pe nt)) (pe nt) (pb nt) (c (16 * pe nt + pb nt)) k))) ∧ ∃ fs9 : List Value, MU A mm [] [0] w w9 fs fs9 ∧ fs9[0]? = some (.int (nI 0))) := by
  refine Ct.of (cc := cX6_place) (own := RX6) (nm := "place") (nL := 3) (ret := (some .int)) (by decide +kernel) rfl rfl rfl (Nat.le_of_ble_eq_true rfl) ?_
  refine j_lvE (lv' := [(0, .ref mm), (1, .int (nI k))]) rfl ?_
  refine j_aload_n dX6_place_0 0 rfl ?_
  refine j_iconst (v := nI 0) dX6_place_1 (by decide) ?_
  refine j_putM fsX6_place_80 hmm rfl rfl (RA.lt hA (by decide)) dX6_place_2 (fun w1 fs2 sfs2 hw1 => ?_)
  have f3 : w1 mm = some (.inr (6, fs2)) := up_at hw1
  have rfs2 : RA A fs2 := RA.set hA sfs2 rfl
  have v4 := st_at sfs2 hA (by decide : 0 < 45)
  refine j_aload_n dX6_place_5 0 rfl ?_
  have v5 := (st_ne sfs2 rfl h5)
  refine j_get (v := .int (nI ev)) flX6_place_144 f3 v5 dX6_place_6 ?_
  refine j_if_eqN 21 (by omega) dX6_place_9 (by decide) (fun c9 => ?_) (fun c9 => ?_)
  · skip
    exfalso; omega
  · skip
    refine j_iload_n dX6_place_12 1 rfl ?_
    refine j_if_ltN (by omega) dX6_place_13 (by decide : _ = ((21 : Nat) : Int)) ?_
    refine j_iload_n dX6_place_16 1 rfl ?_
    refine j_iconst (v := nI 4) dX6_place_17 (by decide) ?_
    refine j_icmp_leN 26 (by omega) (by omega) dX6_place_18 (by decide) (fun c18 => ?_) (fun c18 => ?_)
    · skip
      refine j_aload_n dX6_place_26 0 rfl ?_
      refine j_get (v := .ref (A 36)) flX6_place_54 f3 (rfs2.2 36 rfl) dX6_place_27 ?_
      refine j_aload_n dX6_place_30 0 rfl ?_
      have v6 := (st_ne sfs2 rfl h34)
      refine j_get (v := .int (nI nt)) flX6_place_196 f3 v6 dX6_place_31 ?_
      have f7 := (up_ne hw1 (AD.nm hAD 36 rfl) a36)
      refine j_ialdN (j := nt) f7 rfl (by omega) (by omega) dX6_place_34 ?_
      refine j_istore_n (lv' := [(2, .int (nI (pe nt))), (0, .ref mm), (1, .int (nI k))]) dX6_place_35 (Nat.le_of_ble_eq_true rfl) rfl ?_
      refine j_iload_n dX6_place_36 2 rfl ?_
      by_cases k0 : k = 0
      · skip
        refine j_tableIn (off := 31) 68 dX6_place_37 (by rw [k0]; decide) (by rw [k0]; decide) (by rw [k0]; decide) (by decide) ?_
        refine j_iload_n dX6_place_68 0 rfl ?_
        exact j_iret rfl ⟨by subst k0; rfl, _, ⟨((FrI.refl : FrI A [mm] [] w w).trans (FrI.ux hw1 (by simp))), f3, ((FF.refl : FF [0] fs fs).trans (FF.set sfs2 rfl))⟩, v4⟩ (show 0 ≤ 0 by omega) (show 0 ≤ 0 by omega) dX6_place_69
      by_cases k1 : k = 1
      · skip
        refine j_tableIn (off := 33) 70 dX6_place_37 (by rw [k1]; decide) (by rw [k1]; decide) (by rw [k1]; decide) (by decide) ?_
        refine j_aload_n dX6_place_70 1 rfl ?_
        refine j_get (v := .ref (A 37)) flX6_place_57 f3 (rfs2.2 37 rfl) dX6_place_71 ?_
        refine j_aload_n dX6_place_74 1 rfl ?_
        refine j_get (v := .int (nI nt)) flX6_place_196 f3 v6 dX6_place_75 ?_
        have f8 := (up_ne hw1 (AD.nm hAD 37 rfl) a37)
        refine j_ialdN (j := nt) f8 rfl (by omega) (by omega) dX6_place_78 ?_
        exact j_iret rfl ⟨by subst k1; rfl, _, ⟨((FrI.refl : FrI A [mm] [] w w).trans (FrI.ux hw1 (by simp))), f3, ((FF.refl : FF [0] fs fs).trans (FF.set sfs2 rfl))⟩, v4⟩ (show 0 ≤ 0 by omega) (show 0 ≤ 0 by omega) dX6_place_79
      by_cases k2 : k = 2
      · skip
        refine j_tableIn (off := 43) 80 dX6_place_37 (by rw [k2]; decide) (by rw [k2]; decide) (by rw [k2]; decide) (by decide) ?_
        refine j_aload_n dX6_place_80 1 rfl ?_
        refine j_get (v := .ref (A 38)) flX6_place_62 f3 (rfs2.2 38 rfl) dX6_place_81 ?_
        refine j_aload_n dX6_place_84 1 rfl ?_
        refine j_get (v := .int (nI nt)) flX6_place_196 f3 v6 dX6_place_85 ?_
        have f9 := (up_ne hw1 (AD.nm hAD 38 rfl) a38)
        refine j_aaldN (j := nt) f9 rfl (by omega) (by omega) dX6_place_88 ?_
        refine j_after (st' := [.ref (cr nt)]) (k' := 0) (n' := 0) rfl rfl rfl ?_
        refine j_bipush (v := nI 16) dX6_place_89 (by decide) ?_
        refine j_iload_n dX6_place_91 0 rfl ?_
        refine j_imulN dX6_place_92 ?_
        refine j_aload_n dX6_place_93 1 rfl ?_
        refine j_get (v := .ref (A 37)) flX6_place_57 f3 (rfs2.2 37 rfl) dX6_place_94 ?_
        refine j_aload_n dX6_place_97 1 rfl ?_
        refine j_get (v := .int (nI nt)) flX6_place_196 f3 v6 dX6_place_98 ?_
        have f10 := (up_ne hw1 (AD.nm hAD 37 rfl) a37)
        refine j_ialdN (j := nt) f10 rfl (by omega) (by omega) dX6_place_101 ?_
        refine j_iaddN dX6_place_102 ?_
        have f11 := (up_ne hw1 hrw0.1 hr0)
        refine j_ialdN (j := (16 * (pe nt)) + (pb nt)) f11 rfl (by omega) (by omega) dX6_place_103 ?_
        exact j_iret rfl ⟨by subst k2; rfl, _, ⟨((FrI.refl : FrI A [mm] [] w w).trans (FrI.ux hw1 (by simp))), f3, ((FF.refl : FF [0] fs fs).trans (FF.set sfs2 rfl))⟩, v4⟩ (show 0 ≤ 0 by omega) (show 0 ≤ 0 by omega) dX6_place_104
      by_cases k3 : k = 3
      · skip
        refine j_tableIn (off := 68) 105 dX6_place_37 (by rw [k3]; decide) (by rw [k3]; decide) (by rw [k3]; decide) (by decide) ?_
        refine j_aload_n dX6_place_105 1 rfl ?_
        refine j_get (v := .ref (A 15)) flX6_place_32 f3 (rfs2.2 15 rfl) dX6_place_106 ?_
        refine j_iload_n dX6_place_109 0 rfl ?_
        have f12 := (up_ne hw1 (AD.nm hAD 15 rfl) a15)
        refine j_ialdN (j := pe nt) f12 rfl (by omega) (by omega) dX6_place_110 ?_
        exact j_iret rfl ⟨by subst k3; rfl, _, ⟨((FrI.refl : FrI A [mm] [] w w).trans (FrI.ux hw1 (by simp))), f3, ((FF.refl : FF [0] fs fs).trans (FF.set sfs2 rfl))⟩, v4⟩ (show 0 ≤ 0 by omega) (show 0 ≤ 0 by omega) dX6_place_111
      have k4 : k = 4 := by omega
      refine j_tableOut 112 dX6_place_37 (tOut (n := 3) (by decide) (Or.inr (nI_le (show 3 + 1 ≤ k by omega) (by omega)))) (by decide) ?_
      refine j_aload_n dX6_place_112 1 rfl ?_
      refine j_get (v := .ref (A 16)) flX6_place_35 f3 (rfs2.2 16 rfl) dX6_place_113 ?_
      refine j_iload_n dX6_place_116 0 rfl ?_
      have f13 := (up_ne hw1 (AD.nm hAD 16 rfl) a16)
      refine j_ialdN (j := pe nt) f13 rfl (by omega) (by omega) dX6_place_117 ?_
      exact j_iret rfl ⟨by subst k4; rfl, _, ⟨((FrI.refl : FrI A [mm] [] w w).trans (FrI.ux hw1 (by simp))), f3, ((FF.refl : FF [0] fs fs).trans (FF.set sfs2 rfl))⟩, v4⟩ (show 0 ≤ 0 by omega) (show 0 ≤ 0 by omega) dX6_place_118
    · skip
      exfalso; omega
abbrev rX6_cost : Room := { frames := 1, cells := 0, slots := 0, locals := 21 }
theorem fsX6_cost_80 : FS wsX6_cost RX6 80 6 0 false (.int) := ⟨RX6, TX6, 45, tyX6, rfl, by decide, by decide +kernel, by decide +kernel, tyX6_ok, nmX6, rfl, rfl, rfl⟩
set_option maxHeartbeats 4000000 in
set_option maxRecDepth 100000 in
theorem m_costBadM {ev : Nat} {x y : Int32} {w : pW} {A : Nat → Nat} {mm : Nat} {fs : List Value} (hAD : AD A mm) (hmm : w mm = some (.inr (6, fs))) (hA : RA A fs) (h5 : fs[5]? = some (.int (nI ev))) (hx : x < 0) : Ct yX6_cost wsX6_cost rX6_cost [.ref mm, .int x, .int y] w (fun o w9 => o = .inl (some (.int (nI 0))) ∧ ∃ fs9 : List Value, MU A mm [] [0] w w9 fs fs9 ∧ fs9[0]? = some (.int (nI 1))) := by
  refine Ct.of (cc := cX6_cost) (own := RX6) (nm := "cost") (nL := 4) (ret := (some .int)) (by decide +kernel) rfl rfl rfl (Nat.le_of_ble_eq_true rfl) ?_
  refine j_lvE (lv' := [(0, .ref mm), (1, .int x), (2, .int y)]) rfl ?_
  refine j_aload_n dX6_cost_0 0 rfl ?_
  refine j_iconst (v := nI 0) dX6_cost_1 (by decide) ?_
  refine j_putM fsX6_cost_80 hmm rfl rfl (RA.lt hA (by decide)) dX6_cost_2 (fun w1 fs2 sfs2 hw1 => ?_)
  have f3 : w1 mm = some (.inr (6, fs2)) := up_at hw1
  have rfs2 : RA A fs2 := RA.set hA sfs2 rfl
  have v4 := st_at sfs2 hA (by decide : 0 < 45)
  refine j_iload_n dX6_cost_5 1 rfl ?_
  refine j_if_lt 30 dX6_cost_6 (by decide) (fun c6 => ?_) (fun c6 => ?_)
  · skip
    refine j_aload_n dX6_cost_30 0 rfl ?_
    refine j_callV (rm := rX6_fail) (As := []) (st := []) (b0 := mm) (ci := 6) (na := 0) (m_fail hAD f3 rfs2) (by intro E w9 h9; first | exact nomatch h9.1 | (obtain ⟨_, h9, _⟩ := h9; exact nomatch h9) | (obtain ⟨_, _, _, h9, _⟩ := h9; exact nomatch h9)) gX6_cost_X6_fail rfl rfl f3 (by decide +kernel) rfl ⟨Nat.le_of_ble_eq_true rfl, Nat.le_of_ble_eq_true rfl⟩ rfl (Nat.le_of_ble_eq_true rfl) dX6_cost_31 ⟨(show 0 + 0 ≤ 0 by omega), (show 0 + 0 ≤ 0 by omega)⟩ (fun v11 w12 h13 => ?_)
    obtain ⟨h10, fs6, ⟨hfr7, hm8, hff9⟩, v5⟩ := h13
    cases h10
    refine j_after (st' := [.int (nI 0)]) (k' := 0) (n' := 0) rfl rfl rfl ?_
    have r14 : RA A fs6 := RA.ff rfs2 hff9 rfl
    exact j_iret rfl ⟨rfl, _, ⟨(((FrI.refl : FrI A [mm] [] w w).trans (FrI.ux hw1 (by simp))).trans (FrI.sub hfr7 rfl)), hm8, (((FF.refl : FF [0] fs fs).trans (FF.set sfs2 rfl)).trans (FF.mono hff9 rfl))⟩, v5⟩ (show 0 ≤ 0 by omega) (show 0 ≤ 0 by omega) dX6_cost_34
  · skip
    exact absurd (c6 hx) id
theorem flX6_cost_144 : FL wsX6_cost RX6 144 6 5 := ⟨RX6, TX6, 45, rfl, by decide, by decide +kernel, by decide +kernel⟩
set_option maxHeartbeats 4000000 in
set_option maxRecDepth 100000 in
theorem m_costBadE {ev e : Nat} {y : Int32} {w : pW} {A : Nat → Nat} {mm : Nat} {fs : List Value} (hAD : AD A mm) (hmm : w mm = some (.inr (6, fs))) (hA : RA A fs) (h5 : fs[5]? = some (.int (nI ev))) (he : ev ≤ e) (he2 : e < 2 ^ 31) (hev : ev ≤ 100) : Ct yX6_cost wsX6_cost rX6_cost [.ref mm, .int (nI e), .int y] w (fun o w9 => o = .inl (some (.int (nI 0))) ∧ ∃ fs9 : List Value, MU A mm [] [0] w w9 fs fs9 ∧ fs9[0]? = some (.int (nI 1))) := by
  refine Ct.of (cc := cX6_cost) (own := RX6) (nm := "cost") (nL := 4) (ret := (some .int)) (by decide +kernel) rfl rfl rfl (Nat.le_of_ble_eq_true rfl) ?_
  refine j_lvE (lv' := [(0, .ref mm), (1, .int (nI e)), (2, .int y)]) rfl ?_
  refine j_aload_n dX6_cost_0 0 rfl ?_
  refine j_iconst (v := nI 0) dX6_cost_1 (by decide) ?_
  refine j_putM fsX6_cost_80 hmm rfl rfl (RA.lt hA (by decide)) dX6_cost_2 (fun w1 fs2 sfs2 hw1 => ?_)
  have f3 : w1 mm = some (.inr (6, fs2)) := up_at hw1
  have rfs2 : RA A fs2 := RA.set hA sfs2 rfl
  have v4 := st_at sfs2 hA (by decide : 0 < 45)
  refine j_iload_n dX6_cost_5 1 rfl ?_
  refine j_if_ltN (by omega) dX6_cost_6 (by decide : _ = ((30 : Nat) : Int)) ?_
  refine j_iload_n dX6_cost_9 1 rfl ?_
  refine j_aload_n dX6_cost_10 0 rfl ?_
  have v5 := (st_ne sfs2 rfl h5)
  refine j_get (v := .int (nI ev)) flX6_cost_144 f3 v5 dX6_cost_11 ?_
  refine j_icmp_geN 30 (by omega) (by omega) dX6_cost_14 (by decide) (fun c14 => ?_) (fun c14 => ?_)
  · skip
    refine j_aload_n dX6_cost_30 0 rfl ?_
    refine j_callV (rm := rX6_fail) (As := []) (st := []) (b0 := mm) (ci := 6) (na := 0) (m_fail hAD f3 rfs2) (by intro E w9 h9; first | exact nomatch h9.1 | (obtain ⟨_, h9, _⟩ := h9; exact nomatch h9) | (obtain ⟨_, _, _, h9, _⟩ := h9; exact nomatch h9)) gX6_cost_X6_fail rfl rfl f3 (by decide +kernel) rfl ⟨Nat.le_of_ble_eq_true rfl, Nat.le_of_ble_eq_true rfl⟩ rfl (Nat.le_of_ble_eq_true rfl) dX6_cost_31 ⟨(show 0 + 0 ≤ 0 by omega), (show 0 + 0 ≤ 0 by omega)⟩ (fun v12 w13 h14 => ?_)
    obtain ⟨h11, fs7, ⟨hfr8, hm9, hff10⟩, v6⟩ := h14
    cases h11
    refine j_after (st' := [.int (nI 0)]) (k' := 0) (n' := 0) rfl rfl rfl ?_
    have r15 : RA A fs7 := RA.ff rfs2 hff10 rfl
    exact j_iret rfl ⟨rfl, _, ⟨(((FrI.refl : FrI A [mm] [] w w).trans (FrI.ux hw1 (by simp))).trans (FrI.sub hfr8 rfl)), hm9, (((FF.refl : FF [0] fs fs).trans (FF.set sfs2 rfl)).trans (FF.mono hff10 rfl))⟩, v6⟩ (show 0 ≤ 0 by omega) (show 0 ≤ 0 by omega) dX6_cost_34
  · skip
    exfalso; omega
set_option maxHeartbeats 4000000 in
set_option maxRecDepth 100000 in
theorem m_costBadY {ev e : Nat} {y : Int32} {w : pW} {A : Nat → Nat} {mm : Nat} {fs : List Value} (hAD : AD A mm) (hmm : w mm = some (.inr (6, fs))) (hA : RA A fs) (h5 : fs[5]? = some (.int (nI ev))) (he : e < ev) (hev : ev ≤ 100) (hy : y < 0) : Ct yX6_cost wsX6_cost rX6_cost [.ref mm, .int (nI e), .int y] w (fun o w9 => o = .inl (some (.int (nI 0))) ∧ ∃ fs9 : List Value, MU A mm [] [0] w w9 fs fs9 ∧ fs9[0]? = some (.int (nI 1))) := by
  refine Ct.of (cc := cX6_cost) (own := RX6) (nm := "cost") (nL := 4) (ret := (some .int)) (by decide +kernel) rfl rfl rfl (Nat.le_of_ble_eq_true rfl) ?_
  refine j_lvE (lv' := [(0, .ref mm), (1, .int (nI e)), (2, .int y)]) rfl ?_
  refine j_aload_n dX6_cost_0 0 rfl ?_
  refine j_iconst (v := nI 0) dX6_cost_1 (by decide) ?_
  refine j_putM fsX6_cost_80 hmm rfl rfl (RA.lt hA (by decide)) dX6_cost_2 (fun w1 fs2 sfs2 hw1 => ?_)
  have f3 : w1 mm = some (.inr (6, fs2)) := up_at hw1
  have rfs2 : RA A fs2 := RA.set hA sfs2 rfl
  have v4 := st_at sfs2 hA (by decide : 0 < 45)
  refine j_iload_n dX6_cost_5 1 rfl ?_
  refine j_if_ltN (by omega) dX6_cost_6 (by decide : _ = ((30 : Nat) : Int)) ?_
  refine j_iload_n dX6_cost_9 1 rfl ?_
  refine j_aload_n dX6_cost_10 0 rfl ?_
  have v5 := (st_ne sfs2 rfl h5)
  refine j_get (v := .int (nI ev)) flX6_cost_144 f3 v5 dX6_cost_11 ?_
  refine j_icmp_geN 30 (by omega) (by omega) dX6_cost_14 (by decide) (fun c14 => ?_) (fun c14 => ?_)
  · skip
    exfalso; omega
  · skip
    refine j_iload_n dX6_cost_17 2 rfl ?_
    refine j_if_lt 30 dX6_cost_18 (by decide) (fun c18 => ?_) (fun c18 => ?_)
    · skip
      refine j_aload_n dX6_cost_30 0 rfl ?_
      refine j_callV (rm := rX6_fail) (As := []) (st := []) (b0 := mm) (ci := 6) (na := 0) (m_fail hAD f3 rfs2) (by intro E w9 h9; first | exact nomatch h9.1 | (obtain ⟨_, h9, _⟩ := h9; exact nomatch h9) | (obtain ⟨_, _, _, h9, _⟩ := h9; exact nomatch h9)) gX6_cost_X6_fail rfl rfl f3 (by decide +kernel) rfl ⟨Nat.le_of_ble_eq_true rfl, Nat.le_of_ble_eq_true rfl⟩ rfl (Nat.le_of_ble_eq_true rfl) dX6_cost_31 ⟨(show 0 + 0 ≤ 0 by omega), (show 0 + 0 ≤ 0 by omega)⟩ (fun v12 w13 h14 => ?_)
      obtain ⟨h11, fs7, ⟨hfr8, hm9, hff10⟩, v6⟩ := h14
      cases h11
      refine j_after (st' := [.int (nI 0)]) (k' := 0) (n' := 0) rfl rfl rfl ?_
      have r15 : RA A fs7 := RA.ff rfs2 hff10 rfl
      exact j_iret rfl ⟨rfl, _, ⟨(((FrI.refl : FrI A [mm] [] w w).trans (FrI.ux hw1 (by simp))).trans (FrI.sub hfr8 rfl)), hm9, (((FF.refl : FF [0] fs fs).trans (FF.set sfs2 rfl)).trans (FF.mono hff10 rfl))⟩, v6⟩ (show 0 ≤ 0 by omega) (show 0 ≤ 0 by omega) dX6_cost_34
    · skip
      exact absurd (c18 hy) id
set_option maxHeartbeats 4000000 in
set_option maxRecDepth 100000 in
theorem m_costBadC {ev e b : Nat} {xm : Nat → Nat} {w : pW} {A : Nat → Nat} {mm : Nat} {fs : List Value} (hAD : AD A mm) (hmm : w mm = some (.inr (6, fs))) (hA : RA A fs) (h5 : fs[5]? = some (.int (nI ev))) (a11 : w (A 11) = some (.inl (0, 100, .inl (fun j9 => nI (xm j9))))) (he : e < ev) (hev : ev ≤ 100) (hm : xm e ≤ 4) (hb : 2 ^ xm e ≤ b) (hb2 : b < 2 ^ 31) : Ct yX6_cost wsX6_cost rX6_cost [.ref mm, .int (nI e), .int (nI b)] w (fun o w9 => o = .inl (some (.int (nI 0))) ∧ ∃ fs9 : List Value, MU A mm [] [0] w w9 fs fs9 ∧ fs9[0]? = some (.int (nI 1))) := by
  refine Ct.of (cc := cX6_cost) (own := RX6) (nm := "cost") (nL := 4) (ret := (some .int)) (by decide +kernel) rfl rfl rfl (Nat.le_of_ble_eq_true rfl) ?_
  refine j_lvE (lv' := [(0, .ref mm), (1, .int (nI e)), (2, .int (nI b))]) rfl ?_
  have hp4 := pw4 hm
  refine j_aload_n dX6_cost_0 0 rfl ?_
  refine j_iconst (v := nI 0) dX6_cost_1 (by decide) ?_
  refine j_putM fsX6_cost_80 hmm rfl rfl (RA.lt hA (by decide)) dX6_cost_2 (fun w1 fs2 sfs2 hw1 => ?_)
  have f3 : w1 mm = some (.inr (6, fs2)) := up_at hw1
  have rfs2 : RA A fs2 := RA.set hA sfs2 rfl
  have v4 := st_at sfs2 hA (by decide : 0 < 45)
  refine j_iload_n dX6_cost_5 1 rfl ?_
  refine j_if_ltN (by omega) dX6_cost_6 (by decide : _ = ((30 : Nat) : Int)) ?_
  refine j_iload_n dX6_cost_9 1 rfl ?_
  refine j_aload_n dX6_cost_10 0 rfl ?_
  have v5 := (st_ne sfs2 rfl h5)
  refine j_get (v := .int (nI ev)) flX6_cost_144 f3 v5 dX6_cost_11 ?_
  refine j_icmp_geN 30 (by omega) (by omega) dX6_cost_14 (by decide) (fun c14 => ?_) (fun c14 => ?_)
  · skip
    exfalso; omega
  · skip
    refine j_iload_n dX6_cost_17 2 rfl ?_
    refine j_if_ltN (by omega) dX6_cost_18 (by decide : _ = ((30 : Nat) : Int)) ?_
    refine j_iload_n dX6_cost_21 2 rfl ?_
    refine j_aload_n dX6_cost_22 0 rfl ?_
    refine j_iload_n dX6_cost_23 1 rfl ?_
    have f6 := (up_ne hw1 (AD.nm hAD 11 rfl) a11)
    refine j_callV (rm := rX6_full) (As := [.int (nI e)]) (st := [.int (nI b)]) (b0 := mm) (ci := 6) (na := 1) (m_full hAD f3 rfs2 f6 (by omega) hm) (by intro E w9 h9; first | exact nomatch h9.1 | (obtain ⟨_, h9, _⟩ := h9; exact nomatch h9) | (obtain ⟨_, _, _, h9, _⟩ := h9; exact nomatch h9)) gX6_cost_X6_full rfl rfl f3 (by decide +kernel) rfl ⟨Nat.le_of_ble_eq_true rfl, Nat.le_of_ble_eq_true rfl⟩ rfl (Nat.le_of_ble_eq_true rfl) dX6_cost_24 ⟨(show 0 + 0 ≤ 0 by omega), (show 0 + 0 ≤ 0 by omega)⟩ (fun v7 w8 h9 => ?_)
    obtain ⟨h9, h10⟩ := h9
    cases h9
    subst w8
    refine j_after (st' := [.int (nI (2 ^ xm e - 1)), .int (nI b)]) (k' := 0) (n' := 0) rfl rfl rfl ?_
    refine j_icmp_leN 35 (by omega) (by omega) dX6_cost_27 (by decide) (fun c27 => ?_) (fun c27 => ?_)
    · skip
      exfalso; omega
    · skip
      refine j_aload_n dX6_cost_30 0 rfl ?_
      refine j_callV (rm := rX6_fail) (As := []) (st := []) (b0 := mm) (ci := 6) (na := 0) (m_fail hAD f3 rfs2) (by intro E w9 h9; first | exact nomatch h9.1 | (obtain ⟨_, h9, _⟩ := h9; exact nomatch h9) | (obtain ⟨_, _, _, h9, _⟩ := h9; exact nomatch h9)) gX6_cost_X6_fail rfl rfl f3 (by decide +kernel) rfl ⟨Nat.le_of_ble_eq_true rfl, Nat.le_of_ble_eq_true rfl⟩ rfl (Nat.le_of_ble_eq_true rfl) dX6_cost_31 ⟨(show 0 + 0 ≤ 0 by omega), (show 0 + 0 ≤ 0 by omega)⟩ (fun v17 w18 h19 => ?_)
      obtain ⟨h16, fs12, ⟨hfr13, hm14, hff15⟩, v11⟩ := h19
      cases h16
      refine j_after (st' := [.int (nI 0)]) (k' := 0) (n' := 0) rfl rfl rfl ?_
      have r20 : RA A fs12 := RA.ff rfs2 hff15 rfl
      exact j_iret rfl ⟨rfl, _, ⟨(((FrI.refl : FrI A [mm] [] w w).trans (FrI.ux hw1 (by simp))).trans (FrI.sub hfr13 rfl)), hm14, (((FF.refl : FF [0] fs fs).trans (FF.set sfs2 rfl)).trans (FF.mono hff15 rfl))⟩, v11⟩ (show 0 ≤ 0 by omega) (show 0 ≤ 0 by omega) dX6_cost_34
theorem flX6_cost_62 : FL wsX6_cost RX6 62 6 38 := ⟨RX6, TX6, 45, rfl, by decide, by decide +kernel, by decide +kernel⟩
theorem flX6_cost_196 : FL wsX6_cost RX6 196 6 34 := ⟨RX6, TX6, 45, rfl, by decide, by decide +kernel, by decide +kernel⟩
set_option maxRecDepth 100000 in
theorem mX6_cost_0 : Cond.constant RX6 202 (268435456) ∈ wsX6_cost := by decide +kernel
set_option maxHeartbeats 4000000 in
set_option maxRecDepth 100000 in
theorem m_cost {ev e b nt : Nat} {xm cr c : Nat → Nat} {w : pW} {A : Nat → Nat} {mm : Nat} {fs : List Value} (hAD : AD A mm) (hmm : w mm = some (.inr (6, fs))) (hA : RA A fs) (h5 : fs[5]? = some (.int (nI ev))) (h34 : fs[34]? = some (.int (nI nt))) (a11 : w (A 11) = some (.inl (0, 100, .inl (fun j9 => nI (xm j9))))) (a38 : w (A 38) = some (.inl (4, 401, .inr (.inr (.inr (.inr (fun j9 => some (cr j9)))))))) (hr0 : w (cr nt) = some (.inl (0, 1600, .inl (fun j9 => nI (c j9))))) (hrw0 : RW A mm (cr nt)) (he : e < ev) (hev : ev ≤ 100) (hm : xm e ≤ 4) (hb : b < 2 ^ xm e) (hnt : nt ≤ 400) (hcN : ∀ j, c j ≤ 268435456) : Ct yX6_cost wsX6_cost rX6_cost [.ref mm, .int (nI e), .int (nI b)] w (fun o w9 => o = .inl (some (.int (if c (16 * e + b) < 268435456 then nI (c (16 * e + b)) else -1))) ∧ ∃ fs9 : List Value, MU A mm [] [0] w w9 fs fs9 ∧ fs9[0]? = some (.int (nI 0))) := by
  refine Ct.of (cc := cX6_cost) (own := RX6) (nm := "cost") (nL := 4) (ret := (some .int)) (by decide +kernel) rfl rfl rfl (Nat.le_of_ble_eq_true rfl) ?_
  refine j_lvE (lv' := [(0, .ref mm), (1, .int (nI e)), (2, .int (nI b))]) rfl ?_
  have hp4 := pw4 hm
  refine j_aload_n dX6_cost_0 0 rfl ?_
  refine j_iconst (v := nI 0) dX6_cost_1 (by decide) ?_
  refine j_putM fsX6_cost_80 hmm rfl rfl (RA.lt hA (by decide)) dX6_cost_2 (fun w1 fs2 sfs2 hw1 => ?_)
  have f3 : w1 mm = some (.inr (6, fs2)) := up_at hw1
  have rfs2 : RA A fs2 := RA.set hA sfs2 rfl
  have v4 := st_at sfs2 hA (by decide : 0 < 45)
  refine j_iload_n dX6_cost_5 1 rfl ?_
  refine j_if_ltN (by omega) dX6_cost_6 (by decide : _ = ((30 : Nat) : Int)) ?_
  refine j_iload_n dX6_cost_9 1 rfl ?_
  refine j_aload_n dX6_cost_10 0 rfl ?_
  have v5 := (st_ne sfs2 rfl h5)
  refine j_get (v := .int (nI ev)) flX6_cost_144 f3 v5 dX6_cost_11 ?_
  refine j_icmp_geN 30 (by omega) (by omega) dX6_cost_14 (by decide) (fun c14 => ?_) (fun c14 => ?_)
  · skip
    exfalso; omega
  · skip
    refine j_iload_n dX6_cost_17 2 rfl ?_
    refine j_if_ltN (by omega) dX6_cost_18 (by decide : _ = ((30 : Nat) : Int)) ?_
    refine j_iload_n dX6_cost_21 2 rfl ?_
    refine j_aload_n dX6_cost_22 0 rfl ?_
    refine j_iload_n dX6_cost_23 1 rfl ?_
    have f6 := (up_ne hw1 (AD.nm hAD 11 rfl) a11)
    refine j_callV (rm := rX6_full) (As := [.int (nI e)]) (st := [.int (nI b)]) (b0 := mm) (ci := 6) (na := 1) (m_full hAD f3 rfs2 f6 (by omega) hm) (by intro E w9 h9; first | exact nomatch h9.1 | (obtain ⟨_, h9, _⟩ := h9; exact nomatch h9) | (obtain ⟨_, _, _, h9, _⟩ := h9; exact nomatch h9)) gX6_cost_X6_full rfl rfl f3 (by decide +kernel) rfl ⟨Nat.le_of_ble_eq_true rfl, Nat.le_of_ble_eq_true rfl⟩ rfl (Nat.le_of_ble_eq_true rfl) dX6_cost_24 ⟨(show 0 + 0 ≤ 0 by omega), (show 0 + 0 ≤ 0 by omega)⟩ (fun v7 w8 h9 => ?_)
    obtain ⟨h9, h10⟩ := h9
    cases h9
    subst w8
    refine j_after (st' := [.int (nI (2 ^ xm e - 1)), .int (nI b)]) (k' := 0) (n' := 0) rfl rfl rfl ?_
    refine j_icmp_leN 35 (by omega) (by omega) dX6_cost_27 (by decide) (fun c27 => ?_) (fun c27 => ?_)
    · skip
      refine j_aload_n dX6_cost_35 0 rfl ?_
      refine j_get (v := .ref (A 38)) flX6_cost_62 f3 (rfs2.2 38 rfl) dX6_cost_36 ?_
      refine j_aload_n dX6_cost_39 0 rfl ?_
      have v11 := (st_ne sfs2 rfl h34)
      refine j_get (v := .int (nI nt)) flX6_cost_196 f3 v11 dX6_cost_40 ?_
      have f12 := (up_ne hw1 (AD.nm hAD 38 rfl) a38)
      refine j_aaldN (j := nt) f12 rfl (by omega) (by omega) dX6_cost_43 ?_
      refine j_after (st' := [.ref (cr nt)]) (k' := 0) (n' := 0) rfl rfl rfl ?_
      refine j_bipush (v := nI 16) dX6_cost_44 (by decide) ?_
      refine j_iload_n dX6_cost_46 1 rfl ?_
      refine j_imulN dX6_cost_47 ?_
      refine j_iload_n dX6_cost_48 2 rfl ?_
      refine j_iaddN dX6_cost_49 ?_
      have f13 := (up_ne hw1 hrw0.1 hr0)
      refine j_ialdN (j := (16 * e) + b) f13 rfl (by omega) (by omega) dX6_cost_50 ?_
      have hb14 := hcN ((16 * e) + b)
      refine j_istore_n (lv' := [(3, .int (nI (c ((16 * e) + b)))), (0, .ref mm), (1, .int (nI e)), (2, .int (nI b))]) dX6_cost_51 (Nat.le_of_ble_eq_true rfl) rfl ?_
      refine j_iload_n dX6_cost_52 0 rfl ?_
      refine j_ldc (v := nI 268435456) dX6_cost_53 mX6_cost_0 ?_
      refine j_icmp_ltN 62 (by omega) (by omega) dX6_cost_55 (by decide) (fun c55 => ?_) (fun c55 => ?_)
      · skip
        refine j_iload_n dX6_cost_62 0 rfl ?_
        exact j_iret rfl ⟨by rw [if_pos c55], _, ⟨((FrI.refl : FrI A [mm] [] w w).trans (FrI.ux hw1 (by simp))), f3, ((FF.refl : FF [0] fs fs).trans (FF.set sfs2 rfl))⟩, v4⟩ (show 0 ≤ 0 by omega) (show 0 ≤ 0 by omega) dX6_cost_63
      · skip
        refine j_iconst (v := (-1)) dX6_cost_58 (by decide) ?_
        refine j_goto 63 dX6_cost_59 (by decide) ?_
        exact j_iret rfl ⟨by rw [if_neg (by omega)], _, ⟨((FrI.refl : FrI A [mm] [] w w).trans (FrI.ux hw1 (by simp))), f3, ((FF.refl : FF [0] fs fs).trans (FF.set sfs2 rfl))⟩, v4⟩ (show 0 ≤ 0 by omega) (show 0 ≤ 0 by omega) dX6_cost_63
    · skip
      exfalso; omega
abbrev rX6_sure : Room := { frames := 1, cells := 0, slots := 0, locals := 24 }
theorem fsX6_sure_80 : FS wsX6_sure RX6 80 6 0 false (.int) := ⟨RX6, TX6, 45, tyX6, rfl, by decide, by decide +kernel, by decide +kernel, tyX6_ok, nmX6, rfl, rfl, rfl⟩
theorem flX6_sure_144 : FL wsX6_sure RX6 144 6 5 := ⟨RX6, TX6, 45, rfl, by decide, by decide +kernel, by decide +kernel⟩
set_option maxHeartbeats 4000000 in
set_option maxRecDepth 100000 in
theorem m_sure0 {w : pW} {A : Nat → Nat} {mm : Nat} {fs : List Value} (hAD : AD A mm) (hmm : w mm = some (.inr (6, fs))) (hA : RA A fs) (h5 : fs[5]? = some (.int (nI 0))) : Ct yX6_sure wsX6_sure rX6_sure [.ref mm] w (fun o w9 => o = .inl (some (.int (nI 0))) ∧ ∃ fs9 : List Value, MU A mm [] [0] w w9 fs fs9 ∧ fs9[0]? = some (.int (nI 1))) := by
  refine Ct.of (cc := cX6_sure) (own := RX6) (nm := "sure") (nL := 5) (ret := (some .int)) (by decide +kernel) rfl rfl rfl (Nat.le_of_ble_eq_true rfl) ?_
  refine j_lvE (lv' := [(0, .ref mm)]) rfl ?_
  refine j_aload_n dX6_sure_0 0 rfl ?_
  refine j_iconst (v := nI 0) dX6_sure_1 (by decide) ?_
  refine j_putM fsX6_sure_80 hmm rfl rfl (RA.lt hA (by decide)) dX6_sure_2 (fun w1 fs2 sfs2 hw1 => ?_)
  have f3 : w1 mm = some (.inr (6, fs2)) := up_at hw1
  have rfs2 : RA A fs2 := RA.set hA sfs2 rfl
  have v4 := st_at sfs2 hA (by decide : 0 < 45)
  refine j_aload_n dX6_sure_5 0 rfl ?_
  have v5 := (st_ne sfs2 rfl h5)
  refine j_get (v := .int (nI 0)) flX6_sure_144 f3 v5 dX6_sure_6 ?_
  refine j_if_neN 17 (by decide) dX6_sure_9 (by decide) (fun h9 => absurd rfl h9) (fun _ => ?_)
  refine j_aload_n dX6_sure_12 0 rfl ?_
  refine j_callV (rm := rX6_fail) (As := []) (st := []) (b0 := mm) (ci := 6) (na := 0) (m_fail hAD f3 rfs2) (by intro E w9 h9; first | exact nomatch h9.1 | (obtain ⟨_, h9, _⟩ := h9; exact nomatch h9) | (obtain ⟨_, _, _, h9, _⟩ := h9; exact nomatch h9)) gX6_sure_X6_fail rfl rfl f3 (by decide +kernel) rfl ⟨Nat.le_of_ble_eq_true rfl, Nat.le_of_ble_eq_true rfl⟩ rfl (Nat.le_of_ble_eq_true rfl) dX6_sure_13 ⟨(show 0 + 0 ≤ 0 by omega), (show 0 + 0 ≤ 0 by omega)⟩ (fun v12 w13 h14 => ?_)
  obtain ⟨h11, fs7, ⟨hfr8, hm9, hff10⟩, v6⟩ := h14
  cases h11
  refine j_after (st' := [.int (nI 0)]) (k' := 0) (n' := 0) rfl rfl rfl ?_
  have r15 : RA A fs7 := RA.ff rfs2 hff10 rfl
  exact j_iret rfl ⟨rfl, _, ⟨(((FrI.refl : FrI A [mm] [] w w).trans (FrI.ux hw1 (by simp))).trans (FrI.sub hfr8 rfl)), hm9, (((FF.refl : FF [0] fs fs).trans (FF.set sfs2 rfl)).trans (FF.mono hff10 rfl))⟩, v6⟩ (show 0 ≤ 0 by omega) (show 0 ≤ 0 by omega) dX6_sure_16
theorem flX6_sure_32 : FL wsX6_sure RX6 32 6 15 := ⟨RX6, TX6, 45, rfl, by decide, by decide +kernel, by decide +kernel⟩
theorem flX6_sure_62 : FL wsX6_sure RX6 62 6 38 := ⟨RX6, TX6, 45, rfl, by decide, by decide +kernel, by decide +kernel⟩
theorem flX6_sure_196 : FL wsX6_sure RX6 196 6 34 := ⟨RX6, TX6, 45, rfl, by decide, by decide +kernel, by decide +kernel⟩
set_option maxRecDepth 100000 in
theorem mX6_sure_0 : Cond.methodLink RX6 112 Lib.Math.min.name ∈ wsX6_sure := by decide +kernel
set_option maxRecDepth 100000 in
theorem mX6_sure_1 : Cond.static Lib.Math.min.name ∈ wsX6_sure := by decide +kernel
set_option maxRecDepth 100000 in
theorem mX6_sure_2 : Cond.initialized "java/lang/Math" ∈ wsX6_sure := by decide +kernel
set_option maxRecDepth 100000 in
theorem mX6_sure_3 : Cond.code Lib.Math.min.name Lib.Math.min.code 2 (some .int) ∈ wsX6_sure := by decide +kernel
set_option maxHeartbeats 4000000 in
set_option maxRecDepth 100000 in
theorem l_s43 {xm xe pe pb cr c : Nat → Nat} {ev nt : Nat} {w w0 : pW} {fs fs0 : List Value} {A : Nat → Nat} {mm : Nat} (hAD : AD A mm) (hmm : w mm = some (.inr (6, fs))) (hA : RA A fs) (hfr : FrI A [mm] [] w0 w) (hff : FF [0] fs0 fs) (h0 : fs[0]? = some (.int (nI 0))) (h5 : fs[5]? = some (.int (nI ev))) (h34 : fs[34]? = some (.int (nI nt))) (a11 : w (A 11) = some (.inl (0, 100, .inl (fun j9 => nI (xm j9))))) (a15 : w (A 15) = some (.inl (0, 100, .inl (fun j9 => nI (xe j9))))) (a36 : w (A 36) = some (.inl (0, 401, .inl (fun j9 => nI (pe j9))))) (a37 : w (A 37) = some (.inl (0, 401, .inl (fun j9 => nI (pb j9))))) (a38 : w (A 38) = some (.inl (4, 401, .inr (.inr (.inr (.inr (fun j9 => some (cr j9)))))))) (hr0 : w (cr nt) = some (.inl (0, 1600, .inl (fun j9 => nI (c j9))))) (hrw0 : RW A mm (cr nt)) (hev : ev ≤ 100) (hnt : nt ≤ 400) (hm4 : ∀ e, e < ev → xm e ≤ 4) (hpe : pe nt < ev) (hpb : pb nt < 16) (hxe : ∀ e, e < ev → xe e < 2 ^ 31) (hcN : ∀ j, c j ≤ 268435456) {e AC : Nat} (he : e < ev) (hc : J ((cX6_sure, RX6, 5, wsX6_sure), (rX6_sure, (some .int), "sure", []), fun o w9 => o = .inl (some (.int (if smE c xm xe (xe (pe nt)) ev 0 268435456 < 268435456 then nI (smE c xm xe (xe (pe nt)) ev 0 268435456) - nI (c (16 * pe nt + pb nt)) else -1))) ∧ ∃ fs9 : List Value, MU A mm [] [0] w0 w9 fs0 fs9 ∧ fs9[0]? = some (.int (nI 0)), fun _ _ _ => True) 96 [(0, .ref mm), (1, .int (nI (pe nt))), (2, .int (nI AC)), (3, .int (nI e))] [] w 0 0) : ∀ (m9 : Nat) (acc : Nat) (b : Nat), 2 ^ xm e - b < m9 → (b ≤ 2 ^ xm e) → ((if xe e = xe (pe nt) then acc else mfold (fun b => c (16 * e + b)) (2 ^ xm e - b) b acc) = AC) → (acc ≤ 268435456) → J ((cX6_sure, RX6, 5, wsX6_sure), (rX6_sure, (some .int), "sure", []), fun o w9 => o = .inl (some (.int (if smE c xm xe (xe (pe nt)) ev 0 268435456 < 268435456 then nI (smE c xm xe (xe (pe nt)) ev 0 268435456) - nI (c (16 * pe nt + pb nt)) else -1))) ∧ ∃ fs9 : List Value, MU A mm [] [0] w0 w9 fs0 fs9 ∧ fs9[0]? = some (.int (nI 0)), fun _ _ _ => True) 43 [(0, .ref mm), (1, .int (nI (pe nt))), (2, .int (nI acc)), (3, .int (nI e)), (4, .int (nI b))] [] w 0 0 := by
  intro m9
  induction m9 with
  | zero => intro acc b h9; omega
  | succ m9 ih =>
    intro acc b hm9 hb hX hacc
    have hp4 := pw4 (hm4 e he)
    have hx1 := hxe e he
    have hx2 := hxe (pe nt) hpe
    refine j_iload dX6_sure_43 4 rfl ?_
    refine j_aload_n dX6_sure_45 0 rfl ?_
    refine j_iload_n dX6_sure_46 3 rfl ?_
    refine j_callV (rm := rX6_full) (As := [.int (nI e)]) (st := [.int (nI b)]) (b0 := mm) (ci := 6) (na := 1) (m_full hAD hmm hA a11 (by omega) (hm4 _ (by omega))) (by intro E w9 h9; first | exact nomatch h9.1 | (obtain ⟨_, h9, _⟩ := h9; exact nomatch h9) | (obtain ⟨_, _, _, h9, _⟩ := h9; exact nomatch h9)) gX6_sure_X6_full rfl rfl hmm (by decide +kernel) rfl ⟨Nat.le_of_ble_eq_true rfl, Nat.le_of_ble_eq_true rfl⟩ rfl (Nat.le_of_ble_eq_true rfl) dX6_sure_47 ⟨(show 0 + 0 ≤ 0 by omega), (show 0 + 0 ≤ 0 by omega)⟩ (fun v1 w2 h3 => ?_)
    obtain ⟨h3, h4⟩ := h3
    cases h3
    subst w2
    refine j_after (st' := [.int (nI (2 ^ xm e - 1)), .int (nI b)]) (k' := 0) (n' := 0) rfl rfl rfl ?_
    refine j_icmp_gtN 96 (by omega) (by omega) dX6_sure_50 (by decide) (fun c50 => ?_) (fun c50 => ?_)
    · skip
      refine j_lv (lv' := [(0, .ref mm), (1, .int (nI (pe nt))), (2, .int (nI acc)), (3, .int (nI e))]) [0, 1, 2, 3] rfl ?_
      have hbn : b = 2 ^ xm e := by omega
      have hXx : acc = AC := by rw [hbn, Nat.sub_self] at hX; split at hX <;> exact hX
      subst hXx
      exact hc
    · skip
      refine j_aload_n dX6_sure_53 0 rfl ?_
      refine j_get (v := .ref (A 15)) flX6_sure_32 hmm (hA.2 15 rfl) dX6_sure_54 ?_
      refine j_iload_n dX6_sure_57 3 rfl ?_
      refine j_ialdN (j := e) a15 rfl (by omega) (by omega) dX6_sure_58 ?_
      refine j_aload_n dX6_sure_59 0 rfl ?_
      refine j_get (v := .ref (A 15)) flX6_sure_32 hmm (hA.2 15 rfl) dX6_sure_60 ?_
      refine j_iload_n dX6_sure_63 1 rfl ?_
      refine j_ialdN (j := pe nt) a15 rfl (by omega) (by omega) dX6_sure_64 ?_
      refine j_icmp_eqN 90 (by omega) (by omega) dX6_sure_65 (by decide) (fun c65 => ?_) (fun c65 => ?_)
      · skip
        refine j_iinc (q := 4) (v := nI (b + 1)) (lv' := [(4, .int (nI (b + 1))), (0, .ref mm), (1, .int (nI (pe nt))), (2, .int (nI acc)), (3, .int (nI e))]) dX6_sure_90 rfl (by first | exact nI_1 _ | exact nI_add _ _) (Nat.le_of_ble_eq_true rfl) rfl ?_
        refine j_goto 43 dX6_sure_93 (by decide) ?_
        refine j_lv (lv' := [(0, .ref mm), (1, .int (nI (pe nt))), (2, .int (nI acc)), (3, .int (nI e)), (4, .int (nI (b + 1)))]) [1, 2, 3, 4, 0] rfl ?_
        exact ih acc (b + 1) (by omega) (by omega) (by rw [if_pos c65] at hX ⊢; exact hX) hacc
      · skip
        refine j_iload_n dX6_sure_68 2 rfl ?_
        refine j_aload_n dX6_sure_69 0 rfl ?_
        refine j_get (v := .ref (A 38)) flX6_sure_62 hmm (hA.2 38 rfl) dX6_sure_70 ?_
        refine j_aload_n dX6_sure_73 0 rfl ?_
        refine j_get (v := .int (nI nt)) flX6_sure_196 hmm h34 dX6_sure_74 ?_
        refine j_aaldN (j := nt) a38 rfl (by omega) (by omega) dX6_sure_77 ?_
        refine j_after (st' := [.ref (cr nt), .int (nI acc)]) (k' := 0) (n' := 0) rfl rfl rfl ?_
        refine j_bipush (v := nI 16) dX6_sure_78 (by decide) ?_
        refine j_iload_n dX6_sure_80 3 rfl ?_
        refine j_imulN dX6_sure_81 ?_
        refine j_iload dX6_sure_82 4 rfl ?_
        refine j_iaddN dX6_sure_84 ?_
        refine j_ialdN (j := (16 * e) + b) hr0 rfl (by omega) (by omega) dX6_sure_85 ?_
        have hb5 := hcN ((16 * e) + b)
        refine j_min mX6_sure_0 mX6_sure_1 mX6_sure_2 mX6_sure_3 (Nat.le_of_ble_eq_true rfl) (Nat.le_of_ble_eq_true rfl) ⟨(show 0 ≤ 0 by omega), (show 0 ≤ 0 by omega)⟩ dX6_sure_86 ?_
        refine j_eqi (y := nI (min acc (c ((16 * e) + b)))) (mnN (by omega) (by omega)) ?_
        refine j_istore_n (lv' := [(2, .int (nI (min acc (c ((16 * e) + b))))), (0, .ref mm), (1, .int (nI (pe nt))), (3, .int (nI e)), (4, .int (nI b))]) dX6_sure_89 (Nat.le_of_ble_eq_true rfl) rfl ?_
        refine j_iinc (q := 4) (v := nI (b + 1)) (lv' := [(4, .int (nI (b + 1))), (2, .int (nI (min acc (c ((16 * e) + b))))), (0, .ref mm), (1, .int (nI (pe nt))), (3, .int (nI e))]) dX6_sure_90 rfl (by first | exact nI_1 _ | exact nI_add _ _) (Nat.le_of_ble_eq_true rfl) rfl ?_
        refine j_goto 43 dX6_sure_93 (by decide) ?_
        refine j_lv (lv' := [(0, .ref mm), (1, .int (nI (pe nt))), (2, .int (nI (min acc (c ((16 * e) + b))))), (3, .int (nI e)), (4, .int (nI (b + 1)))]) [2, 3, 1, 4, 0] rfl ?_
        exact ih _ (b + 1) (by omega) (by omega) (by rw [if_neg c65] at hX ⊢; rw [mf_step (by omega)] at hX; exact hX) (by omega)
set_option maxRecDepth 100000 in
theorem mX6_sure_4 : Cond.constant RX6 202 (268435456) ∈ wsX6_sure := by decide +kernel
theorem flX6_sure_57 : FL wsX6_sure RX6 57 6 37 := ⟨RX6, TX6, 45, rfl, by decide, by decide +kernel, by decide +kernel⟩
set_option maxHeartbeats 4000000 in
set_option maxRecDepth 100000 in
theorem l_s32 {xm xe pe pb cr c : Nat → Nat} {ev nt : Nat} {w w0 : pW} {fs fs0 : List Value} {A : Nat → Nat} {mm : Nat} (hAD : AD A mm) (hmm : w mm = some (.inr (6, fs))) (hA : RA A fs) (hfr : FrI A [mm] [] w0 w) (hff : FF [0] fs0 fs) (h0 : fs[0]? = some (.int (nI 0))) (h5 : fs[5]? = some (.int (nI ev))) (h34 : fs[34]? = some (.int (nI nt))) (a11 : w (A 11) = some (.inl (0, 100, .inl (fun j9 => nI (xm j9))))) (a15 : w (A 15) = some (.inl (0, 100, .inl (fun j9 => nI (xe j9))))) (a36 : w (A 36) = some (.inl (0, 401, .inl (fun j9 => nI (pe j9))))) (a37 : w (A 37) = some (.inl (0, 401, .inl (fun j9 => nI (pb j9))))) (a38 : w (A 38) = some (.inl (4, 401, .inr (.inr (.inr (.inr (fun j9 => some (cr j9)))))))) (hr0 : w (cr nt) = some (.inl (0, 1600, .inl (fun j9 => nI (c j9))))) (hrw0 : RW A mm (cr nt)) (hev : ev ≤ 100) (hnt : nt ≤ 400) (hm4 : ∀ e, e < ev → xm e ≤ 4) (hpe : pe nt < ev) (hpb : pb nt < 16) (hxe : ∀ e, e < ev → xe e < 2 ^ 31) (hcN : ∀ j, c j ≤ 268435456) : ∀ (m9 : Nat) (acc : Nat) (e : Nat), ev - e < m9 → (e ≤ ev) → (smE c xm xe (xe (pe nt)) (ev - e) e acc = smE c xm xe (xe (pe nt)) ev 0 268435456) → (acc ≤ 268435456) → J ((cX6_sure, RX6, 5, wsX6_sure), (rX6_sure, (some .int), "sure", []), fun o w9 => o = .inl (some (.int (if smE c xm xe (xe (pe nt)) ev 0 268435456 < 268435456 then nI (smE c xm xe (xe (pe nt)) ev 0 268435456) - nI (c (16 * pe nt + pb nt)) else -1))) ∧ ∃ fs9 : List Value, MU A mm [] [0] w0 w9 fs0 fs9 ∧ fs9[0]? = some (.int (nI 0)), fun _ _ _ => True) 32 [(0, .ref mm), (1, .int (nI (pe nt))), (2, .int (nI acc)), (3, .int (nI e))] [] w 0 0 := by
  intro m9
  induction m9 with
  | zero => intro acc e h9; omega
  | succ m9 ih =>
    intro acc e hm9 hi hX hacc
    refine j_iload_n dX6_sure_32 3 rfl ?_
    refine j_aload_n dX6_sure_33 0 rfl ?_
    refine j_get (v := .int (nI ev)) flX6_sure_144 hmm h5 dX6_sure_34 ?_
    refine j_icmp_geN 102 (by omega) (by omega) dX6_sure_37 (by decide) (fun c37 => ?_) (fun c37 => ?_)
    · skip
      have hen : e = ev := by omega
      have hXx : acc = smE c xm xe (xe (pe nt)) ev 0 268435456 := by rw [hen, Nat.sub_self] at hX; exact hX
      refine j_iload_n dX6_sure_102 2 rfl ?_
      refine j_ldc (v := nI 268435456) dX6_sure_103 mX6_sure_4 ?_
      refine j_icmp_ltN 112 (by omega) (by omega) dX6_sure_105 (by decide) (fun c105 => ?_) (fun c105 => ?_)
      · skip
        refine j_iload_n dX6_sure_112 2 rfl ?_
        refine j_aload_n dX6_sure_113 0 rfl ?_
        refine j_get (v := .ref (A 38)) flX6_sure_62 hmm (hA.2 38 rfl) dX6_sure_114 ?_
        refine j_aload_n dX6_sure_117 0 rfl ?_
        refine j_get (v := .int (nI nt)) flX6_sure_196 hmm h34 dX6_sure_118 ?_
        refine j_aaldN (j := nt) a38 rfl (by omega) (by omega) dX6_sure_121 ?_
        refine j_after (st' := [.ref (cr nt), .int (nI acc)]) (k' := 0) (n' := 0) rfl rfl rfl ?_
        refine j_bipush (v := nI 16) dX6_sure_122 (by decide) ?_
        refine j_iload_n dX6_sure_124 1 rfl ?_
        refine j_imulN dX6_sure_125 ?_
        refine j_aload_n dX6_sure_126 0 rfl ?_
        refine j_get (v := .ref (A 37)) flX6_sure_57 hmm (hA.2 37 rfl) dX6_sure_127 ?_
        refine j_aload_n dX6_sure_130 0 rfl ?_
        refine j_get (v := .int (nI nt)) flX6_sure_196 hmm h34 dX6_sure_131 ?_
        refine j_ialdN (j := nt) a37 rfl (by omega) (by omega) dX6_sure_134 ?_
        refine j_iaddN dX6_sure_135 ?_
        refine j_ialdN (j := (16 * (pe nt)) + (pb nt)) hr0 rfl (by omega) (by omega) dX6_sure_136 ?_
        have hb1 := hcN ((16 * (pe nt)) + (pb nt))
        refine j_isub dX6_sure_137 ?_
        exact j_iret rfl ⟨by rw [← hXx, if_pos c105], _, ⟨(FrI.mono hfr (by simp) rfl : FrI A [mm] [] w0 _), hmm, (FF.mono hff rfl : FF [0] fs0 _)⟩, h0⟩ (show 0 ≤ 0 by omega) (show 0 ≤ 0 by omega) dX6_sure_138
      · skip
        refine j_iconst (v := (-1)) dX6_sure_108 (by decide) ?_
        refine j_goto 138 dX6_sure_109 (by decide) ?_
        exact j_iret rfl ⟨by rw [← hXx, if_neg (by omega)], _, ⟨(FrI.mono hfr (by simp) rfl : FrI A [mm] [] w0 _), hmm, (FF.mono hff rfl : FF [0] fs0 _)⟩, h0⟩ (show 0 ≤ 0 by omega) (show 0 ≤ 0 by omega) dX6_sure_138
    · skip
      refine j_iconst (v := nI 0) dX6_sure_40 (by decide) ?_
      refine j_istore (lv' := [(4, .int (nI 0)), (0, .ref mm), (1, .int (nI (pe nt))), (2, .int (nI acc)), (3, .int (nI e))]) dX6_sure_41 (Nat.le_of_ble_eq_true rfl) rfl ?_
      refine j_lv (lv' := [(0, .ref mm), (1, .int (nI (pe nt))), (2, .int (nI acc)), (3, .int (nI e)), (4, .int (nI 0))]) [1, 2, 3, 4, 0] rfl ?_
      refine l_s43 (AC := (if xe e = xe (pe nt) then acc else mfold (fun b => c (16 * e + b)) (2 ^ xm e) 0 acc)) hAD hmm hA hfr hff h0 h5 h34 a11 a15 a36 a37 a38 hr0 hrw0 hev hnt hm4 hpe hpb hxe hcN (by omega) ?_ _ acc 0 (Nat.lt_succ_self _) (Nat.zero_le _) rfl hacc
      refine j_iinc (q := 3) (v := nI (e + 1)) (lv' := [(3, .int (nI (e + 1))), (0, .ref mm), (1, .int (nI (pe nt))), (2, .int (nI ((if xe e = xe (pe nt) then acc else mfold (fun b => c (16 * e + b)) (2 ^ xm e) 0 acc))))]) dX6_sure_96 rfl (by first | exact nI_1 _ | exact nI_add _ _) (Nat.le_of_ble_eq_true rfl) rfl ?_
      refine j_goto 32 dX6_sure_99 (by decide) ?_
      refine j_lv (lv' := [(0, .ref mm), (1, .int (nI (pe nt))), (2, .int (nI ((if xe e = xe (pe nt) then acc else mfold (fun b => c (16 * e + b)) (2 ^ xm e) 0 acc)))), (3, .int (nI (e + 1)))]) [1, 2, 3, 0] rfl ?_
      exact ih _ (e + 1) (by omega) (by omega) (by rw [smE_step (by omega)] at hX; exact hX) (by split <;> first | exact hacc | exact Nat.le_trans mfold_acc hacc)
theorem flX6_sure_54 : FL wsX6_sure RX6 54 6 36 := ⟨RX6, TX6, 45, rfl, by decide, by decide +kernel, by decide +kernel⟩
set_option maxHeartbeats 4000000 in
set_option maxRecDepth 100000 in
theorem m_sure {xm xe pe pb cr c : Nat → Nat} {ev nt : Nat} {w : pW} {A : Nat → Nat} {mm : Nat} {fs : List Value} (hAD : AD A mm) (hmm : w mm = some (.inr (6, fs))) (hA : RA A fs) (h5 : fs[5]? = some (.int (nI ev))) (h34 : fs[34]? = some (.int (nI nt))) (a11 : w (A 11) = some (.inl (0, 100, .inl (fun j9 => nI (xm j9))))) (a15 : w (A 15) = some (.inl (0, 100, .inl (fun j9 => nI (xe j9))))) (a36 : w (A 36) = some (.inl (0, 401, .inl (fun j9 => nI (pe j9))))) (a37 : w (A 37) = some (.inl (0, 401, .inl (fun j9 => nI (pb j9))))) (a38 : w (A 38) = some (.inl (4, 401, .inr (.inr (.inr (.inr (fun j9 => some (cr j9)))))))) (hr0 : w (cr nt) = some (.inl (0, 1600, .inl (fun j9 => nI (c j9))))) (hrw0 : RW A mm (cr nt)) (hev : ev ≤ 100) (hev0 : 0 < ev) (hnt : nt ≤ 400) (hm4 : ∀ e, e < ev → xm e ≤ 4) (hpe : pe nt < ev) (hpb : pb nt < 16) (hxe : ∀ e, e < ev → xe e < 2 ^ 31) (hcN : ∀ j, c j ≤ 268435456) : Ct yX6_sure wsX6_sure rX6_sure [.ref mm] w (fun o w9 => o = .inl (some (.int (if smE c xm xe (xe (pe nt)) ev 0 268435456 < 268435456 then nI (smE c xm xe (xe (pe nt)) ev 0 268435456) - nI (c (16 * pe nt + pb nt)) else -1))) ∧ ∃ fs9 : List Value, MU A mm [] [0] w w9 fs fs9 ∧ fs9[0]? = some (.int (nI 0))) := by
  refine Ct.of (cc := cX6_sure) (own := RX6) (nm := "sure") (nL := 5) (ret := (some .int)) (by decide +kernel) rfl rfl rfl (Nat.le_of_ble_eq_true rfl) ?_
  refine j_lvE (lv' := [(0, .ref mm)]) rfl ?_
  refine j_aload_n dX6_sure_0 0 rfl ?_
  refine j_iconst (v := nI 0) dX6_sure_1 (by decide) ?_
  refine j_putM fsX6_sure_80 hmm rfl rfl (RA.lt hA (by decide)) dX6_sure_2 (fun w1 fs2 sfs2 hw1 => ?_)
  have f3 : w1 mm = some (.inr (6, fs2)) := up_at hw1
  have rfs2 : RA A fs2 := RA.set hA sfs2 rfl
  have v4 := st_at sfs2 hA (by decide : 0 < 45)
  refine j_aload_n dX6_sure_5 0 rfl ?_
  have v5 := (st_ne sfs2 rfl h5)
  refine j_get (v := .int (nI ev)) flX6_sure_144 f3 v5 dX6_sure_6 ?_
  refine j_if_neN 17 (by omega) dX6_sure_9 (by decide) (fun c9 => ?_) (fun c9 => ?_)
  · skip
    refine j_aload_n dX6_sure_17 0 rfl ?_
    refine j_get (v := .ref (A 36)) flX6_sure_54 f3 (rfs2.2 36 rfl) dX6_sure_18 ?_
    refine j_aload_n dX6_sure_21 0 rfl ?_
    have v6 := (st_ne sfs2 rfl h34)
    refine j_get (v := .int (nI nt)) flX6_sure_196 f3 v6 dX6_sure_22 ?_
    have f7 := (up_ne hw1 (AD.nm hAD 36 rfl) a36)
    refine j_ialdN (j := nt) f7 rfl (by omega) (by omega) dX6_sure_25 ?_
    refine j_istore_n (lv' := [(1, .int (nI (pe nt))), (0, .ref mm)]) dX6_sure_26 (Nat.le_of_ble_eq_true rfl) rfl ?_
    refine j_ldc (v := nI 268435456) dX6_sure_27 mX6_sure_4 ?_
    refine j_istore_n (lv' := [(2, .int (nI 268435456)), (1, .int (nI (pe nt))), (0, .ref mm)]) dX6_sure_29 (Nat.le_of_ble_eq_true rfl) rfl ?_
    refine j_iconst (v := nI 0) dX6_sure_30 (by decide) ?_
    refine j_istore_n (lv' := [(3, .int (nI 0)), (2, .int (nI 268435456)), (1, .int (nI (pe nt))), (0, .ref mm)]) dX6_sure_31 (Nat.le_of_ble_eq_true rfl) rfl ?_
    refine j_lv (lv' := [(0, .ref mm), (1, .int (nI (pe nt))), (2, .int (nI 268435456)), (3, .int (nI 0))]) [3, 2, 1, 0] rfl ?_
    have f8 := (up_ne hw1 (AD.nm hAD 11 rfl) a11)
    have f9 := (up_ne hw1 (AD.nm hAD 15 rfl) a15)
    have f10 := (up_ne hw1 (AD.nm hAD 37 rfl) a37)
    have f11 := (up_ne hw1 (AD.nm hAD 38 rfl) a38)
    have f12 := (up_ne hw1 hrw0.1 hr0)
    exact l_s32 hAD f3 rfs2 ((FrI.refl : FrI A [mm] [] w w).trans (FrI.ux hw1 (by simp))) ((FF.refl : FF [0] fs fs).trans (FF.set sfs2 rfl)) v4 v5 v6 f8 f9 f7 f10 f11 f12 hrw0 hev hnt hm4 hpe hpb hxe hcN _ 268435456 0 (Nat.lt_succ_self _) (Nat.zero_le _) rfl (Nat.le_refl _)
  · skip
    exfalso; omega
