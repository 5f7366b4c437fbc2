abbrev rX6_thrown : Room := { frames := 0, cells := 0, slots := 0, locals := 0 }
theorem flX6_thrown_80 : FL wsX6_thrown RX6 80 6 0 := ⟨RX6, TX6, 45, rfl, by decide, by decide +kernel, by decide +kernel⟩
set_option maxHeartbeats 4000000 in
set_option maxRecDepth 100000 in
theorem m_thrown {x : Int32} {w : pW} {A : Nat → Nat} {mm : Nat} {fs : List Value} (hAD : AD A mm) (hmm : w mm = some (.inr (6, fs))) (hA : RA A fs) (h0 : fs[0]? = some (.int x)) : Ct yX6_thrown wsX6_thrown rX6_thrown [.ref mm] w (fun o w9 => o = .inl (some (.int (x))) ∧ w9 = w) := by
  refine Ct.of (cc := cX6_thrown) (own := RX6) (nm := "thrown") (nL := 1) (ret := (some .int)) (by decide +kernel) rfl rfl rfl (Nat.le_of_ble_eq_true rfl) ?_
  refine j_lvE (lv' := [(0, .ref mm)]) rfl ?_
  refine j_aload_n dX6_thrown_0 0 rfl ?_
  refine j_get (v := .int x) flX6_thrown_80 hmm h0 dX6_thrown_1 ?_
  exact j_iret rfl ⟨rfl, rfl⟩ (show 0 ≤ 0 by omega) (show 0 ≤ 0 by omega) dX6_thrown_4
abbrev rX6_fail : Room := { frames := 0, cells := 0, slots := 0, locals := 0 }
theorem fsX6_fail_80 : FS wsX6_fail RX6 80 6 0 false (.int) := ⟨RX6, TX6, 45, tyX6, rfl, by decide, by decide +kernel, by decide +kernel, tyX6_ok, nmX6, rfl, rfl, rfl⟩
set_option maxHeartbeats 4000000 in
set_option maxRecDepth 100000 in
theorem m_fail {w : pW} {A : Nat → Nat} {mm : Nat} {fs : List Value} (hAD : AD A mm) (hmm : w mm = some (.inr (6, fs))) (hA : RA A fs) : Ct yX6_fail wsX6_fail rX6_fail [.ref mm] w (fun o w9 => o = .inl (some (.int (nI 0))) ∧ ∃ fs9 : List Value, MU A mm [] [0] w w9 fs fs9 ∧ fs9[0]? = some (.int (nI 1))) := by
  refine Ct.of (cc := cX6_fail) (own := RX6) (nm := "fail") (nL := 1) (ret := (some .int)) (by decide +kernel) rfl rfl rfl (Nat.le_of_ble_eq_true rfl) ?_
  refine j_lvE (lv' := [(0, .ref mm)]) rfl ?_
  refine j_aload_n dX6_fail_0 0 rfl ?_
  refine j_iconst (v := nI 1) dX6_fail_1 (by decide) ?_
  refine j_putM fsX6_fail_80 hmm rfl rfl (RA.lt hA (by decide)) dX6_fail_2 (fun w1 fs2 sfs2 hw1 => ?_)
  have f3 : w1 mm = some (.inr (6, fs2)) := up_at hw1
  have rfs2 : RA A fs2 := RA.set hA sfs2 rfl
  have v4 := st_at sfs2 hA (by decide : 0 < 45)
  refine j_iconst (v := nI 0) dX6_fail_5 (by decide) ?_
  exact j_iret rfl ⟨rfl, _, ⟨((FrI.refl : FrI A [mm] [] w w).trans (FrI.ux hw1 (by simp))), f3, ((FF.refl : FF [0] fs fs).trans (FF.set sfs2 rfl))⟩, v4⟩ (show 0 ≤ 0 by omega) (show 0 ≤ 0 by omega) dX6_fail_6
abbrev rX6_byteAt : Room := { frames := 0, cells := 0, slots := 0, locals := 0 }
theorem flX6_byteAt_86 : FL wsX6_byteAt RX6 86 6 23 := ⟨RX6, TX6, 45, rfl, by decide, by decide +kernel, by decide +kernel⟩
theorem flX6_byteAt_9 : FL wsX6_byteAt RX6 9 6 1 := ⟨RX6, TX6, 45, rfl, by decide, by decide +kernel, by decide +kernel⟩
set_option maxHeartbeats 4000000 in
set_option maxRecDepth 100000 in
theorem m_byteAt {t : Nat → Nat} {ln i : Nat} {w : pW} {A : Nat → Nat} {mm : Nat} {fs : List Value} (hAD : AD A mm) (hmm : w mm = some (.inr (6, fs))) (hA : RA A fs) (h23 : fs[23]? = some (.int (nI ln))) (a1 : w (A 1) = some (.inl (0, 2400, .inl (fun j9 => nI (t j9))))) (hln : ln ≤ 2400) (hi : i < 2 ^ 31) : Ct yX6_byteAt wsX6_byteAt rX6_byteAt [.ref mm, .int (nI i)] w (fun o w9 => o = .inl (some (.int (bA t ln i))) ∧ w9 = w) := by
  refine Ct.of (cc := cX6_byteAt) (own := RX6) (nm := "byteAt") (nL := 2) (ret := (some .int)) (by decide +kernel) rfl rfl rfl (Nat.le_of_ble_eq_true rfl) ?_
  refine j_lvE (lv' := [(0, .ref mm), (1, .int (nI i))]) rfl ?_
  refine j_iload_n dX6_byteAt_0 1 rfl ?_
  refine j_aload_n dX6_byteAt_1 0 rfl ?_
  refine j_get (v := .int (nI ln)) flX6_byteAt_86 hmm h23 dX6_byteAt_2 ?_
  refine j_icmp_geN 17 (by omega) (by omega) dX6_byteAt_5 (by decide) (fun c5 => ?_) (fun c5 => ?_)
  · skip
    refine j_iconst (v := (-1)) dX6_byteAt_17 (by decide) ?_
    exact j_iret rfl ⟨by rw [bA_out (by omega)], rfl⟩ (show 0 ≤ 0 by omega) (show 0 ≤ 0 by omega) dX6_byteAt_18
  · skip
    refine j_aload_n dX6_byteAt_8 0 rfl ?_
    refine j_get (v := .ref (A 1)) flX6_byteAt_9 hmm (hA.2 1 rfl) dX6_byteAt_9 ?_
    refine j_iload_n dX6_byteAt_12 1 rfl ?_
    refine j_ialdN (j := i) a1 rfl (by omega) (by omega) dX6_byteAt_13 ?_
    refine j_goto 18 dX6_byteAt_14 (by decide) ?_
    exact j_iret rfl ⟨by rw [bA_in (by omega)], rfl⟩ (show 0 ≤ 0 by omega) (show 0 ≤ 0 by omega) dX6_byteAt_18
abbrev rX6_isDigit : Room := { frames := 0, cells := 0, slots := 0, locals := 0 }
set_option maxHeartbeats 4000000 in
set_option maxRecDepth 100000 in
theorem m_isDigit {w : pW} {c : Int32} : Ct yX6_isDigit wsX6_isDigit rX6_isDigit [.int c] w (fun o w9 => o = .inl (some (.int (zb (isD c)))) ∧ w9 = w) := by
  refine Ct.of (cc := cX6_isDigit) (own := RX6) (nm := "isDigit") (nL := 1) (ret := (some .boolean)) (by decide +kernel) rfl rfl rfl (Nat.le_of_ble_eq_true rfl) ?_
  refine j_lvE (lv' := [(0, .int c)]) rfl ?_
  refine j_iload_n dX6_isDigit_0 0 rfl ?_
  refine j_bipush (v := nI 48) dX6_isDigit_1 (by decide) ?_
  refine j_icmp_lt 16 dX6_isDigit_3 (by decide) (fun c3 => ?_) (fun c3 => ?_)
  · skip
    refine j_iconst (v := nI 0) dX6_isDigit_16 (by decide) ?_
    exact j_zret rfl (Or.inl rfl) ⟨by unfold isD; rw [zb_f (decide_eq_false (fun h => by first | exact h.1 c3 | exact h.2 c9))]; rfl, rfl⟩ (show 0 ≤ 0 by omega) (show 0 ≤ 0 by omega) dX6_isDigit_17
  · skip
    refine j_iload_n dX6_isDigit_6 0 rfl ?_
    refine j_bipush (v := nI 57) dX6_isDigit_7 (by decide) ?_
    refine j_icmp_gt 16 dX6_isDigit_9 (by decide) (fun c9 => ?_) (fun c9 => ?_)
    · skip
      refine j_iconst (v := nI 0) dX6_isDigit_16 (by decide) ?_
      exact j_zret rfl (Or.inl rfl) ⟨by unfold isD; rw [zb_f (decide_eq_false (fun h => by first | exact h.1 c3 | exact h.2 c9))]; rfl, rfl⟩ (show 0 ≤ 0 by omega) (show 0 ≤ 0 by omega) dX6_isDigit_17
    · skip
      refine j_iconst (v := nI 1) dX6_isDigit_12 (by decide) ?_
      refine j_goto 17 dX6_isDigit_13 (by decide) ?_
      exact j_zret rfl (Or.inr rfl) ⟨by unfold isD; rw [zb_t (decide_eq_true ⟨c3, c9⟩)]; rfl, rfl⟩ (show 0 ≤ 0 by omega) (show 0 ≤ 0 by omega) dX6_isDigit_17
abbrev rX6_wrong : Room := { frames := 0, cells := 0, slots := 0, locals := 0 }
theorem flX6_wrong_124 : FL wsX6_wrong RX6 124 6 29 := ⟨RX6, TX6, 45, rfl, by decide, by decide +kernel, by decide +kernel⟩
theorem fsX6_wrong_124 : FS wsX6_wrong RX6 124 6 29 false (.int) := ⟨RX6, TX6, 45, tyX6, rfl, by decide, by decide +kernel, by decide +kernel, tyX6_ok, nmX6, rfl, rfl, rfl⟩
theorem flX6_wrong_96 : FL wsX6_wrong RX6 96 6 27 := ⟨RX6, TX6, 45, rfl, by decide, by decide +kernel, by decide +kernel⟩
theorem fsX6_wrong_127 : FS wsX6_wrong RX6 127 6 30 false (.int) := ⟨RX6, TX6, 45, tyX6, rfl, by decide, by decide +kernel, by decide +kernel, tyX6_ok, nmX6, rfl, rfl, rfl⟩
set_option maxHeartbeats 4000000 in
set_option maxRecDepth 100000 in
theorem m_wrong0 {bg k : Nat} {w : pW} {A : Nat → Nat} {mm : Nat} {fs : List Value} (hAD : AD A mm) (hmm : w mm = some (.inr (6, fs))) (hA : RA A fs) (h29 : fs[29]? = some (.int (nI 0))) (h27 : fs[27]? = some (.int (nI bg))) : Ct yX6_wrong wsX6_wrong rX6_wrong [.ref mm, .int (nI k)] w (fun o w9 => o = .inl none ∧ ∃ fs9 : List Value, MU A mm [] [29, 30] w w9 fs fs9 ∧ fs9[29]? = some (.int (nI k)) ∧ fs9[30]? = some (.int (nI bg))) := by
  refine Ct.of (cc := cX6_wrong) (own := RX6) (nm := "wrong") (nL := 2) (ret := none) (by decide +kernel) rfl rfl rfl (Nat.le_of_ble_eq_true rfl) ?_
  refine j_lvE (lv' := [(0, .ref mm), (1, .int (nI k))]) rfl ?_
  refine j_aload_n dX6_wrong_0 0 rfl ?_
  refine j_get (v := .int (nI 0)) flX6_wrong_124 hmm h29 dX6_wrong_1 ?_
  refine j_if_eqN 8 (by decide) dX6_wrong_4 (by decide) (fun _ => ?_) (fun h9 => absurd rfl h9)
  refine j_aload_n dX6_wrong_8 0 rfl ?_
  refine j_iload_n dX6_wrong_9 1 rfl ?_
  refine j_putM fsX6_wrong_124 hmm rfl rfl (RA.lt hA (by decide)) dX6_wrong_10 (fun w1 fs2 sfs2 hw1 => ?_)
  have f3 : w1 mm = some (.inr (6, fs2)) := up_at hw1
  have rfs2 : RA A fs2 := RA.set hA sfs2 rfl
  have v4 := st_at sfs2 hA (by decide : 29 < 45)
  refine j_aload_n dX6_wrong_13 0 rfl ?_
  refine j_aload_n dX6_wrong_14 0 rfl ?_
  have v5 := (st_ne sfs2 rfl h27)
  refine j_get (v := .int (nI bg)) flX6_wrong_96 f3 v5 dX6_wrong_15 ?_
  refine j_putM fsX6_wrong_127 f3 rfl rfl (RA.lt rfs2 (by decide)) dX6_wrong_18 (fun w6 fs7 sfs7 hw6 => ?_)
  have f8 : w6 mm = some (.inr (6, fs7)) := up_at hw6
  have rfs7 : RA A fs7 := RA.set rfs2 sfs7 rfl
  have v9 := st_at sfs7 rfs2 (by decide : 30 < 45)
  have v10 := (st_ne sfs7 rfl v4)
  exact j_vret rfl ⟨rfl, _, ⟨(((FrI.refl : FrI A [mm] [] w w).trans (FrI.ux hw1 (by simp))).trans (FrI.ux hw6 (by simp))), f8, (((FF.refl : FF [29, 30] fs fs).trans (FF.set sfs2 rfl)).trans (FF.set sfs7 rfl))⟩, v10, v9⟩ (show 0 ≤ 0 by omega) (show 0 ≤ 0 by omega) dX6_wrong_21
set_option maxHeartbeats 4000000 in
set_option maxRecDepth 100000 in
theorem m_wrong1 {ba k : Nat} {w : pW} {A : Nat → Nat} {mm : Nat} {fs : List Value} (hAD : AD A mm) (hmm : w mm = some (.inr (6, fs))) (hA : RA A fs) (h29 : fs[29]? = some (.int (nI ba))) (hba : ba ≠ 0) (hb2 : ba < 2 ^ 31) : Ct yX6_wrong wsX6_wrong rX6_wrong [.ref mm, .int (nI k)] w (fun o w9 => o = .inl none ∧ w9 = w) := by
  refine Ct.of (cc := cX6_wrong) (own := RX6) (nm := "wrong") (nL := 2) (ret := none) (by decide +kernel) rfl rfl rfl (Nat.le_of_ble_eq_true rfl) ?_
  refine j_lvE (lv' := [(0, .ref mm), (1, .int (nI k))]) rfl ?_
  refine j_aload_n dX6_wrong_0 0 rfl ?_
  refine j_get (v := .int (nI ba)) flX6_wrong_124 hmm h29 dX6_wrong_1 ?_
  refine j_if_eqN 8 (by omega) dX6_wrong_4 (by decide) (fun c4 => ?_) (fun c4 => ?_)
  · skip
    exfalso; omega
  · skip
    exact j_vret rfl ⟨rfl, rfl⟩ (show 0 ≤ 0 by omega) (show 0 ≤ 0 by omega) dX6_wrong_7
abbrev rX6_isSign : Room := { frames := 0, cells := 0, slots := 0, locals := 0 }
theorem flX6_isSign_102 : FL wsX6_isSign RX6 102 6 24 := ⟨RX6, TX6, 45, rfl, by decide, by decide +kernel, by decide +kernel⟩
theorem flX6_isSign_99 : FL wsX6_isSign RX6 99 6 25 := ⟨RX6, TX6, 45, rfl, by decide, by decide +kernel, by decide +kernel⟩
set_option maxHeartbeats 4000000 in
set_option maxRecDepth 100000 in
theorem m_isSign {tkn sg kd : Nat} {w : pW} {A : Nat → Nat} {mm : Nat} {fs : List Value} (hAD : AD A mm) (hmm : w mm = some (.inr (6, fs))) (hA : RA A fs) (h24 : fs[24]? = some (.int (nI tkn))) (h25 : fs[25]? = some (.int (nI sg))) (hT : TS tkn sg kd) {c : Nat} (hcc : sgL.contains c = true) (hc : c < 300) : Ct yX6_isSign wsX6_isSign rX6_isSign [.ref mm, .int (nI c)] w (fun o w9 => o = .inl (some (.int (zb (decide (kd = sgK c))))) ∧ w9 = w) := by
  refine Ct.of (cc := cX6_isSign) (own := RX6) (nm := "isSign") (nL := 2) (ret := (some .boolean)) (by decide +kernel) rfl rfl rfl (Nat.le_of_ble_eq_true rfl) ?_
  refine j_lvE (lv' := [(0, .ref mm), (1, .int (nI c))]) rfl ?_
  have hT1 := hT.1
  have hT2 := hT.2.1
  refine j_aload_n dX6_isSign_0 0 rfl ?_
  refine j_get (v := .int (nI tkn)) flX6_isSign_102 hmm h24 dX6_isSign_1 ?_
  refine j_iconst (v := nI 3) dX6_isSign_4 (by decide) ?_
  refine j_icmp_neN 20 (by omega) (by omega) dX6_isSign_5 (by decide) (fun c5 => ?_) (fun c5 => ?_)
  · skip
    refine j_iconst (v := nI 0) dX6_isSign_20 (by decide) ?_
    exact j_zret rfl (Or.inl rfl) ⟨by rw [← hT.sg c hcc]; unfold isG; rw [zb_f (decide_eq_false (fun h => by omega))]; rfl, rfl⟩ (show 0 ≤ 0 by omega) (show 0 ≤ 0 by omega) dX6_isSign_21
  · skip
    refine j_aload_n dX6_isSign_8 0 rfl ?_
    refine j_get (v := .int (nI sg)) flX6_isSign_99 hmm h25 dX6_isSign_9 ?_
    refine j_iload_n dX6_isSign_12 1 rfl ?_
    refine j_icmp_neN 20 (by omega) (by omega) dX6_isSign_13 (by decide) (fun c13 => ?_) (fun c13 => ?_)
    · skip
      refine j_iconst (v := nI 0) dX6_isSign_20 (by decide) ?_
      exact j_zret rfl (Or.inl rfl) ⟨by rw [← hT.sg c hcc]; unfold isG; rw [zb_f (decide_eq_false (fun h => by omega))]; rfl, rfl⟩ (show 0 ≤ 0 by omega) (show 0 ≤ 0 by omega) dX6_isSign_21
    · skip
      refine j_iconst (v := nI 1) dX6_isSign_16 (by decide) ?_
      refine j_goto 21 dX6_isSign_17 (by decide) ?_
      exact j_zret rfl (Or.inr rfl) ⟨by rw [← hT.sg c hcc]; unfold isG; rw [zb_t (decide_eq_true ⟨by omega, by omega⟩)]; rfl, rfl⟩ (show 0 ≤ 0 by omega) (show 0 ≤ 0 by omega) dX6_isSign_21
abbrev rX6_beginsEvent : Room := { frames := 1, cells := 0, slots := 0, locals := 21 }
theorem flX6_beginsEvent_102 : FL wsX6_beginsEvent RX6 102 6 24 := ⟨RX6, TX6, 45, rfl, by decide, by decide +kernel, by decide +kernel⟩
set_option maxHeartbeats 4000000 in
set_option maxRecDepth 100000 in
theorem m_beginsEvent {tkn sg kd : Nat} {w : pW} {A : Nat → Nat} {mm : Nat} {fs : List Value} (hAD : AD A mm) (hmm : w mm = some (.inr (6, fs))) (hA : RA A fs) (h24 : fs[24]? = some (.int (nI tkn))) (h25 : fs[25]? = some (.int (nI sg))) (hT : TS tkn sg kd) : Ct yX6_beginsEvent wsX6_beginsEvent rX6_beginsEvent [.ref mm] w (fun o w9 => o = .inl (some (.int (zb (bE kd)))) ∧ w9 = w) := by
  refine Ct.of (cc := cX6_beginsEvent) (own := RX6) (nm := "beginsEvent") (nL := 1) (ret := (some .boolean)) (by decide +kernel) rfl rfl rfl (Nat.le_of_ble_eq_true rfl) ?_
  refine j_lvE (lv' := [(0, .ref mm)]) rfl ?_
  have hT1 := hT.1
  have hT2 := hT.2.1
  refine j_aload_n dX6_beginsEvent_0 0 rfl ?_
  refine j_get (v := .int (nI tkn)) flX6_beginsEvent_102 hmm h24 dX6_beginsEvent_1 ?_
  refine j_iconst (v := nI 1) dX6_beginsEvent_4 (by decide) ?_
  refine j_icmp_eqN 35 (by omega) (by omega) dX6_beginsEvent_5 (by decide) (fun c5 => ?_) (fun c5 => ?_)
  · skip
    refine j_iconst (v := nI 1) dX6_beginsEvent_35 (by decide) ?_
    refine j_goto 40 dX6_beginsEvent_36 (by decide) ?_
    have q5 : kd = 2 := hT.2.2.1.mp c5
    exact j_zret rfl (Or.inr rfl) ⟨by unfold bE; rw [zb_t (decide_eq_true (by omega))]; rfl, rfl⟩ (show 0 ≤ 0 by omega) (show 0 ≤ 0 by omega) dX6_beginsEvent_40
  · skip
    refine j_aload_n dX6_beginsEvent_8 0 rfl ?_
    refine j_bipush (v := nI 40) dX6_beginsEvent_9 (by decide) ?_
    refine j_callV (rm := rX6_isSign) (As := [.int (nI 40)]) (st := []) (b0 := mm) (ci := 6) (na := 1) (m_isSign (c := 40) hAD hmm hA h24 h25 hT rfl (by decide)) (by intro E w9 h9; first | exact nomatch h9.1 | (obtain ⟨_, h9, _⟩ := h9; exact nomatch h9) | (obtain ⟨_, _, _, h9, _⟩ := h9; exact nomatch h9)) gX6_beginsEvent_X6_isSign rfl rfl hmm (by decide +kernel) rfl ⟨Nat.le_of_ble_eq_true rfl, Nat.le_of_ble_eq_true rfl⟩ rfl (Nat.le_of_ble_eq_true rfl) dX6_beginsEvent_11 ⟨(show 0 + 0 ≤ 0 by omega), (show 0 + 0 ≤ 0 by omega)⟩ (fun v1 w2 h3 => ?_)
    obtain ⟨h3, h4⟩ := h3
    cases h3
    subst w2
    refine j_after (st' := [.int (zb (decide (kd = 40)))]) (k' := 0) (n' := 0) rfl rfl rfl ?_
    refine j_if_ne 35 dX6_beginsEvent_14 (by decide) (fun c14 => ?_) (fun c14 => ?_)
    · skip
      refine j_iconst (v := nI 1) dX6_beginsEvent_35 (by decide) ?_
      refine j_goto 40 dX6_beginsEvent_36 (by decide) ?_
      have q5 : ¬ kd = 2 := fun h => c5 (hT.2.2.1.mpr h)
      have q14 : kd = 40 := of_decide_eq_true (zb_n' c14)
      exact j_zret rfl (Or.inr rfl) ⟨by unfold bE; rw [zb_t (decide_eq_true (by omega))]; rfl, rfl⟩ (show 0 ≤ 0 by omega) (show 0 ≤ 0 by omega) dX6_beginsEvent_40
    · skip
      refine j_aload_n dX6_beginsEvent_17 0 rfl ?_
      refine j_bipush (v := nI 126) dX6_beginsEvent_18 (by decide) ?_
      refine j_callV (rm := rX6_isSign) (As := [.int (nI 126)]) (st := []) (b0 := mm) (ci := 6) (na := 1) (m_isSign (c := 126) hAD hmm hA h24 h25 hT rfl (by decide)) (by intro E w9 h9; first | exact nomatch h9.1 | (obtain ⟨_, h9, _⟩ := h9; exact nomatch h9) | (obtain ⟨_, _, _, h9, _⟩ := h9; exact nomatch h9)) gX6_beginsEvent_X6_isSign rfl rfl hmm (by decide +kernel) rfl ⟨Nat.le_of_ble_eq_true rfl, Nat.le_of_ble_eq_true rfl⟩ rfl (Nat.le_of_ble_eq_true rfl) dX6_beginsEvent_20 ⟨(show 0 + 0 ≤ 0 by omega), (show 0 + 0 ≤ 0 by omega)⟩ (fun v5 w6 h7 => ?_)
      obtain ⟨h7, h8⟩ := h7
      cases h7
      subst w6
      refine j_after (st' := [.int (zb (decide (kd = 126)))]) (k' := 0) (n' := 0) rfl rfl rfl ?_
      refine j_if_ne 35 dX6_beginsEvent_23 (by decide) (fun c23 => ?_) (fun c23 => ?_)
      · skip
        refine j_iconst (v := nI 1) dX6_beginsEvent_35 (by decide) ?_
        refine j_goto 40 dX6_beginsEvent_36 (by decide) ?_
        have q5 : ¬ kd = 2 := fun h => c5 (hT.2.2.1.mpr h)
        have q14 : ¬ kd = 40 := of_decide_eq_false (zb_0 c14)
        have q23 : kd = 126 := of_decide_eq_true (zb_n' c23)
        exact j_zret rfl (Or.inr rfl) ⟨by unfold bE; rw [zb_t (decide_eq_true (by omega))]; rfl, rfl⟩ (show 0 ≤ 0 by omega) (show 0 ≤ 0 by omega) dX6_beginsEvent_40
      · skip
        refine j_aload_n dX6_beginsEvent_26 0 rfl ?_
        refine j_bipush (v := nI 114) dX6_beginsEvent_27 (by decide) ?_
        refine j_callV (rm := rX6_isSign) (As := [.int (nI 114)]) (st := []) (b0 := mm) (ci := 6) (na := 1) (m_isSign (c := 114) hAD hmm hA h24 h25 hT rfl (by decide)) (by intro E w9 h9; first | exact nomatch h9.1 | (obtain ⟨_, h9, _⟩ := h9; exact nomatch h9) | (obtain ⟨_, _, _, h9, _⟩ := h9; exact nomatch h9)) gX6_beginsEvent_X6_isSign rfl rfl hmm (by decide +kernel) rfl ⟨Nat.le_of_ble_eq_true rfl, Nat.le_of_ble_eq_true rfl⟩ rfl (Nat.le_of_ble_eq_true rfl) dX6_beginsEvent_29 ⟨(show 0 + 0 ≤ 0 by omega), (show 0 + 0 ≤ 0 by omega)⟩ (fun v9 w10 h11 => ?_)
        obtain ⟨h11, h12⟩ := h11
        cases h11
        subst w10
        refine j_after (st' := [.int (zb (decide (kd = 114)))]) (k' := 0) (n' := 0) rfl rfl rfl ?_
        refine j_if_eq 39 dX6_beginsEvent_32 (by decide) (fun c32 => ?_) (fun c32 => ?_)
        · skip
          refine j_iconst (v := nI 0) dX6_beginsEvent_39 (by decide) ?_
          have q5 : ¬ kd = 2 := fun h => c5 (hT.2.2.1.mpr h)
          have q14 : ¬ kd = 40 := of_decide_eq_false (zb_0 c14)
          have q23 : ¬ kd = 126 := of_decide_eq_false (zb_0 c23)
          have q32 : ¬ kd = 114 := of_decide_eq_false (zb_0 c32)
          exact j_zret rfl (Or.inl rfl) ⟨by unfold bE; rw [zb_f (decide_eq_false (by omega))]; rfl, rfl⟩ (show 0 ≤ 0 by omega) (show 0 ≤ 0 by omega) dX6_beginsEvent_40
        · skip
          refine j_iconst (v := nI 1) dX6_beginsEvent_35 (by decide) ?_
          refine j_goto 40 dX6_beginsEvent_36 (by decide) ?_
          have q5 : ¬ kd = 2 := fun h => c5 (hT.2.2.1.mpr h)
          have q14 : ¬ kd = 40 := of_decide_eq_false (zb_0 c14)
          have q23 : ¬ kd = 126 := of_decide_eq_false (zb_0 c23)
          have q32 : kd = 114 := of_decide_eq_true (zb_n' c32)
          exact j_zret rfl (Or.inr rfl) ⟨by unfold bE; rw [zb_t (decide_eq_true (by omega))]; rfl, rfl⟩ (show 0 ≤ 0 by omega) (show 0 ≤ 0 by omega) dX6_beginsEvent_40
abbrev rX6_beginsMarked : Room := { frames := 2, cells := 0, slots := 0, locals := 41 }
set_option maxHeartbeats 4000000 in
set_option maxRecDepth 100000 in
theorem m_beginsMarked {tkn sg kd : Nat} {w : pW} {A : Nat → Nat} {mm : Nat} {fs : List Value} (hAD : AD A mm) (hmm : w mm = some (.inr (6, fs))) (hA : RA A fs) (h24 : fs[24]? = some (.int (nI tkn))) (h25 : fs[25]? = some (.int (nI sg))) (hT : TS tkn sg kd) : Ct yX6_beginsMarked wsX6_beginsMarked rX6_beginsMarked [.ref mm] w (fun o w9 => o = .inl (some (.int (zb (bM kd)))) ∧ w9 = w) := by
  refine Ct.of (cc := cX6_beginsMarked) (own := RX6) (nm := "beginsMarked") (nL := 1) (ret := (some .boolean)) (by decide +kernel) rfl rfl rfl (Nat.le_of_ble_eq_true rfl) ?_
  refine j_lvE (lv' := [(0, .ref mm)]) rfl ?_
  have hT1 := hT.1
  have hT2 := hT.2.1
  refine j_aload_n dX6_beginsMarked_0 0 rfl ?_
  refine j_callV (rm := rX6_beginsEvent) (As := []) (st := []) (b0 := mm) (ci := 6) (na := 0) (m_beginsEvent hAD hmm hA h24 h25 hT) (by intro E w9 h9; first | exact nomatch h9.1 | (obtain ⟨_, h9, _⟩ := h9; exact nomatch h9) | (obtain ⟨_, _, _, h9, _⟩ := h9; exact nomatch h9)) gX6_beginsMarked_X6_beginsEvent rfl rfl hmm (by decide +kernel) rfl ⟨Nat.le_of_ble_eq_true rfl, Nat.le_of_ble_eq_true rfl⟩ rfl (Nat.le_of_ble_eq_true rfl) dX6_beginsMarked_1 ⟨(show 0 + 0 ≤ 0 by omega), (show 0 + 0 ≤ 0 by omega)⟩ (fun v1 w2 h3 => ?_)
  obtain ⟨h3, h4⟩ := h3
  cases h3
  subst w2
  refine j_after (st' := [.int (zb (bE kd))]) (k' := 0) (n' := 0) rfl rfl rfl ?_
  refine j_if_ne 25 dX6_beginsMarked_4 (by decide) (fun c4 => ?_) (fun c4 => ?_)
  · skip
    refine j_iconst (v := nI 1) dX6_beginsMarked_25 (by decide) ?_
    refine j_goto 30 dX6_beginsMarked_26 (by decide) ?_
    have q4 := of_decide_eq_true (zb_n' c4)
    exact j_zret rfl (Or.inr rfl) ⟨by unfold bM; rw [zb_t (decide_eq_true (by omega))]; rfl, rfl⟩ (show 0 ≤ 0 by omega) (show 0 ≤ 0 by omega) dX6_beginsMarked_30
  · skip
    refine j_aload_n dX6_beginsMarked_7 0 rfl ?_
    refine j_bipush (v := nI 64) dX6_beginsMarked_8 (by decide) ?_
    refine j_callV (rm := rX6_isSign) (As := [.int (nI 64)]) (st := []) (b0 := mm) (ci := 6) (na := 1) (m_isSign (c := 64) hAD hmm hA h24 h25 hT rfl (by decide)) (by intro E w9 h9; first | exact nomatch h9.1 | (obtain ⟨_, h9, _⟩ := h9; exact nomatch h9) | (obtain ⟨_, _, _, h9, _⟩ := h9; exact nomatch h9)) gX6_beginsMarked_X6_isSign rfl rfl hmm (by decide +kernel) rfl ⟨Nat.le_of_ble_eq_true rfl, Nat.le_of_ble_eq_true rfl⟩ rfl (Nat.le_of_ble_eq_true rfl) dX6_beginsMarked_10 ⟨(show 0 + 0 ≤ 0 by omega), (show 0 + 0 ≤ 0 by omega)⟩ (fun v5 w6 h7 => ?_)
    obtain ⟨h7, h8⟩ := h7
    cases h7
    subst w6
    refine j_after (st' := [.int (zb (decide (kd = 64)))]) (k' := 0) (n' := 0) rfl rfl rfl ?_
    refine j_if_ne 25 dX6_beginsMarked_13 (by decide) (fun c13 => ?_) (fun c13 => ?_)
    · skip
      refine j_iconst (v := nI 1) dX6_beginsMarked_25 (by decide) ?_
      refine j_goto 30 dX6_beginsMarked_26 (by decide) ?_
      have q4 := of_decide_eq_false (zb_0 c4)
      have q13 : kd = 64 := of_decide_eq_true (zb_n' c13)
      exact j_zret rfl (Or.inr rfl) ⟨by unfold bM; rw [zb_t (decide_eq_true (by omega))]; rfl, rfl⟩ (show 0 ≤ 0 by omega) (show 0 ≤ 0 by omega) dX6_beginsMarked_30
    · skip
      refine j_aload_n dX6_beginsMarked_16 0 rfl ?_
      refine j_bipush (v := nI 33) dX6_beginsMarked_17 (by decide) ?_
      refine j_callV (rm := rX6_isSign) (As := [.int (nI 33)]) (st := []) (b0 := mm) (ci := 6) (na := 1) (m_isSign (c := 33) hAD hmm hA h24 h25 hT rfl (by decide)) (by intro E w9 h9; first | exact nomatch h9.1 | (obtain ⟨_, h9, _⟩ := h9; exact nomatch h9) | (obtain ⟨_, _, _, h9, _⟩ := h9; exact nomatch h9)) gX6_beginsMarked_X6_isSign rfl rfl hmm (by decide +kernel) rfl ⟨Nat.le_of_ble_eq_true rfl, Nat.le_of_ble_eq_true rfl⟩ rfl (Nat.le_of_ble_eq_true rfl) dX6_beginsMarked_19 ⟨(show 0 + 0 ≤ 0 by omega), (show 0 + 0 ≤ 0 by omega)⟩ (fun v9 w10 h11 => ?_)
      obtain ⟨h11, h12⟩ := h11
      cases h11
      subst w10
      refine j_after (st' := [.int (zb (decide (kd = 33)))]) (k' := 0) (n' := 0) rfl rfl rfl ?_
      refine j_if_eq 29 dX6_beginsMarked_22 (by decide) (fun c22 => ?_) (fun c22 => ?_)
      · skip
        refine j_iconst (v := nI 0) dX6_beginsMarked_29 (by decide) ?_
        have q4 := of_decide_eq_false (zb_0 c4)
        have q13 : ¬ kd = 64 := of_decide_eq_false (zb_0 c13)
        have q22 : ¬ kd = 33 := of_decide_eq_false (zb_0 c22)
        exact j_zret rfl (Or.inl rfl) ⟨by unfold bM; rw [zb_f (decide_eq_false (by omega))]; rfl, rfl⟩ (show 0 ≤ 0 by omega) (show 0 ≤ 0 by omega) dX6_beginsMarked_30
      · skip
        refine j_iconst (v := nI 1) dX6_beginsMarked_25 (by decide) ?_
        refine j_goto 30 dX6_beginsMarked_26 (by decide) ?_
        have q4 := of_decide_eq_false (zb_0 c4)
        have q13 : ¬ kd = 64 := of_decide_eq_false (zb_0 c13)
        have q22 : kd = 33 := of_decide_eq_true (zb_n' c22)
        exact j_zret rfl (Or.inr rfl) ⟨by unfold bM; rw [zb_t (decide_eq_true (by omega))]; rfl, rfl⟩ (show 0 ≤ 0 by omega) (show 0 ≤ 0 by omega) dX6_beginsMarked_30
abbrev rX6_baseOf : Room := { frames := 0, cells := 0, slots := 0, locals := 0 }
set_option maxHeartbeats 4000000 in
set_option maxRecDepth 100000 in
theorem m_baseOf {w : pW} {c : Nat} (hc : 97 ≤ c ∧ c ≤ 103) : Ct yX6_baseOf wsX6_baseOf rX6_baseOf [.int (nI c)] w (fun o w9 => o = .inl (some (.int (bgStep (c - 97)))) ∧ w9 = w) := by
  refine Ct.of (cc := cX6_baseOf) (own := RX6) (nm := "baseOf") (nL := 1) (ret := (some .int)) (by decide +kernel) rfl rfl rfl (Nat.le_of_ble_eq_true rfl) ?_
  refine j_lvE (lv' := [(0, .int (nI c))]) rfl ?_
  refine j_iload_n dX6_baseOf_0 0 rfl ?_
  by_cases k97 : c = 97
  · skip
    refine j_tableIn (off := 54) 55 dX6_baseOf_1 (by rw [k97]; decide) (by rw [k97]; decide) (by rw [k97]; decide) (by decide) ?_
    refine j_bipush (v := nI 9) dX6_baseOf_55 (by decide) ?_
    exact j_iret rfl ⟨by subst k97; rfl, rfl⟩ (show 0 ≤ 0 by omega) (show 0 ≤ 0 by omega) dX6_baseOf_57
  by_cases k98 : c = 98
  · skip
    refine j_tableIn (off := 57) 58 dX6_baseOf_1 (by rw [k98]; decide) (by rw [k98]; decide) (by rw [k98]; decide) (by decide) ?_
    refine j_bipush (v := nI 11) dX6_baseOf_58 (by decide) ?_
    exact j_iret rfl ⟨by subst k98; rfl, rfl⟩ (show 0 ≤ 0 by omega) (show 0 ≤ 0 by omega) dX6_baseOf_60
  by_cases k99 : c = 99
  · skip
    refine j_tableIn (off := 43) 44 dX6_baseOf_1 (by rw [k99]; decide) (by rw [k99]; decide) (by rw [k99]; decide) (by decide) ?_
    refine j_iconst (v := nI 0) dX6_baseOf_44 (by decide) ?_
    exact j_iret rfl ⟨by subst k99; rfl, rfl⟩ (show 0 ≤ 0 by omega) (show 0 ≤ 0 by omega) dX6_baseOf_45
  by_cases k100 : c = 100
  · skip
    refine j_tableIn (off := 45) 46 dX6_baseOf_1 (by rw [k100]; decide) (by rw [k100]; decide) (by rw [k100]; decide) (by decide) ?_
    refine j_iconst (v := nI 2) dX6_baseOf_46 (by decide) ?_
    exact j_iret rfl ⟨by subst k100; rfl, rfl⟩ (show 0 ≤ 0 by omega) (show 0 ≤ 0 by omega) dX6_baseOf_47
  by_cases k101 : c = 101
  · skip
    refine j_tableIn (off := 47) 48 dX6_baseOf_1 (by rw [k101]; decide) (by rw [k101]; decide) (by rw [k101]; decide) (by decide) ?_
    refine j_iconst (v := nI 4) dX6_baseOf_48 (by decide) ?_
    exact j_iret rfl ⟨by subst k101; rfl, rfl⟩ (show 0 ≤ 0 by omega) (show 0 ≤ 0 by omega) dX6_baseOf_49
  by_cases k102 : c = 102
  · skip
    refine j_tableIn (off := 49) 50 dX6_baseOf_1 (by rw [k102]; decide) (by rw [k102]; decide) (by rw [k102]; decide) (by decide) ?_
    refine j_iconst (v := nI 5) dX6_baseOf_50 (by decide) ?_
    exact j_iret rfl ⟨by subst k102; rfl, rfl⟩ (show 0 ≤ 0 by omega) (show 0 ≤ 0 by omega) dX6_baseOf_51
  by_cases k103 : c = 103
  · skip
    refine j_tableIn (off := 51) 52 dX6_baseOf_1 (by rw [k103]; decide) (by rw [k103]; decide) (by rw [k103]; decide) (by decide) ?_
    refine j_bipush (v := nI 7) dX6_baseOf_52 (by decide) ?_
    exact j_iret rfl ⟨by subst k103; rfl, rfl⟩ (show 0 ≤ 0 by omega) (show 0 ≤ 0 by omega) dX6_baseOf_54
  exfalso; omega
