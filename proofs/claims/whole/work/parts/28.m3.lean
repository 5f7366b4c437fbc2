theorem m_next1 {t : Nat → Nat} {ln p a : Nat} {nu : Int32} {w : pW} {A : Nat → Nat} {mm : Nat} {fs : List Value} (hAD : AD A mm) (hmm : w mm = some (.inr (6, fs))) (hA : RA A fs) (h22 : fs[22]? = some (.int (nI p))) (h23 : fs[23]? = some (.int (nI ln))) (h26 : fs[26]? = some (.int nu)) (a1 : w (A 1) = some (.inl (0, 2400, .inl (fun j9 => nI (t j9))))) (ht : ∀ j, t j < 256) (hln : ln ≤ 2400) (hp : p ≤ ln + 1) (ha : skB t ln p = a) : Ct yX6_next wsX6_next rX6_next [.ref mm] w (fun o w9 => o = .inl none ∧ ∃ fs9 : List Value, MU A mm [] [22, 24, 25, 26, 27, 28] w w9 fs fs9 ∧ AtT t ln a fs9) := by
  subst ha
  exact m_next hAD hmm hA h22 h23 h26 a1 ht hln hp
abbrev rX6_need : Room := { frames := 2, cells := 0, slots := 0, locals := 48 }
theorem flX6_need_124 : FL wsX6_need RX6 124 6 29 := ⟨RX6, TX6, 45, rfl, by decide, by decide +kernel, by decide +kernel⟩
set_option maxHeartbeats 4000000 in
set_option maxRecDepth 100000 in
theorem m_need1 {ba c : Nat} {w : pW} {A : Nat → Nat} {mm : Nat} {fs : List Value} (hAD : AD A mm) (hmm : w mm = some (.inr (6, fs))) (hA : RA A fs) (h29 : fs[29]? = some (.int (nI ba))) (hba : ba ≠ 0) (hb2 : ba < 2 ^ 31) : Ct yX6_need wsX6_need rX6_need [.ref mm, .int (nI c)] w (fun o w9 => o = .inl none ∧ w9 = w) := by
  refine Ct.of (cc := cX6_need) (own := RX6) (nm := "need") (nL := 2) (ret := none) (by decide +kernel) rfl rfl rfl (Nat.le_of_ble_eq_true rfl) ?_
  refine j_lvE (lv' := [(0, .ref mm), (1, .int (nI c))]) rfl ?_
  refine j_aload_n dX6_need_0 0 rfl ?_
  refine j_get (v := .int (nI ba)) flX6_need_124 hmm h29 dX6_need_1 ?_
  refine j_if_eqN 8 (by omega) dX6_need_4 (by decide) (fun c4 => ?_) (fun c4 => ?_)
  · skip
    exfalso; omega
  · skip
    exact j_vret rfl ⟨rfl, rfl⟩ (show 0 ≤ 0 by omega) (show 0 ≤ 0 by omega) dX6_need_7
set_option maxHeartbeats 4000000 in
set_option maxRecDepth 100000 in
theorem m_need41Y {t : Nat → Nat} {ln a tkn sg : Nat} {nu : Int32} {w : pW} {A : Nat → Nat} {mm : Nat} {fs : List Value} (hAD : AD A mm) (hmm : w mm = some (.inr (6, fs))) (hA : RA A fs) (h22 : fs[22]? = some (.int (nI ((tk t ln a).1)))) (h24 : fs[24]? = some (.int (nI tkn))) (h25 : fs[25]? = some (.int (nI sg))) (h26 : fs[26]? = some (.int nu)) (h27 : fs[27]? = some (.int (nI a))) (h28 : fs[28]? = some (.int (nI ((tk t ln a).1)))) (h23 : fs[23]? = some (.int (nI ln))) (h29 : fs[29]? = some (.int (nI 0))) (a1 : w (A 1) = some (.inl (0, 2400, .inl (fun j9 => nI (t j9))))) (hT : TS tkn sg (tkK t ln a)) (ht : ∀ j, t j < 256) (hln : ln ≤ 2400) (ha : a ≤ ln + 1) (hk : tkK t ln a = 41) {a9 : Nat} (ha9 : tkN t ln a = a9) : Ct yX6_need wsX6_need rX6_need [.ref mm, .int (nI 41)] w (fun o w9 => o = .inl none ∧ ∃ fs9 : List Value, MU A mm [] [22, 24, 25, 26, 27, 28] w w9 fs fs9 ∧ AtT t ln a9 fs9) := by
  refine Ct.of (cc := cX6_need) (own := RX6) (nm := "need") (nL := 2) (ret := none) (by decide +kernel) rfl rfl rfl (Nat.le_of_ble_eq_true rfl) ?_
  refine j_lvE (lv' := [(0, .ref mm), (1, .int (nI 41))]) rfl ?_
  have hT1 := hT.1
  have hT2 := hT.2.1
  refine j_aload_n dX6_need_0 0 rfl ?_
  refine j_get (v := .int (nI 0)) flX6_need_124 hmm h29 dX6_need_1 ?_
  refine j_if_eqN 8 (by decide) dX6_need_4 (by decide) (fun _ => ?_) (fun h9 => absurd rfl h9)
  refine j_aload_n dX6_need_8 0 rfl ?_
  refine j_iload_n dX6_need_9 1 rfl ?_
  refine j_callV (rm := rX6_isSign) (As := [.int (nI 41)]) (st := []) (b0 := mm) (ci := 6) (na := 1) (m_isSign (c := 41) hAD hmm hA h24 h25 hT rfl (by decide)) (by intro E w9 h9; first | exact nomatch h9.1 | (obtain ⟨_, h9, _⟩ := h9; exact nomatch h9) | (obtain ⟨_, _, _, h9, _⟩ := h9; exact nomatch h9)) gX6_need_X6_isSign rfl rfl hmm (by decide +kernel) rfl ⟨Nat.le_of_ble_eq_true rfl, Nat.le_of_ble_eq_true rfl⟩ rfl (Nat.le_of_ble_eq_true rfl) dX6_need_10 ⟨(show 0 + 0 ≤ 0 by omega), (show 0 + 0 ≤ 0 by omega)⟩ (fun v1 w2 h3 => ?_)
  obtain ⟨h3, h4⟩ := h3
  cases h3
  subst w2
  refine j_after (st' := [.int (zb (decide (tkK t ln a = 41)))]) (k' := 0) (n' := 0) rfl rfl rfl ?_
  refine j_if_eq 23 dX6_need_13 (by decide) (fun c13 => ?_) (fun c13 => ?_)
  · skip
    exact absurd hk (of_decide_eq_false (zb_0 c13))
  · skip
    refine j_aload_n dX6_need_16 0 rfl ?_
    obtain ⟨az5, haz5⟩ : ∃ z, tkN t ln a = z := ⟨_, rfl⟩
    refine j_callV (rm := rX6_next) (As := []) (st := []) (b0 := mm) (ci := 6) (na := 0) (m_next1 (a := az5) hAD hmm hA h22 h23 h26 a1 ht hln (tkN_bd ha).2.1 haz5) (by intro E w9 h9; first | exact nomatch h9.1 | (obtain ⟨_, h9, _⟩ := h9; exact nomatch h9) | (obtain ⟨_, _, _, h9, _⟩ := h9; exact nomatch h9)) gX6_need_X6_next rfl rfl hmm (by decide +kernel) rfl ⟨Nat.le_of_ble_eq_true rfl, Nat.le_of_ble_eq_true rfl⟩ rfl (Nat.le_of_ble_eq_true rfl) dX6_need_17 ⟨(show 0 + 0 ≤ 0 by omega), (show 0 + 0 ≤ 0 by omega)⟩ (fun v22 w23 h24 => ?_)
    obtain ⟨h21, fs17, ⟨hfr18, hm19, hff20⟩, ⟨tkn6, sg7, nu8, v11, v12, v13, v14, v15, v16, hT9, hN10⟩⟩ := h24
    cases h21
    refine j_after (st' := []) (k' := 0) (n' := 0) rfl rfl rfl ?_
    have r25 : RA A fs17 := RA.ff hA hff20 rfl
    have hT9b := hT9.1
    refine j_goto 28 dX6_need_20 (by decide) ?_
    exact j_vret rfl ⟨rfl, _, ⟨((FrI.refl : FrI A [mm] [] w w).trans (FrI.sub hfr18 rfl)), hm19, ((FF.refl : FF [22, 24, 25, 26, 27, 28] fs fs).trans (FF.mono hff20 rfl))⟩, (by rw [← ha9, haz5]; exact ⟨_, _, _, v11, v12, v13, v14, v15, v16, hT9, hN10⟩)⟩ (show 0 ≤ 0 by omega) (show 0 ≤ 0 by omega) dX6_need_28
set_option maxHeartbeats 4000000 in
set_option maxRecDepth 100000 in
theorem m_need41N {t : Nat → Nat} {ln a tkn sg : Nat} {nu : Int32} {w : pW} {A : Nat → Nat} {mm : Nat} {fs : List Value} (hAD : AD A mm) (hmm : w mm = some (.inr (6, fs))) (hA : RA A fs) (h22 : fs[22]? = some (.int (nI ((tk t ln a).1)))) (h24 : fs[24]? = some (.int (nI tkn))) (h25 : fs[25]? = some (.int (nI sg))) (h26 : fs[26]? = some (.int nu)) (h27 : fs[27]? = some (.int (nI a))) (h28 : fs[28]? = some (.int (nI ((tk t ln a).1)))) (h23 : fs[23]? = some (.int (nI ln))) (h29 : fs[29]? = some (.int (nI 0))) (a1 : w (A 1) = some (.inl (0, 2400, .inl (fun j9 => nI (t j9))))) (hT : TS tkn sg (tkK t ln a)) (ht : ∀ j, t j < 256) (hln : ln ≤ 2400) (ha : a ≤ ln + 1) (hk : ¬ tkK t ln a = 41) : Ct yX6_need wsX6_need rX6_need [.ref mm, .int (nI 41)] w (fun o w9 => o = .inl none ∧ ∃ fs9 : List Value, MU A mm [] [29, 30] w w9 fs fs9 ∧ fs9[29]? = some (.int (nI 1)) ∧ fs9[30]? = some (.int (nI a))) := by
  refine Ct.of (cc := cX6_need) (own := RX6) (nm := "need") (nL := 2) (ret := none) (by decide +kernel) rfl rfl rfl (Nat.le_of_ble_eq_true rfl) ?_
  refine j_lvE (lv' := [(0, .ref mm), (1, .int (nI 41))]) rfl ?_
  have hT1 := hT.1
  have hT2 := hT.2.1
  refine j_aload_n dX6_need_0 0 rfl ?_
  refine j_get (v := .int (nI 0)) flX6_need_124 hmm h29 dX6_need_1 ?_
  refine j_if_eqN 8 (by decide) dX6_need_4 (by decide) (fun _ => ?_) (fun h9 => absurd rfl h9)
  refine j_aload_n dX6_need_8 0 rfl ?_
  refine j_iload_n dX6_need_9 1 rfl ?_
  refine j_callV (rm := rX6_isSign) (As := [.int (nI 41)]) (st := []) (b0 := mm) (ci := 6) (na := 1) (m_isSign (c := 41) hAD hmm hA h24 h25 hT rfl (by decide)) (by intro E w9 h9; first | exact nomatch h9.1 | (obtain ⟨_, h9, _⟩ := h9; exact nomatch h9) | (obtain ⟨_, _, _, h9, _⟩ := h9; exact nomatch h9)) gX6_need_X6_isSign rfl rfl hmm (by decide +kernel) rfl ⟨Nat.le_of_ble_eq_true rfl, Nat.le_of_ble_eq_true rfl⟩ rfl (Nat.le_of_ble_eq_true rfl) dX6_need_10 ⟨(show 0 + 0 ≤ 0 by omega), (show 0 + 0 ≤ 0 by omega)⟩ (fun v1 w2 h3 => ?_)
  obtain ⟨h3, h4⟩ := h3
  cases h3
  subst w2
  refine j_after (st' := [.int (zb (decide (tkK t ln a = 41)))]) (k' := 0) (n' := 0) rfl rfl rfl ?_
  refine j_if_eq 23 dX6_need_13 (by decide) (fun c13 => ?_) (fun c13 => ?_)
  · skip
    refine j_aload_n dX6_need_23 0 rfl ?_
    refine j_iconst (v := nI 1) dX6_need_24 (by decide) ?_
    refine j_callV (rm := rX6_wrong) (As := [.int (nI 1)]) (st := []) (b0 := mm) (ci := 6) (na := 1) (m_wrong0 (k := 1) hAD hmm hA h29 h27) (by intro E w9 h9; first | exact nomatch h9.1 | (obtain ⟨_, h9, _⟩ := h9; exact nomatch h9) | (obtain ⟨_, _, _, h9, _⟩ := h9; exact nomatch h9)) gX6_need_X6_wrong rfl rfl hmm (by decide +kernel) rfl ⟨Nat.le_of_ble_eq_true rfl, Nat.le_of_ble_eq_true rfl⟩ rfl (Nat.le_of_ble_eq_true rfl) dX6_need_25 ⟨(show 0 + 0 ≤ 0 by omega), (show 0 + 0 ≤ 0 by omega)⟩ (fun v12 w13 h14 => ?_)
    obtain ⟨h11, fs7, ⟨hfr8, hm9, hff10⟩, v5, v6⟩ := h14
    cases h11
    refine j_after (st' := []) (k' := 0) (n' := 0) rfl rfl rfl ?_
    have r15 : RA A fs7 := RA.ff hA hff10 rfl
    exact j_vret rfl ⟨rfl, _, ⟨((FrI.refl : FrI A [mm] [] w w).trans (FrI.sub hfr8 rfl)), hm9, ((FF.refl : FF [29, 30] fs fs).trans (FF.mono hff10 rfl))⟩, v5, v6⟩ (show 0 ≤ 0 by omega) (show 0 ≤ 0 by omega) dX6_need_28
  · skip
    exact absurd (of_decide_eq_true (zb_n' c13)) hk
set_option maxHeartbeats 4000000 in
set_option maxRecDepth 100000 in
theorem m_need58Y {t : Nat → Nat} {ln a tkn sg : Nat} {nu : Int32} {w : pW} {A : Nat → Nat} {mm : Nat} {fs : List Value} (hAD : AD A mm) (hmm : w mm = some (.inr (6, fs))) (hA : RA A fs) (h22 : fs[22]? = some (.int (nI ((tk t ln a).1)))) (h24 : fs[24]? = some (.int (nI tkn))) (h25 : fs[25]? = some (.int (nI sg))) (h26 : fs[26]? = some (.int nu)) (h27 : fs[27]? = some (.int (nI a))) (h28 : fs[28]? = some (.int (nI ((tk t ln a).1)))) (h23 : fs[23]? = some (.int (nI ln))) (h29 : fs[29]? = some (.int (nI 0))) (a1 : w (A 1) = some (.inl (0, 2400, .inl (fun j9 => nI (t j9))))) (hT : TS tkn sg (tkK t ln a)) (ht : ∀ j, t j < 256) (hln : ln ≤ 2400) (ha : a ≤ ln + 1) (hk : tkK t ln a = 58) {a9 : Nat} (ha9 : tkN t ln a = a9) : Ct yX6_need wsX6_need rX6_need [.ref mm, .int (nI 58)] w (fun o w9 => o = .inl none ∧ ∃ fs9 : List Value, MU A mm [] [22, 24, 25, 26, 27, 28] w w9 fs fs9 ∧ AtT t ln a9 fs9) := by
  refine Ct.of (cc := cX6_need) (own := RX6) (nm := "need") (nL := 2) (ret := none) (by decide +kernel) rfl rfl rfl (Nat.le_of_ble_eq_true rfl) ?_
  refine j_lvE (lv' := [(0, .ref mm), (1, .int (nI 58))]) rfl ?_
  have hT1 := hT.1
  have hT2 := hT.2.1
  refine j_aload_n dX6_need_0 0 rfl ?_
  refine j_get (v := .int (nI 0)) flX6_need_124 hmm h29 dX6_need_1 ?_
  refine j_if_eqN 8 (by decide) dX6_need_4 (by decide) (fun _ => ?_) (fun h9 => absurd rfl h9)
  refine j_aload_n dX6_need_8 0 rfl ?_
  refine j_iload_n dX6_need_9 1 rfl ?_
  refine j_callV (rm := rX6_isSign) (As := [.int (nI 58)]) (st := []) (b0 := mm) (ci := 6) (na := 1) (m_isSign (c := 58) hAD hmm hA h24 h25 hT rfl (by decide)) (by intro E w9 h9; first | exact nomatch h9.1 | (obtain ⟨_, h9, _⟩ := h9; exact nomatch h9) | (obtain ⟨_, _, _, h9, _⟩ := h9; exact nomatch h9)) gX6_need_X6_isSign rfl rfl hmm (by decide +kernel) rfl ⟨Nat.le_of_ble_eq_true rfl, Nat.le_of_ble_eq_true rfl⟩ rfl (Nat.le_of_ble_eq_true rfl) dX6_need_10 ⟨(show 0 + 0 ≤ 0 by omega), (show 0 + 0 ≤ 0 by omega)⟩ (fun v1 w2 h3 => ?_)
  obtain ⟨h3, h4⟩ := h3
  cases h3
  subst w2
  refine j_after (st' := [.int (zb (decide (tkK t ln a = 58)))]) (k' := 0) (n' := 0) rfl rfl rfl ?_
  refine j_if_eq 23 dX6_need_13 (by decide) (fun c13 => ?_) (fun c13 => ?_)
  · skip
    exact absurd hk (of_decide_eq_false (zb_0 c13))
  · skip
    refine j_aload_n dX6_need_16 0 rfl ?_
    obtain ⟨az5, haz5⟩ : ∃ z, tkN t ln a = z := ⟨_, rfl⟩
    refine j_callV (rm := rX6_next) (As := []) (st := []) (b0 := mm) (ci := 6) (na := 0) (m_next1 (a := az5) hAD hmm hA h22 h23 h26 a1 ht hln (tkN_bd ha).2.1 haz5) (by intro E w9 h9; first | exact nomatch h9.1 | (obtain ⟨_, h9, _⟩ := h9; exact nomatch h9) | (obtain ⟨_, _, _, h9, _⟩ := h9; exact nomatch h9)) gX6_need_X6_next rfl rfl hmm (by decide +kernel) rfl ⟨Nat.le_of_ble_eq_true rfl, Nat.le_of_ble_eq_true rfl⟩ rfl (Nat.le_of_ble_eq_true rfl) dX6_need_17 ⟨(show 0 + 0 ≤ 0 by omega), (show 0 + 0 ≤ 0 by omega)⟩ (fun v22 w23 h24 => ?_)
    obtain ⟨h21, fs17, ⟨hfr18, hm19, hff20⟩, ⟨tkn6, sg7, nu8, v11, v12, v13, v14, v15, v16, hT9, hN10⟩⟩ := h24
    cases h21
    refine j_after (st' := []) (k' := 0) (n' := 0) rfl rfl rfl ?_
    have r25 : RA A fs17 := RA.ff hA hff20 rfl
    have hT9b := hT9.1
    refine j_goto 28 dX6_need_20 (by decide) ?_
    exact j_vret rfl ⟨rfl, _, ⟨((FrI.refl : FrI A [mm] [] w w).trans (FrI.sub hfr18 rfl)), hm19, ((FF.refl : FF [22, 24, 25, 26, 27, 28] fs fs).trans (FF.mono hff20 rfl))⟩, (by rw [← ha9, haz5]; exact ⟨_, _, _, v11, v12, v13, v14, v15, v16, hT9, hN10⟩)⟩ (show 0 ≤ 0 by omega) (show 0 ≤ 0 by omega) dX6_need_28
set_option maxHeartbeats 4000000 in
set_option maxRecDepth 100000 in
theorem m_need58N {t : Nat → Nat} {ln a tkn sg : Nat} {nu : Int32} {w : pW} {A : Nat → Nat} {mm : Nat} {fs : List Value} (hAD : AD A mm) (hmm : w mm = some (.inr (6, fs))) (hA : RA A fs) (h22 : fs[22]? = some (.int (nI ((tk t ln a).1)))) (h24 : fs[24]? = some (.int (nI tkn))) (h25 : fs[25]? = some (.int (nI sg))) (h26 : fs[26]? = some (.int nu)) (h27 : fs[27]? = some (.int (nI a))) (h28 : fs[28]? = some (.int (nI ((tk t ln a).1)))) (h23 : fs[23]? = some (.int (nI ln))) (h29 : fs[29]? = some (.int (nI 0))) (a1 : w (A 1) = some (.inl (0, 2400, .inl (fun j9 => nI (t j9))))) (hT : TS tkn sg (tkK t ln a)) (ht : ∀ j, t j < 256) (hln : ln ≤ 2400) (ha : a ≤ ln + 1) (hk : ¬ tkK t ln a = 58) : Ct yX6_need wsX6_need rX6_need [.ref mm, .int (nI 58)] w (fun o w9 => o = .inl none ∧ ∃ fs9 : List Value, MU A mm [] [29, 30] w w9 fs fs9 ∧ fs9[29]? = some (.int (nI 1)) ∧ fs9[30]? = some (.int (nI a))) := by
  refine Ct.of (cc := cX6_need) (own := RX6) (nm := "need") (nL := 2) (ret := none) (by decide +kernel) rfl rfl rfl (Nat.le_of_ble_eq_true rfl) ?_
  refine j_lvE (lv' := [(0, .ref mm), (1, .int (nI 58))]) rfl ?_
  have hT1 := hT.1
  have hT2 := hT.2.1
  refine j_aload_n dX6_need_0 0 rfl ?_
  refine j_get (v := .int (nI 0)) flX6_need_124 hmm h29 dX6_need_1 ?_
  refine j_if_eqN 8 (by decide) dX6_need_4 (by decide) (fun _ => ?_) (fun h9 => absurd rfl h9)
  refine j_aload_n dX6_need_8 0 rfl ?_
  refine j_iload_n dX6_need_9 1 rfl ?_
  refine j_callV (rm := rX6_isSign) (As := [.int (nI 58)]) (st := []) (b0 := mm) (ci := 6) (na := 1) (m_isSign (c := 58) hAD hmm hA h24 h25 hT rfl (by decide)) (by intro E w9 h9; first | exact nomatch h9.1 | (obtain ⟨_, h9, _⟩ := h9; exact nomatch h9) | (obtain ⟨_, _, _, h9, _⟩ := h9; exact nomatch h9)) gX6_need_X6_isSign rfl rfl hmm (by decide +kernel) rfl ⟨Nat.le_of_ble_eq_true rfl, Nat.le_of_ble_eq_true rfl⟩ rfl (Nat.le_of_ble_eq_true rfl) dX6_need_10 ⟨(show 0 + 0 ≤ 0 by omega), (show 0 + 0 ≤ 0 by omega)⟩ (fun v1 w2 h3 => ?_)
  obtain ⟨h3, h4⟩ := h3
  cases h3
  subst w2
  refine j_after (st' := [.int (zb (decide (tkK t ln a = 58)))]) (k' := 0) (n' := 0) rfl rfl rfl ?_
  refine j_if_eq 23 dX6_need_13 (by decide) (fun c13 => ?_) (fun c13 => ?_)
  · skip
    refine j_aload_n dX6_need_23 0 rfl ?_
    refine j_iconst (v := nI 1) dX6_need_24 (by decide) ?_
    refine j_callV (rm := rX6_wrong) (As := [.int (nI 1)]) (st := []) (b0 := mm) (ci := 6) (na := 1) (m_wrong0 (k := 1) hAD hmm hA h29 h27) (by intro E w9 h9; first | exact nomatch h9.1 | (obtain ⟨_, h9, _⟩ := h9; exact nomatch h9) | (obtain ⟨_, _, _, h9, _⟩ := h9; exact nomatch h9)) gX6_need_X6_wrong rfl rfl hmm (by decide +kernel) rfl ⟨Nat.le_of_ble_eq_true rfl, Nat.le_of_ble_eq_true rfl⟩ rfl (Nat.le_of_ble_eq_true rfl) dX6_need_25 ⟨(show 0 + 0 ≤ 0 by omega), (show 0 + 0 ≤ 0 by omega)⟩ (fun v12 w13 h14 => ?_)
    obtain ⟨h11, fs7, ⟨hfr8, hm9, hff10⟩, v5, v6⟩ := h14
    cases h11
    refine j_after (st' := []) (k' := 0) (n' := 0) rfl rfl rfl ?_
    have r15 : RA A fs7 := RA.ff hA hff10 rfl
    exact j_vret rfl ⟨rfl, _, ⟨((FrI.refl : FrI A [mm] [] w w).trans (FrI.sub hfr8 rfl)), hm9, ((FF.refl : FF [29, 30] fs fs).trans (FF.mono hff10 rfl))⟩, v5, v6⟩ (show 0 ≤ 0 by omega) (show 0 ≤ 0 by omega) dX6_need_28
  · skip
    exact absurd (of_decide_eq_true (zb_n' c13)) hk
abbrev rX6_readPitch : Room := { frames := 2, cells := 0, slots := 0, locals := 48 }
theorem flX6_readPitch_20 : FL wsX6_readPitch RX6 20 6 11 := ⟨RX6, TX6, 45, rfl, by decide, by decide +kernel, by decide +kernel⟩
set_option maxHeartbeats 4000000 in
set_option maxRecDepth 100000 in
theorem m_rp4 {t : Nat → Nat} {ln a tkn sg : Nat} {nu : Int32} {xm : Nat → Nat} {xp : Nat → Int32} {e : Nat} {w : pW} {A : Nat → Nat} {mm : Nat} {fs : List Value} (hAD : AD A mm) (hmm : w mm = some (.inr (6, fs))) (hA : RA A fs) (h22 : fs[22]? = some (.int (nI ((tk t ln a).1)))) (h24 : fs[24]? = some (.int (nI tkn))) (h25 : fs[25]? = some (.int (nI sg))) (h26 : fs[26]? = some (.int nu)) (h27 : fs[27]? = some (.int (nI a))) (h28 : fs[28]? = some (.int (nI ((tk t ln a).1)))) (h23 : fs[23]? = some (.int (nI ln))) (h29 : fs[29]? = some (.int (nI 0))) (a1 : w (A 1) = some (.inl (0, 2400, .inl (fun j9 => nI (t j9))))) (a11 : w (A 11) = some (.inl (0, 100, .inl (fun j9 => nI (xm j9))))) (a12 : w (A 12) = some (.inl (0, 400, .inl xp))) (hT : TS tkn sg (tkK t ln a)) (ht : ∀ j, t j < 256) (hln : ln ≤ 2400) (ha : a ≤ ln + 1) (he : e < 100) (h4 : xm e = 4) : Ct yX6_readPitch wsX6_readPitch rX6_readPitch [.ref mm, .int (nI e)] w (fun o w9 => o = .inl none ∧ ∃ fs9 : List Value, MU A mm [] [29, 30] w w9 fs fs9 ∧ fs9[29]? = some (.int (nI 2)) ∧ fs9[30]? = some (.int (nI a))) := by
  refine Ct.of (cc := cX6_readPitch) (own := RX6) (nm := "readPitch") (nL := 3) (ret := none) (by decide +kernel) rfl rfl rfl (Nat.le_of_ble_eq_true rfl) ?_
  refine j_lvE (lv' := [(0, .ref mm), (1, .int (nI e))]) rfl ?_
  refine j_aload_n dX6_readPitch_0 0 rfl ?_
  refine j_get (v := .ref (A 11)) flX6_readPitch_20 hmm (hA.2 11 rfl) dX6_readPitch_1 ?_
  refine j_iload_n dX6_readPitch_4 1 rfl ?_
  refine j_ialdN (j := e) a11 rfl (by omega) (by omega) dX6_readPitch_5 ?_
  refine j_iconst (v := nI 4) dX6_readPitch_6 (by decide) ?_
  refine j_icmp_neN 16 (by omega) (by omega) dX6_readPitch_7 (by decide) (fun c7 => ?_) (fun c7 => ?_)
  · skip
    exfalso; omega
  · skip
    refine j_aload_n dX6_readPitch_10 0 rfl ?_
    refine j_iconst (v := nI 2) dX6_readPitch_11 (by decide) ?_
    refine j_callV (rm := rX6_wrong) (As := [.int (nI 2)]) (st := []) (b0 := mm) (ci := 6) (na := 1) (m_wrong0 (k := 2) hAD hmm hA h29 h27) (by intro E w9 h9; first | exact nomatch h9.1 | (obtain ⟨_, h9, _⟩ := h9; exact nomatch h9) | (obtain ⟨_, _, _, h9, _⟩ := h9; exact nomatch h9)) gX6_readPitch_X6_wrong rfl rfl hmm (by decide +kernel) rfl ⟨Nat.le_of_ble_eq_true rfl, Nat.le_of_ble_eq_true rfl⟩ rfl (Nat.le_of_ble_eq_true rfl) dX6_readPitch_12 ⟨(show 0 + 0 ≤ 0 by omega), (show 0 + 0 ≤ 0 by omega)⟩ (fun v8 w9 h10 => ?_)
    obtain ⟨h7, fs3, ⟨hfr4, hm5, hff6⟩, v1, v2⟩ := h10
    cases h7
    refine j_after (st' := []) (k' := 0) (n' := 0) rfl rfl rfl ?_
    have r11 : RA A fs3 := RA.ff hA hff6 rfl
    exact j_vret rfl ⟨rfl, _, ⟨((FrI.refl : FrI A [mm] [] w w).trans (FrI.sub hfr4 rfl)), hm5, ((FF.refl : FF [29, 30] fs fs).trans (FF.mono hff6 rfl))⟩, v1, v2⟩ (show 0 ≤ 0 by omega) (show 0 ≤ 0 by omega) dX6_readPitch_15
theorem flX6_readPitch_23 : FL wsX6_readPitch RX6 23 6 12 := ⟨RX6, TX6, 45, rfl, by decide, by decide +kernel, by decide +kernel⟩
theorem flX6_readPitch_109 : FL wsX6_readPitch RX6 109 6 26 := ⟨RX6, TX6, 45, rfl, by decide, by decide +kernel, by decide +kernel⟩
theorem flX6_readPitch_124 : FL wsX6_readPitch RX6 124 6 29 := ⟨RX6, TX6, 45, rfl, by decide, by decide +kernel, by decide +kernel⟩
set_option maxHeartbeats 4000000 in
set_option maxRecDepth 100000 in
theorem l_rpT {a : Nat} {nu : Int32} {xm : Nat → Nat} {xp : Nat → Int32} {e : Nat} {w0 : pW} {fs0 : List Value} {A : Nat → Nat} {mm : Nat} (hAD : AD A mm) (he : e < 100) (h4 : xm e ≤ 4) (hex : ∃ k, k < xm e ∧ xp (4 * e + k) = nu) : ∀ (m9 : Nat) (w : pW) (fs : List Value) (i : Nat) (bb : Nat), xm e - i < m9 → (w mm = some (.inr (6, fs))) → (RA A fs) → (FrI A [mm] [] w0 w) → (FF [29, 30] fs0 fs) → (fs[26]? = some (.int nu)) → (fs[27]? = some (.int (nI a))) → (fs[29]? = some (.int (nI bb))) → (w (A 11) = some (.inl (0, 100, .inl (fun j9 => nI (xm j9))))) → (w (A 12) = some (.inl (0, 400, .inl xp))) → (i ≤ xm e) → ((bb = 0 ∧ ∀ k, k < i → xp (4 * e + k) ≠ nu) ∨ (bb = 3 ∧ fs[30]? = some (.int (nI a)) ∧ ∃ k, k < xm e ∧ xp (4 * e + k) = nu)) → J ((cX6_readPitch, RX6, 3, wsX6_readPitch), (rX6_readPitch, none, "readPitch", []), fun o w9 => o = .inl none ∧ ∃ fs9 : List Value, MU A mm [] [29, 30] w0 w9 fs0 fs9 ∧ fs9[29]? = some (.int (nI 3)) ∧ fs9[30]? = some (.int (nI a)), fun _ _ _ => True) 18 [(0, .ref mm), (1, .int (nI e)), (2, .int (nI i))] [] w 0 0 := by
  intro m9
  induction m9 with
  | zero => intro w fs i bb h9; omega
  | succ m9 ih =>
    intro w fs i bb hm9 hmm hA hfr hff h26 h27 h29 a11 a12 hi hbb
    rcases hbb with ⟨hb0, hno⟩ | ⟨hb3, h30, hex2⟩
    · skip
      subst hb0
      refine j_iload_n dX6_readPitch_18 2 rfl ?_
      refine j_aload_n dX6_readPitch_19 0 rfl ?_
      refine j_get (v := .ref (A 11)) flX6_readPitch_20 hmm (hA.2 11 rfl) dX6_readPitch_20 ?_
      refine j_iload_n dX6_readPitch_23 1 rfl ?_
      refine j_ialdN (j := e) a11 rfl (by omega) (by omega) dX6_readPitch_24 ?_
      refine j_icmp_geN 56 (by omega) (by omega) dX6_readPitch_25 (by decide) (fun c25 => ?_) (fun c25 => ?_)
      · skip
        exfalso; obtain ⟨k, hk, hk2⟩ := hex; exact hno k (by omega) hk2
      · skip
        refine j_aload_n dX6_readPitch_28 0 rfl ?_
        refine j_get (v := .ref (A 12)) flX6_readPitch_23 hmm (hA.2 12 rfl) dX6_readPitch_29 ?_
        refine j_iconst (v := nI 4) dX6_readPitch_32 (by decide) ?_
        refine j_iload_n dX6_readPitch_33 1 rfl ?_
        refine j_imulN dX6_readPitch_34 ?_
        refine j_iload_n dX6_readPitch_35 2 rfl ?_
        refine j_iaddN dX6_readPitch_36 ?_
        refine j_ialdN (j := (4 * e) + i) a12 rfl (by omega) (by omega) dX6_readPitch_37 ?_
        refine j_aload_n dX6_readPitch_38 0 rfl ?_
        refine j_get (v := .int nu) flX6_readPitch_109 hmm h26 dX6_readPitch_39 ?_
        refine j_icmp_ne 50 dX6_readPitch_42 (by decide) (fun c42 => ?_) (fun c42 => ?_)
        · skip
          refine j_iinc (q := 2) (v := nI (i + 1)) (lv' := [(2, .int (nI (i + 1))), (0, .ref mm), (1, .int (nI e))]) dX6_readPitch_50 rfl (by first | exact nI_1 _ | exact nI_add _ _) (Nat.le_of_ble_eq_true rfl) rfl ?_
          refine j_goto 18 dX6_readPitch_53 (by decide) ?_
          refine j_lv (lv' := [(0, .ref mm), (1, .int (nI e)), (2, .int (nI (i + 1)))]) [1, 2, 0] rfl ?_
          refine ih _ _ (i + 1) _ (by omega) hmm hA (FrI.mono hfr (by simp) rfl : FrI A [mm] [] w0 _) (FF.mono hff rfl : FF [29, 30] fs0 _) h26 h27 h29 a11 a12 (by omega) ?_
          exact Or.inl ⟨rfl, fun k hk => if h : k = i then h ▸ c42 else hno k (by omega)⟩
        · skip
          refine j_aload_n dX6_readPitch_45 0 rfl ?_
          refine j_iconst (v := nI 3) dX6_readPitch_46 (by decide) ?_
          refine j_callV (rm := rX6_wrong) (As := [.int (nI 3)]) (st := []) (b0 := mm) (ci := 6) (na := 1) (m_wrong0 (k := 3) hAD hmm hA h29 h27) (by intro E w9 h9; first | exact nomatch h9.1 | (obtain ⟨_, h9, _⟩ := h9; exact nomatch h9) | (obtain ⟨_, _, _, h9, _⟩ := h9; exact nomatch h9)) gX6_readPitch_X6_wrong rfl rfl hmm (by decide +kernel) rfl ⟨Nat.le_of_ble_eq_true rfl, Nat.le_of_ble_eq_true rfl⟩ rfl (Nat.le_of_ble_eq_true rfl) dX6_readPitch_47 ⟨(show 0 + 0 ≤ 0 by omega), (show 0 + 0 ≤ 0 by omega)⟩ (fun v8 w9 h10 => ?_)
          obtain ⟨h7, fs3, ⟨hfr4, hm5, hff6⟩, v1, v2⟩ := h10
          cases h7
          refine j_after (st' := []) (k' := 0) (n' := 0) rfl rfl rfl ?_
          have r11 : RA A fs3 := RA.ff hA hff6 rfl
          refine j_iinc (q := 2) (v := nI (i + 1)) (lv' := [(2, .int (nI (i + 1))), (0, .ref mm), (1, .int (nI e))]) dX6_readPitch_50 rfl (by first | exact nI_1 _ | exact nI_add _ _) (Nat.le_of_ble_eq_true rfl) rfl ?_
          refine j_goto 18 dX6_readPitch_53 (by decide) ?_
          refine j_lv (lv' := [(0, .ref mm), (1, .int (nI e)), (2, .int (nI (i + 1)))]) [1, 2, 0] rfl ?_
          have v12 := (FF.at hff6 rfl h26)
          have v13 := (FF.at hff6 rfl h27)
          have f14 := (FrI.gen hfr4 (nm1 (AD.nm hAD 11 rfl)) (AD.nl hAD 11 rfl rfl rfl) a11)
          have f15 := (FrI.gen hfr4 (nm1 (AD.nm hAD 12 rfl)) (AD.nl hAD 12 rfl rfl rfl) a12)
          refine ih _ _ (i + 1) _ (by omega) hm5 r11 ((FrI.mono hfr (by simp) rfl : FrI A [mm] [] w0 _).trans (FrI.sub hfr4 rfl)) ((FF.mono hff rfl : FF [29, 30] fs0 _).trans (FF.mono hff6 rfl)) v12 v13 v1 f14 f15 (by omega) ?_
          exact Or.inr ⟨rfl, v2, i, by omega, c42⟩
    · skip
      subst hb3
      refine j_iload_n dX6_readPitch_18 2 rfl ?_
      refine j_aload_n dX6_readPitch_19 0 rfl ?_
      refine j_get (v := .ref (A 11)) flX6_readPitch_20 hmm (hA.2 11 rfl) dX6_readPitch_20 ?_
      refine j_iload_n dX6_readPitch_23 1 rfl ?_
      refine j_ialdN (j := e) a11 rfl (by omega) (by omega) dX6_readPitch_24 ?_
      refine j_icmp_geN 56 (by omega) (by omega) dX6_readPitch_25 (by decide) (fun c25 => ?_) (fun c25 => ?_)
      · skip
        refine j_aload_n dX6_readPitch_56 0 rfl ?_
        refine j_get (v := .int (nI 3)) flX6_readPitch_124 hmm h29 dX6_readPitch_57 ?_
        refine j_if_eqN 64 (by decide) dX6_readPitch_60 (by decide) (fun h9 => absurd h9 (by decide)) (fun _ => ?_)
        exact j_vret rfl ⟨rfl, _, ⟨(FrI.mono hfr (by simp) rfl : FrI A [mm] [] w0 _), hmm, (FF.mono hff rfl : FF [29, 30] fs0 _)⟩, h29, h30⟩ (show 0 ≤ 0 by omega) (show 0 ≤ 0 by omega) dX6_readPitch_63
      · skip
        refine j_aload_n dX6_readPitch_28 0 rfl ?_
        refine j_get (v := .ref (A 12)) flX6_readPitch_23 hmm (hA.2 12 rfl) dX6_readPitch_29 ?_
        refine j_iconst (v := nI 4) dX6_readPitch_32 (by decide) ?_
        refine j_iload_n dX6_readPitch_33 1 rfl ?_
        refine j_imulN dX6_readPitch_34 ?_
        refine j_iload_n dX6_readPitch_35 2 rfl ?_
        refine j_iaddN dX6_readPitch_36 ?_
        refine j_ialdN (j := (4 * e) + i) a12 rfl (by omega) (by omega) dX6_readPitch_37 ?_
        refine j_aload_n dX6_readPitch_38 0 rfl ?_
        refine j_get (v := .int nu) flX6_readPitch_109 hmm h26 dX6_readPitch_39 ?_
        refine j_icmp_ne 50 dX6_readPitch_42 (by decide) (fun c42 => ?_) (fun c42 => ?_)
        · skip
          refine j_iinc (q := 2) (v := nI (i + 1)) (lv' := [(2, .int (nI (i + 1))), (0, .ref mm), (1, .int (nI e))]) dX6_readPitch_50 rfl (by first | exact nI_1 _ | exact nI_add _ _) (Nat.le_of_ble_eq_true rfl) rfl ?_
          refine j_goto 18 dX6_readPitch_53 (by decide) ?_
          refine j_lv (lv' := [(0, .ref mm), (1, .int (nI e)), (2, .int (nI (i + 1)))]) [1, 2, 0] rfl ?_
          refine ih _ _ (i + 1) _ (by omega) hmm hA (FrI.mono hfr (by simp) rfl : FrI A [mm] [] w0 _) (FF.mono hff rfl : FF [29, 30] fs0 _) h26 h27 h29 a11 a12 (by omega) ?_
          exact Or.inr ⟨rfl, h30, hex2⟩
        · skip
          refine j_aload_n dX6_readPitch_45 0 rfl ?_
          refine j_iconst (v := nI 3) dX6_readPitch_46 (by decide) ?_
          refine j_callV (rm := rX6_wrong) (As := [.int (nI 3)]) (st := []) (b0 := mm) (ci := 6) (na := 1) (m_wrong1 (k := 3) hAD hmm hA h29 (by omega) (by omega)) (by intro E w9 h9; first | exact nomatch h9.1 | (obtain ⟨_, h9, _⟩ := h9; exact nomatch h9) | (obtain ⟨_, _, _, h9, _⟩ := h9; exact nomatch h9)) gX6_readPitch_X6_wrong rfl rfl hmm (by decide +kernel) rfl ⟨Nat.le_of_ble_eq_true rfl, Nat.le_of_ble_eq_true rfl⟩ rfl (Nat.le_of_ble_eq_true rfl) dX6_readPitch_47 ⟨(show 0 + 0 ≤ 0 by omega), (show 0 + 0 ≤ 0 by omega)⟩ (fun v16 w17 h18 => ?_)
          obtain ⟨h18, h19⟩ := h18
          cases h18
          subst w17
          refine j_after (st' := []) (k' := 0) (n' := 0) rfl rfl rfl ?_
          refine j_iinc (q := 2) (v := nI (i + 1)) (lv' := [(2, .int (nI (i + 1))), (0, .ref mm), (1, .int (nI e))]) dX6_readPitch_50 rfl (by first | exact nI_1 _ | exact nI_add _ _) (Nat.le_of_ble_eq_true rfl) rfl ?_
          refine j_goto 18 dX6_readPitch_53 (by decide) ?_
          refine j_lv (lv' := [(0, .ref mm), (1, .int (nI e)), (2, .int (nI (i + 1)))]) [1, 2, 0] rfl ?_
          refine ih _ _ (i + 1) _ (by omega) hmm hA (FrI.mono hfr (by simp) rfl : FrI A [mm] [] w0 _) (FF.mono hff rfl : FF [29, 30] fs0 _) h26 h27 h29 a11 a12 (by omega) ?_
          exact Or.inr ⟨rfl, h30, hex2⟩
set_option maxHeartbeats 4000000 in
set_option maxRecDepth 100000 in
theorem m_rpT {t : Nat → Nat} {ln a tkn sg : Nat} {nu : Int32} {xm : Nat → Nat} {xp : Nat → Int32} {e : Nat} {w : pW} {A : Nat → Nat} {mm : Nat} {fs : List Value} (hAD : AD A mm) (hmm : w mm = some (.inr (6, fs))) (hA : RA A fs) (h22 : fs[22]? = some (.int (nI ((tk t ln a).1)))) (h24 : fs[24]? = some (.int (nI tkn))) (h25 : fs[25]? = some (.int (nI sg))) (h26 : fs[26]? = some (.int nu)) (h27 : fs[27]? = some (.int (nI a))) (h28 : fs[28]? = some (.int (nI ((tk t ln a).1)))) (h23 : fs[23]? = some (.int (nI ln))) (h29 : fs[29]? = some (.int (nI 0))) (a1 : w (A 1) = some (.inl (0, 2400, .inl (fun j9 => nI (t j9))))) (a11 : w (A 11) = some (.inl (0, 100, .inl (fun j9 => nI (xm j9))))) (a12 : w (A 12) = some (.inl (0, 400, .inl xp))) (hT : TS tkn sg (tkK t ln a)) (ht : ∀ j, t j < 256) (hln : ln ≤ 2400) (ha : a ≤ ln + 1) (he : e < 100) (h4 : xm e < 4) (hex : ∃ k, k < xm e ∧ xp (4 * e + k) = nu) : Ct yX6_readPitch wsX6_readPitch rX6_readPitch [.ref mm, .int (nI e)] w (fun o w9 => o = .inl none ∧ ∃ fs9 : List Value, MU A mm [] [29, 30] w w9 fs fs9 ∧ fs9[29]? = some (.int (nI 3)) ∧ fs9[30]? = some (.int (nI a))) := by
  refine Ct.of (cc := cX6_readPitch) (own := RX6) (nm := "readPitch") (nL := 3) (ret := none) (by decide +kernel) rfl rfl rfl (Nat.le_of_ble_eq_true rfl) ?_
  refine j_lvE (lv' := [(0, .ref mm), (1, .int (nI e))]) rfl ?_
  refine j_aload_n dX6_readPitch_0 0 rfl ?_
  refine j_get (v := .ref (A 11)) flX6_readPitch_20 hmm (hA.2 11 rfl) dX6_readPitch_1 ?_
  refine j_iload_n dX6_readPitch_4 1 rfl ?_
  refine j_ialdN (j := e) a11 rfl (by omega) (by omega) dX6_readPitch_5 ?_
  refine j_iconst (v := nI 4) dX6_readPitch_6 (by decide) ?_
  refine j_icmp_neN 16 (by omega) (by omega) dX6_readPitch_7 (by decide) (fun c7 => ?_) (fun c7 => ?_)
  · skip
    refine j_iconst (v := nI 0) dX6_readPitch_16 (by decide) ?_
    refine j_istore_n (lv' := [(2, .int (nI 0)), (0, .ref mm), (1, .int (nI e))]) dX6_readPitch_17 (Nat.le_of_ble_eq_true rfl) rfl ?_
    refine j_lv (lv' := [(0, .ref mm), (1, .int (nI e)), (2, .int (nI 0))]) [1, 2, 0] rfl ?_
    exact l_rpT hAD he (by omega) hex _ _ _ 0 0 (Nat.lt_succ_self _) hmm hA FrI.refl FF.refl h26 h27 h29 a11 a12 (by omega) (Or.inl ⟨rfl, fun k hk => by omega⟩)
  · skip
    exfalso; omega
set_option maxHeartbeats 4000000 in
set_option maxRecDepth 100000 in
theorem l_rpN {t : Nat → Nat} {ln a tkn sg : Nat} {nu : Int32} {xm : Nat → Nat} {xp : Nat → Int32} {e : Nat} {w : pW} {A : Nat → Nat} {mm : Nat} {fs : List Value} (hAD : AD A mm) (hmm : w mm = some (.inr (6, fs))) (hA : RA A fs) (h22 : fs[22]? = some (.int (nI ((tk t ln a).1)))) (h24 : fs[24]? = some (.int (nI tkn))) (h25 : fs[25]? = some (.int (nI sg))) (h26 : fs[26]? = some (.int nu)) (h27 : fs[27]? = some (.int (nI a))) (h28 : fs[28]? = some (.int (nI ((tk t ln a).1)))) (h23 : fs[23]? = some (.int (nI ln))) (h29 : fs[29]? = some (.int (nI 0))) (a1 : w (A 1) = some (.inl (0, 2400, .inl (fun j9 => nI (t j9))))) (a11 : w (A 11) = some (.inl (0, 100, .inl (fun j9 => nI (xm j9))))) (a12 : w (A 12) = some (.inl (0, 400, .inl xp))) (hT : TS tkn sg (tkK t ln a)) (ht : ∀ j, t j < 256) (hln : ln ≤ 2400) (ha : a ≤ ln + 1) (he : e < 100) (h4 : xm e < 4) (hno : ∀ k, k < xm e → xp (4 * e + k) ≠ nu) {a9 : Nat} (ha9 : tkN t ln a = a9) : ∀ (m9 : Nat) (i : Nat), xm e - i < m9 → (i ≤ xm e) → J ((cX6_readPitch, RX6, 3, wsX6_readPitch), (rX6_readPitch, none, "readPitch", []), fun o w9 => o = .inl none ∧ ∃ fs9 : List Value, MU A mm [11, 12] [22, 24, 25, 26, 27, 28] w w9 fs fs9 ∧ AtT t ln a9 fs9 ∧ w9 (A 11) = some (.inl (0, 100, .inl (fun j9 => nI ((va_up xm e (xm e + 1)) j9)))) ∧ w9 (A 12) = some (.inl (0, 400, .inl (upd xp (4 * e + xm e) nu))), fun _ _ _ => True) 18 [(0, .ref mm), (1, .int (nI e)), (2, .int (nI i))] [] w 0 0 := by
  intro m9
  induction m9 with
  | zero => intro i h9; omega
  | succ m9 ih =>
    intro i hm9 hi
    refine j_iload_n dX6_readPitch_18 2 rfl ?_
    refine j_aload_n dX6_readPitch_19 0 rfl ?_
    refine j_get (v := .ref (A 11)) flX6_readPitch_20 hmm (hA.2 11 rfl) dX6_readPitch_20 ?_
    refine j_iload_n dX6_readPitch_23 1 rfl ?_
    refine j_ialdN (j := e) a11 rfl (by omega) (by omega) dX6_readPitch_24 ?_
    refine j_icmp_geN 56 (by omega) (by omega) dX6_readPitch_25 (by decide) (fun c25 => ?_) (fun c25 => ?_)
    · skip
      refine j_aload_n dX6_readPitch_56 0 rfl ?_
      refine j_get (v := .int (nI 0)) flX6_readPitch_124 hmm h29 dX6_readPitch_57 ?_
      refine j_if_eqN 64 (by decide) dX6_readPitch_60 (by decide) (fun _ => ?_) (fun h9 => absurd rfl h9)
      refine j_aload_n dX6_readPitch_64 0 rfl ?_
      refine j_get (v := .ref (A 12)) flX6_readPitch_23 hmm (hA.2 12 rfl) dX6_readPitch_65 ?_
      refine j_iconst (v := nI 4) dX6_readPitch_68 (by decide) ?_
      refine j_iload_n dX6_readPitch_69 1 rfl ?_
      refine j_imulN dX6_readPitch_70 ?_
      refine j_aload_n dX6_readPitch_71 0 rfl ?_
      refine j_get (v := .ref (A 11)) flX6_readPitch_20 hmm (hA.2 11 rfl) dX6_readPitch_72 ?_
      refine j_iload_n dX6_readPitch_75 1 rfl ?_
      refine j_ialdN (j := e) a11 rfl (by omega) (by omega) dX6_readPitch_76 ?_
      refine j_iaddN dX6_readPitch_77 ?_
      refine j_aload_n dX6_readPitch_78 0 rfl ?_
      refine j_get (v := .int nu) flX6_readPitch_109 hmm h26 dX6_readPitch_79 ?_
      refine j_iastN (j := (4 * e) + (xm e)) a12 rfl (by omega) (by omega) dX6_readPitch_82 ?_
      refine j_w (fun w1 hw1 => ?_)
      have f2 : w1 (A 12) = some (.inl (0, 400, .inl (upd xp ((4 * e) + (xm e)) nu))) := up_at hw1
      refine j_aload_n dX6_readPitch_83 0 rfl ?_
      have f3 := (up_ne hw1 (AD.mn hAD 12 rfl) hmm)
      refine j_get (v := .ref (A 11)) flX6_readPitch_20 f3 (hA.2 11 rfl) dX6_readPitch_84 ?_
      refine j_iload_n dX6_readPitch_87 1 rfl ?_
      refine j_dup2 dX6_readPitch_88 rfl rfl ?_
      have f4 := (up_ne hw1 (AD.ne hAD 11 12 rfl rfl rfl) a11)
      refine j_ialdN (j := e) f4 rfl (by omega) (by omega) dX6_readPitch_89 ?_
      refine j_iconst (v := nI 1) dX6_readPitch_90 (by decide) ?_
      refine j_iaddN dX6_readPitch_91 ?_
      refine j_iastn (j := e) (x := (xm e) + 1) f4 rfl (by omega) (by omega) dX6_readPitch_92 ?_
      refine j_w (fun w5 hw5 => ?_)
      have f6 : w5 (A 11) = some (.inl (0, 100, .inl (fun j9 => nI ((va_up xm e ((xm e) + 1)) j9)))) := up_at hw5
      refine j_aload_n dX6_readPitch_93 0 rfl ?_
      obtain ⟨az7, haz7⟩ : ∃ z, tkN t ln a = z := ⟨_, rfl⟩
      have f19 := (up_ne hw5 (AD.mn hAD 11 rfl) f3)
      have f20 := (up_ne hw5 (AD.ne hAD 1 11 rfl rfl rfl) (up_ne hw1 (AD.ne hAD 1 12 rfl rfl rfl) a1))
      refine j_callV (rm := rX6_next) (As := []) (st := []) (b0 := mm) (ci := 6) (na := 0) (m_next1 (a := az7) hAD f19 hA h22 h23 h26 f20 ht hln (tkN_bd ha).2.1 haz7) (by intro E w9 h9; first | exact nomatch h9.1 | (obtain ⟨_, h9, _⟩ := h9; exact nomatch h9) | (obtain ⟨_, _, _, h9, _⟩ := h9; exact nomatch h9)) gX6_readPitch_X6_next rfl rfl f19 (by decide +kernel) rfl ⟨Nat.le_of_ble_eq_true rfl, Nat.le_of_ble_eq_true rfl⟩ rfl (Nat.le_of_ble_eq_true rfl) dX6_readPitch_94 ⟨(show 0 + 0 ≤ 0 by omega), (show 0 + 0 ≤ 0 by omega)⟩ (fun v26 w27 h28 => ?_)
      obtain ⟨h25, fs21, ⟨hfr22, hm23, hff24⟩, ⟨tkn8, sg9, nu10, v13, v14, v15, v16, v17, v18, hT11, hN12⟩⟩ := h28
      cases h25
      refine j_after (st' := []) (k' := 0) (n' := 0) rfl rfl rfl ?_
      have r29 : RA A fs21 := RA.ff hA hff24 rfl
      have hT11b := hT11.1
      have f30 := (FrI.gen hfr22 (nm1 (AD.nm hAD 11 rfl)) (AD.nl hAD 11 rfl rfl rfl) f6)
      have f31 := (FrI.gen hfr22 (nm1 (AD.nm hAD 12 rfl)) (AD.nl hAD 12 rfl rfl rfl) (up_ne hw5 (AD.ne hAD 12 11 rfl rfl rfl) f2))
      exact j_vret rfl ⟨rfl, _, ⟨((((FrI.refl : FrI A [mm] [11, 12] w w).trans (FrI.ua hw1 rfl)).trans (FrI.ua hw5 rfl)).trans (FrI.sub hfr22 rfl)), hm23, ((FF.refl : FF [22, 24, 25, 26, 27, 28] fs fs).trans (FF.mono hff24 rfl))⟩, (by rw [← ha9, haz7]; exact ⟨_, _, _, v13, v14, v15, v16, v17, v18, hT11, hN12⟩), f30, f31⟩ (show 0 ≤ 0 by omega) (show 0 ≤ 0 by omega) dX6_readPitch_97
    · skip
      refine j_aload_n dX6_readPitch_28 0 rfl ?_
      refine j_get (v := .ref (A 12)) flX6_readPitch_23 hmm (hA.2 12 rfl) dX6_readPitch_29 ?_
      refine j_iconst (v := nI 4) dX6_readPitch_32 (by decide) ?_
      refine j_iload_n dX6_readPitch_33 1 rfl ?_
      refine j_imulN dX6_readPitch_34 ?_
      refine j_iload_n dX6_readPitch_35 2 rfl ?_
      refine j_iaddN dX6_readPitch_36 ?_
      refine j_ialdN (j := (4 * e) + i) a12 rfl (by omega) (by omega) dX6_readPitch_37 ?_
      refine j_aload_n dX6_readPitch_38 0 rfl ?_
      refine j_get (v := .int nu) flX6_readPitch_109 hmm h26 dX6_readPitch_39 ?_
      refine j_icmp_ne 50 dX6_readPitch_42 (by decide) (fun c42 => ?_) (fun c42 => ?_)
      · skip
        refine j_iinc (q := 2) (v := nI (i + 1)) (lv' := [(2, .int (nI (i + 1))), (0, .ref mm), (1, .int (nI e))]) dX6_readPitch_50 rfl (by first | exact nI_1 _ | exact nI_add _ _) (Nat.le_of_ble_eq_true rfl) rfl ?_
        refine j_goto 18 dX6_readPitch_53 (by decide) ?_
        refine j_lv (lv' := [(0, .ref mm), (1, .int (nI e)), (2, .int (nI (i + 1)))]) [1, 2, 0] rfl ?_
        exact ih (i + 1) (by omega) (by omega)
      · skip
        exact absurd c42 (hno i (by omega))
set_option maxHeartbeats 4000000 in
set_option maxRecDepth 100000 in
theorem m_rpN {t : Nat → Nat} {ln a tkn sg : Nat} {nu : Int32} {xm : Nat → Nat} {xp : Nat → Int32} {e : Nat} {w : pW} {A : Nat → Nat} {mm : Nat} {fs : List Value} (hAD : AD A mm) (hmm : w mm = some (.inr (6, fs))) (hA : RA A fs) (h22 : fs[22]? = some (.int (nI ((tk t ln a).1)))) (h24 : fs[24]? = some (.int (nI tkn))) (h25 : fs[25]? = some (.int (nI sg))) (h26 : fs[26]? = some (.int nu)) (h27 : fs[27]? = some (.int (nI a))) (h28 : fs[28]? = some (.int (nI ((tk t ln a).1)))) (h23 : fs[23]? = some (.int (nI ln))) (h29 : fs[29]? = some (.int (nI 0))) (a1 : w (A 1) = some (.inl (0, 2400, .inl (fun j9 => nI (t j9))))) (a11 : w (A 11) = some (.inl (0, 100, .inl (fun j9 => nI (xm j9))))) (a12 : w (A 12) = some (.inl (0, 400, .inl xp))) (hT : TS tkn sg (tkK t ln a)) (ht : ∀ j, t j < 256) (hln : ln ≤ 2400) (ha : a ≤ ln + 1) (he : e < 100) (h4 : xm e < 4) (hno : ∀ k, k < xm e → xp (4 * e + k) ≠ nu) {a9 : Nat} (ha9 : tkN t ln a = a9) : Ct yX6_readPitch wsX6_readPitch rX6_readPitch [.ref mm, .int (nI e)] w (fun o w9 => o = .inl none ∧ ∃ fs9 : List Value, MU A mm [11, 12] [22, 24, 25, 26, 27, 28] w w9 fs fs9 ∧ AtT t ln a9 fs9 ∧ w9 (A 11) = some (.inl (0, 100, .inl (fun j9 => nI ((va_up xm e (xm e + 1)) j9)))) ∧ w9 (A 12) = some (.inl (0, 400, .inl (upd xp (4 * e + xm e) nu)))) := by
  refine Ct.of (cc := cX6_readPitch) (own := RX6) (nm := "readPitch") (nL := 3) (ret := none) (by decide +kernel) rfl rfl rfl (Nat.le_of_ble_eq_true rfl) ?_
  refine j_lvE (lv' := [(0, .ref mm), (1, .int (nI e))]) rfl ?_
  refine j_aload_n dX6_readPitch_0 0 rfl ?_
  refine j_get (v := .ref (A 11)) flX6_readPitch_20 hmm (hA.2 11 rfl) dX6_readPitch_1 ?_
  refine j_iload_n dX6_readPitch_4 1 rfl ?_
  refine j_ialdN (j := e) a11 rfl (by omega) (by omega) dX6_readPitch_5 ?_
  refine j_iconst (v := nI 4) dX6_readPitch_6 (by decide) ?_
  refine j_icmp_neN 16 (by omega) (by omega) dX6_readPitch_7 (by decide) (fun c7 => ?_) (fun c7 => ?_)
  · skip
    refine j_iconst (v := nI 0) dX6_readPitch_16 (by decide) ?_
    refine j_istore_n (lv' := [(2, .int (nI 0)), (0, .ref mm), (1, .int (nI e))]) dX6_readPitch_17 (Nat.le_of_ble_eq_true rfl) rfl ?_
    refine j_lv (lv' := [(0, .ref mm), (1, .int (nI e)), (2, .int (nI 0))]) [1, 2, 0] rfl ?_
    exact l_rpN hAD hmm hA h22 h24 h25 h26 h27 h28 h23 h29 a1 a11 a12 hT ht hln ha he h4 hno ha9 _ 0 (Nat.lt_succ_self _) (by omega)
  · skip
    exfalso; omega
