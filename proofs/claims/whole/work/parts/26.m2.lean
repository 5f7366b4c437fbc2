section NX
theorem whl_all {q : Nat → Bool} : ∀ {k p i : Nat}, p ≤ i → i < whl q k p → q i = true
  | 0, p, i, h1, h2 => by simp only [whl] at h2; omega
  | k + 1, p, i, h1, h2 => by
    unfold whl at h2
    split at h2
    · by_cases hi : i = p
      · rw [hi]; assumption
      · exact whl_all (by omega) h2
    · omega
theorem dg_bd {t : Nat → Nat} {ln a i : Nat} (ht : ∀ j, t j < 256) (h1 : a ≤ i) (h2 : i < dgE t ln a) : 48 ≤ t i ∧ t i ≤ 57 := (isD_in (ht i) (whl_all (q := fun i => isD (bA t ln i)) h1 h2)).2
theorem nv_mn {t : Nat → Nat} {a : Nat} : ∀ {k : Nat}, k ≤ 3 → (∀ i, i < k → 48 ≤ t (a + i) ∧ t (a + i) ≤ 57) → nvF t a k = mnF t a k
  | 0, _, _ => rfl
  | 1, _, h => by have := h 0 (by omega); simp only [nvF, mnF]; omega
  | 2, _, h => by have := h 0 (by omega); have := h 1 (by omega); simp only [nvF, mnF]; omega
  | 3, _, h => by have := h 0 (by omega); have := h 1 (by omega); have := h 2 (by omega); simp only [nvF, mnF]; omega
  | _ + 4, h, _ => by omega
theorem NS_num {t : Nat → Nat} {ln a : Nat} (ht : ∀ j, t j < 256) : NS (nI (mnF t a (dgE t ln a - a))) 3 (if 3 < dgE t ln a - a then nI 0 else nI (nvF t a (dgE t ln a - a))) (dgE t ln a - a) := by
  refine ⟨fun h => by omega, fun _ => ⟨mnF t a (dgE t ln a - a), rfl, mnF_le, ?_⟩⟩
  by_cases h3 : 3 < dgE t ln a - a
  · rw [if_pos h3]
    exact ⟨⟨fun _ => Or.inl h3, fun _ => rfl⟩, fun h => absurd rfl h⟩
  · rw [if_neg h3, nv_mn (by omega) (fun i hi => dg_bd (a := a) (ln := ln) ht (by omega) (by omega))]
    have hb := mnF_le (t := t) (s := a) (k := dgE t ln a - a)
    refine ⟨⟨fun h => Or.inr (nI_inj0 (by omega) h), fun h => ?_⟩, fun _ => rfl⟩
    rcases h with h | h
    · exact absurd h h3
    · rw [h]; rfl
theorem dg_step {t : Nat → Nat} {ln p : Nat} (hp : p < ln) (h : isD (bA t ln p) = true) : dgE t ln p = dgE t ln (p + 1) := whl_step (q := fun i => isD (bA t ln i)) hp h
theorem dg_stop {t : Nat → Nat} {ln p : Nat} (h : isD (bA t ln p) = false) : dgE t ln p = p := whl_stop (q := fun i => isD (bA t ln i)) h
theorem sk_step {t : Nat → Nat} {ln p : Nat} (hp : p < ln) (h : isB (bA t ln p) = true) : skB t ln p = skB t ln (p + 1) := whl_step (q := fun i => isB (bA t ln i)) hp h
theorem sk_stop {t : Nat → Nat} {ln p : Nat} (h : isB (bA t ln p) = false) : skB t ln p = p := whl_stop (q := fun i => isB (bA t ln i)) h
theorem isB_in {t : Nat → Nat} {ln p : Nat} (h : isB (bA t ln p) = true) : p < ln := by
  by_cases hp : p < ln
  · exact hp
  · rw [bA_out (by omega)] at h; exact absurd h (by decide)
theorem tk_p1 {t : Nat → Nat} {ln a kk : Nat} {v : Int32} (h : a < ln) (h1 : 97 ≤ t a ∧ t a ≤ 103) (hk : kk = a + 1 + ptK t ln a) (hv : v = ptV t ln a) (ho : kk < ln ∧ 48 ≤ t kk ∧ t kk ≤ 56) : tk t ln a = (kk + 1, 2, nI (12 * (t kk - 48)) + bgStep (t a - 97) + v) := by
  subst hk hv
  have h2 : ptO t ln (a + 1 + ptK t ln a) = true := decide_eq_true ho
  rw [tk_pitch h h1, h2]
  simp only [if_true]
  rw [show a + (a + 1 + ptK t ln a + 1 - a) = a + 1 + ptK t ln a + 1 by omega]
theorem tk_p0 {t : Nat → Nat} {ln a kk : Nat} (h : a < ln) (h1 : 97 ≤ t a ∧ t a ≤ 103) (hk : kk = a + 1 + ptK t ln a) (ho : ¬ (kk < ln ∧ 48 ≤ t kk ∧ t kk ≤ 56)) : ∃ va, tk t ln a = (a + 1, 1, va) := by
  subst hk
  have h2 : ptO t ln (a + 1 + ptK t ln a) = false := decide_eq_false ho
  rw [tk_pitch h h1, h2]
  exact ⟨_, rfl⟩
end NX
abbrev rX6_next : Room := { frames := 1, cells := 0, slots := 0, locals := 24 }
theorem flX6_next_89 : FL wsX6_next RX6 89 6 22 := ⟨RX6, TX6, 45, rfl, by decide, by decide +kernel, by decide +kernel⟩
theorem fsX6_next_121 : FS wsX6_next RX6 121 6 28 false (.int) := ⟨RX6, TX6, 45, tyX6, rfl, by decide, by decide +kernel, by decide +kernel, tyX6_ok, nmX6, rfl, rfl, rfl⟩
set_option maxHeartbeats 4000000 in
set_option maxRecDepth 100000 in
theorem s_nend {t : Nat → Nat} {ln a : Nat} {w0 : pW} {fs0 : List Value} {A : Nat → Nat} {mm : Nat} (hAD : AD A mm) (ht : ∀ j, t j < 256) (hln : ln ≤ 2400) {w : pW} {fs : List Value} (hmm : w mm = some (.inr (6, fs))) (hA : RA A fs) (hfr : FrI A [mm] [] w0 w) (hff : FF [22, 24, 25, 26, 27, 28] fs0 fs) {e tkn sg kd : Nat} {nu va : Int32} (h22 : fs[22]? = some (.int (nI e))) (h24 : fs[24]? = some (.int (nI tkn))) (h25 : fs[25]? = some (.int (nI sg))) (h26 : fs[26]? = some (.int nu)) (h27 : fs[27]? = some (.int (nI a))) (hk : tk t ln a = (e, kd, va)) (hT : TS tkn sg kd) (hN : NS nu kd va (e - a)) : J ((cX6_next, RX6, 5, wsX6_next), (rX6_next, none, "next", []), fun o w9 => o = .inl none ∧ ∃ fs9 : List Value, MU A mm [] [22, 24, 25, 26, 27, 28] w0 w9 fs0 fs9 ∧ AtT t ln a fs9, fun _ _ _ => True) 462 [(0, .ref mm)] [] w 0 0 := by
  refine j_aload_n dX6_next_462 0 rfl ?_
  refine j_aload_n dX6_next_463 0 rfl ?_
  refine j_get (v := .int (nI e)) flX6_next_89 hmm h22 dX6_next_464 ?_
  refine j_putM fsX6_next_121 hmm rfl rfl (RA.lt hA (by decide)) dX6_next_467 (fun w1 fs2 sfs2 hw1 => ?_)
  have f3 : w1 mm = some (.inr (6, fs2)) := up_at hw1
  have rfs2 : RA A fs2 := RA.set hA sfs2 rfl
  have v4 := st_at sfs2 hA (by decide : 28 < 45)
  have v5 := (st_ne sfs2 rfl h22)
  have v6 := (st_ne sfs2 rfl h24)
  have v7 := (st_ne sfs2 rfl h25)
  have v8 := (st_ne sfs2 rfl h26)
  have v9 := (st_ne sfs2 rfl h27)
  exact j_vret rfl ⟨rfl, _, ⟨((FrI.mono hfr (by simp) rfl : FrI A [mm] [] w0 _).trans (FrI.ux hw1 (by simp))), f3, ((FF.mono hff rfl : FF [22, 24, 25, 26, 27, 28] fs0 _).trans (FF.set sfs2 rfl))⟩, AtT.mk hk v5 v6 v7 v8 v9 v4 hT hN⟩ (show 0 ≤ 0 by omega) (show 0 ≤ 0 by omega) dX6_next_470
theorem flX6_next_109 : FL wsX6_next RX6 109 6 26 := ⟨RX6, TX6, 45, rfl, by decide, by decide +kernel, by decide +kernel⟩
set_option maxRecDepth 100000 in
theorem mX6_next_0 : Cond.methodLink RX6 112 Lib.Math.min.name ∈ wsX6_next := by decide +kernel
set_option maxRecDepth 100000 in
theorem mX6_next_1 : Cond.static Lib.Math.min.name ∈ wsX6_next := by decide +kernel
set_option maxRecDepth 100000 in
theorem mX6_next_2 : Cond.initialized "java/lang/Math" ∈ wsX6_next := by decide +kernel
set_option maxRecDepth 100000 in
theorem mX6_next_3 : Cond.code Lib.Math.min.name Lib.Math.min.code 2 (some .int) ∈ wsX6_next := by decide +kernel
theorem fsX6_next_109 : FS wsX6_next RX6 109 6 26 false (.int) := ⟨RX6, TX6, 45, tyX6, rfl, by decide, by decide +kernel, by decide +kernel, tyX6_ok, nmX6, rfl, rfl, rfl⟩
theorem fsX6_next_89 : FS wsX6_next RX6 89 6 22 false (.int) := ⟨RX6, TX6, 45, tyX6, rfl, by decide, by decide +kernel, by decide +kernel, tyX6_ok, nmX6, rfl, rfl, rfl⟩
set_option maxHeartbeats 4000000 in
set_option maxRecDepth 100000 in
theorem s_nnum {t : Nat → Nat} {ln a : Nat} {w0 : pW} {fs0 : List Value} {A : Nat → Nat} {mm : Nat} (hAD : AD A mm) (ht : ∀ j, t j < 256) (hln : ln ≤ 2400) (hal : a < ln) (hnp : ¬ (97 ≤ t a ∧ t a ≤ 103)) (hd : isD (nI (t a)) = true) : ∀ (m9 : Nat) (w : pW) (fs : List Value) (p : Nat), ln - p < m9 → (w mm = some (.inr (6, fs))) → (RA A fs) → (FrI A [mm] [] w0 w) → (FF [22, 24, 25, 26, 27, 28] fs0 fs) → (fs[22]? = some (.int (nI p))) → (fs[23]? = some (.int (nI ln))) → (fs[24]? = some (.int (nI 2))) → (fs[25]? = some (.int (nI 0))) → (fs[26]? = some (.int (nI (mnF t a (p - a))))) → (fs[27]? = some (.int (nI a))) → (w (A 1) = some (.inl (0, 2400, .inl (fun j9 => nI (t j9))))) → (a ≤ p ∧ p ≤ ln) → (dgE t ln p = dgE t ln a) → J ((cX6_next, RX6, 5, wsX6_next), (rX6_next, none, "next", []), fun o w9 => o = .inl none ∧ ∃ fs9 : List Value, MU A mm [] [22, 24, 25, 26, 27, 28] w0 w9 fs0 fs9 ∧ AtT t ln a fs9, fun _ _ _ => True) 91 [(0, .ref mm), (1, .int (nI (t a)))] [] w 0 0 := by
  intro m9
  induction m9 with
  | zero => intro w fs p h9; omega
  | succ m9 ih =>
    intro w fs p hm9 hmm hA hfr hff h22 h23 h24 h25 h26 h27 a1 hap hde
    have hmn := mnF_le (t := t) (s := a) (k := p - a)
    have htp := ht p
    refine j_aload_n dX6_next_91 0 rfl ?_
    refine j_aload_n dX6_next_92 0 rfl ?_
    refine j_get (v := .int (nI p)) flX6_next_89 hmm h22 dX6_next_93 ?_
    refine j_callV (rm := rX6_byteAt) (As := [.int (nI p)]) (st := []) (b0 := mm) (ci := 6) (na := 1) (m_byteAt (i := p) hAD hmm hA h23 a1 (by omega) (by omega)) (by intro E w9 h9; first | exact nomatch h9.1 | (obtain ⟨_, h9, _⟩ := h9; exact nomatch h9) | (obtain ⟨_, _, _, h9, _⟩ := h9; exact nomatch h9)) gX6_next_X6_byteAt rfl rfl hmm (by decide +kernel) rfl ⟨Nat.le_of_ble_eq_true rfl, Nat.le_of_ble_eq_true rfl⟩ rfl (Nat.le_of_ble_eq_true rfl) dX6_next_96 ⟨(show 0 + 0 ≤ 0 by omega), (show 0 + 0 ≤ 0 by omega)⟩ (fun v1 w2 h3 => ?_)
    obtain ⟨h3, h4⟩ := h3
    cases h3
    subst w2
    refine j_after (st' := [.int (bA t ln p)]) (k' := 0) (n' := 0) rfl rfl rfl ?_
    refine j_callS (rm := rX6_isDigit) (As := [.int (bA t ln p)]) (st := []) (na := 1) (m_isDigit (c := bA t ln p)) (by intro E w9 h9; first | exact nomatch h9.1 | (obtain ⟨_, h9, _⟩ := h9; exact nomatch h9) | (obtain ⟨_, _, _, h9, _⟩ := h9; exact nomatch h9)) gX6_next_X6_isDigit rfl (by decide +kernel) rfl ⟨Nat.le_of_ble_eq_true rfl, Nat.le_of_ble_eq_true rfl⟩ rfl (Nat.le_of_ble_eq_true rfl) dX6_next_99 ⟨(show 0 + 0 ≤ 0 by omega), (show 0 + 0 ≤ 0 by omega)⟩ (fun v5 w6 h7 => ?_)
    obtain ⟨h7, h8⟩ := h7
    cases h7
    subst w6
    refine j_after (st' := [.int (zb (isD (bA t ln p)))]) (k' := 0) (n' := 0) rfl rfl rfl ?_
    refine j_if_eq 462 dX6_next_102 (by decide) (fun c102 => ?_) (fun c102 => ?_)
    · skip
      have hpe : p = dgE t ln a := by rw [← hde]; exact (dg_stop (zb_0 c102)).symm
      subst hpe
      refine j_lv (lv' := [(0, .ref mm)]) [0] rfl ?_
      exact s_nend hAD ht hln hmm hA (FrI.mono hfr (by simp) rfl : FrI A [mm] [] w0 _) (FF.mono hff rfl : FF [22, 24, 25, 26, 27, 28] fs0 _) h22 h24 h25 h26 h27 (tk_num hal hnp hd) TS_num (NS_num ht)
    · skip
      refine j_aload_n dX6_next_105 0 rfl ?_
      refine j_sipush (v := nI 10000) dX6_next_106 (by decide) ?_
      refine j_bipush (v := nI 10) dX6_next_109 (by decide) ?_
      refine j_aload_n dX6_next_111 0 rfl ?_
      refine j_get (v := .int (nI (mnF t a (p - a)))) flX6_next_109 hmm h26 dX6_next_112 ?_
      refine j_imulN dX6_next_115 ?_
      refine j_aload_n dX6_next_116 0 rfl ?_
      refine j_aload_n dX6_next_117 0 rfl ?_
      refine j_get (v := .int (nI p)) flX6_next_89 hmm h22 dX6_next_118 ?_
      refine j_callV (rm := rX6_byteAt) (As := [.int (nI p)]) (st := [.int (nI (10 * (mnF t a (p - a)))), .int (nI 10000), .ref mm]) (b0 := mm) (ci := 6) (na := 1) (m_byteAt (i := p) hAD hmm hA h23 a1 (by omega) (by omega)) (by intro E w9 h9; first | exact nomatch h9.1 | (obtain ⟨_, h9, _⟩ := h9; exact nomatch h9) | (obtain ⟨_, _, _, h9, _⟩ := h9; exact nomatch h9)) gX6_next_X6_byteAt rfl rfl hmm (by decide +kernel) rfl ⟨Nat.le_of_ble_eq_true rfl, Nat.le_of_ble_eq_true rfl⟩ rfl (Nat.le_of_ble_eq_true rfl) dX6_next_121 ⟨(show 0 + 0 ≤ 0 by omega), (show 0 + 0 ≤ 0 by omega)⟩ (fun v9 w10 h11 => ?_)
      obtain ⟨h11, h12⟩ := h11
      cases h11
      subst w10
      refine j_after (st' := [.int (bA t ln p), .int (nI (10 * (mnF t a (p - a)))), .int (nI 10000), .ref mm]) (k' := 0) (n' := 0) rfl rfl rfl ?_
      have hD := isD_in (ht p) (zb_n' c102)
      refine j_eqi (y := nI (t p)) (bA_in hD.1) ?_
      refine j_iaddN dX6_next_124 ?_
      refine j_bipush (v := nI 48) dX6_next_125 (by decide) ?_
      refine j_isubN (by omega) dX6_next_127 ?_
      refine j_min mX6_next_0 mX6_next_1 mX6_next_2 mX6_next_3 (Nat.le_of_ble_eq_true rfl) (Nat.le_of_ble_eq_true rfl) ⟨(show 0 ≤ 0 by omega), (show 0 ≤ 0 by omega)⟩ dX6_next_128 ?_
      refine j_eqi (y := nI (min 10000 (((10 * (mnF t a (p - a))) + (t p)) - 48))) (mnN (by omega) (by omega)) ?_
      refine j_eqi (y := nI (mnF t a (p + 1 - a))) (by rw [show p + 1 - a = (p - a) + 1 by omega]; simp only [mnF]; rw [show a + (p - a) = p by omega, show 10 * mnF t a (p - a) + t p - 48 = 10 * mnF t a (p - a) + (t p - 48) by omega]) ?_
      refine j_putM fsX6_next_109 hmm rfl rfl (RA.lt hA (by decide)) dX6_next_131 (fun w13 fs14 sfs14 hw13 => ?_)
      have f15 : w13 mm = some (.inr (6, fs14)) := up_at hw13
      have rfs14 : RA A fs14 := RA.set hA sfs14 rfl
      have v16 := st_at sfs14 hA (by decide : 26 < 45)
      refine j_aload_n dX6_next_134 0 rfl ?_
      refine j_dup dX6_next_135 rfl ?_
      have v17 := (st_ne sfs14 rfl h22)
      refine j_get (v := .int (nI p)) flX6_next_89 f15 v17 dX6_next_136 ?_
      refine j_iconst (v := nI 1) dX6_next_139 (by decide) ?_
      refine j_iaddN dX6_next_140 ?_
      refine j_putM fsX6_next_89 f15 rfl rfl (RA.lt rfs14 (by decide)) dX6_next_141 (fun w18 fs19 sfs19 hw18 => ?_)
      have f20 : w18 mm = some (.inr (6, fs19)) := up_at hw18
      have rfs19 : RA A fs19 := RA.set rfs14 sfs19 rfl
      have v21 := st_at sfs19 rfs14 (by decide : 22 < 45)
      refine j_goto 91 dX6_next_144 (by decide) ?_
      refine j_lv (lv' := [(0, .ref mm), (1, .int (nI (t a)))]) [0, 1] rfl ?_
      have v22 := (st_ne sfs19 rfl (st_ne sfs14 rfl h23))
      have v23 := (st_ne sfs19 rfl (st_ne sfs14 rfl h24))
      have v24 := (st_ne sfs19 rfl (st_ne sfs14 rfl h25))
      have v25 := (st_ne sfs19 rfl v16)
      have v26 := (st_ne sfs19 rfl (st_ne sfs14 rfl h27))
      have f27 := (up_ne hw18 (AD.nm hAD 1 rfl) (up_ne hw13 (AD.nm hAD 1 rfl) a1))
      exact ih _ _ (p + 1) (by omega) f20 rfs19 (((FrI.mono hfr (by simp) rfl : FrI A [mm] [] w0 _).trans (FrI.ux hw13 (by simp))).trans (FrI.ux hw18 (by simp))) (((FF.mono hff rfl : FF [22, 24, 25, 26, 27, 28] fs0 _).trans (FF.set sfs14 rfl)).trans (FF.set sfs19 rfl)) v21 v22 v23 v24 v25 v26 f27 (by omega) (by rw [← dg_step hD.1 (zb_n' c102)]; exact hde)
theorem fsX6_next_102 : FS wsX6_next RX6 102 6 24 false (.int) := ⟨RX6, TX6, 45, tyX6, rfl, by decide, by decide +kernel, by decide +kernel, tyX6_ok, nmX6, rfl, rfl, rfl⟩
set_option maxHeartbeats 4000000 in
set_option maxRecDepth 100000 in
theorem s_npit {t : Nat → Nat} {ln a : Nat} {w0 : pW} {fs0 : List Value} {A : Nat → Nat} {mm : Nat} (hAD : AD A mm) (ht : ∀ j, t j < 256) (hln : ln ≤ 2400) {w : pW} {fs : List Value} (hmm : w mm = some (.inr (6, fs))) (hA : RA A fs) (hfr : FrI A [mm] [] w0 w) (hff : FF [22, 24, 25, 26, 27, 28] fs0 fs) {kk : Nat} {nu v : Int32} (h22 : fs[22]? = some (.int (nI a))) (h23 : fs[23]? = some (.int (nI ln))) (h25 : fs[25]? = some (.int (nI 0))) (h26 : fs[26]? = some (.int nu)) (h27 : fs[27]? = some (.int (nI a))) (a1 : w (A 1) = some (.inl (0, 2400, .inl (fun j9 => nI (t j9))))) (hal : a < ln) (h1 : 97 ≤ t a ∧ t a ≤ 103) (hk : kk = a + 1 + ptK t ln a) (hv : v = ptV t ln a) (hkb : kk ≤ 2402) : J ((cX6_next, RX6, 5, wsX6_next), (rX6_next, none, "next", []), fun o w9 => o = .inl none ∧ ∃ fs9 : List Value, MU A mm [] [22, 24, 25, 26, 27, 28] w0 w9 fs0 fs9 ∧ AtT t ln a fs9, fun _ _ _ => True) 207 [(0, .ref mm), (1, .int (nI (t a))), (2, .int (nI kk)), (3, .int v)] [] w 0 0 := by
  have hta := ht a
  have htk := ht kk
  refine j_aload_n dX6_next_207 0 rfl ?_
  refine j_iload_n dX6_next_208 2 rfl ?_
  refine j_callV (rm := rX6_byteAt) (As := [.int (nI kk)]) (st := []) (b0 := mm) (ci := 6) (na := 1) (m_byteAt (i := kk) hAD hmm hA h23 a1 (by omega) (by omega)) (by intro E w9 h9; first | exact nomatch h9.1 | (obtain ⟨_, h9, _⟩ := h9; exact nomatch h9) | (obtain ⟨_, _, _, h9, _⟩ := h9; exact nomatch h9)) gX6_next_X6_byteAt rfl rfl hmm (by decide +kernel) rfl ⟨Nat.le_of_ble_eq_true rfl, Nat.le_of_ble_eq_true rfl⟩ rfl (Nat.le_of_ble_eq_true rfl) dX6_next_209 ⟨(show 0 + 0 ≤ 0 by omega), (show 0 + 0 ≤ 0 by omega)⟩ (fun v1 w2 h3 => ?_)
  obtain ⟨h3, h4⟩ := h3
  cases h3
  subst w2
  refine j_after (st' := [.int (bA t ln kk)]) (k' := 0) (n' := 0) rfl rfl rfl ?_
  by_cases hkl : kk < ln
  · skip
    refine j_eqi (y := nI (t kk)) (bA_in hkl) ?_
    refine j_bipush (v := nI 48) dX6_next_212 (by decide) ?_
    refine j_icmp_ltN 231 (by omega) (by omega) dX6_next_214 (by decide) (fun c214 => ?_) (fun c214 => ?_)
    · skip
      refine j_iconst (v := nI 0) dX6_next_231 (by decide) ?_
      refine j_istore (lv' := [(4, .int (nI 0)), (0, .ref mm), (1, .int (nI (t a))), (2, .int (nI kk)), (3, .int v)]) dX6_next_232 (Nat.le_of_ble_eq_true rfl) rfl ?_
      refine j_aload_n dX6_next_234 1 rfl ?_
      refine j_iload dX6_next_235 0 rfl ?_
      refine j_if_eqN 244 (by decide) dX6_next_237 (by decide) (fun _ => ?_) (fun h9 => absurd rfl h9)
      refine j_iconst (v := nI 4) dX6_next_244 (by decide) ?_
      refine j_putM fsX6_next_102 hmm rfl rfl (RA.lt hA (by decide)) dX6_next_245 (fun w5 fs6 sfs6 hw5 => ?_)
      have f7 : w5 mm = some (.inr (6, fs6)) := up_at hw5
      have rfs6 : RA A fs6 := RA.set hA sfs6 rfl
      have v8 := st_at sfs6 hA (by decide : 24 < 45)
      refine j_iload dX6_next_248 0 rfl ?_
      refine j_if_eqN 275 (by decide) dX6_next_250 (by decide) (fun _ => ?_) (fun h9 => absurd rfl h9)
      refine j_aload_n dX6_next_275 1 rfl ?_
      refine j_iload dX6_next_276 0 rfl ?_
      refine j_if_eqN 287 (by decide) dX6_next_278 (by decide) (fun _ => ?_) (fun h9 => absurd rfl h9)
      refine j_aload_n dX6_next_287 1 rfl ?_
      have v9 := (st_ne sfs6 rfl h22)
      refine j_get (v := .int (nI a)) flX6_next_89 f7 v9 dX6_next_288 ?_
      refine j_iconst (v := nI 1) dX6_next_291 (by decide) ?_
      refine j_iaddN dX6_next_292 ?_
      refine j_putM fsX6_next_89 f7 rfl rfl (RA.lt rfs6 (by decide)) dX6_next_293 (fun w10 fs11 sfs11 hw10 => ?_)
      have f12 : w10 mm = some (.inr (6, fs11)) := up_at hw10
      have rfs11 : RA A fs11 := RA.set rfs6 sfs11 rfl
      have v13 := st_at sfs11 rfs6 (by decide : 22 < 45)
      refine j_goto 462 dX6_next_296 (by decide) ?_
      obtain ⟨va, hva⟩ := tk_p0 hal h1 hk (by omega)
      refine j_lv (lv' := [(0, .ref mm)]) [1] rfl ?_
      have v14 := (st_ne sfs11 rfl v8)
      have v15 := (st_ne sfs11 rfl (st_ne sfs6 rfl h25))
      have v16 := (st_ne sfs11 rfl (st_ne sfs6 rfl h26))
      have v17 := (st_ne sfs11 rfl (st_ne sfs6 rfl h27))
      exact s_nend hAD ht hln f12 rfs11 (((FrI.mono hfr (by simp) rfl : FrI A [mm] [] w0 _).trans (FrI.ux hw5 (by simp))).trans (FrI.ux hw10 (by simp))) (((FF.mono hff rfl : FF [22, 24, 25, 26, 27, 28] fs0 _).trans (FF.set sfs6 rfl)).trans (FF.set sfs11 rfl)) v13 v14 v15 v16 v17 hva (TS_bad (by decide)) (NS_no (by decide) (by decide))
    · skip
      refine j_aload_n dX6_next_217 0 rfl ?_
      refine j_iload_n dX6_next_218 2 rfl ?_
      refine j_callV (rm := rX6_byteAt) (As := [.int (nI kk)]) (st := []) (b0 := mm) (ci := 6) (na := 1) (m_byteAt (i := kk) hAD hmm hA h23 a1 (by omega) (by omega)) (by intro E w9 h9; first | exact nomatch h9.1 | (obtain ⟨_, h9, _⟩ := h9; exact nomatch h9) | (obtain ⟨_, _, _, h9, _⟩ := h9; exact nomatch h9)) gX6_next_X6_byteAt rfl rfl hmm (by decide +kernel) rfl ⟨Nat.le_of_ble_eq_true rfl, Nat.le_of_ble_eq_true rfl⟩ rfl (Nat.le_of_ble_eq_true rfl) dX6_next_219 ⟨(show 0 + 0 ≤ 0 by omega), (show 0 + 0 ≤ 0 by omega)⟩ (fun v18 w19 h20 => ?_)
      obtain ⟨h20, h21⟩ := h20
      cases h20
      subst w19
      refine j_after (st' := [.int (bA t ln kk)]) (k' := 0) (n' := 0) rfl rfl rfl ?_
      refine j_eqi (y := nI (t kk)) (bA_in hkl) ?_
      refine j_bipush (v := nI 56) dX6_next_222 (by decide) ?_
      refine j_icmp_gtN 231 (by omega) (by omega) dX6_next_224 (by decide) (fun c224 => ?_) (fun c224 => ?_)
      · skip
        refine j_iconst (v := nI 0) dX6_next_231 (by decide) ?_
        refine j_istore (lv' := [(4, .int (nI 0)), (0, .ref mm), (1, .int (nI (t a))), (2, .int (nI kk)), (3, .int v)]) dX6_next_232 (Nat.le_of_ble_eq_true rfl) rfl ?_
        refine j_aload_n dX6_next_234 1 rfl ?_
        refine j_iload dX6_next_235 0 rfl ?_
        refine j_if_eqN 244 (by decide) dX6_next_237 (by decide) (fun _ => ?_) (fun h9 => absurd rfl h9)
        refine j_iconst (v := nI 4) dX6_next_244 (by decide) ?_
        refine j_putM fsX6_next_102 hmm rfl rfl (RA.lt hA (by decide)) dX6_next_245 (fun w22 fs23 sfs23 hw22 => ?_)
        have f24 : w22 mm = some (.inr (6, fs23)) := up_at hw22
        have rfs23 : RA A fs23 := RA.set hA sfs23 rfl
        have v25 := st_at sfs23 hA (by decide : 24 < 45)
        refine j_iload dX6_next_248 0 rfl ?_
        refine j_if_eqN 275 (by decide) dX6_next_250 (by decide) (fun _ => ?_) (fun h9 => absurd rfl h9)
        refine j_aload_n dX6_next_275 1 rfl ?_
        refine j_iload dX6_next_276 0 rfl ?_
        refine j_if_eqN 287 (by decide) dX6_next_278 (by decide) (fun _ => ?_) (fun h9 => absurd rfl h9)
        refine j_aload_n dX6_next_287 1 rfl ?_
        have v26 := (st_ne sfs23 rfl h22)
        refine j_get (v := .int (nI a)) flX6_next_89 f24 v26 dX6_next_288 ?_
        refine j_iconst (v := nI 1) dX6_next_291 (by decide) ?_
        refine j_iaddN dX6_next_292 ?_
        refine j_putM fsX6_next_89 f24 rfl rfl (RA.lt rfs23 (by decide)) dX6_next_293 (fun w27 fs28 sfs28 hw27 => ?_)
        have f29 : w27 mm = some (.inr (6, fs28)) := up_at hw27
        have rfs28 : RA A fs28 := RA.set rfs23 sfs28 rfl
        have v30 := st_at sfs28 rfs23 (by decide : 22 < 45)
        refine j_goto 462 dX6_next_296 (by decide) ?_
        obtain ⟨va, hva⟩ := tk_p0 hal h1 hk (by omega)
        refine j_lv (lv' := [(0, .ref mm)]) [1] rfl ?_
        have v31 := (st_ne sfs28 rfl v25)
        have v32 := (st_ne sfs28 rfl (st_ne sfs23 rfl h25))
        have v33 := (st_ne sfs28 rfl (st_ne sfs23 rfl h26))
        have v34 := (st_ne sfs28 rfl (st_ne sfs23 rfl h27))
        exact s_nend hAD ht hln f29 rfs28 (((FrI.mono hfr (by simp) rfl : FrI A [mm] [] w0 _).trans (FrI.ux hw22 (by simp))).trans (FrI.ux hw27 (by simp))) (((FF.mono hff rfl : FF [22, 24, 25, 26, 27, 28] fs0 _).trans (FF.set sfs23 rfl)).trans (FF.set sfs28 rfl)) v30 v31 v32 v33 v34 hva (TS_bad (by decide)) (NS_no (by decide) (by decide))
      · skip
        refine j_iconst (v := nI 1) dX6_next_227 (by decide) ?_
        refine j_goto 232 dX6_next_228 (by decide) ?_
        refine j_istore (lv' := [(4, .int (nI 1)), (0, .ref mm), (1, .int (nI (t a))), (2, .int (nI kk)), (3, .int v)]) dX6_next_232 (Nat.le_of_ble_eq_true rfl) rfl ?_
        refine j_aload_n dX6_next_234 1 rfl ?_
        refine j_iload dX6_next_235 0 rfl ?_
        refine j_if_eqN 244 (by decide) dX6_next_237 (by decide) (fun h9 => absurd h9 (by decide)) (fun _ => ?_)
        refine j_iconst (v := nI 1) dX6_next_240 (by decide) ?_
        refine j_goto 245 dX6_next_241 (by decide) ?_
        refine j_putM fsX6_next_102 hmm rfl rfl (RA.lt hA (by decide)) dX6_next_245 (fun w35 fs36 sfs36 hw35 => ?_)
        have f37 : w35 mm = some (.inr (6, fs36)) := up_at hw35
        have rfs36 : RA A fs36 := RA.set hA sfs36 rfl
        have v38 := st_at sfs36 hA (by decide : 24 < 45)
        refine j_iload dX6_next_248 0 rfl ?_
        refine j_if_eqN 275 (by decide) dX6_next_250 (by decide) (fun h9 => absurd h9 (by decide)) (fun _ => ?_)
        refine j_aload_n dX6_next_253 1 rfl ?_
        refine j_bipush (v := nI 12) dX6_next_254 (by decide) ?_
        refine j_aload_n dX6_next_256 1 rfl ?_
        refine j_iload_n dX6_next_257 3 rfl ?_
        have v39 := (st_ne sfs36 rfl h23)
        have f40 := (up_ne hw35 (AD.nm hAD 1 rfl) a1)
        refine j_callV (rm := rX6_byteAt) (As := [.int (nI kk)]) (st := [.int (nI 12), .ref mm]) (b0 := mm) (ci := 6) (na := 1) (m_byteAt (i := kk) hAD f37 rfs36 v39 f40 (by omega) (by omega)) (by intro E w9 h9; first | exact nomatch h9.1 | (obtain ⟨_, h9, _⟩ := h9; exact nomatch h9) | (obtain ⟨_, _, _, h9, _⟩ := h9; exact nomatch h9)) gX6_next_X6_byteAt rfl rfl f37 (by decide +kernel) rfl ⟨Nat.le_of_ble_eq_true rfl, Nat.le_of_ble_eq_true rfl⟩ rfl (Nat.le_of_ble_eq_true rfl) dX6_next_258 ⟨(show 0 + 0 ≤ 0 by omega), (show 0 + 0 ≤ 0 by omega)⟩ (fun v41 w42 h43 => ?_)
        obtain ⟨h43, h44⟩ := h43
        cases h43
        subst w42
        refine j_after (st' := [.int (bA t ln kk), .int (nI 12), .ref mm]) (k' := 0) (n' := 0) rfl rfl rfl ?_
        refine j_eqi (y := nI (t kk)) (bA_in hkl) ?_
        refine j_bipush (v := nI 48) dX6_next_261 (by decide) ?_
        refine j_isubN (by omega) dX6_next_263 ?_
        refine j_imulN dX6_next_264 ?_
        refine j_iload_n dX6_next_265 2 rfl ?_
        refine j_callS (rm := rX6_baseOf) (As := [.int (nI (t a))]) (st := [.int (nI (12 * ((t kk) - 48))), .ref mm]) (na := 1) (m_baseOf (c := (t a)) ⟨by omega, by omega⟩) (by intro E w9 h9; first | exact nomatch h9.1 | (obtain ⟨_, h9, _⟩ := h9; exact nomatch h9) | (obtain ⟨_, _, _, h9, _⟩ := h9; exact nomatch h9)) gX6_next_X6_baseOf rfl (by decide +kernel) rfl ⟨Nat.le_of_ble_eq_true rfl, Nat.le_of_ble_eq_true rfl⟩ rfl (Nat.le_of_ble_eq_true rfl) dX6_next_266 ⟨(show 0 + 0 ≤ 0 by omega), (show 0 + 0 ≤ 0 by omega)⟩ (fun v45 w46 h47 => ?_)
        obtain ⟨h47, h48⟩ := h47
        cases h47
        subst w46
        refine j_after (st' := [.int (bgStep ((t a) - 97)), .int (nI (12 * ((t kk) - 48))), .ref mm]) (k' := 0) (n' := 0) rfl rfl rfl ?_
        refine j_iadd dX6_next_269 ?_
        refine j_iload_n dX6_next_270 4 rfl ?_
        refine j_iadd dX6_next_271 ?_
        refine j_topi (fun x49 ex49 => ?_)
        refine j_putM fsX6_next_109 f37 rfl rfl (RA.lt rfs36 (by decide)) dX6_next_272 (fun w50 fs51 sfs51 hw50 => ?_)
        have f52 : w50 mm = some (.inr (6, fs51)) := up_at hw50
        have rfs51 : RA A fs51 := RA.set rfs36 sfs51 rfl
        have v53 := st_at sfs51 rfs36 (by decide : 26 < 45)
        refine j_aload_n dX6_next_275 1 rfl ?_
        refine j_iload dX6_next_276 0 rfl ?_
        refine j_if_eqN 287 (by decide) dX6_next_278 (by decide) (fun h9 => absurd h9 (by decide)) (fun _ => ?_)
        refine j_iload_n dX6_next_281 3 rfl ?_
        refine j_iconst (v := nI 1) dX6_next_282 (by decide) ?_
        refine j_iaddN dX6_next_283 ?_
        refine j_goto 293 dX6_next_284 (by decide) ?_
        refine j_putM fsX6_next_89 f52 rfl rfl (RA.lt rfs51 (by decide)) dX6_next_293 (fun w54 fs55 sfs55 hw54 => ?_)
        have f56 : w54 mm = some (.inr (6, fs55)) := up_at hw54
        have rfs55 : RA A fs55 := RA.set rfs51 sfs55 rfl
        have v57 := st_at sfs55 rfs51 (by decide : 22 < 45)
        refine j_goto 462 dX6_next_296 (by decide) ?_
        refine j_lv (lv' := [(0, .ref mm)]) [1] rfl ?_
        have v58 := (st_ne sfs55 rfl (st_ne sfs51 rfl v38))
        have v59 := (st_ne sfs55 rfl (st_ne sfs51 rfl (st_ne sfs36 rfl h25)))
        have v60 := (st_ne sfs55 rfl v53)
        have v61 := (st_ne sfs55 rfl (st_ne sfs51 rfl (st_ne sfs36 rfl h27)))
        exact s_nend hAD ht hln f56 rfs55 ((((FrI.mono hfr (by simp) rfl : FrI A [mm] [] w0 _).trans (FrI.ux hw35 (by simp))).trans (FrI.ux hw50 (by simp))).trans (FrI.ux hw54 (by simp))) ((((FF.mono hff rfl : FF [22, 24, 25, 26, 27, 28] fs0 _).trans (FF.set sfs36 rfl)).trans (FF.set sfs51 rfl)).trans (FF.set sfs55 rfl)) v57 v58 v59 v60 v61 (tk_p1 hal h1 hk hv ⟨hkl, by omega, by omega⟩) TS_pit ⟨fun _ => by rw [ex49], fun q => by omega⟩
  · skip
    refine j_eqi (y := (-1)) (bA_out (by omega)) ?_
    refine j_bipush (v := nI 48) dX6_next_212 (by decide) ?_
    refine j_icmp_lt 231 dX6_next_214 (by decide) (fun c214 => ?_) (fun c214 => ?_)
    · skip
      refine j_iconst (v := nI 0) dX6_next_231 (by decide) ?_
      refine j_istore (lv' := [(4, .int (nI 0)), (0, .ref mm), (1, .int (nI (t a))), (2, .int (nI kk)), (3, .int v)]) dX6_next_232 (Nat.le_of_ble_eq_true rfl) rfl ?_
      refine j_aload_n dX6_next_234 1 rfl ?_
      refine j_iload dX6_next_235 0 rfl ?_
      refine j_if_eqN 244 (by decide) dX6_next_237 (by decide) (fun _ => ?_) (fun h9 => absurd rfl h9)
      refine j_iconst (v := nI 4) dX6_next_244 (by decide) ?_
      refine j_putM fsX6_next_102 hmm rfl rfl (RA.lt hA (by decide)) dX6_next_245 (fun w62 fs63 sfs63 hw62 => ?_)
      have f64 : w62 mm = some (.inr (6, fs63)) := up_at hw62
      have rfs63 : RA A fs63 := RA.set hA sfs63 rfl
      have v65 := st_at sfs63 hA (by decide : 24 < 45)
      refine j_iload dX6_next_248 0 rfl ?_
      refine j_if_eqN 275 (by decide) dX6_next_250 (by decide) (fun _ => ?_) (fun h9 => absurd rfl h9)
      refine j_aload_n dX6_next_275 1 rfl ?_
      refine j_iload dX6_next_276 0 rfl ?_
      refine j_if_eqN 287 (by decide) dX6_next_278 (by decide) (fun _ => ?_) (fun h9 => absurd rfl h9)
      refine j_aload_n dX6_next_287 1 rfl ?_
      have v66 := (st_ne sfs63 rfl h22)
      refine j_get (v := .int (nI a)) flX6_next_89 f64 v66 dX6_next_288 ?_
      refine j_iconst (v := nI 1) dX6_next_291 (by decide) ?_
      refine j_iaddN dX6_next_292 ?_
      refine j_putM fsX6_next_89 f64 rfl rfl (RA.lt rfs63 (by decide)) dX6_next_293 (fun w67 fs68 sfs68 hw67 => ?_)
      have f69 : w67 mm = some (.inr (6, fs68)) := up_at hw67
      have rfs68 : RA A fs68 := RA.set rfs63 sfs68 rfl
      have v70 := st_at sfs68 rfs63 (by decide : 22 < 45)
      refine j_goto 462 dX6_next_296 (by decide) ?_
      obtain ⟨va, hva⟩ := tk_p0 hal h1 hk (by omega)
      refine j_lv (lv' := [(0, .ref mm)]) [1] rfl ?_
      have v71 := (st_ne sfs68 rfl v65)
      have v72 := (st_ne sfs68 rfl (st_ne sfs63 rfl h25))
      have v73 := (st_ne sfs68 rfl (st_ne sfs63 rfl h26))
      have v74 := (st_ne sfs68 rfl (st_ne sfs63 rfl h27))
      exact s_nend hAD ht hln f69 rfs68 (((FrI.mono hfr (by simp) rfl : FrI A [mm] [] w0 _).trans (FrI.ux hw62 (by simp))).trans (FrI.ux hw67 (by simp))) (((FF.mono hff rfl : FF [22, 24, 25, 26, 27, 28] fs0 _).trans (FF.set sfs63 rfl)).trans (FF.set sfs68 rfl)) v70 v71 v72 v73 v74 hva (TS_bad (by decide)) (NS_no (by decide) (by decide))
    · skip
      exact absurd (by decide) c214
set_option maxHeartbeats 4000000 in
set_option maxRecDepth 100000 in
theorem s_npi0 {t : Nat → Nat} {ln a : Nat} {w0 : pW} {fs0 : List Value} {A : Nat → Nat} {mm : Nat} (hAD : AD A mm) (ht : ∀ j, t j < 256) (hln : ln ≤ 2400) {w : pW} {fs : List Value} (hmm : w mm = some (.inr (6, fs))) (hA : RA A fs) (hfr : FrI A [mm] [] w0 w) (hff : FF [22, 24, 25, 26, 27, 28] fs0 fs) {nu : Int32} (h22 : fs[22]? = some (.int (nI a))) (h23 : fs[23]? = some (.int (nI ln))) (h25 : fs[25]? = some (.int (nI 0))) (h26 : fs[26]? = some (.int nu)) (h27 : fs[27]? = some (.int (nI a))) (a1 : w (A 1) = some (.inl (0, 2400, .inl (fun j9 => nI (t j9))))) (hal : a < ln) (h1 : 97 ≤ t a ∧ t a ≤ 103) : J ((cX6_next, RX6, 5, wsX6_next), (rX6_next, none, "next", []), fun o w9 => o = .inl none ∧ ∃ fs9 : List Value, MU A mm [] [22, 24, 25, 26, 27, 28] w0 w9 fs0 fs9 ∧ AtT t ln a fs9, fun _ _ _ => True) 159 [(0, .ref mm), (1, .int (nI (t a)))] [] w 0 0 := by
  have hta := ht a
  refine j_aload_n dX6_next_159 0 rfl ?_
  refine j_get (v := .int (nI a)) flX6_next_89 hmm h22 dX6_next_160 ?_
  refine j_iconst (v := nI 1) dX6_next_163 (by decide) ?_
  refine j_iaddN dX6_next_164 ?_
  refine j_istore_n (lv' := [(2, .int (nI (a + 1))), (0, .ref mm), (1, .int (nI (t a)))]) dX6_next_165 (Nat.le_of_ble_eq_true rfl) rfl ?_
  refine j_iconst (v := nI 0) dX6_next_166 (by decide) ?_
  refine j_istore_n (lv' := [(3, .int (nI 0)), (2, .int (nI (a + 1))), (0, .ref mm), (1, .int (nI (t a)))]) dX6_next_167 (Nat.le_of_ble_eq_true rfl) rfl ?_
  refine j_aload_n dX6_next_168 2 rfl ?_
  refine j_iload_n dX6_next_169 1 rfl ?_
  refine j_callV (rm := rX6_byteAt) (As := [.int (nI (a + 1))]) (st := []) (b0 := mm) (ci := 6) (na := 1) (m_byteAt (i := a + 1) hAD hmm hA h23 a1 (by omega) (by omega)) (by intro E w9 h9; first | exact nomatch h9.1 | (obtain ⟨_, h9, _⟩ := h9; exact nomatch h9) | (obtain ⟨_, _, _, h9, _⟩ := h9; exact nomatch h9)) gX6_next_X6_byteAt rfl rfl hmm (by decide +kernel) rfl ⟨Nat.le_of_ble_eq_true rfl, Nat.le_of_ble_eq_true rfl⟩ rfl (Nat.le_of_ble_eq_true rfl) dX6_next_170 ⟨(show 0 + 0 ≤ 0 by omega), (show 0 + 0 ≤ 0 by omega)⟩ (fun v1 w2 h3 => ?_)
  obtain ⟨h3, h4⟩ := h3
  cases h3
  subst w2
  refine j_after (st' := [.int (bA t ln (a + 1))]) (k' := 0) (n' := 0) rfl rfl rfl ?_
  refine j_bipush (v := nI 43) dX6_next_173 (by decide) ?_
  refine j_icmp_eq 188 dX6_next_175 (by decide) (fun c175 => ?_) (fun c175 => ?_)
  · skip
    refine j_aload_n dX6_next_188 2 rfl ?_
    refine j_iload_n dX6_next_189 1 rfl ?_
    refine j_callV (rm := rX6_byteAt) (As := [.int (nI (a + 1))]) (st := []) (b0 := mm) (ci := 6) (na := 1) (m_byteAt (i := a + 1) hAD hmm hA h23 a1 (by omega) (by omega)) (by intro E w9 h9; first | exact nomatch h9.1 | (obtain ⟨_, h9, _⟩ := h9; exact nomatch h9) | (obtain ⟨_, _, _, h9, _⟩ := h9; exact nomatch h9)) gX6_next_X6_byteAt rfl rfl hmm (by decide +kernel) rfl ⟨Nat.le_of_ble_eq_true rfl, Nat.le_of_ble_eq_true rfl⟩ rfl (Nat.le_of_ble_eq_true rfl) dX6_next_190 ⟨(show 0 + 0 ≤ 0 by omega), (show 0 + 0 ≤ 0 by omega)⟩ (fun v5 w6 h7 => ?_)
    obtain ⟨h7, h8⟩ := h7
    cases h7
    subst w6
    refine j_after (st' := [.int (bA t ln (a + 1))]) (k' := 0) (n' := 0) rfl rfl rfl ?_
    refine j_bipush (v := nI 43) dX6_next_193 (by decide) ?_
    refine j_icmp_ne 202 dX6_next_195 (by decide) (fun c195 => ?_) (fun c195 => ?_)
    · skip
      exact absurd c175 c195
    · skip
      refine j_iconst (v := nI 1) dX6_next_198 (by decide) ?_
      refine j_goto 203 dX6_next_199 (by decide) ?_
      refine j_istore_n (lv' := [(3, .int (nI 1)), (2, .int (nI (a + 1))), (0, .ref mm), (1, .int (nI (t a)))]) dX6_next_203 (Nat.le_of_ble_eq_true rfl) rfl ?_
      refine j_iinc (q := 1) (v := nI ((a + 1) + 1)) (lv' := [(2, .int (nI ((a + 1) + 1))), (3, .int (nI 1)), (0, .ref mm), (1, .int (nI (t a)))]) dX6_next_204 rfl (by first | exact nI_1 _ | exact nI_add _ _) (Nat.le_of_ble_eq_true rfl) rfl ?_
      refine j_lv (lv' := [(0, .ref mm), (1, .int (nI (t a))), (2, .int (nI ((a + 1) + 1))), (3, .int (nI 1))]) [2, 3, 0, 1] rfl ?_
      have hq : (a + 1) + 1 = a + 1 + ptK t ln a ∧ nI 1 = ptV t ln a := ⟨by rw [show ptK t ln a = 1 from if_pos (Or.inl c175)], by unfold ptV; rw [if_pos c175]⟩
      exact s_npit hAD ht hln hmm hA (FrI.mono hfr (by simp) rfl : FrI A [mm] [] w0 _) (FF.mono hff rfl : FF [22, 24, 25, 26, 27, 28] fs0 _) h22 h23 h25 h26 h27 a1 hal h1 hq.1 hq.2 (by omega)
  · skip
    refine j_aload_n dX6_next_178 2 rfl ?_
    refine j_iload_n dX6_next_179 1 rfl ?_
    refine j_callV (rm := rX6_byteAt) (As := [.int (nI (a + 1))]) (st := []) (b0 := mm) (ci := 6) (na := 1) (m_byteAt (i := a + 1) hAD hmm hA h23 a1 (by omega) (by omega)) (by intro E w9 h9; first | exact nomatch h9.1 | (obtain ⟨_, h9, _⟩ := h9; exact nomatch h9) | (obtain ⟨_, _, _, h9, _⟩ := h9; exact nomatch h9)) gX6_next_X6_byteAt rfl rfl hmm (by decide +kernel) rfl ⟨Nat.le_of_ble_eq_true rfl, Nat.le_of_ble_eq_true rfl⟩ rfl (Nat.le_of_ble_eq_true rfl) dX6_next_180 ⟨(show 0 + 0 ≤ 0 by omega), (show 0 + 0 ≤ 0 by omega)⟩ (fun v9 w10 h11 => ?_)
    obtain ⟨h11, h12⟩ := h11
    cases h11
    subst w10
    refine j_after (st' := [.int (bA t ln (a + 1))]) (k' := 0) (n' := 0) rfl rfl rfl ?_
    refine j_bipush (v := nI 45) dX6_next_183 (by decide) ?_
    refine j_icmp_ne 207 dX6_next_185 (by decide) (fun c185 => ?_) (fun c185 => ?_)
    · skip
      refine j_lv (lv' := [(0, .ref mm), (1, .int (nI (t a))), (2, .int (nI (a + 1))), (3, .int (nI 0))]) [2, 3, 1, 0] rfl ?_
      have hq : a + 1 = a + 1 + ptK t ln a ∧ nI 0 = ptV t ln a := ⟨by rw [show ptK t ln a = 0 from if_neg (fun q => q.elim c175 c185)], by unfold ptV; rw [if_neg c175, if_neg c185]⟩
      exact s_npit hAD ht hln hmm hA (FrI.mono hfr (by simp) rfl : FrI A [mm] [] w0 _) (FF.mono hff rfl : FF [22, 24, 25, 26, 27, 28] fs0 _) h22 h23 h25 h26 h27 a1 hal h1 hq.1 hq.2 (by omega)
    · skip
      refine j_aload_n dX6_next_188 2 rfl ?_
      refine j_iload_n dX6_next_189 1 rfl ?_
      refine j_callV (rm := rX6_byteAt) (As := [.int (nI (a + 1))]) (st := []) (b0 := mm) (ci := 6) (na := 1) (m_byteAt (i := a + 1) hAD hmm hA h23 a1 (by omega) (by omega)) (by intro E w9 h9; first | exact nomatch h9.1 | (obtain ⟨_, h9, _⟩ := h9; exact nomatch h9) | (obtain ⟨_, _, _, h9, _⟩ := h9; exact nomatch h9)) gX6_next_X6_byteAt rfl rfl hmm (by decide +kernel) rfl ⟨Nat.le_of_ble_eq_true rfl, Nat.le_of_ble_eq_true rfl⟩ rfl (Nat.le_of_ble_eq_true rfl) dX6_next_190 ⟨(show 0 + 0 ≤ 0 by omega), (show 0 + 0 ≤ 0 by omega)⟩ (fun v13 w14 h15 => ?_)
      obtain ⟨h15, h16⟩ := h15
      cases h15
      subst w14
      refine j_after (st' := [.int (bA t ln (a + 1))]) (k' := 0) (n' := 0) rfl rfl rfl ?_
      refine j_bipush (v := nI 43) dX6_next_193 (by decide) ?_
      refine j_icmp_ne 202 dX6_next_195 (by decide) (fun c195 => ?_) (fun c195 => ?_)
      · skip
        refine j_iconst (v := (-1)) dX6_next_202 (by decide) ?_
        refine j_istore_n (lv' := [(3, .int ((-1))), (2, .int (nI (a + 1))), (0, .ref mm), (1, .int (nI (t a)))]) dX6_next_203 (Nat.le_of_ble_eq_true rfl) rfl ?_
        refine j_iinc (q := 1) (v := nI ((a + 1) + 1)) (lv' := [(2, .int (nI ((a + 1) + 1))), (3, .int ((-1))), (0, .ref mm), (1, .int (nI (t a)))]) dX6_next_204 rfl (by first | exact nI_1 _ | exact nI_add _ _) (Nat.le_of_ble_eq_true rfl) rfl ?_
        refine j_lv (lv' := [(0, .ref mm), (1, .int (nI (t a))), (2, .int (nI ((a + 1) + 1))), (3, .int ((-1)))]) [2, 3, 0, 1] rfl ?_
        skip
        have hq : (a + 1) + 1 = a + 1 + ptK t ln a ∧ (-1) = ptV t ln a := ⟨by rw [show ptK t ln a = 1 from if_pos (Or.inr c185)], by unfold ptV; rw [if_neg c175, if_pos c185]⟩
        exact s_npit hAD ht hln hmm hA (FrI.mono hfr (by simp) rfl : FrI A [mm] [] w0 _) (FF.mono hff rfl : FF [22, 24, 25, 26, 27, 28] fs0 _) h22 h23 h25 h26 h27 a1 hal h1 hq.1 hq.2 (by omega)
      · skip
        exact absurd c195 c175
theorem fsX6_next_99 : FS wsX6_next RX6 99 6 25 false (.int) := ⟨RX6, TX6, 45, tyX6, rfl, by decide, by decide +kernel, by decide +kernel, tyX6_ok, nmX6, rfl, rfl, rfl⟩
set_option maxHeartbeats 4000000 in
set_option maxRecDepth 100000 in
theorem s_nsg1 {t : Nat → Nat} {ln a : Nat} {w0 : pW} {fs0 : List Value} {A : Nat → Nat} {mm : Nat} (hAD : AD A mm) (ht : ∀ j, t j < 256) (hln : ln ≤ 2400) {w : pW} {fs : List Value} (hmm : w mm = some (.inr (6, fs))) (hA : RA A fs) (hfr : FrI A [mm] [] w0 w) (hff : FF [22, 24, 25, 26, 27, 28] fs0 fs) {nu : Int32} (h22 : fs[22]? = some (.int (nI (a + 1)))) (h23 : fs[23]? = some (.int (nI ln))) (h25 : fs[25]? = some (.int (nI 0))) (h26 : fs[26]? = some (.int nu)) (h27 : fs[27]? = some (.int (nI a))) (a1 : w (A 1) = some (.inl (0, 2400, .inl (fun j9 => nI (t j9))))) (hal : a < ln) (h1 : ¬ (97 ≤ t a ∧ t a ≤ 103)) (h2 : isD (nI (t a)) = false) (hs : (t a = 40 ∨ t a = 41 ∨ t a = 58 ∨ t a = 126 ∨ t a = 114 ∨ t a = 64 ∨ t a = 33 ∨ t a = 37 ∨ t a = 124)) : J ((cX6_next, RX6, 5, wsX6_next), (rX6_next, none, "next", []), fun o w9 => o = .inl none ∧ ∃ fs9 : List Value, MU A mm [] [22, 24, 25, 26, 27, 28] w0 w9 fs0 fs9 ∧ AtT t ln a fs9, fun _ _ _ => True) 368 [(0, .ref mm), (1, .int (nI (t a)))] [.int (nI 1)] w 0 0 := by
  have hta := ht a
  have hix : ¬ ixS (t a) < 0 := by
    have q := ixS_in ⟨t a, hta⟩
    simp only at q
    rw [q]
    simp only [decide_eq_true_eq]
    exact fun z => z hs
  refine j_istore_n (lv' := [(2, .int (nI 1)), (0, .ref mm), (1, .int (nI (t a)))]) dX6_next_368 (Nat.le_of_ble_eq_true rfl) rfl ?_
  refine j_aload_n dX6_next_369 1 rfl ?_
  refine j_iload_n dX6_next_370 0 rfl ?_
  refine j_if_eqN 378 (by decide) dX6_next_371 (by decide) (fun h9 => absurd h9 (by decide)) (fun _ => ?_)
  refine j_iconst (v := nI 3) dX6_next_374 (by decide) ?_
  refine j_goto 379 dX6_next_375 (by decide) ?_
  refine j_putM fsX6_next_102 hmm rfl rfl (RA.lt hA (by decide)) dX6_next_379 (fun w1 fs2 sfs2 hw1 => ?_)
  have f3 : w1 mm = some (.inr (6, fs2)) := up_at hw1
  have rfs2 : RA A fs2 := RA.set hA sfs2 rfl
  have v4 := st_at sfs2 hA (by decide : 24 < 45)
  refine j_aload_n dX6_next_382 1 rfl ?_
  refine j_iload_n dX6_next_383 2 rfl ?_
  refine j_putM fsX6_next_99 f3 rfl rfl (RA.lt rfs2 (by decide)) dX6_next_384 (fun w5 fs6 sfs6 hw5 => ?_)
  have f7 : w5 mm = some (.inr (6, fs6)) := up_at hw5
  have rfs6 : RA A fs6 := RA.set rfs2 sfs6 rfl
  have v8 := st_at sfs6 rfs2 (by decide : 25 < 45)
  refine j_iload_n dX6_next_387 2 rfl ?_
  refine j_bipush (v := nI 124) dX6_next_388 (by decide) ?_
  refine j_icmp_neN 426 (by omega) (by omega) dX6_next_390 (by decide) (fun c390 => ?_) (fun c390 => ?_)
  · skip
    refine j_iload_n dX6_next_426 2 rfl ?_
    refine j_bipush (v := nI 58) dX6_next_427 (by decide) ?_
    refine j_icmp_neN 462 (by omega) (by omega) dX6_next_429 (by decide) (fun c429 => ?_) (fun c429 => ?_)
    · skip
      refine j_lv (lv' := [(0, .ref mm)]) [1] rfl ?_
      have v9 := (st_ne sfs6 rfl (st_ne sfs2 rfl h22))
      have v10 := (st_ne sfs6 rfl v4)
      have v11 := (st_ne sfs6 rfl (st_ne sfs2 rfl h26))
      have v12 := (st_ne sfs6 rfl (st_ne sfs2 rfl h27))
      exact s_nend hAD ht hln f7 rfs6 (((FrI.mono hfr (by simp) rfl : FrI A [mm] [] w0 _).trans (FrI.ux hw1 (by simp))).trans (FrI.ux hw5 (by simp))) (((FF.mono hff rfl : FF [22, 24, 25, 26, 27, 28] fs0 _).trans (FF.set sfs2 rfl)).trans (FF.set sfs6 rfl)) v9 v10 v8 v11 v12 (tk_sign hal h1 h2 (fun q => c390 q.1) (fun q => c429 q.1) hix) (TS_sgn hs) (NS_no (by omega) (by omega))
    · skip
      refine j_aload_n dX6_next_432 1 rfl ?_
      refine j_aload_n dX6_next_433 1 rfl ?_
      have v13 := (st_ne sfs6 rfl (st_ne sfs2 rfl h22))
      refine j_get (v := .int (nI (a + 1))) flX6_next_89 f7 v13 dX6_next_434 ?_
      have v14 := (st_ne sfs6 rfl (st_ne sfs2 rfl h23))
      have f15 := (up_ne hw5 (AD.nm hAD 1 rfl) (up_ne hw1 (AD.nm hAD 1 rfl) a1))
      refine j_callV (rm := rX6_byteAt) (As := [.int (nI (a + 1))]) (st := []) (b0 := mm) (ci := 6) (na := 1) (m_byteAt (i := a + 1) hAD f7 rfs6 v14 f15 (by omega) (by omega)) (by intro E w9 h9; first | exact nomatch h9.1 | (obtain ⟨_, h9, _⟩ := h9; exact nomatch h9) | (obtain ⟨_, _, _, h9, _⟩ := h9; exact nomatch h9)) gX6_next_X6_byteAt rfl rfl f7 (by decide +kernel) rfl ⟨Nat.le_of_ble_eq_true rfl, Nat.le_of_ble_eq_true rfl⟩ rfl (Nat.le_of_ble_eq_true rfl) dX6_next_437 ⟨(show 0 + 0 ≤ 0 by omega), (show 0 + 0 ≤ 0 by omega)⟩ (fun v16 w17 h18 => ?_)
      obtain ⟨h18, h19⟩ := h18
      cases h18
      subst w17
      refine j_after (st' := [.int (bA t ln (a + 1))]) (k' := 0) (n' := 0) rfl rfl rfl ?_
      refine j_bipush (v := nI 124) dX6_next_440 (by decide) ?_
      refine j_icmp_ne 462 dX6_next_442 (by decide) (fun c442 => ?_) (fun c442 => ?_)
      · skip
        refine j_lv (lv' := [(0, .ref mm)]) [1] rfl ?_
        have v20 := (st_ne sfs6 rfl v4)
        have v21 := (st_ne sfs6 rfl (st_ne sfs2 rfl h26))
        have v22 := (st_ne sfs6 rfl (st_ne sfs2 rfl h27))
        exact s_nend hAD ht hln f7 rfs6 (((FrI.mono hfr (by simp) rfl : FrI A [mm] [] w0 _).trans (FrI.ux hw1 (by simp))).trans (FrI.ux hw5 (by simp))) (((FF.mono hff rfl : FF [22, 24, 25, 26, 27, 28] fs0 _).trans (FF.set sfs2 rfl)).trans (FF.set sfs6 rfl)) v13 v20 v8 v21 v22 (tk_sign hal h1 h2 (fun q => c390 q.1) (fun q => c442 q.2) hix) (TS_sgn hs) (NS_no (by omega) (by omega))
      · skip
        refine j_aload_n dX6_next_445 1 rfl ?_
        refine j_sipush (v := nI 257) dX6_next_446 (by decide) ?_
        refine j_putM fsX6_next_99 f7 rfl rfl (RA.lt rfs6 (by decide)) dX6_next_449 (fun w23 fs24 sfs24 hw23 => ?_)
        have f25 : w23 mm = some (.inr (6, fs24)) := up_at hw23
        have rfs24 : RA A fs24 := RA.set rfs6 sfs24 rfl
        have v26 := st_at sfs24 rfs6 (by decide : 25 < 45)
        refine j_aload_n dX6_next_452 1 rfl ?_
        refine j_dup dX6_next_453 rfl ?_
        have v27 := (st_ne sfs24 rfl v13)
        refine j_get (v := .int (nI (a + 1))) flX6_next_89 f25 v27 dX6_next_454 ?_
        refine j_iconst (v := nI 1) dX6_next_457 (by decide) ?_
        refine j_iaddN dX6_next_458 ?_
        refine j_putM fsX6_next_89 f25 rfl rfl (RA.lt rfs24 (by decide)) dX6_next_459 (fun w28 fs29 sfs29 hw28 => ?_)
        have f30 : w28 mm = some (.inr (6, fs29)) := up_at hw28
        have rfs29 : RA A fs29 := RA.set rfs24 sfs29 rfl
        have v31 := st_at sfs29 rfs24 (by decide : 22 < 45)
        refine j_lv (lv' := [(0, .ref mm)]) [1] rfl ?_
        have v32 := (st_ne sfs29 rfl (st_ne sfs24 rfl (st_ne sfs6 rfl v4)))
        have v33 := (st_ne sfs29 rfl v26)
        have v34 := (st_ne sfs29 rfl (st_ne sfs24 rfl (st_ne sfs6 rfl (st_ne sfs2 rfl h26))))
        have v35 := (st_ne sfs29 rfl (st_ne sfs24 rfl (st_ne sfs6 rfl (st_ne sfs2 rfl h27))))
        exact s_nend hAD ht hln f30 rfs29 (((((FrI.mono hfr (by simp) rfl : FrI A [mm] [] w0 _).trans (FrI.ux hw1 (by simp))).trans (FrI.ux hw5 (by simp))).trans (FrI.ux hw23 (by simp))).trans (FrI.ux hw28 (by simp))) (((((FF.mono hff rfl : FF [22, 24, 25, 26, 27, 28] fs0 _).trans (FF.set sfs2 rfl)).trans (FF.set sfs6 rfl)).trans (FF.set sfs24 rfl)).trans (FF.set sfs29 rfl)) v31 v32 v33 v34 v35 (tk_cl hal h1 h2 (fun q => c390 q.1) ⟨c429, c442⟩) TS_cl (NS_no (by decide) (by decide))
  · skip
    refine j_aload_n dX6_next_393 1 rfl ?_
    refine j_aload_n dX6_next_394 1 rfl ?_
    have v36 := (st_ne sfs6 rfl (st_ne sfs2 rfl h22))
    refine j_get (v := .int (nI (a + 1))) flX6_next_89 f7 v36 dX6_next_395 ?_
    have v37 := (st_ne sfs6 rfl (st_ne sfs2 rfl h23))
    have f38 := (up_ne hw5 (AD.nm hAD 1 rfl) (up_ne hw1 (AD.nm hAD 1 rfl) a1))
    refine j_callV (rm := rX6_byteAt) (As := [.int (nI (a + 1))]) (st := []) (b0 := mm) (ci := 6) (na := 1) (m_byteAt (i := a + 1) hAD f7 rfs6 v37 f38 (by omega) (by omega)) (by intro E w9 h9; first | exact nomatch h9.1 | (obtain ⟨_, h9, _⟩ := h9; exact nomatch h9) | (obtain ⟨_, _, _, h9, _⟩ := h9; exact nomatch h9)) gX6_next_X6_byteAt rfl rfl f7 (by decide +kernel) rfl ⟨Nat.le_of_ble_eq_true rfl, Nat.le_of_ble_eq_true rfl⟩ rfl (Nat.le_of_ble_eq_true rfl) dX6_next_398 ⟨(show 0 + 0 ≤ 0 by omega), (show 0 + 0 ≤ 0 by omega)⟩ (fun v39 w40 h41 => ?_)
    obtain ⟨h41, h42⟩ := h41
    cases h41
    subst w40
    refine j_after (st' := [.int (bA t ln (a + 1))]) (k' := 0) (n' := 0) rfl rfl rfl ?_
    refine j_bipush (v := nI 58) dX6_next_401 (by decide) ?_
    refine j_icmp_ne 426 dX6_next_403 (by decide) (fun c403 => ?_) (fun c403 => ?_)
    · skip
      refine j_iload_n dX6_next_426 2 rfl ?_
      refine j_bipush (v := nI 58) dX6_next_427 (by decide) ?_
      refine j_icmp_neN 462 (by omega) (by omega) dX6_next_429 (by decide) (fun c429 => ?_) (fun c429 => ?_)
      · skip
        refine j_lv (lv' := [(0, .ref mm)]) [1] rfl ?_
        have v43 := (st_ne sfs6 rfl v4)
        have v44 := (st_ne sfs6 rfl (st_ne sfs2 rfl h26))
        have v45 := (st_ne sfs6 rfl (st_ne sfs2 rfl h27))
        exact s_nend hAD ht hln f7 rfs6 (((FrI.mono hfr (by simp) rfl : FrI A [mm] [] w0 _).trans (FrI.ux hw1 (by simp))).trans (FrI.ux hw5 (by simp))) (((FF.mono hff rfl : FF [22, 24, 25, 26, 27, 28] fs0 _).trans (FF.set sfs2 rfl)).trans (FF.set sfs6 rfl)) v36 v43 v8 v44 v45 (tk_sign hal h1 h2 (fun q => c403 q.2) (fun q => c429 q.1) hix) (TS_sgn hs) (NS_no (by omega) (by omega))
      · skip
        refine j_aload_n dX6_next_432 1 rfl ?_
        refine j_aload_n dX6_next_433 1 rfl ?_
        refine j_get (v := .int (nI (a + 1))) flX6_next_89 f7 v36 dX6_next_434 ?_
        refine j_callV (rm := rX6_byteAt) (As := [.int (nI (a + 1))]) (st := []) (b0 := mm) (ci := 6) (na := 1) (m_byteAt (i := a + 1) hAD f7 rfs6 v37 f38 (by omega) (by omega)) (by intro E w9 h9; first | exact nomatch h9.1 | (obtain ⟨_, h9, _⟩ := h9; exact nomatch h9) | (obtain ⟨_, _, _, h9, _⟩ := h9; exact nomatch h9)) gX6_next_X6_byteAt rfl rfl f7 (by decide +kernel) rfl ⟨Nat.le_of_ble_eq_true rfl, Nat.le_of_ble_eq_true rfl⟩ rfl (Nat.le_of_ble_eq_true rfl) dX6_next_437 ⟨(show 0 + 0 ≤ 0 by omega), (show 0 + 0 ≤ 0 by omega)⟩ (fun v46 w47 h48 => ?_)
        obtain ⟨h48, h49⟩ := h48
        cases h48
        subst w47
        refine j_after (st' := [.int (bA t ln (a + 1))]) (k' := 0) (n' := 0) rfl rfl rfl ?_
        refine j_bipush (v := nI 124) dX6_next_440 (by decide) ?_
        refine j_icmp_ne 462 dX6_next_442 (by decide) (fun c442 => ?_) (fun c442 => ?_)
        · skip
          refine j_lv (lv' := [(0, .ref mm)]) [1] rfl ?_
          have v50 := (st_ne sfs6 rfl v4)
          have v51 := (st_ne sfs6 rfl (st_ne sfs2 rfl h26))
          have v52 := (st_ne sfs6 rfl (st_ne sfs2 rfl h27))
          exact s_nend hAD ht hln f7 rfs6 (((FrI.mono hfr (by simp) rfl : FrI A [mm] [] w0 _).trans (FrI.ux hw1 (by simp))).trans (FrI.ux hw5 (by simp))) (((FF.mono hff rfl : FF [22, 24, 25, 26, 27, 28] fs0 _).trans (FF.set sfs2 rfl)).trans (FF.set sfs6 rfl)) v36 v50 v8 v51 v52 (tk_sign hal h1 h2 (fun q => c403 q.2) (fun q => c442 q.2) hix) (TS_sgn hs) (NS_no (by omega) (by omega))
        · skip
          refine j_aload_n dX6_next_445 1 rfl ?_
          refine j_sipush (v := nI 257) dX6_next_446 (by decide) ?_
          refine j_putM fsX6_next_99 f7 rfl rfl (RA.lt rfs6 (by decide)) dX6_next_449 (fun w53 fs54 sfs54 hw53 => ?_)
          have f55 : w53 mm = some (.inr (6, fs54)) := up_at hw53
          have rfs54 : RA A fs54 := RA.set rfs6 sfs54 rfl
          have v56 := st_at sfs54 rfs6 (by decide : 25 < 45)
          refine j_aload_n dX6_next_452 1 rfl ?_
          refine j_dup dX6_next_453 rfl ?_
          have v57 := (st_ne sfs54 rfl v36)
          refine j_get (v := .int (nI (a + 1))) flX6_next_89 f55 v57 dX6_next_454 ?_
          refine j_iconst (v := nI 1) dX6_next_457 (by decide) ?_
          refine j_iaddN dX6_next_458 ?_
          refine j_putM fsX6_next_89 f55 rfl rfl (RA.lt rfs54 (by decide)) dX6_next_459 (fun w58 fs59 sfs59 hw58 => ?_)
          have f60 : w58 mm = some (.inr (6, fs59)) := up_at hw58
          have rfs59 : RA A fs59 := RA.set rfs54 sfs59 rfl
          have v61 := st_at sfs59 rfs54 (by decide : 22 < 45)
          refine j_lv (lv' := [(0, .ref mm)]) [1] rfl ?_
          have v62 := (st_ne sfs59 rfl (st_ne sfs54 rfl (st_ne sfs6 rfl v4)))
          have v63 := (st_ne sfs59 rfl v56)
          have v64 := (st_ne sfs59 rfl (st_ne sfs54 rfl (st_ne sfs6 rfl (st_ne sfs2 rfl h26))))
          have v65 := (st_ne sfs59 rfl (st_ne sfs54 rfl (st_ne sfs6 rfl (st_ne sfs2 rfl h27))))
          exact s_nend hAD ht hln f60 rfs59 (((((FrI.mono hfr (by simp) rfl : FrI A [mm] [] w0 _).trans (FrI.ux hw1 (by simp))).trans (FrI.ux hw5 (by simp))).trans (FrI.ux hw53 (by simp))).trans (FrI.ux hw58 (by simp))) (((((FF.mono hff rfl : FF [22, 24, 25, 26, 27, 28] fs0 _).trans (FF.set sfs2 rfl)).trans (FF.set sfs6 rfl)).trans (FF.set sfs54 rfl)).trans (FF.set sfs59 rfl)) v61 v62 v63 v64 v65 (tk_cl hal h1 h2 (fun q => c403 q.2) ⟨c429, c442⟩) TS_cl (NS_no (by decide) (by decide))
    · skip
      refine j_aload_n dX6_next_406 1 rfl ?_
      refine j_sipush (v := nI 256) dX6_next_407 (by decide) ?_
      refine j_putM fsX6_next_99 f7 rfl rfl (RA.lt rfs6 (by decide)) dX6_next_410 (fun w66 fs67 sfs67 hw66 => ?_)
      have f68 : w66 mm = some (.inr (6, fs67)) := up_at hw66
      have rfs67 : RA A fs67 := RA.set rfs6 sfs67 rfl
      have v69 := st_at sfs67 rfs6 (by decide : 25 < 45)
      refine j_aload_n dX6_next_413 1 rfl ?_
      refine j_dup dX6_next_414 rfl ?_
      have v70 := (st_ne sfs67 rfl v36)
      refine j_get (v := .int (nI (a + 1))) flX6_next_89 f68 v70 dX6_next_415 ?_
      refine j_iconst (v := nI 1) dX6_next_418 (by decide) ?_
      refine j_iaddN dX6_next_419 ?_
      refine j_putM fsX6_next_89 f68 rfl rfl (RA.lt rfs67 (by decide)) dX6_next_420 (fun w71 fs72 sfs72 hw71 => ?_)
      have f73 : w71 mm = some (.inr (6, fs72)) := up_at hw71
      have rfs72 : RA A fs72 := RA.set rfs67 sfs72 rfl
      have v74 := st_at sfs72 rfs67 (by decide : 22 < 45)
      refine j_goto 462 dX6_next_423 (by decide) ?_
      refine j_lv (lv' := [(0, .ref mm)]) [1] rfl ?_
      have v75 := (st_ne sfs72 rfl (st_ne sfs67 rfl (st_ne sfs6 rfl v4)))
      have v76 := (st_ne sfs72 rfl v69)
      have v77 := (st_ne sfs72 rfl (st_ne sfs67 rfl (st_ne sfs6 rfl (st_ne sfs2 rfl h26))))
      have v78 := (st_ne sfs72 rfl (st_ne sfs67 rfl (st_ne sfs6 rfl (st_ne sfs2 rfl h27))))
      exact s_nend hAD ht hln f73 rfs72 (((((FrI.mono hfr (by simp) rfl : FrI A [mm] [] w0 _).trans (FrI.ux hw1 (by simp))).trans (FrI.ux hw5 (by simp))).trans (FrI.ux hw66 (by simp))).trans (FrI.ux hw71 (by simp))) (((((FF.mono hff rfl : FF [22, 24, 25, 26, 27, 28] fs0 _).trans (FF.set sfs2 rfl)).trans (FF.set sfs6 rfl)).trans (FF.set sfs67 rfl)).trans (FF.set sfs72 rfl)) v74 v75 v76 v77 v78 (tk_op hal h1 h2 ⟨c390, c403⟩) TS_op (NS_no (by decide) (by decide))
set_option maxHeartbeats 4000000 in
set_option maxRecDepth 100000 in
theorem s_nsg0 {t : Nat → Nat} {ln a : Nat} {w0 : pW} {fs0 : List Value} {A : Nat → Nat} {mm : Nat} (hAD : AD A mm) (ht : ∀ j, t j < 256) (hln : ln ≤ 2400) {w : pW} {fs : List Value} (hmm : w mm = some (.inr (6, fs))) (hA : RA A fs) (hfr : FrI A [mm] [] w0 w) (hff : FF [22, 24, 25, 26, 27, 28] fs0 fs) {nu : Int32} (h22 : fs[22]? = some (.int (nI (a + 1)))) (h23 : fs[23]? = some (.int (nI ln))) (h25 : fs[25]? = some (.int (nI 0))) (h26 : fs[26]? = some (.int nu)) (h27 : fs[27]? = some (.int (nI a))) (a1 : w (A 1) = some (.inl (0, 2400, .inl (fun j9 => nI (t j9))))) (hal : a < ln) (h1 : ¬ (97 ≤ t a ∧ t a ≤ 103)) (h2 : isD (nI (t a)) = false) (hs : ¬ (t a = 40 ∨ t a = 41 ∨ t a = 58 ∨ t a = 126 ∨ t a = 114 ∨ t a = 64 ∨ t a = 33 ∨ t a = 37 ∨ t a = 124)) : J ((cX6_next, RX6, 5, wsX6_next), (rX6_next, none, "next", []), fun o w9 => o = .inl none ∧ ∃ fs9 : List Value, MU A mm [] [22, 24, 25, 26, 27, 28] w0 w9 fs0 fs9 ∧ AtT t ln a fs9, fun _ _ _ => True) 368 [(0, .ref mm), (1, .int (nI (t a)))] [.int (nI 0)] w 0 0 := by
  have hta := ht a
  have hix : ixS (t a) < 0 := by
    have q := ixS_in ⟨t a, hta⟩
    simp only at q
    rw [q]
    simp only [decide_eq_true_eq]
    exact hs
  refine j_istore_n (lv' := [(2, .int (nI 0)), (0, .ref mm), (1, .int (nI (t a)))]) dX6_next_368 (Nat.le_of_ble_eq_true rfl) rfl ?_
  refine j_aload_n dX6_next_369 1 rfl ?_
  refine j_iload_n dX6_next_370 0 rfl ?_
  refine j_if_eqN 378 (by decide) dX6_next_371 (by decide) (fun _ => ?_) (fun h9 => absurd rfl h9)
  refine j_iconst (v := nI 4) dX6_next_378 (by decide) ?_
  refine j_putM fsX6_next_102 hmm rfl rfl (RA.lt hA (by decide)) dX6_next_379 (fun w1 fs2 sfs2 hw1 => ?_)
  have f3 : w1 mm = some (.inr (6, fs2)) := up_at hw1
  have rfs2 : RA A fs2 := RA.set hA sfs2 rfl
  have v4 := st_at sfs2 hA (by decide : 24 < 45)
  refine j_aload_n dX6_next_382 1 rfl ?_
  refine j_iload_n dX6_next_383 2 rfl ?_
  refine j_putM fsX6_next_99 f3 rfl rfl (RA.lt rfs2 (by decide)) dX6_next_384 (fun w5 fs6 sfs6 hw5 => ?_)
  have f7 : w5 mm = some (.inr (6, fs6)) := up_at hw5
  have rfs6 : RA A fs6 := RA.set rfs2 sfs6 rfl
  have v8 := st_at sfs6 rfs2 (by decide : 25 < 45)
  refine j_iload_n dX6_next_387 2 rfl ?_
  refine j_bipush (v := nI 124) dX6_next_388 (by decide) ?_
  refine j_icmp_neN 426 (by omega) (by omega) dX6_next_390 (by decide) (fun c390 => ?_) (fun c390 => ?_)
  · skip
    refine j_iload_n dX6_next_426 2 rfl ?_
    refine j_bipush (v := nI 58) dX6_next_427 (by decide) ?_
    refine j_icmp_neN 462 (by omega) (by omega) dX6_next_429 (by decide) (fun c429 => ?_) (fun c429 => ?_)
    · skip
      refine j_lv (lv' := [(0, .ref mm)]) [1] rfl ?_
      have v9 := (st_ne sfs6 rfl (st_ne sfs2 rfl h22))
      have v10 := (st_ne sfs6 rfl v4)
      have v11 := (st_ne sfs6 rfl (st_ne sfs2 rfl h26))
      have v12 := (st_ne sfs6 rfl (st_ne sfs2 rfl h27))
      exact s_nend hAD ht hln f7 rfs6 (((FrI.mono hfr (by simp) rfl : FrI A [mm] [] w0 _).trans (FrI.ux hw1 (by simp))).trans (FrI.ux hw5 (by simp))) (((FF.mono hff rfl : FF [22, 24, 25, 26, 27, 28] fs0 _).trans (FF.set sfs2 rfl)).trans (FF.set sfs6 rfl)) v9 v10 v8 v11 v12 (tk_bad hal h1 h2 (fun q => c390 q.1) (fun q => c429 q.1) hix) (TS_bad (by omega)) (NS_no (by decide) (by decide))
    · skip
      exfalso; omega
  · skip
    exfalso; omega
set_option maxHeartbeats 4000000 in
set_option maxRecDepth 100000 in
theorem s_nsg {t : Nat → Nat} {ln a : Nat} {w0 : pW} {fs0 : List Value} {A : Nat → Nat} {mm : Nat} (hAD : AD A mm) (ht : ∀ j, t j < 256) (hln : ln ≤ 2400) {w : pW} {fs : List Value} (hmm : w mm = some (.inr (6, fs))) (hA : RA A fs) (hfr : FrI A [mm] [] w0 w) (hff : FF [22, 24, 25, 26, 27, 28] fs0 fs) {nu : Int32} (h22 : fs[22]? = some (.int (nI a))) (h23 : fs[23]? = some (.int (nI ln))) (h25 : fs[25]? = some (.int (nI 0))) (h26 : fs[26]? = some (.int nu)) (h27 : fs[27]? = some (.int (nI a))) (a1 : w (A 1) = some (.inl (0, 2400, .inl (fun j9 => nI (t j9))))) (hal : a < ln) (h1 : ¬ (97 ≤ t a ∧ t a ≤ 103)) (h2 : isD (nI (t a)) = false) : J ((cX6_next, RX6, 5, wsX6_next), (rX6_next, none, "next", []), fun o w9 => o = .inl none ∧ ∃ fs9 : List Value, MU A mm [] [22, 24, 25, 26, 27, 28] w0 w9 fs0 fs9 ∧ AtT t ln a fs9, fun _ _ _ => True) 299 [(0, .ref mm), (1, .int (nI (t a)))] [] w 0 0 := by
  have hta := ht a
  refine j_aload_n dX6_next_299 0 rfl ?_
  refine j_dup dX6_next_300 rfl ?_
  refine j_get (v := .int (nI a)) flX6_next_89 hmm h22 dX6_next_301 ?_
  refine j_iconst (v := nI 1) dX6_next_304 (by decide) ?_
  refine j_iaddN dX6_next_305 ?_
  refine j_putM fsX6_next_89 hmm rfl rfl (RA.lt hA (by decide)) dX6_next_306 (fun w1 fs2 sfs2 hw1 => ?_)
  have f3 : w1 mm = some (.inr (6, fs2)) := up_at hw1
  have rfs2 : RA A fs2 := RA.set hA sfs2 rfl
  have v4 := st_at sfs2 hA (by decide : 22 < 45)
  refine j_iload_n dX6_next_309 1 rfl ?_
  refine j_bipush (v := nI 40) dX6_next_310 (by decide) ?_
  refine j_icmp_eqN 363 (by omega) (by omega) dX6_next_312 (by decide) (fun c312 => ?_) (fun c312 => ?_)
  · skip
    refine j_iconst (v := nI 1) dX6_next_363 (by decide) ?_
    refine j_goto 368 dX6_next_364 (by decide) ?_
    refine j_lv (lv' := [(0, .ref mm), (1, .int (nI (t a)))]) [0, 1] rfl ?_
    have v5 := (st_ne sfs2 rfl h23)
    have v6 := (st_ne sfs2 rfl h25)
    have v7 := (st_ne sfs2 rfl h26)
    have v8 := (st_ne sfs2 rfl h27)
    have f9 := (up_ne hw1 (AD.nm hAD 1 rfl) a1)
    exact s_nsg1 hAD ht hln f3 rfs2 ((FrI.mono hfr (by simp) rfl : FrI A [mm] [] w0 _).trans (FrI.ux hw1 (by simp))) ((FF.mono hff rfl : FF [22, 24, 25, 26, 27, 28] fs0 _).trans (FF.set sfs2 rfl)) v4 v5 v6 v7 v8 f9 hal h1 h2 (by omega)
  · skip
    refine j_iload_n dX6_next_315 1 rfl ?_
    refine j_bipush (v := nI 41) dX6_next_316 (by decide) ?_
    refine j_icmp_eqN 363 (by omega) (by omega) dX6_next_318 (by decide) (fun c318 => ?_) (fun c318 => ?_)
    · skip
      refine j_iconst (v := nI 1) dX6_next_363 (by decide) ?_
      refine j_goto 368 dX6_next_364 (by decide) ?_
      refine j_lv (lv' := [(0, .ref mm), (1, .int (nI (t a)))]) [0, 1] rfl ?_
      have v10 := (st_ne sfs2 rfl h23)
      have v11 := (st_ne sfs2 rfl h25)
      have v12 := (st_ne sfs2 rfl h26)
      have v13 := (st_ne sfs2 rfl h27)
      have f14 := (up_ne hw1 (AD.nm hAD 1 rfl) a1)
      exact s_nsg1 hAD ht hln f3 rfs2 ((FrI.mono hfr (by simp) rfl : FrI A [mm] [] w0 _).trans (FrI.ux hw1 (by simp))) ((FF.mono hff rfl : FF [22, 24, 25, 26, 27, 28] fs0 _).trans (FF.set sfs2 rfl)) v4 v10 v11 v12 v13 f14 hal h1 h2 (by omega)
    · skip
      refine j_iload_n dX6_next_321 1 rfl ?_
      refine j_bipush (v := nI 58) dX6_next_322 (by decide) ?_
      refine j_icmp_eqN 363 (by omega) (by omega) dX6_next_324 (by decide) (fun c324 => ?_) (fun c324 => ?_)
      · skip
        refine j_iconst (v := nI 1) dX6_next_363 (by decide) ?_
        refine j_goto 368 dX6_next_364 (by decide) ?_
        refine j_lv (lv' := [(0, .ref mm), (1, .int (nI (t a)))]) [0, 1] rfl ?_
        have v15 := (st_ne sfs2 rfl h23)
        have v16 := (st_ne sfs2 rfl h25)
        have v17 := (st_ne sfs2 rfl h26)
        have v18 := (st_ne sfs2 rfl h27)
        have f19 := (up_ne hw1 (AD.nm hAD 1 rfl) a1)
        exact s_nsg1 hAD ht hln f3 rfs2 ((FrI.mono hfr (by simp) rfl : FrI A [mm] [] w0 _).trans (FrI.ux hw1 (by simp))) ((FF.mono hff rfl : FF [22, 24, 25, 26, 27, 28] fs0 _).trans (FF.set sfs2 rfl)) v4 v15 v16 v17 v18 f19 hal h1 h2 (by omega)
      · skip
        refine j_iload_n dX6_next_327 1 rfl ?_
        refine j_bipush (v := nI 126) dX6_next_328 (by decide) ?_
        refine j_icmp_eqN 363 (by omega) (by omega) dX6_next_330 (by decide) (fun c330 => ?_) (fun c330 => ?_)
        · skip
          refine j_iconst (v := nI 1) dX6_next_363 (by decide) ?_
          refine j_goto 368 dX6_next_364 (by decide) ?_
          refine j_lv (lv' := [(0, .ref mm), (1, .int (nI (t a)))]) [0, 1] rfl ?_
          have v20 := (st_ne sfs2 rfl h23)
          have v21 := (st_ne sfs2 rfl h25)
          have v22 := (st_ne sfs2 rfl h26)
          have v23 := (st_ne sfs2 rfl h27)
          have f24 := (up_ne hw1 (AD.nm hAD 1 rfl) a1)
          exact s_nsg1 hAD ht hln f3 rfs2 ((FrI.mono hfr (by simp) rfl : FrI A [mm] [] w0 _).trans (FrI.ux hw1 (by simp))) ((FF.mono hff rfl : FF [22, 24, 25, 26, 27, 28] fs0 _).trans (FF.set sfs2 rfl)) v4 v20 v21 v22 v23 f24 hal h1 h2 (by omega)
        · skip
          refine j_iload_n dX6_next_333 1 rfl ?_
          refine j_bipush (v := nI 114) dX6_next_334 (by decide) ?_
          refine j_icmp_eqN 363 (by omega) (by omega) dX6_next_336 (by decide) (fun c336 => ?_) (fun c336 => ?_)
          · skip
            refine j_iconst (v := nI 1) dX6_next_363 (by decide) ?_
            refine j_goto 368 dX6_next_364 (by decide) ?_
            refine j_lv (lv' := [(0, .ref mm), (1, .int (nI (t a)))]) [0, 1] rfl ?_
            have v25 := (st_ne sfs2 rfl h23)
            have v26 := (st_ne sfs2 rfl h25)
            have v27 := (st_ne sfs2 rfl h26)
            have v28 := (st_ne sfs2 rfl h27)
            have f29 := (up_ne hw1 (AD.nm hAD 1 rfl) a1)
            exact s_nsg1 hAD ht hln f3 rfs2 ((FrI.mono hfr (by simp) rfl : FrI A [mm] [] w0 _).trans (FrI.ux hw1 (by simp))) ((FF.mono hff rfl : FF [22, 24, 25, 26, 27, 28] fs0 _).trans (FF.set sfs2 rfl)) v4 v25 v26 v27 v28 f29 hal h1 h2 (by omega)
          · skip
            refine j_iload_n dX6_next_339 1 rfl ?_
            refine j_bipush (v := nI 64) dX6_next_340 (by decide) ?_
            refine j_icmp_eqN 363 (by omega) (by omega) dX6_next_342 (by decide) (fun c342 => ?_) (fun c342 => ?_)
            · skip
              refine j_iconst (v := nI 1) dX6_next_363 (by decide) ?_
              refine j_goto 368 dX6_next_364 (by decide) ?_
              refine j_lv (lv' := [(0, .ref mm), (1, .int (nI (t a)))]) [0, 1] rfl ?_
              have v30 := (st_ne sfs2 rfl h23)
              have v31 := (st_ne sfs2 rfl h25)
              have v32 := (st_ne sfs2 rfl h26)
              have v33 := (st_ne sfs2 rfl h27)
              have f34 := (up_ne hw1 (AD.nm hAD 1 rfl) a1)
              exact s_nsg1 hAD ht hln f3 rfs2 ((FrI.mono hfr (by simp) rfl : FrI A [mm] [] w0 _).trans (FrI.ux hw1 (by simp))) ((FF.mono hff rfl : FF [22, 24, 25, 26, 27, 28] fs0 _).trans (FF.set sfs2 rfl)) v4 v30 v31 v32 v33 f34 hal h1 h2 (by omega)
            · skip
              refine j_iload_n dX6_next_345 1 rfl ?_
              refine j_bipush (v := nI 33) dX6_next_346 (by decide) ?_
              refine j_icmp_eqN 363 (by omega) (by omega) dX6_next_348 (by decide) (fun c348 => ?_) (fun c348 => ?_)
              · skip
                refine j_iconst (v := nI 1) dX6_next_363 (by decide) ?_
                refine j_goto 368 dX6_next_364 (by decide) ?_
                refine j_lv (lv' := [(0, .ref mm), (1, .int (nI (t a)))]) [0, 1] rfl ?_
                have v35 := (st_ne sfs2 rfl h23)
                have v36 := (st_ne sfs2 rfl h25)
                have v37 := (st_ne sfs2 rfl h26)
                have v38 := (st_ne sfs2 rfl h27)
                have f39 := (up_ne hw1 (AD.nm hAD 1 rfl) a1)
                exact s_nsg1 hAD ht hln f3 rfs2 ((FrI.mono hfr (by simp) rfl : FrI A [mm] [] w0 _).trans (FrI.ux hw1 (by simp))) ((FF.mono hff rfl : FF [22, 24, 25, 26, 27, 28] fs0 _).trans (FF.set sfs2 rfl)) v4 v35 v36 v37 v38 f39 hal h1 h2 (by omega)
              · skip
                refine j_iload_n dX6_next_351 1 rfl ?_
                refine j_bipush (v := nI 37) dX6_next_352 (by decide) ?_
                refine j_icmp_eqN 363 (by omega) (by omega) dX6_next_354 (by decide) (fun c354 => ?_) (fun c354 => ?_)
                · skip
                  refine j_iconst (v := nI 1) dX6_next_363 (by decide) ?_
                  refine j_goto 368 dX6_next_364 (by decide) ?_
                  refine j_lv (lv' := [(0, .ref mm), (1, .int (nI (t a)))]) [0, 1] rfl ?_
                  have v40 := (st_ne sfs2 rfl h23)
                  have v41 := (st_ne sfs2 rfl h25)
                  have v42 := (st_ne sfs2 rfl h26)
                  have v43 := (st_ne sfs2 rfl h27)
                  have f44 := (up_ne hw1 (AD.nm hAD 1 rfl) a1)
                  exact s_nsg1 hAD ht hln f3 rfs2 ((FrI.mono hfr (by simp) rfl : FrI A [mm] [] w0 _).trans (FrI.ux hw1 (by simp))) ((FF.mono hff rfl : FF [22, 24, 25, 26, 27, 28] fs0 _).trans (FF.set sfs2 rfl)) v4 v40 v41 v42 v43 f44 hal h1 h2 (by omega)
                · skip
                  refine j_iload_n dX6_next_357 1 rfl ?_
                  refine j_bipush (v := nI 124) dX6_next_358 (by decide) ?_
                  refine j_icmp_neN 367 (by omega) (by omega) dX6_next_360 (by decide) (fun c360 => ?_) (fun c360 => ?_)
                  · skip
                    refine j_iconst (v := nI 0) dX6_next_367 (by decide) ?_
                    refine j_lv (lv' := [(0, .ref mm), (1, .int (nI (t a)))]) [0, 1] rfl ?_
                    have v45 := (st_ne sfs2 rfl h23)
                    have v46 := (st_ne sfs2 rfl h25)
                    have v47 := (st_ne sfs2 rfl h26)
                    have v48 := (st_ne sfs2 rfl h27)
                    have f49 := (up_ne hw1 (AD.nm hAD 1 rfl) a1)
                    exact s_nsg0 hAD ht hln f3 rfs2 ((FrI.mono hfr (by simp) rfl : FrI A [mm] [] w0 _).trans (FrI.ux hw1 (by simp))) ((FF.mono hff rfl : FF [22, 24, 25, 26, 27, 28] fs0 _).trans (FF.set sfs2 rfl)) v4 v45 v46 v47 v48 f49 hal h1 h2 (by omega)
                  · skip
                    refine j_iconst (v := nI 1) dX6_next_363 (by decide) ?_
                    refine j_goto 368 dX6_next_364 (by decide) ?_
                    refine j_lv (lv' := [(0, .ref mm), (1, .int (nI (t a)))]) [0, 1] rfl ?_
                    have v50 := (st_ne sfs2 rfl h23)
                    have v51 := (st_ne sfs2 rfl h25)
                    have v52 := (st_ne sfs2 rfl h26)
                    have v53 := (st_ne sfs2 rfl h27)
                    have f54 := (up_ne hw1 (AD.nm hAD 1 rfl) a1)
                    exact s_nsg1 hAD ht hln f3 rfs2 ((FrI.mono hfr (by simp) rfl : FrI A [mm] [] w0 _).trans (FrI.ux hw1 (by simp))) ((FF.mono hff rfl : FF [22, 24, 25, 26, 27, 28] fs0 _).trans (FF.set sfs2 rfl)) v4 v50 v51 v52 v53 f54 hal h1 h2 (by omega)
theorem fsX6_next_96 : FS wsX6_next RX6 96 6 27 false (.int) := ⟨RX6, TX6, 45, tyX6, rfl, by decide, by decide +kernel, by decide +kernel, tyX6_ok, nmX6, rfl, rfl, rfl⟩
set_option maxHeartbeats 4000000 in
set_option maxRecDepth 100000 in
theorem s_n39 {t : Nat → Nat} {ln a : Nat} {w0 : pW} {fs0 : List Value} {A : Nat → Nat} {mm : Nat} (hAD : AD A mm) (ht : ∀ j, t j < 256) (hln : ln ≤ 2400) {w : pW} {fs : List Value} (hmm : w mm = some (.inr (6, fs))) (hA : RA A fs) (hfr : FrI A [mm] [] w0 w) (hff : FF [22, 24, 25, 26, 27, 28] fs0 fs) {nu : Int32} (h22 : fs[22]? = some (.int (nI a))) (h23 : fs[23]? = some (.int (nI ln))) (h26 : fs[26]? = some (.int nu)) (a1 : w (A 1) = some (.inl (0, 2400, .inl (fun j9 => nI (t j9))))) (hab : a ≤ ln + 1) : J ((cX6_next, RX6, 5, wsX6_next), (rX6_next, none, "next", []), fun o w9 => o = .inl none ∧ ∃ fs9 : List Value, MU A mm [] [22, 24, 25, 26, 27, 28] w0 w9 fs0 fs9 ∧ AtT t ln a fs9, fun _ _ _ => True) 39 [(0, .ref mm)] [] w 0 0 := by
  have hta := ht a
  refine j_aload_n dX6_next_39 0 rfl ?_
  refine j_aload_n dX6_next_40 0 rfl ?_
  refine j_get (v := .int (nI a)) flX6_next_89 hmm h22 dX6_next_41 ?_
  refine j_putM fsX6_next_96 hmm rfl rfl (RA.lt hA (by decide)) dX6_next_44 (fun w1 fs2 sfs2 hw1 => ?_)
  have f3 : w1 mm = some (.inr (6, fs2)) := up_at hw1
  have rfs2 : RA A fs2 := RA.set hA sfs2 rfl
  have v4 := st_at sfs2 hA (by decide : 27 < 45)
  refine j_aload_n dX6_next_47 0 rfl ?_
  refine j_iconst (v := nI 0) dX6_next_48 (by decide) ?_
  refine j_putM fsX6_next_99 f3 rfl rfl (RA.lt rfs2 (by decide)) dX6_next_49 (fun w5 fs6 sfs6 hw5 => ?_)
  have f7 : w5 mm = some (.inr (6, fs6)) := up_at hw5
  have rfs6 : RA A fs6 := RA.set rfs2 sfs6 rfl
  have v8 := st_at sfs6 rfs2 (by decide : 25 < 45)
  refine j_aload_n dX6_next_52 0 rfl ?_
  refine j_aload_n dX6_next_53 0 rfl ?_
  have v9 := (st_ne sfs6 rfl (st_ne sfs2 rfl h22))
  refine j_get (v := .int (nI a)) flX6_next_89 f7 v9 dX6_next_54 ?_
  have v10 := (st_ne sfs6 rfl (st_ne sfs2 rfl h23))
  have f11 := (up_ne hw5 (AD.nm hAD 1 rfl) (up_ne hw1 (AD.nm hAD 1 rfl) a1))
  refine j_callV (rm := rX6_byteAt) (As := [.int (nI a)]) (st := []) (b0 := mm) (ci := 6) (na := 1) (m_byteAt (i := a) hAD f7 rfs6 v10 f11 (by omega) (by omega)) (by intro E w9 h9; first | exact nomatch h9.1 | (obtain ⟨_, h9, _⟩ := h9; exact nomatch h9) | (obtain ⟨_, _, _, h9, _⟩ := h9; exact nomatch h9)) gX6_next_X6_byteAt rfl rfl f7 (by decide +kernel) rfl ⟨Nat.le_of_ble_eq_true rfl, Nat.le_of_ble_eq_true rfl⟩ rfl (Nat.le_of_ble_eq_true rfl) dX6_next_57 ⟨(show 0 + 0 ≤ 0 by omega), (show 0 + 0 ≤ 0 by omega)⟩ (fun v12 w13 h14 => ?_)
  obtain ⟨h14, h15⟩ := h14
  cases h14
  subst w13
  refine j_after (st' := [.int (bA t ln a)]) (k' := 0) (n' := 0) rfl rfl rfl ?_
  by_cases hal : a < ln
  · skip
    refine j_eqi (y := nI (t a)) (bA_in hal) ?_
    refine j_istore_n (lv' := [(1, .int (nI (t a))), (0, .ref mm)]) dX6_next_60 (Nat.le_of_ble_eq_true rfl) rfl ?_
    refine j_iload_n dX6_next_61 0 rfl ?_
    refine j_iconst (v := (-1)) dX6_next_62 (by decide) ?_
    refine j_icmp_ne 74 dX6_next_63 (by decide) (fun c63 => ?_) (fun c63 => ?_)
    · skip
      refine j_iload_n dX6_next_74 0 rfl ?_
      refine j_callS (rm := rX6_isDigit) (As := [.int (nI (t a))]) (st := []) (na := 1) (m_isDigit (c := nI (t a))) (by intro E w9 h9; first | exact nomatch h9.1 | (obtain ⟨_, h9, _⟩ := h9; exact nomatch h9) | (obtain ⟨_, _, _, h9, _⟩ := h9; exact nomatch h9)) gX6_next_X6_isDigit rfl (by decide +kernel) rfl ⟨Nat.le_of_ble_eq_true rfl, Nat.le_of_ble_eq_true rfl⟩ rfl (Nat.le_of_ble_eq_true rfl) dX6_next_75 ⟨(show 0 + 0 ≤ 0 by omega), (show 0 + 0 ≤ 0 by omega)⟩ (fun v16 w17 h18 => ?_)
      obtain ⟨h18, h19⟩ := h18
      cases h18
      subst w17
      refine j_after (st' := [.int (zb (isD (nI (t a))))]) (k' := 0) (n' := 0) rfl rfl rfl ?_
      refine j_if_eq 147 dX6_next_78 (by decide) (fun c78 => ?_) (fun c78 => ?_)
      · skip
        refine j_iload_n dX6_next_147 0 rfl ?_
        refine j_bipush (v := nI 97) dX6_next_148 (by decide) ?_
        refine j_icmp_ltN 299 (by omega) (by omega) dX6_next_150 (by decide) (fun c150 => ?_) (fun c150 => ?_)
        · skip
          refine j_lv (lv' := [(0, .ref mm), (1, .int (nI (t a)))]) [1, 0] rfl ?_
          have v20 := (st_ne sfs6 rfl (st_ne sfs2 rfl h26))
          have v21 := (st_ne sfs6 rfl v4)
          exact s_nsg hAD ht hln f7 rfs6 (((FrI.mono hfr (by simp) rfl : FrI A [mm] [] w0 _).trans (FrI.ux hw1 (by simp))).trans (FrI.ux hw5 (by simp))) (((FF.mono hff rfl : FF [22, 24, 25, 26, 27, 28] fs0 _).trans (FF.set sfs2 rfl)).trans (FF.set sfs6 rfl)) v9 v10 v8 v20 v21 f11 hal (by omega) (zb_0 c78)
        · skip
          refine j_iload_n dX6_next_153 0 rfl ?_
          refine j_bipush (v := nI 103) dX6_next_154 (by decide) ?_
          refine j_icmp_gtN 299 (by omega) (by omega) dX6_next_156 (by decide) (fun c156 => ?_) (fun c156 => ?_)
          · skip
            refine j_lv (lv' := [(0, .ref mm), (1, .int (nI (t a)))]) [1, 0] rfl ?_
            have v22 := (st_ne sfs6 rfl (st_ne sfs2 rfl h26))
            have v23 := (st_ne sfs6 rfl v4)
            exact s_nsg hAD ht hln f7 rfs6 (((FrI.mono hfr (by simp) rfl : FrI A [mm] [] w0 _).trans (FrI.ux hw1 (by simp))).trans (FrI.ux hw5 (by simp))) (((FF.mono hff rfl : FF [22, 24, 25, 26, 27, 28] fs0 _).trans (FF.set sfs2 rfl)).trans (FF.set sfs6 rfl)) v9 v10 v8 v22 v23 f11 hal (by omega) (zb_0 c78)
          · skip
            refine j_lv (lv' := [(0, .ref mm), (1, .int (nI (t a)))]) [1, 0] rfl ?_
            have v24 := (st_ne sfs6 rfl (st_ne sfs2 rfl h26))
            have v25 := (st_ne sfs6 rfl v4)
            exact s_npi0 hAD ht hln f7 rfs6 (((FrI.mono hfr (by simp) rfl : FrI A [mm] [] w0 _).trans (FrI.ux hw1 (by simp))).trans (FrI.ux hw5 (by simp))) (((FF.mono hff rfl : FF [22, 24, 25, 26, 27, 28] fs0 _).trans (FF.set sfs2 rfl)).trans (FF.set sfs6 rfl)) v9 v10 v8 v24 v25 f11 hal ⟨by omega, by omega⟩
      · skip
        refine j_aload_n dX6_next_81 1 rfl ?_
        refine j_iconst (v := nI 2) dX6_next_82 (by decide) ?_
        refine j_putM fsX6_next_102 f7 rfl rfl (RA.lt rfs6 (by decide)) dX6_next_83 (fun w26 fs27 sfs27 hw26 => ?_)
        have f28 : w26 mm = some (.inr (6, fs27)) := up_at hw26
        have rfs27 : RA A fs27 := RA.set rfs6 sfs27 rfl
        have v29 := st_at sfs27 rfs6 (by decide : 24 < 45)
        refine j_aload_n dX6_next_86 1 rfl ?_
        refine j_iconst (v := nI 0) dX6_next_87 (by decide) ?_
        refine j_putM fsX6_next_109 f28 rfl rfl (RA.lt rfs27 (by decide)) dX6_next_88 (fun w30 fs31 sfs31 hw30 => ?_)
        have f32 : w30 mm = some (.inr (6, fs31)) := up_at hw30
        have rfs31 : RA A fs31 := RA.set rfs27 sfs31 rfl
        have v33 := st_at sfs31 rfs27 (by decide : 26 < 45)
        have hd : isD (nI (t a)) = true := zb_n' c78
        refine j_lv (lv' := [(0, .ref mm), (1, .int (nI (t a)))]) [1, 0] rfl ?_
        have v34 := (st_ne sfs31 rfl (st_ne sfs27 rfl v9))
        have v35 := (st_ne sfs31 rfl (st_ne sfs27 rfl v10))
        have v36 := (st_ne sfs31 rfl v29)
        have v37 := (st_ne sfs31 rfl (st_ne sfs27 rfl v8))
        have v38 := (st_ne sfs31 rfl (st_ne sfs27 rfl (st_ne sfs6 rfl v4)))
        have f39 := (up_ne hw30 (AD.nm hAD 1 rfl) (up_ne hw26 (AD.nm hAD 1 rfl) f11))
        exact s_nnum hAD ht hln hal (isD_not (by omega) hd) hd _ _ _ a (Nat.lt_succ_self _) f32 rfs31 (((((FrI.mono hfr (by simp) rfl : FrI A [mm] [] w0 _).trans (FrI.ux hw1 (by simp))).trans (FrI.ux hw5 (by simp))).trans (FrI.ux hw26 (by simp))).trans (FrI.ux hw30 (by simp))) (((((FF.mono hff rfl : FF [22, 24, 25, 26, 27, 28] fs0 _).trans (FF.set sfs2 rfl)).trans (FF.set sfs6 rfl)).trans (FF.set sfs27 rfl)).trans (FF.set sfs31 rfl)) v34 v35 v36 v37 (by rw [Nat.sub_self]; exact v33) v38 f39 ⟨Nat.le_refl _, by omega⟩ rfl
    · skip
      exact absurd c63 (nI_m1 (by omega))
  · skip
    refine j_eqi (y := (-1)) (bA_out (by omega)) ?_
    refine j_istore_n (lv' := [(1, .int ((-1))), (0, .ref mm)]) dX6_next_60 (Nat.le_of_ble_eq_true rfl) rfl ?_
    refine j_iload_n dX6_next_61 0 rfl ?_
    refine j_iconst (v := (-1)) dX6_next_62 (by decide) ?_
    refine j_icmp_ne 74 dX6_next_63 (by decide) (fun c63 => ?_) (fun c63 => ?_)
    · skip
      exact absurd rfl c63
    · skip
      refine j_aload_n dX6_next_66 1 rfl ?_
      refine j_iconst (v := nI 0) dX6_next_67 (by decide) ?_
      refine j_putM fsX6_next_102 f7 rfl rfl (RA.lt rfs6 (by decide)) dX6_next_68 (fun w40 fs41 sfs41 hw40 => ?_)
      have f42 : w40 mm = some (.inr (6, fs41)) := up_at hw40
      have rfs41 : RA A fs41 := RA.set rfs6 sfs41 rfl
      have v43 := st_at sfs41 rfs6 (by decide : 24 < 45)
      refine j_goto 462 dX6_next_71 (by decide) ?_
      refine j_lv (lv' := [(0, .ref mm)]) [1] rfl ?_
      have v44 := (st_ne sfs41 rfl v9)
      have v45 := (st_ne sfs41 rfl v8)
      have v46 := (st_ne sfs41 rfl (st_ne sfs6 rfl (st_ne sfs2 rfl h26)))
      have v47 := (st_ne sfs41 rfl (st_ne sfs6 rfl v4))
      exact s_nend hAD ht hln f42 rfs41 ((((FrI.mono hfr (by simp) rfl : FrI A [mm] [] w0 _).trans (FrI.ux hw1 (by simp))).trans (FrI.ux hw5 (by simp))).trans (FrI.ux hw40 (by simp))) ((((FF.mono hff rfl : FF [22, 24, 25, 26, 27, 28] fs0 _).trans (FF.set sfs2 rfl)).trans (FF.set sfs6 rfl)).trans (FF.set sfs41 rfl)) v44 v43 v45 v46 v47 (tk_end (by omega)) TS_end (NS_no (by decide) (by decide))
set_option maxHeartbeats 4000000 in
set_option maxRecDepth 100000 in
theorem s_nbl {t : Nat → Nat} {ln a : Nat} {w0 : pW} {fs0 : List Value} {A : Nat → Nat} {mm : Nat} (hAD : AD A mm) (ht : ∀ j, t j < 256) (hln : ln ≤ 2400) {nu : Int32} : ∀ (m9 : Nat) (w : pW) (fs : List Value) (p : Nat), ln - p < m9 → (w mm = some (.inr (6, fs))) → (RA A fs) → (FrI A [mm] [] w0 w) → (FF [22, 24, 25, 26, 27, 28] fs0 fs) → (fs[22]? = some (.int (nI p))) → (fs[23]? = some (.int (nI ln))) → (fs[26]? = some (.int nu)) → (w (A 1) = some (.inl (0, 2400, .inl (fun j9 => nI (t j9))))) → (p ≤ ln + 1) → (skB t ln p = a) → J ((cX6_next, RX6, 5, wsX6_next), (rX6_next, none, "next", []), fun o w9 => o = .inl none ∧ ∃ fs9 : List Value, MU A mm [] [22, 24, 25, 26, 27, 28] w0 w9 fs0 fs9 ∧ AtT t ln a fs9, fun _ _ _ => True) 0 [(0, .ref mm)] [] w 0 0 := by
  intro m9
  induction m9 with
  | zero => intro w fs p h9; omega
  | succ m9 ih =>
    intro w fs p hm9 hmm hA hfr hff h22 h23 h26 a1 hpb hsk
    refine j_aload_n dX6_next_0 0 rfl ?_
    refine j_aload_n dX6_next_1 0 rfl ?_
    refine j_get (v := .int (nI p)) flX6_next_89 hmm h22 dX6_next_2 ?_
    refine j_callV (rm := rX6_byteAt) (As := [.int (nI p)]) (st := []) (b0 := mm) (ci := 6) (na := 1) (m_byteAt (i := p) hAD hmm hA h23 a1 (by omega) (by omega)) (by intro E w9 h9; first | exact nomatch h9.1 | (obtain ⟨_, h9, _⟩ := h9; exact nomatch h9) | (obtain ⟨_, _, _, h9, _⟩ := h9; exact nomatch h9)) gX6_next_X6_byteAt rfl rfl hmm (by decide +kernel) rfl ⟨Nat.le_of_ble_eq_true rfl, Nat.le_of_ble_eq_true rfl⟩ rfl (Nat.le_of_ble_eq_true rfl) dX6_next_5 ⟨(show 0 + 0 ≤ 0 by omega), (show 0 + 0 ≤ 0 by omega)⟩ (fun v1 w2 h3 => ?_)
    obtain ⟨h3, h4⟩ := h3
    cases h3
    subst w2
    refine j_after (st' := [.int (bA t ln p)]) (k' := 0) (n' := 0) rfl rfl rfl ?_
    refine j_bipush (v := nI 32) dX6_next_8 (by decide) ?_
    refine j_icmp_eq 26 dX6_next_10 (by decide) (fun c10 => ?_) (fun c10 => ?_)
    · skip
      refine j_aload_n dX6_next_26 0 rfl ?_
      refine j_dup dX6_next_27 rfl ?_
      refine j_get (v := .int (nI p)) flX6_next_89 hmm h22 dX6_next_28 ?_
      refine j_iconst (v := nI 1) dX6_next_31 (by decide) ?_
      refine j_iaddN dX6_next_32 ?_
      refine j_putM fsX6_next_89 hmm rfl rfl (RA.lt hA (by decide)) dX6_next_33 (fun w5 fs6 sfs6 hw5 => ?_)
      have f7 : w5 mm = some (.inr (6, fs6)) := up_at hw5
      have rfs6 : RA A fs6 := RA.set hA sfs6 rfl
      have v8 := st_at sfs6 hA (by decide : 22 < 45)
      refine j_goto 0 dX6_next_36 (by decide) ?_
      have hB : isB (bA t ln p) = true := decide_eq_true (Or.inl c10)
      have hpl := isB_in hB
      have v9 := (st_ne sfs6 rfl h23)
      have v10 := (st_ne sfs6 rfl h26)
      have f11 := (up_ne hw5 (AD.nm hAD 1 rfl) a1)
      exact ih _ _ (p + 1) (by omega) f7 rfs6 ((FrI.mono hfr (by simp) rfl : FrI A [mm] [] w0 _).trans (FrI.ux hw5 (by simp))) ((FF.mono hff rfl : FF [22, 24, 25, 26, 27, 28] fs0 _).trans (FF.set sfs6 rfl)) v8 v9 v10 f11 (by omega) (by rw [← sk_step hpl hB]; exact hsk)
    · skip
      refine j_aload_n dX6_next_13 0 rfl ?_
      refine j_aload_n dX6_next_14 0 rfl ?_
      refine j_get (v := .int (nI p)) flX6_next_89 hmm h22 dX6_next_15 ?_
      refine j_callV (rm := rX6_byteAt) (As := [.int (nI p)]) (st := []) (b0 := mm) (ci := 6) (na := 1) (m_byteAt (i := p) hAD hmm hA h23 a1 (by omega) (by omega)) (by intro E w9 h9; first | exact nomatch h9.1 | (obtain ⟨_, h9, _⟩ := h9; exact nomatch h9) | (obtain ⟨_, _, _, h9, _⟩ := h9; exact nomatch h9)) gX6_next_X6_byteAt rfl rfl hmm (by decide +kernel) rfl ⟨Nat.le_of_ble_eq_true rfl, Nat.le_of_ble_eq_true rfl⟩ rfl (Nat.le_of_ble_eq_true rfl) dX6_next_18 ⟨(show 0 + 0 ≤ 0 by omega), (show 0 + 0 ≤ 0 by omega)⟩ (fun v12 w13 h14 => ?_)
      obtain ⟨h14, h15⟩ := h14
      cases h14
      subst w13
      refine j_after (st' := [.int (bA t ln p)]) (k' := 0) (n' := 0) rfl rfl rfl ?_
      refine j_bipush (v := nI 10) dX6_next_21 (by decide) ?_
      refine j_icmp_ne 39 dX6_next_23 (by decide) (fun c23 => ?_) (fun c23 => ?_)
      · skip
        have hB : isB (bA t ln p) = false := decide_eq_false (fun q => q.elim c10 c23)
        have hpa : p = a := by rw [← hsk]; exact (sk_stop hB).symm
        subst hpa
        exact s_n39 hAD ht hln hmm hA (FrI.mono hfr (by simp) rfl : FrI A [mm] [] w0 _) (FF.mono hff rfl : FF [22, 24, 25, 26, 27, 28] fs0 _) h22 h23 h26 a1 hpb
      · skip
        refine j_aload_n dX6_next_26 0 rfl ?_
        refine j_dup dX6_next_27 rfl ?_
        refine j_get (v := .int (nI p)) flX6_next_89 hmm h22 dX6_next_28 ?_
        refine j_iconst (v := nI 1) dX6_next_31 (by decide) ?_
        refine j_iaddN dX6_next_32 ?_
        refine j_putM fsX6_next_89 hmm rfl rfl (RA.lt hA (by decide)) dX6_next_33 (fun w16 fs17 sfs17 hw16 => ?_)
        have f18 : w16 mm = some (.inr (6, fs17)) := up_at hw16
        have rfs17 : RA A fs17 := RA.set hA sfs17 rfl
        have v19 := st_at sfs17 hA (by decide : 22 < 45)
        refine j_goto 0 dX6_next_36 (by decide) ?_
        have hB : isB (bA t ln p) = true := decide_eq_true (Or.inr c23)
        have hpl := isB_in hB
        have v20 := (st_ne sfs17 rfl h23)
        have v21 := (st_ne sfs17 rfl h26)
        have f22 := (up_ne hw16 (AD.nm hAD 1 rfl) a1)
        exact ih _ _ (p + 1) (by omega) f18 rfs17 ((FrI.mono hfr (by simp) rfl : FrI A [mm] [] w0 _).trans (FrI.ux hw16 (by simp))) ((FF.mono hff rfl : FF [22, 24, 25, 26, 27, 28] fs0 _).trans (FF.set sfs17 rfl)) v19 v20 v21 f22 (by omega) (by rw [← sk_step hpl hB]; exact hsk)
set_option maxHeartbeats 4000000 in
set_option maxRecDepth 100000 in
theorem m_next {t : Nat → Nat} {ln p : Nat} {nu : Int32} {w : pW} {A : Nat → Nat} {mm : Nat} {fs : List Value} (hAD : AD A mm) (hmm : w mm = some (.inr (6, fs))) (hA : RA A fs) (h22 : fs[22]? = some (.int (nI p))) (h23 : fs[23]? = some (.int (nI ln))) (h26 : fs[26]? = some (.int nu)) (a1 : w (A 1) = some (.inl (0, 2400, .inl (fun j9 => nI (t j9))))) (ht : ∀ j, t j < 256) (hln : ln ≤ 2400) (hp : p ≤ ln + 1) : Ct yX6_next wsX6_next rX6_next [.ref mm] w (fun o w9 => o = .inl none ∧ ∃ fs9 : List Value, MU A mm [] [22, 24, 25, 26, 27, 28] w w9 fs fs9 ∧ AtT t ln (skB t ln p) fs9) := by
  refine Ct.of (cc := cX6_next) (own := RX6) (nm := "next") (nL := 5) (ret := none) (by decide +kernel) rfl rfl rfl (Nat.le_of_ble_eq_true rfl) ?_
  refine j_lvE (lv' := [(0, .ref mm)]) rfl ?_
  exact s_nbl hAD ht hln _ w fs p (Nat.lt_succ_self _) hmm hA FrI.refl FF.refl h22 h23 h26 a1 hp rfl
